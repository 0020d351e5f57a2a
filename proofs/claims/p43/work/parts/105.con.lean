set_option maxHeartbeats 4000000 in
set_option maxRecDepth 100000 in
theorem kX9_keepAct (l : Launch) (dC : Nat → ClassId) (dI : Nat → Nat → Nat) (r : Nat → Nat) (ct : Nat → ClassId) (i_taped i_size i_faultKind i_at i_end i_token i_number i_bank i_rb i_codes i_within i_piled i_unitsInRule i_askHouse i_askTune i_acts i_undone i_laid i_knowns i_time : Int32) (f_text f_tunes f_houses f_hums f_told f_many f_ruleFrom f_ruleTo f_code f_eWhat f_eSign f_all f_kept f_was f_sTune f_boxAll : Nat → Int32) (J : Nat → Nat → Int32) (L : Nat → Nat → Int64) (sz : Nat) (hI : (IM i_taped i_size i_at i_end i_bank i_rb i_acts i_undone i_laid i_knowns i_time f_tunes f_houses f_hums f_told f_many f_ruleFrom f_ruleTo f_code f_all f_kept f_was f_sTune f_boxAll)) : Met l yX9_keepAct (.code yX9_keepAct cX9_keepAct 2 none :: GW) { frames := 2, cells := 0, slots := 0, locals := 100 } (va_Pc [.ref (r 0)] (pW (dC, dI) (WM r ct i_taped i_size i_faultKind i_at i_end i_token i_number i_bank i_rb i_codes i_within i_piled i_unitsInRule i_askHouse i_askTune i_acts i_undone i_laid i_knowns i_time f_text f_tunes f_houses f_hums f_told f_many f_ruleFrom f_ruleTo f_code f_eWhat f_eSign f_all f_kept f_was f_sTune f_boxAll J L) (TM ct) sz)) (va_Qv (fun _ : Unit => True) (fun (_ : Unit) (t : State) => ∃ (n_i_acts n_i_undone : Int32) (n_f_was : Nat → Int32), va_P (dC, dI) vwCl (WM r ct i_taped i_size i_faultKind i_at i_end i_token i_number i_bank i_rb i_codes i_within i_piled i_unitsInRule i_askHouse i_askTune n_i_acts n_i_undone i_laid i_knowns i_time f_text f_tunes f_houses f_hums f_told f_many f_ruleFrom f_ruleTo f_code f_eWhat f_eSign f_all f_kept n_f_was f_sTune f_boxAll J L) t.heap ∧ va_D (va_A (WM r ct i_taped i_size i_faultKind i_at i_end i_token i_number i_bank i_rb i_codes i_within i_piled i_unitsInRule i_askHouse i_askTune i_acts i_undone i_laid i_knowns i_time f_text f_tunes f_houses f_hums f_told f_many f_ruleFrom f_ruleTo f_code f_eWhat f_eSign f_all f_kept f_was f_sTune f_boxAll J L) sz) (WM r ct i_taped i_size i_faultKind i_at i_end i_token i_number i_bank i_rb i_codes i_within i_piled i_unitsInRule i_askHouse i_askTune n_i_acts n_i_undone i_laid i_knowns i_time f_text f_tunes f_houses f_hums f_told f_many f_ruleFrom f_ruleTo f_code f_eWhat f_eSign f_all f_kept n_f_was f_sTune f_boxAll J L) ∧ (IM i_taped i_size i_at i_end i_bank i_rb n_i_acts n_i_undone i_laid i_knowns i_time f_tunes f_houses f_hums f_told f_many f_ruleFrom f_ruleTo f_code f_all f_kept n_f_was f_sTune f_boxAll)) (va_A (WM r ct i_taped i_size i_faultKind i_at i_end i_token i_number i_bank i_rb i_codes i_within i_piled i_unitsInRule i_askHouse i_askTune i_acts i_undone i_laid i_knowns i_time f_text f_tunes f_houses f_hums f_told f_many f_ruleFrom f_ruleTo f_code f_eWhat f_eSign f_all f_kept f_was f_sTune f_boxAll J L) sz)) 0 0 (va_A (WM r ct i_taped i_size i_faultKind i_at i_end i_token i_number i_bank i_rb i_codes i_within i_piled i_unitsInRule i_askHouse i_askTune i_acts i_undone i_laid i_knowns i_time f_text f_tunes f_houses f_hums f_told f_many f_ruleFrom f_ruleTo f_code f_eWhat f_eSign f_all f_kept f_was f_sTune f_boxAll J L) sz) := by
  refine Met.ofW (cc := cX9_keepAct) (maxL := 2) (ret := none) (by decide) rfl ?_
  intro p e s m args below meth c0 s₁ B hml hv
  obtain ⟨rfl, hsz, hP, hK, hD0⟩ := hv
  have hx := B.exec
  have hb := B.bytes
  have hr := B.returns
  have hts := atoms_spec (ws := .code yX9_keepAct cX9_keepAct 2 none :: GW) B.pre
  have hG : ∀ w ∈ GW, w.before _ s = true := fun w h => hts w (List.mem_cons_of_mem _ h)
  have hown : s.vm.findClass RX9 = some m.cls := findClass_of_methodNamed B.named
  subst hsz
  have hD := hD0.self (sz := s.heap.size)
  generalize hAe : va_A (WM r ct i_taped i_size i_faultKind i_at i_end i_token i_number i_bank i_rb i_codes i_within i_piled i_unitsInRule i_askHouse i_askTune i_acts i_undone i_laid i_knowns i_time f_text f_tunes f_houses f_hums f_told f_many f_ruleFrom f_ruleTo f_code f_eWhat f_eSign f_all f_kept f_was f_sTune f_boxAll J L) s.heap.size = A at hD ⊢
  have hA : ∀ q : Nat, s.heap.size ≤ q → A q := fun q h => by rw [← hAe]; exact Or.inr h
  have hS : va_S A s.heap s.heap [] := va_S.rf
  have hP : va_P (dC, dI) vwCl (WM r ct i_taped i_size i_faultKind i_at i_end i_token i_number i_bank i_rb i_codes i_within i_piled i_unitsInRule i_askHouse i_askTune i_acts i_undone i_laid i_knowns i_time f_text f_tunes f_houses f_hums f_told f_many f_ruleFrom f_ruleTo f_code f_eWhat f_eSign f_all f_kept f_was f_sTune f_boxAll J L) s.heap := hP
  have hl := lv_entry ([.ref (r 0)]) (n := 2) (Nat.le_of_ble_eq_true rfl)
  rw [lg_entry_eq]
  generalize (lg_sl ([.ref (r 0)]) ++ List.replicate (2 - (lg_sl ([.ref (r 0)])).length) Slot.unset).toArray = ls at hl ⊢
  have hl : lv_has ls 2 [(0, .ref (r 0))] := hl
  refine nameQ (fun Q hQ => ?_)
  obtain ⟨im0, im1, im2, im3, im4, im5, im6, im7, im8, im9, im10, im11, im12, im13, im14, im15, im16, im17, im18, im19, im20, im21, im22, im23, im24, im25, im26, im27, im28, im29, im30⟩ := id hI
  have f1 : 0 ≤ (f_tunes (i_bank.toInt).toNat).toInt ∧ (f_tunes (i_bank.toInt).toNat).toInt ≤ 5 := im20 (i_bank.toInt)
  have f2 : 0 ≤ (f_houses (i_bank.toInt).toNat).toInt ∧ (f_houses (i_bank.toInt).toNat).toInt ≤ 4 := im21 (i_bank.toInt)
  refine lv_aload_n hx hb dX9_keepAct_0 rfl (lv_at hl 0 rfl) ?_
  refine gM_X9_364_0 hx hb hG hown hK hP dX9_keepAct_1 ?_
  refine lv_bipush (v := 40) hx hb dX9_keepAct_4 (by decide) ?_
  refine lv_icmp_ne (tgt := 49) hx hb dX9_keepAct_6 (by decide) (fun c_3 => ?_) (fun c_3 => ?_)
  · skip
    have f4 : i_acts.toInt ≠ 40 := qi_ne c_3 rfl zc_40
    refine lv_iconst (v := 0) hx hb dX9_keepAct_49 (by decide) ?_
    refine lv_istore_n (lv' := [(1, .int 0), (0, .ref (r 0))]) hx hb dX9_keepAct_50 rfl hl (by decide) rfl (fun ls hl => ?_)
    have L51 : ∀ (N51 : Nat) (y51_1 : Int32) (m51_f_was : Nat → Int32) (H51 : Heap) (locs : List Loc) (ls : Array Slot) (g51_0 : 0 ≤ y51_1.toInt) (g51_1 : y51_1.toInt ≤ 26) (gi51_was_p : EW m51_f_was) (hP : va_P (dC, dI) vwCl (WM r ct i_taped i_size i_faultKind i_at i_end i_token i_number i_bank i_rb i_codes i_within i_piled i_unitsInRule i_askHouse i_askTune i_acts i_undone i_laid i_knowns i_time f_text f_tunes f_houses f_hums f_told f_many f_ruleFrom f_ruleTo f_code f_eWhat f_eSign f_all f_kept m51_f_was f_sTune f_boxAll J L) H51) (hD : va_D A (WM r ct i_taped i_size i_faultKind i_at i_end i_token i_number i_bank i_rb i_codes i_within i_piled i_unitsInRule i_askHouse i_askTune i_acts i_undone i_laid i_knowns i_time f_text f_tunes f_houses f_hums f_told f_many f_ruleFrom f_ruleTo f_code f_eWhat f_eSign f_all f_kept m51_f_was f_sTune f_boxAll J L)) (hS : va_S A s.heap H51 locs) (hl : lv_has ls 2 [(0, .ref (r 0)), (1, .int y51_1)]) (hM : -1 * y51_1.toInt + 26 < (N51 : Int)), W p l e { frames := 2, cells := 0, slots := 0, locals := 100 } s m ([.ref (r 0)] : List Value).toArray below meth c0 H51 locs 0 0 Q (F0 m 51 ls []) := by
      intro N51
      induction N51 with
      | zero =>
        intro y51_1 m51_f_was H51 locs ls g51_0 g51_1 gi51_was_p hP hD hS hl hM
        exact ((ob_291 hM g51_0 g51_1)).elim
      | succ N51 ih51 =>
        intro y51_1 m51_f_was H51 locs ls g51_0 g51_1 gi51_was_p hP hD hS hl hM
        have hM51 := msucc hM
        refine lv_iload_n hx hb dX9_keepAct_51 rfl (lv_at hl 1 rfl) ?_
        refine lv_bipush (v := 26) hx hb dX9_keepAct_52 (by decide) ?_
        refine lv_icmp_ge (tgt := 83) hx hb dX9_keepAct_54 (by decide) (fun c_5 => ?_) (fun c_5 => ?_)
        · skip
          have f6 : 26 ≤ y51_1.toInt := qi_le c_5 zc_26 rfl
          refine lv_aload_n hx hb dX9_keepAct_83 rfl (lv_at hl 0 rfl) ?_
          refine lv_dup hx hb dX9_keepAct_84 rfl ?_
          refine gM_X9_364_0 hx hb hG hown hK hP dX9_keepAct_85 ?_
          refine lv_iconst (v := 1) hx hb dX9_keepAct_88 (by decide) ?_
          refine lv_iadd hx hb dX9_keepAct_89 ?_
          refine lv_topi (fun x7 ex7 => ?_)
          have f8 : x7.toInt = i_acts.toInt + 1 := (ob_139 (qi_add ex7 rfl zc_1 (ob_474 im17 im19) (ob_475 im17 im18 im19)))
          refine pM_X9_364_0 hx hb hG hown hK hP hD hS dX9_keepAct_90 (fun H9 locs hP hD hS => ?_)
          refine lv_aload_n hx hb dX9_keepAct_93 rfl (lv_at hl 0 rfl) ?_
          refine lv_iconst (v := 0) hx hb dX9_keepAct_94 (by decide) ?_
          refine pM_X9_367_0 hx hb hG hown hK hP hD hS dX9_keepAct_95 (fun H10 locs hP hD hS => ?_)
          rw [hQ]
          exact W.vret hx hb hr (fun t ht hW => ⟨⟨(), rfl, trivial, ⟨x7, 0, m51_f_was, by rw [ht]; exact hP, hD, ⟨im0, im1, im2, im3, im4, im5, im6, im7, im8, im9, im10, im11, im12, im13, im14, im15, im16, (ob_476 im17 im19 f8), (ob_5 zc_0), (ob_477 im18 im19 f4 zc_0 f8), im20, im21, im22, im23, im24, im25, im26, gi51_was_p, im28, im29, im30⟩⟩⟩, hS.F ht⟩) hS.2.2 dX9_keepAct_98
        · skip
          have f11 : y51_1.toInt < 26 := qi_nle c_5 zc_26 rfl
          refine lv_aload_n hx hb dX9_keepAct_57 rfl (lv_at hl 0 rfl) ?_
          refine gM_X9_94_0 hx hb hG hown hK hP dX9_keepAct_58 ?_
          refine lv_bipush (v := 26) hx hb dX9_keepAct_61 (by decide) ?_
          refine lv_aload_n hx hb dX9_keepAct_63 rfl (lv_at hl 0 rfl) ?_
          refine gM_X9_364_0 hx hb hG hown hK hP dX9_keepAct_64 ?_
          refine lv_imul hx hb dX9_keepAct_67 ?_
          refine lv_topi (fun x12 ex12 => ?_)
          have f13 : x12.toInt = 26 * i_acts.toInt := (ob_480 (qi_mul ex12 zc_26 rfl (ob_478 im17 im19) (ob_479 im17 im18 im19)))
          refine lv_iload_n hx hb dX9_keepAct_68 rfl (lv_at hl 1 rfl) ?_
          refine lv_iadd hx hb dX9_keepAct_69 ?_
          refine lv_topi (fun x14 ex14 => ?_)
          have f15 : x14.toInt = y51_1.toInt + 26 * i_acts.toInt := (ob_483 (qi_add ex14 rfl rfl (ob_481 im17 g51_0 f13) (ob_482 im18 im19 g51_1 f13)) f13)
          refine lv_aload_n hx hb dX9_keepAct_70 rfl (lv_at hl 0 rfl) ?_
          refine gM_X9_88_0 hx hb hG hown hK hP dX9_keepAct_71 ?_
          refine lv_iload_n hx hb dX9_keepAct_74 rfl (lv_at hl 1 rfl) ?_
          refine ldM_25 (mm := y51_1.toInt) hx hb hK hP rfl (ob_133 g51_0) (ob_319 f11) dX9_keepAct_75 ?_
          refine stM_27 (mm := y51_1.toInt + 26 * i_acts.toInt) hx hb hK hP hD hS f15 (ob_484 im17 g51_0) (ob_485 im18 im19 f11) dX9_keepAct_76 (fun z17 H16 locs ez17 hP hD hS => ?_)
          have g18 : EW z17 := ez17 ▸ EW.updc gi51_was_p im25 (ob_484 im17 g51_0) (ob_133 g51_0) (ob_486)
          obtain ⟨x19, ex19⟩ : ∃ y : Int32, y = y51_1 + Int32.ofInt 1 := ⟨_, rfl⟩
          have f20 : x19.toInt = y51_1.toInt + 1 := (ob_139 (qi_add ex19 rfl (by decide) (ob_137 g51_0) (ob_320 g51_1)))
          refine lv_iinc (v := x19) (lv' := [(1, .int x19), (0, .ref (r 0))]) hx hb dX9_keepAct_77 hl (k := 1) rfl ex19.symm (by decide) rfl (fun ls hl => ?_)
          refine lv_goto (tgt := 51) hx hb dX9_keepAct_80 (by decide) ?_
          exact ih51 x19 z17 H16 _ _ (ob_140 g51_0 f20) (ob_321 f11 f20) g18 hP hD hS (lv_sub hl [1, 0] rfl) (ob_322 hM51 f20)
    exact L51 (-1 * (0 : Int32).toInt + 26 + 1).toNat 0 f_was s.heap _ _ (ob_5 zc_0) (ob_323 zc_0) im27 hP hD hS (lv_sub hl [1, 0] rfl) (mlt (ob_324 zc_0))
  · skip
    have f21 : i_acts.toInt = 40 := qi_eq c_3 rfl zc_40
    refine lv_iconst (v := 0) hx hb dX9_keepAct_9 (by decide) ?_
    refine lv_istore_n (lv' := [(1, .int 0), (0, .ref (r 0))]) hx hb dX9_keepAct_10 rfl hl (by decide) rfl (fun ls hl => ?_)
    have L11 : ∀ (N11 : Nat) (y11_1 : Int32) (m11_f_was : Nat → Int32) (H11 : Heap) (locs : List Loc) (ls : Array Slot) (g11_0 : 0 ≤ y11_1.toInt) (g11_1 : y11_1.toInt ≤ 1040) (gi11_was_p : EW m11_f_was) (hP : va_P (dC, dI) vwCl (WM r ct i_taped i_size i_faultKind i_at i_end i_token i_number i_bank i_rb i_codes i_within i_piled i_unitsInRule i_askHouse i_askTune i_acts i_undone i_laid i_knowns i_time f_text f_tunes f_houses f_hums f_told f_many f_ruleFrom f_ruleTo f_code f_eWhat f_eSign f_all f_kept m11_f_was f_sTune f_boxAll J L) H11) (hD : va_D A (WM r ct i_taped i_size i_faultKind i_at i_end i_token i_number i_bank i_rb i_codes i_within i_piled i_unitsInRule i_askHouse i_askTune i_acts i_undone i_laid i_knowns i_time f_text f_tunes f_houses f_hums f_told f_many f_ruleFrom f_ruleTo f_code f_eWhat f_eSign f_all f_kept m11_f_was f_sTune f_boxAll J L)) (hS : va_S A s.heap H11 locs) (hl : lv_has ls 2 [(0, .ref (r 0)), (1, .int y11_1)]) (hM : -1 * y11_1.toInt + 1040 < (N11 : Int)), W p l e { frames := 2, cells := 0, slots := 0, locals := 100 } s m ([.ref (r 0)] : List Value).toArray below meth c0 H11 locs 0 0 Q (F0 m 11 ls []) := by
      intro N11
      induction N11 with
      | zero =>
        intro y11_1 m11_f_was H11 locs ls g11_0 g11_1 gi11_was_p hP hD hS hl hM
        exact ((ob_487 hM g11_0 g11_1)).elim
      | succ N11 ih11 =>
        intro y11_1 m11_f_was H11 locs ls g11_0 g11_1 gi11_was_p hP hD hS hl hM
        have hM11 := msucc hM
        refine lv_iload_n hx hb dX9_keepAct_11 rfl (lv_at hl 1 rfl) ?_
        refine lv_sipush (v := 1040) hx hb dX9_keepAct_12 (by decide) ?_
        refine lv_icmp_ge (tgt := 39) hx hb dX9_keepAct_15 (by decide) (fun c_22 => ?_) (fun c_22 => ?_)
        · skip
          have f23 : 1040 ≤ y11_1.toInt := qi_le c_22 zc_1040 rfl
          refine lv_aload_n hx hb dX9_keepAct_39 rfl (lv_at hl 0 rfl) ?_
          refine lv_dup hx hb dX9_keepAct_40 rfl ?_
          refine gM_X9_364_0 hx hb hG hown hK hP dX9_keepAct_41 ?_
          refine lv_iconst (v := 1) hx hb dX9_keepAct_44 (by decide) ?_
          refine lv_isub hx hb dX9_keepAct_45 ?_
          refine lv_topi (fun x24 ex24 => ?_)
          have f25 : x24.toInt = i_acts.toInt + (-1) := (ob_217 (qi_sub ex24 rfl zc_1 (ob_488 im17 im19 f21) (ob_489 im17 im19 f21)))
          refine pM_X9_364_0 hx hb hG hown hK hP hD hS dX9_keepAct_46 (fun H26 locs hP hD hS => ?_)
          refine lv_iconst (v := 0) hx hb dX9_keepAct_49 (by decide) ?_
          refine lv_istore_n (lv' := [(1, .int 0), (0, .ref (r 0))]) hx hb dX9_keepAct_50 rfl hl (by decide) rfl (fun ls hl => ?_)
          have L51 : ∀ (N51 : Nat) (y51_1 : Int32) (m51_f_was : Nat → Int32) (H51 : Heap) (locs : List Loc) (ls : Array Slot) (g51_0 : 0 ≤ y51_1.toInt) (g51_1 : y51_1.toInt ≤ 26) (gi51_was_p : EW m51_f_was) (hP : va_P (dC, dI) vwCl (WM r ct i_taped i_size i_faultKind i_at i_end i_token i_number i_bank i_rb i_codes i_within i_piled i_unitsInRule i_askHouse i_askTune x24 i_undone i_laid i_knowns i_time f_text f_tunes f_houses f_hums f_told f_many f_ruleFrom f_ruleTo f_code f_eWhat f_eSign f_all f_kept m51_f_was f_sTune f_boxAll J L) H51) (hD : va_D A (WM r ct i_taped i_size i_faultKind i_at i_end i_token i_number i_bank i_rb i_codes i_within i_piled i_unitsInRule i_askHouse i_askTune x24 i_undone i_laid i_knowns i_time f_text f_tunes f_houses f_hums f_told f_many f_ruleFrom f_ruleTo f_code f_eWhat f_eSign f_all f_kept m51_f_was f_sTune f_boxAll J L)) (hS : va_S A s.heap H51 locs) (hl : lv_has ls 2 [(0, .ref (r 0)), (1, .int y51_1)]) (hM : -1 * y51_1.toInt + 26 < (N51 : Int)), W p l e { frames := 2, cells := 0, slots := 0, locals := 100 } s m ([.ref (r 0)] : List Value).toArray below meth c0 H51 locs 0 0 Q (F0 m 51 ls []) := by
            intro N51
            induction N51 with
            | zero =>
              intro y51_1 m51_f_was H51 locs ls g51_0 g51_1 gi51_was_p hP hD hS hl hM
              exact ((ob_291 hM g51_0 g51_1)).elim
            | succ N51 ih51 =>
              intro y51_1 m51_f_was H51 locs ls g51_0 g51_1 gi51_was_p hP hD hS hl hM
              have hM51 := msucc hM
              refine lv_iload_n hx hb dX9_keepAct_51 rfl (lv_at hl 1 rfl) ?_
              refine lv_bipush (v := 26) hx hb dX9_keepAct_52 (by decide) ?_
              refine lv_icmp_ge (tgt := 83) hx hb dX9_keepAct_54 (by decide) (fun c_27 => ?_) (fun c_27 => ?_)
              · skip
                have f28 : 26 ≤ y51_1.toInt := qi_le c_27 zc_26 rfl
                refine lv_aload_n hx hb dX9_keepAct_83 rfl (lv_at hl 0 rfl) ?_
                refine lv_dup hx hb dX9_keepAct_84 rfl ?_
                refine gM_X9_364_0 hx hb hG hown hK hP dX9_keepAct_85 ?_
                refine lv_iconst (v := 1) hx hb dX9_keepAct_88 (by decide) ?_
                refine lv_iadd hx hb dX9_keepAct_89 ?_
                refine lv_topi (fun x29 ex29 => ?_)
                have f30 : x29.toInt = i_acts.toInt := (ob_492 (qi_add ex29 rfl zc_1 (ob_490 im17 im19 f21 f25) (ob_491 im17 im19 f21 f25)) f25)
                refine pM_X9_364_0 hx hb hG hown hK hP hD hS dX9_keepAct_90 (fun H31 locs hP hD hS => ?_)
                refine lv_aload_n hx hb dX9_keepAct_93 rfl (lv_at hl 0 rfl) ?_
                refine lv_iconst (v := 0) hx hb dX9_keepAct_94 (by decide) ?_
                refine pM_X9_367_0 hx hb hG hown hK hP hD hS dX9_keepAct_95 (fun H32 locs hP hD hS => ?_)
                rw [hQ]
                exact W.vret hx hb hr (fun t ht hW => ⟨⟨(), rfl, trivial, ⟨x29, 0, m51_f_was, by rw [ht]; exact hP, hD, ⟨im0, im1, im2, im3, im4, im5, im6, im7, im8, im9, im10, im11, im12, im13, im14, im15, im16, (ob_493 im17 im19 f21 f30), (ob_5 zc_0), (ob_494 im17 im19 f21 zc_0 f30), im20, im21, im22, im23, im24, im25, im26, gi51_was_p, im28, im29, im30⟩⟩⟩, hS.F ht⟩) hS.2.2 dX9_keepAct_98
              · skip
                have f33 : y51_1.toInt < 26 := qi_nle c_27 zc_26 rfl
                refine lv_aload_n hx hb dX9_keepAct_57 rfl (lv_at hl 0 rfl) ?_
                refine gM_X9_94_0 hx hb hG hown hK hP dX9_keepAct_58 ?_
                refine lv_bipush (v := 26) hx hb dX9_keepAct_61 (by decide) ?_
                refine lv_aload_n hx hb dX9_keepAct_63 rfl (lv_at hl 0 rfl) ?_
                refine gM_X9_364_0 hx hb hG hown hK hP dX9_keepAct_64 ?_
                refine lv_imul hx hb dX9_keepAct_67 ?_
                refine lv_topi (fun x34 ex34 => ?_)
                have f35 : x34.toInt = 26 * i_acts.toInt + (-26) := (ob_497 (qi_mul ex34 zc_26 rfl (ob_495 im17 im19 f21 f25) (ob_496 im17 im19 f21 f25)) f25)
                refine lv_iload_n hx hb dX9_keepAct_68 rfl (lv_at hl 1 rfl) ?_
                refine lv_iadd hx hb dX9_keepAct_69 ?_
                refine lv_topi (fun x36 ex36 => ?_)
                have f37 : x36.toInt = y51_1.toInt + 26 * i_acts.toInt + (-26) := (ob_500 (qi_add ex36 rfl rfl (ob_498 im17 g51_0 f35) (ob_499 f21 g51_1 f35)) f35)
                refine lv_aload_n hx hb dX9_keepAct_70 rfl (lv_at hl 0 rfl) ?_
                refine gM_X9_88_0 hx hb hG hown hK hP dX9_keepAct_71 ?_
                refine lv_iload_n hx hb dX9_keepAct_74 rfl (lv_at hl 1 rfl) ?_
                refine ldM_25 (mm := y51_1.toInt) hx hb hK hP rfl (ob_133 g51_0) (ob_319 f33) dX9_keepAct_75 ?_
                refine stM_27 (mm := y51_1.toInt + 26 * i_acts.toInt + (-26)) hx hb hK hP hD hS f37 (ob_501 f21 g51_0) (ob_502 f21 g51_1) dX9_keepAct_76 (fun z39 H38 locs ez39 hP hD hS => ?_)
                have g40 : EW z39 := ez39 ▸ EW.updc gi51_was_p im25 (ob_501 f21 g51_0) (ob_133 g51_0) (ob_503)
                obtain ⟨x41, ex41⟩ : ∃ y : Int32, y = y51_1 + Int32.ofInt 1 := ⟨_, rfl⟩
                have f42 : x41.toInt = y51_1.toInt + 1 := (ob_139 (qi_add ex41 rfl (by decide) (ob_137 g51_0) (ob_320 g51_1)))
                refine lv_iinc (v := x41) (lv' := [(1, .int x41), (0, .ref (r 0))]) hx hb dX9_keepAct_77 hl (k := 1) rfl ex41.symm (by decide) rfl (fun ls hl => ?_)
                refine lv_goto (tgt := 51) hx hb dX9_keepAct_80 (by decide) ?_
                exact ih51 x41 z39 H38 _ _ (ob_140 g51_0 f42) (ob_321 f33 f42) g40 hP hD hS (lv_sub hl [1, 0] rfl) (ob_322 hM51 f42)
          exact L51 (-1 * (0 : Int32).toInt + 26 + 1).toNat 0 m11_f_was H26 _ _ (ob_5 zc_0) (ob_323 zc_0) gi11_was_p hP hD hS (lv_sub hl [1, 0] rfl) (mlt (ob_324 zc_0))
        · skip
          have f43 : y11_1.toInt < 1040 := qi_nle c_22 zc_1040 rfl
          refine lv_aload_n hx hb dX9_keepAct_18 rfl (lv_at hl 0 rfl) ?_
          refine gM_X9_94_0 hx hb hG hown hK hP dX9_keepAct_19 ?_
          refine lv_iload_n hx hb dX9_keepAct_22 rfl (lv_at hl 1 rfl) ?_
          refine lv_aload_n hx hb dX9_keepAct_23 rfl (lv_at hl 0 rfl) ?_
          refine gM_X9_94_0 hx hb hG hown hK hP dX9_keepAct_24 ?_
          refine lv_iload_n hx hb dX9_keepAct_27 rfl (lv_at hl 1 rfl) ?_
          refine lv_bipush (v := 26) hx hb dX9_keepAct_28 (by decide) ?_
          refine lv_iadd hx hb dX9_keepAct_30 ?_
          refine lv_topi (fun x44 ex44 => ?_)
          have f45 : x44.toInt = y11_1.toInt + 26 := (ob_506 (qi_add ex44 rfl zc_26 (ob_504 g11_0) (ob_505 g11_1)))
          refine ldM_27 (mm := y11_1.toInt + 26) hx hb hK hP f45 (ob_507 g11_0) (ob_508 f43) dX9_keepAct_31 ?_
          refine stM_27 (mm := y11_1.toInt) hx hb hK hP hD hS rfl (ob_133 g11_0) (ob_509 g11_1) dX9_keepAct_32 (fun z47 H46 locs ez47 hP hD hS => ?_)
          have g48 : EW z47 := ez47 ▸ EW.updc gi11_was_p gi11_was_p (ob_133 g11_0) (ob_507 g11_0) (ob_510)
          obtain ⟨x49, ex49⟩ : ∃ y : Int32, y = y11_1 + Int32.ofInt 1 := ⟨_, rfl⟩
          have f50 : x49.toInt = y11_1.toInt + 1 := (ob_139 (qi_add ex49 rfl (by decide) (ob_137 g11_0) (ob_511 g11_1)))
          refine lv_iinc (v := x49) (lv' := [(1, .int x49), (0, .ref (r 0))]) hx hb dX9_keepAct_33 hl (k := 1) rfl ex49.symm (by decide) rfl (fun ls hl => ?_)
          refine lv_goto (tgt := 11) hx hb dX9_keepAct_36 (by decide) ?_
          exact ih11 x49 z47 H46 _ _ (ob_140 g11_0 f50) (ob_512 f43 f50) g48 hP hD hS (lv_sub hl [1, 0] rfl) (ob_513 hM11 f50)
    exact L11 (-1 * (0 : Int32).toInt + 1040 + 1).toNat 0 f_was s.heap _ _ (ob_5 zc_0) (ob_514 zc_0) im27 hP hD hS (lv_sub hl [1, 0] rfl) (mlt (ob_515 zc_0))
set_option maxHeartbeats 4000000 in
set_option maxRecDepth 100000 in
theorem kX9_swapAll (l : Launch) (dC : Nat → ClassId) (dI : Nat → Nat → Nat) (r : Nat → Nat) (ct : Nat → ClassId) (i_taped i_size i_faultKind i_at i_end i_token i_number i_bank i_rb i_codes i_within i_piled i_unitsInRule i_askHouse i_askTune i_acts i_undone i_laid i_knowns i_time : Int32) (f_text f_tunes f_houses f_hums f_told f_many f_ruleFrom f_ruleTo f_code f_eWhat f_eSign f_all f_kept f_was f_sTune f_boxAll : Nat → Int32) (J : Nat → Nat → Int32) (L : Nat → Nat → Int64) (sz : Nat) (hI : (IM i_taped i_size i_at i_end i_bank i_rb i_acts i_undone i_laid i_knowns i_time f_tunes f_houses f_hums f_told f_many f_ruleFrom f_ruleTo f_code f_all f_kept f_was f_sTune f_boxAll)) : Met l yX9_swapAll (.code yX9_swapAll cX9_swapAll 3 none :: GW) { frames := 2, cells := 0, slots := 0, locals := 100 } (va_Pc [.ref (r 0)] (pW (dC, dI) (WM r ct i_taped i_size i_faultKind i_at i_end i_token i_number i_bank i_rb i_codes i_within i_piled i_unitsInRule i_askHouse i_askTune i_acts i_undone i_laid i_knowns i_time f_text f_tunes f_houses f_hums f_told f_many f_ruleFrom f_ruleTo f_code f_eWhat f_eSign f_all f_kept f_was f_sTune f_boxAll J L) (TM ct) sz)) (va_Qv (fun _ : Unit => True) (fun (_ : Unit) (t : State) => ∃ (n_f_all n_f_was : Nat → Int32), va_P (dC, dI) vwCl (WM r ct i_taped i_size i_faultKind i_at i_end i_token i_number i_bank i_rb i_codes i_within i_piled i_unitsInRule i_askHouse i_askTune i_acts i_undone i_laid i_knowns i_time f_text f_tunes f_houses f_hums f_told f_many f_ruleFrom f_ruleTo f_code f_eWhat f_eSign n_f_all f_kept n_f_was f_sTune f_boxAll J L) t.heap ∧ va_D (va_A (WM r ct i_taped i_size i_faultKind i_at i_end i_token i_number i_bank i_rb i_codes i_within i_piled i_unitsInRule i_askHouse i_askTune i_acts i_undone i_laid i_knowns i_time f_text f_tunes f_houses f_hums f_told f_many f_ruleFrom f_ruleTo f_code f_eWhat f_eSign f_all f_kept f_was f_sTune f_boxAll J L) sz) (WM r ct i_taped i_size i_faultKind i_at i_end i_token i_number i_bank i_rb i_codes i_within i_piled i_unitsInRule i_askHouse i_askTune i_acts i_undone i_laid i_knowns i_time f_text f_tunes f_houses f_hums f_told f_many f_ruleFrom f_ruleTo f_code f_eWhat f_eSign n_f_all f_kept n_f_was f_sTune f_boxAll J L) ∧ (IM i_taped i_size i_at i_end i_bank i_rb i_acts i_undone i_laid i_knowns i_time f_tunes f_houses f_hums f_told f_many f_ruleFrom f_ruleTo f_code n_f_all f_kept n_f_was f_sTune f_boxAll)) (va_A (WM r ct i_taped i_size i_faultKind i_at i_end i_token i_number i_bank i_rb i_codes i_within i_piled i_unitsInRule i_askHouse i_askTune i_acts i_undone i_laid i_knowns i_time f_text f_tunes f_houses f_hums f_told f_many f_ruleFrom f_ruleTo f_code f_eWhat f_eSign f_all f_kept f_was f_sTune f_boxAll J L) sz)) 0 0 (va_A (WM r ct i_taped i_size i_faultKind i_at i_end i_token i_number i_bank i_rb i_codes i_within i_piled i_unitsInRule i_askHouse i_askTune i_acts i_undone i_laid i_knowns i_time f_text f_tunes f_houses f_hums f_told f_many f_ruleFrom f_ruleTo f_code f_eWhat f_eSign f_all f_kept f_was f_sTune f_boxAll J L) sz) := by
  refine Met.ofW (cc := cX9_swapAll) (maxL := 3) (ret := none) (by decide) rfl ?_
  intro p e s m args below meth c0 s₁ B hml hv
  obtain ⟨rfl, hsz, hP, hK, hD0⟩ := hv
  have hx := B.exec
  have hb := B.bytes
  have hr := B.returns
  have hts := atoms_spec (ws := .code yX9_swapAll cX9_swapAll 3 none :: GW) B.pre
  have hG : ∀ w ∈ GW, w.before _ s = true := fun w h => hts w (List.mem_cons_of_mem _ h)
  have hown : s.vm.findClass RX9 = some m.cls := findClass_of_methodNamed B.named
  subst hsz
  have hD := hD0.self (sz := s.heap.size)
  generalize hAe : va_A (WM r ct i_taped i_size i_faultKind i_at i_end i_token i_number i_bank i_rb i_codes i_within i_piled i_unitsInRule i_askHouse i_askTune i_acts i_undone i_laid i_knowns i_time f_text f_tunes f_houses f_hums f_told f_many f_ruleFrom f_ruleTo f_code f_eWhat f_eSign f_all f_kept f_was f_sTune f_boxAll J L) s.heap.size = A at hD ⊢
  have hA : ∀ q : Nat, s.heap.size ≤ q → A q := fun q h => by rw [← hAe]; exact Or.inr h
  have hS : va_S A s.heap s.heap [] := va_S.rf
  have hP : va_P (dC, dI) vwCl (WM r ct i_taped i_size i_faultKind i_at i_end i_token i_number i_bank i_rb i_codes i_within i_piled i_unitsInRule i_askHouse i_askTune i_acts i_undone i_laid i_knowns i_time f_text f_tunes f_houses f_hums f_told f_many f_ruleFrom f_ruleTo f_code f_eWhat f_eSign f_all f_kept f_was f_sTune f_boxAll J L) s.heap := hP
  have hl := lv_entry ([.ref (r 0)]) (n := 3) (Nat.le_of_ble_eq_true rfl)
  rw [lg_entry_eq]
  generalize (lg_sl ([.ref (r 0)]) ++ List.replicate (3 - (lg_sl ([.ref (r 0)])).length) Slot.unset).toArray = ls at hl ⊢
  have hl : lv_has ls 3 [(0, .ref (r 0))] := hl
  refine nameQ (fun Q hQ => ?_)
  obtain ⟨im0, im1, im2, im3, im4, im5, im6, im7, im8, im9, im10, im11, im12, im13, im14, im15, im16, im17, im18, im19, im20, im21, im22, im23, im24, im25, im26, im27, im28, im29, im30⟩ := id hI
  have f1 : 0 ≤ (f_tunes (i_bank.toInt).toNat).toInt ∧ (f_tunes (i_bank.toInt).toNat).toInt ≤ 5 := im20 (i_bank.toInt)
  have f2 : 0 ≤ (f_houses (i_bank.toInt).toNat).toInt ∧ (f_houses (i_bank.toInt).toNat).toInt ≤ 4 := im21 (i_bank.toInt)
  refine lv_iconst (v := 0) hx hb dX9_swapAll_0 (by decide) ?_
  refine lv_istore_n (lv' := [(1, .int 0), (0, .ref (r 0))]) hx hb dX9_swapAll_1 rfl hl (by decide) rfl (fun ls hl => ?_)
  have L2 : ∀ (N2 : Nat) (y2_1 : Int32) (m2_f_all m2_f_was : Nat → Int32) (H2 : Heap) (locs : List Loc) (ls : Array Slot) (g2_0 : 0 ≤ y2_1.toInt) (g2_1 : y2_1.toInt ≤ 26) (gi2_all_p : EW m2_f_all) (gi2_was_p : EW m2_f_was) (hP : va_P (dC, dI) vwCl (WM r ct i_taped i_size i_faultKind i_at i_end i_token i_number i_bank i_rb i_codes i_within i_piled i_unitsInRule i_askHouse i_askTune i_acts i_undone i_laid i_knowns i_time f_text f_tunes f_houses f_hums f_told f_many f_ruleFrom f_ruleTo f_code f_eWhat f_eSign m2_f_all f_kept m2_f_was f_sTune f_boxAll J L) H2) (hD : va_D A (WM r ct i_taped i_size i_faultKind i_at i_end i_token i_number i_bank i_rb i_codes i_within i_piled i_unitsInRule i_askHouse i_askTune i_acts i_undone i_laid i_knowns i_time f_text f_tunes f_houses f_hums f_told f_many f_ruleFrom f_ruleTo f_code f_eWhat f_eSign m2_f_all f_kept m2_f_was f_sTune f_boxAll J L)) (hS : va_S A s.heap H2 locs) (hl : lv_has ls 3 [(0, .ref (r 0)), (1, .int y2_1)]) (hM : -1 * y2_1.toInt + 26 < (N2 : Int)), W p l e { frames := 2, cells := 0, slots := 0, locals := 100 } s m ([.ref (r 0)] : List Value).toArray below meth c0 H2 locs 0 0 Q (F0 m 2 ls []) := by
    intro N2
    induction N2 with
    | zero =>
      intro y2_1 m2_f_all m2_f_was H2 locs ls g2_0 g2_1 gi2_all_p gi2_was_p hP hD hS hl hM
      exact ((ob_291 hM g2_0 g2_1)).elim
    | succ N2 ih2 =>
      intro y2_1 m2_f_all m2_f_was H2 locs ls g2_0 g2_1 gi2_all_p gi2_was_p hP hD hS hl hM
      have hM2 := msucc hM
      refine lv_iload_n hx hb dX9_swapAll_2 rfl (lv_at hl 1 rfl) ?_
      refine lv_bipush (v := 26) hx hb dX9_swapAll_3 (by decide) ?_
      refine lv_icmp_ge (tgt := 56) hx hb dX9_swapAll_5 (by decide) (fun c_3 => ?_) (fun c_3 => ?_)
      · skip
        have f4 : 26 ≤ y2_1.toInt := qi_le c_3 zc_26 rfl
        rw [hQ]
        exact W.vret hx hb hr (fun t ht hW => ⟨⟨(), rfl, trivial, ⟨m2_f_all, m2_f_was, by rw [ht]; exact hP, hD, ⟨im0, im1, im2, im3, im4, im5, im6, im7, im8, im9, im10, im11, im12, im13, im14, im15, im16, im17, im18, im19, im20, im21, im22, im23, im24, gi2_all_p, im26, gi2_was_p, im28, im29, im30⟩⟩⟩, hS.F ht⟩) hS.2.2 dX9_swapAll_56
      · skip
        have f5 : y2_1.toInt < 26 := qi_nle c_3 zc_26 rfl
        refine lv_aload_n hx hb dX9_swapAll_8 rfl (lv_at hl 0 rfl) ?_
        refine gM_X9_94_0 hx hb hG hown hK hP dX9_swapAll_9 ?_
        refine lv_bipush (v := 26) hx hb dX9_swapAll_12 (by decide) ?_
        refine lv_aload_n hx hb dX9_swapAll_14 rfl (lv_at hl 0 rfl) ?_
        refine gM_X9_364_0 hx hb hG hown hK hP dX9_swapAll_15 ?_
        refine lv_imul hx hb dX9_swapAll_18 ?_
        refine lv_topi (fun x6 ex6 => ?_)
        have f7 : x6.toInt = 26 * i_acts.toInt := (ob_480 (qi_mul ex6 zc_26 rfl (ob_478 im17 im19) (ob_479 im17 im18 im19)))
        refine lv_iload_n hx hb dX9_swapAll_19 rfl (lv_at hl 1 rfl) ?_
        refine lv_iadd hx hb dX9_swapAll_20 ?_
        refine lv_topi (fun x8 ex8 => ?_)
        have f9 : x8.toInt = y2_1.toInt + 26 * i_acts.toInt := (ob_483 (qi_add ex8 rfl rfl (ob_481 im17 g2_0 f7) (ob_482 im18 im19 g2_1 f7)) f7)
        refine ldM_27 (mm := y2_1.toInt + 26 * i_acts.toInt) hx hb hK hP f9 (ob_484 im17 g2_0) (ob_485 im18 im19 f5) dX9_swapAll_21 ?_
        refine lv_istore_n (lv' := [(2, .int (m2_f_was (y2_1.toInt + 26 * i_acts.toInt).toNat)), (0, .ref (r 0)), (1, .int y2_1)]) hx hb dX9_swapAll_22 rfl hl (by decide) rfl (fun ls hl => ?_)
        refine lv_aload_n hx hb dX9_swapAll_23 rfl (lv_at hl 1 rfl) ?_
        refine gM_X9_94_0 hx hb hG hown hK hP dX9_swapAll_24 ?_
        refine lv_bipush (v := 26) hx hb dX9_swapAll_27 (by decide) ?_
        refine lv_aload_n hx hb dX9_swapAll_29 rfl (lv_at hl 1 rfl) ?_
        refine gM_X9_364_0 hx hb hG hown hK hP dX9_swapAll_30 ?_
        refine lv_imul hx hb dX9_swapAll_33 ?_
        refine lv_topi (fun x10 ex10 => ?_)
        have f11 : x10.toInt = 26 * i_acts.toInt := (ob_480 (qi_mul ex10 zc_26 rfl (ob_478 im17 im19) (ob_479 im17 im18 im19)))
        refine lv_iload_n hx hb dX9_swapAll_34 rfl (lv_at hl 2 rfl) ?_
        refine lv_iadd hx hb dX9_swapAll_35 ?_
        refine lv_topi (fun x12 ex12 => ?_)
        have f13 : x12.toInt = y2_1.toInt + 26 * i_acts.toInt := (ob_483 (qi_add ex12 rfl rfl (ob_481 im17 g2_0 f11) (ob_482 im18 im19 g2_1 f11)) f11)
        refine lv_aload_n hx hb dX9_swapAll_36 rfl (lv_at hl 1 rfl) ?_
        refine gM_X9_88_0 hx hb hG hown hK hP dX9_swapAll_37 ?_
        refine lv_iload_n hx hb dX9_swapAll_40 rfl (lv_at hl 2 rfl) ?_
        refine ldM_25 (mm := y2_1.toInt) hx hb hK hP rfl (ob_133 g2_0) (ob_319 f5) dX9_swapAll_41 ?_
        refine stM_27 (mm := y2_1.toInt + 26 * i_acts.toInt) hx hb hK hP hD hS f13 (ob_484 im17 g2_0) (ob_485 im18 im19 f5) dX9_swapAll_42 (fun z15 H14 locs ez15 hP hD hS => ?_)
        have g16 : EW z15 := ez15 ▸ EW.updc gi2_was_p gi2_all_p (ob_484 im17 g2_0) (ob_133 g2_0) (ob_486)
        refine lv_aload_n hx hb dX9_swapAll_43 rfl (lv_at hl 1 rfl) ?_
        refine gM_X9_88_0 hx hb hG hown hK hP dX9_swapAll_44 ?_
        refine lv_iload_n hx hb dX9_swapAll_47 rfl (lv_at hl 2 rfl) ?_
        refine lv_iload_n hx hb dX9_swapAll_48 rfl (lv_at hl 0 rfl) ?_
        refine stM_25 (mm := y2_1.toInt) hx hb hK hP hD hS rfl (ob_133 g2_0) (ob_319 f5) dX9_swapAll_49 (fun z18 H17 locs ez18 hP hD hS => ?_)
        have g19 : EW z18 := ez18 ▸ EW.updc gi2_all_p gi2_was_p (ob_133 g2_0) (ob_484 im17 g2_0) (ob_516)
        obtain ⟨x20, ex20⟩ : ∃ y : Int32, y = y2_1 + Int32.ofInt 1 := ⟨_, rfl⟩
        have f21 : x20.toInt = y2_1.toInt + 1 := (ob_139 (qi_add ex20 rfl (by decide) (ob_137 g2_0) (ob_320 g2_1)))
        refine lv_iinc (v := x20) (lv' := [(1, .int x20), (2, .int (m2_f_was (y2_1.toInt + 26 * i_acts.toInt).toNat)), (0, .ref (r 0))]) hx hb dX9_swapAll_50 hl (k := 2) rfl ex20.symm (by decide) rfl (fun ls hl => ?_)
        refine lv_goto (tgt := 2) hx hb dX9_swapAll_53 (by decide) ?_
        exact ih2 x20 z18 z15 H17 _ _ (ob_140 g2_0 f21) (ob_321 f5 f21) g19 g16 hP hD hS (lv_sub hl [2, 0] rfl) (ob_322 hM2 f21)
  exact L2 (-1 * (0 : Int32).toInt + 26 + 1).toNat 0 f_all f_was s.heap _ _ (ob_5 zc_0) (ob_323 zc_0) im25 im27 hP hD hS (lv_sub hl [1, 0] rfl) (mlt (ob_324 zc_0))
set_option maxHeartbeats 4000000 in
set_option maxRecDepth 100000 in
theorem kX9_week (l : Launch) (dC : Nat → ClassId) (dI : Nat → Nat → Nat) (r : Nat → Nat) (ct : Nat → ClassId) (i_taped i_size i_faultKind i_at i_end i_token i_number i_bank i_rb i_codes i_within i_piled i_unitsInRule i_askHouse i_askTune i_acts i_undone i_laid i_knowns i_time : Int32) (f_text f_tunes f_houses f_hums f_told f_many f_ruleFrom f_ruleTo f_code f_eWhat f_eSign f_all f_kept f_was f_sTune f_boxAll : Nat → Int32) (J : Nat → Nat → Int32) (L : Nat → Nat → Int64) (sz : Nat) (hI : (IM i_taped i_size i_at i_end i_bank i_rb i_acts i_undone i_laid i_knowns i_time f_tunes f_houses f_hums f_told f_many f_ruleFrom f_ruleTo f_code f_all f_kept f_was f_sTune f_boxAll)) : Met l yX9_week (.code yX9_week cX9_week 1 (some .int) :: GW) { frames := 24, cells := 0, slots := 0, locals := 794 } (va_Pc [.ref (r 0)] (pW (dC, dI) (WM r ct i_taped i_size i_faultKind i_at i_end i_token i_number i_bank i_rb i_codes i_within i_piled i_unitsInRule i_askHouse i_askTune i_acts i_undone i_laid i_knowns i_time f_text f_tunes f_houses f_hums f_told f_many f_ruleFrom f_ruleTo f_code f_eWhat f_eSign f_all f_kept f_was f_sTune f_boxAll J L) (TM ct) sz)) (va_Qi (fun (r0 : Int32) (u : Int32) => r0 = u) (fun (u : Int32) (t : State) => ∃ (n_i_askHouse n_i_askTune n_i_acts n_i_undone : Int32) (n_f_all n_f_was : Nat → Int32) (n_J : Nat → Nat → Int32), va_P (dC, dI) vwCl (WM r ct i_taped i_size i_faultKind i_at i_end i_token i_number i_bank i_rb i_codes i_within i_piled i_unitsInRule n_i_askHouse n_i_askTune n_i_acts n_i_undone i_laid i_knowns i_time f_text f_tunes f_houses f_hums f_told f_many f_ruleFrom f_ruleTo f_code f_eWhat f_eSign n_f_all f_kept n_f_was f_sTune f_boxAll n_J L) t.heap ∧ va_D (va_A (WM r ct i_taped i_size i_faultKind i_at i_end i_token i_number i_bank i_rb i_codes i_within i_piled i_unitsInRule i_askHouse i_askTune i_acts i_undone i_laid i_knowns i_time f_text f_tunes f_houses f_hums f_told f_many f_ruleFrom f_ruleTo f_code f_eWhat f_eSign f_all f_kept f_was f_sTune f_boxAll J L) sz) (WM r ct i_taped i_size i_faultKind i_at i_end i_token i_number i_bank i_rb i_codes i_within i_piled i_unitsInRule n_i_askHouse n_i_askTune n_i_acts n_i_undone i_laid i_knowns i_time f_text f_tunes f_houses f_hums f_told f_many f_ruleFrom f_ruleTo f_code f_eWhat f_eSign n_f_all f_kept n_f_was f_sTune f_boxAll n_J L) ∧ (IM i_taped i_size i_at i_end i_bank i_rb n_i_acts n_i_undone i_laid i_knowns i_time f_tunes f_houses f_hums f_told f_many f_ruleFrom f_ruleTo f_code n_f_all f_kept n_f_was f_sTune f_boxAll)) (va_A (WM r ct i_taped i_size i_faultKind i_at i_end i_token i_number i_bank i_rb i_codes i_within i_piled i_unitsInRule i_askHouse i_askTune i_acts i_undone i_laid i_knowns i_time f_text f_tunes f_houses f_hums f_told f_many f_ruleFrom f_ruleTo f_code f_eWhat f_eSign f_all f_kept f_was f_sTune f_boxAll J L) sz)) 0 0 (va_A (WM r ct i_taped i_size i_faultKind i_at i_end i_token i_number i_bank i_rb i_codes i_within i_piled i_unitsInRule i_askHouse i_askTune i_acts i_undone i_laid i_knowns i_time f_text f_tunes f_houses f_hums f_told f_many f_ruleFrom f_ruleTo f_code f_eWhat f_eSign f_all f_kept f_was f_sTune f_boxAll J L) sz) := by
  refine Met.ofW (cc := cX9_week) (maxL := 1) (ret := (some .int)) (by decide) rfl ?_
  intro p e s m args below meth c0 s₁ B hml hv
  obtain ⟨rfl, hsz, hP, hK, hD0⟩ := hv
  have hx := B.exec
  have hb := B.bytes
  have hr := B.returns
  have hts := atoms_spec (ws := .code yX9_week cX9_week 1 (some .int) :: GW) B.pre
  have hG : ∀ w ∈ GW, w.before _ s = true := fun w h => hts w (List.mem_cons_of_mem _ h)
  have hown : s.vm.findClass RX9 = some m.cls := findClass_of_methodNamed B.named
  subst hsz
  have hD := hD0.self (sz := s.heap.size)
  generalize hAe : va_A (WM r ct i_taped i_size i_faultKind i_at i_end i_token i_number i_bank i_rb i_codes i_within i_piled i_unitsInRule i_askHouse i_askTune i_acts i_undone i_laid i_knowns i_time f_text f_tunes f_houses f_hums f_told f_many f_ruleFrom f_ruleTo f_code f_eWhat f_eSign f_all f_kept f_was f_sTune f_boxAll J L) s.heap.size = A at hD ⊢
  have hA : ∀ q : Nat, s.heap.size ≤ q → A q := fun q h => by rw [← hAe]; exact Or.inr h
  have hS : va_S A s.heap s.heap [] := va_S.rf
  have hP : va_P (dC, dI) vwCl (WM r ct i_taped i_size i_faultKind i_at i_end i_token i_number i_bank i_rb i_codes i_within i_piled i_unitsInRule i_askHouse i_askTune i_acts i_undone i_laid i_knowns i_time f_text f_tunes f_houses f_hums f_told f_many f_ruleFrom f_ruleTo f_code f_eWhat f_eSign f_all f_kept f_was f_sTune f_boxAll J L) s.heap := hP
  have hl := lv_entry ([.ref (r 0)]) (n := 1) (Nat.le_of_ble_eq_true rfl)
  rw [lg_entry_eq]
  generalize (lg_sl ([.ref (r 0)]) ++ List.replicate (1 - (lg_sl ([.ref (r 0)])).length) Slot.unset).toArray = ls at hl ⊢
  have hl : lv_has ls 1 [(0, .ref (r 0))] := hl
  refine nameQ (fun Q hQ => ?_)
  obtain ⟨im0, im1, im2, im3, im4, im5, im6, im7, im8, im9, im10, im11, im12, im13, im14, im15, im16, im17, im18, im19, im20, im21, im22, im23, im24, im25, im26, im27, im28, im29, im30⟩ := id hI
  have f1 : 0 ≤ (f_tunes (i_bank.toInt).toNat).toInt ∧ (f_tunes (i_bank.toInt).toNat).toInt ≤ 5 := im20 (i_bank.toInt)
  have f2 : 0 ≤ (f_houses (i_bank.toInt).toNat).toInt ∧ (f_houses (i_bank.toInt).toNat).toInt ≤ 4 := im21 (i_bank.toInt)
  refine lv_aload_n hx hb dX9_week_0 rfl (lv_at hl 0 rfl) ?_
  refine gM_X9_88_0 hx hb hG hown hK hP dX9_week_1 ?_
  refine lv_bipush (v := 24) hx hb dX9_week_4 (by decide) ?_
  refine ldM_25 (mm := 24) hx hb hK hP zc_24 (ob_387) (ob_388) dX9_week_6 ?_
  refine lv_sipush (v := 999) hx hb dX9_week_7 (by decide) ?_
  refine lv_icmp_ne (tgt := 15) hx hb dX9_week_10 (by decide) (fun c_3 => ?_) (fun c_3 => ?_)
  · skip
    have f4 : (f_all (24).toNat).toInt ≠ 999 := qi_ne c_3 rfl zc_999
    refine lv_aload_n hx hb dX9_week_15 rfl (lv_at hl 0 rfl) ?_
    have hFc := frA hD hS hA
    refine va_callv (va_runV (As := []) (rest := []) ⟨hx, hb, hml, hown, hG⟩ (kX9_keepAct l dC dI r ct i_taped i_size i_faultKind i_at i_end i_token i_number i_bank i_rb i_codes i_within i_piled i_unitsInRule i_askHouse i_askTune i_acts i_undone i_laid i_knowns i_time f_text f_tunes f_houses f_hums f_told f_many f_ruleFrom f_ruleTo f_code f_eWhat f_eSign f_all f_kept f_was f_sTune f_boxAll J L s.heap.size hI) (cwV 0 hG (goodV gw1684 gw1686 gw107 gw138 gw1687) rfl rfl rfl hd_X9_keepAct ⟨(Nat.le_of_ble_eq_true rfl), (Nat.le_of_ble_eq_true rfl)⟩) ⟨fbW, va_recv hK hP (ci := 8) (q0 := 0) rfl rfl, pW_in hP hK hD⟩ rfl rfl hl.1 rfl (lv_room (Nat.le_of_ble_eq_true rfl)) dX9_week_16 ⟨(Nat.le_of_ble_eq_true rfl), (Nat.le_of_ble_eq_true rfl)⟩) hS (fun q _ h => hFc q h) hFc (fun _ t_ H5 locs ht hvm hw hB hz1 hk1 hS => ?_)
    obtain ⟨x7, x8, z9, hP1, hD1, hI10⟩ := hB
    rw [ht] at hP1
    have hP := hP1
    have hD := dW hFc hD1
    obtain ⟨im11, im12, im13, im14, im15, im16, im17, im18, im19, im20, im21, im22, im23, im24, im25, im26, im27, im28, im29, im30, im31, im32, im33, im34, im35, im36, im37, im38, im39, im40, im41⟩ := id hI10
    refine lv_aload_n hx hb dX9_week_19 rfl (lv_at hl 0 rfl) ?_
    refine lv_iconst (v := 1) hx hb dX9_week_20 (by decide) ?_
    have hFc := frA hD hS hA
    refine va_calli (va_runV (As := [.int 1]) (rest := []) ⟨hx, hb, hml, hown, hG⟩ (kX9_goWeek l dC dI r ct i_taped i_size i_faultKind i_at i_end i_token i_number i_bank i_rb i_codes i_within i_piled i_unitsInRule i_askHouse i_askTune x7 x8 i_laid i_knowns i_time f_text f_tunes f_houses f_hums f_told f_many f_ruleFrom f_ruleTo f_code f_eWhat f_eSign f_all f_kept z9 f_sTune f_boxAll J L 1 H5.size hI10 (ob_517 zc_1)) (cwV 1 hG (goodV gw1688 gw1690 gw108 gw138 gw1691) rfl rfl rfl hd_X9_goWeek ⟨(Nat.le_of_ble_eq_true rfl), (Nat.le_of_ble_eq_true rfl)⟩) ⟨fbW, va_recv hK hP (ci := 8) (q0 := 0) rfl rfl, pW_in hP hK hD⟩ rfl rfl hl.1 rfl (lv_room (Nat.le_of_ble_eq_true rfl)) dX9_week_21 ⟨(Nat.le_of_ble_eq_true rfl), (Nat.le_of_ble_eq_true rfl)⟩) hS (fun q _ h => hFc q h) hFc (fun r_43 u_ t_ H42 locs ht hvm hw hB hz1 hk1 hS => ?_)
    subst hw
    obtain ⟨x44, x45, z46, J47, hP1, hD1, hI48⟩ := hB
    rw [ht] at hP1
    have hP := hP1
    have hD := dW hFc hD1
    obtain ⟨im49, im50, im51, im52, im53, im54, im55, im56, im57, im58, im59, im60, im61, im62, im63, im64, im65, im66, im67, im68, im69, im70, im71, im72, im73, im74, im75, im76, im77, im78, im79⟩ := id hI48
    rw [hQ]
    exact W.iret (v := r_43) hx hb hr (fun t ht hW => ⟨⟨r_43, r_43, rfl, rfl, ⟨x44, x45, x7, x8, z46, z9, J47, by rw [ht]; exact hP, hD, hI48⟩⟩, hS.F ht⟩) hS.2.2 dX9_week_24
  · skip
    have f80 : (f_all (24).toNat).toInt = 999 := qi_eq c_3 rfl zc_999
    refine lv_iconst (v := (-1)) hx hb dX9_week_13 (by decide) ?_
    rw [hQ]
    exact W.iret (v := (-1)) hx hb hr (fun t ht hW => ⟨⟨(-1), (-1), rfl, rfl, ⟨i_askHouse, i_askTune, i_acts, i_undone, f_all, f_was, J, by rw [ht]; exact hP, hD, hI⟩⟩, hS.F ht⟩) hS.2.2 dX9_week_14
set_option maxHeartbeats 4000000 in
set_option maxRecDepth 100000 in
theorem kX9_bring (l : Launch) (dC : Nat → ClassId) (dI : Nat → Nat → Nat) (r : Nat → Nat) (ct : Nat → ClassId) (i_taped i_size i_faultKind i_at i_end i_token i_number i_bank i_rb i_codes i_within i_piled i_unitsInRule i_askHouse i_askTune i_acts i_undone i_laid i_knowns i_time : Int32) (f_text f_tunes f_houses f_hums f_told f_many f_ruleFrom f_ruleTo f_code f_eWhat f_eSign f_all f_kept f_was f_sTune f_boxAll : Nat → Int32) (J : Nat → Nat → Int32) (L : Nat → Nat → Int64) (p0 p1 : Int32) (sz : Nat) (hI : (IM i_taped i_size i_at i_end i_bank i_rb i_acts i_undone i_laid i_knowns i_time f_tunes f_houses f_hums f_told f_many f_ruleFrom f_ruleTo f_code f_all f_kept f_was f_sTune f_boxAll)) : Met l yX9_bring (.code yX9_bring cX9_bring 3 (some .int) :: GW) { frames := 22, cells := 0, slots := 0, locals := 729 } (va_Pc [.ref (r 0), .int p0, .int p1] (pW (dC, dI) (WM r ct i_taped i_size i_faultKind i_at i_end i_token i_number i_bank i_rb i_codes i_within i_piled i_unitsInRule i_askHouse i_askTune i_acts i_undone i_laid i_knowns i_time f_text f_tunes f_houses f_hums f_told f_many f_ruleFrom f_ruleTo f_code f_eWhat f_eSign f_all f_kept f_was f_sTune f_boxAll J L) (TM ct) sz)) (va_Qi (fun (r0 : Int32) (u : Int32) => r0 = u) (fun (u : Int32) (t : State) => ∃ (n_i_askHouse n_i_askTune n_i_acts n_i_undone : Int32) (n_f_all n_f_was : Nat → Int32) (n_J : Nat → Nat → Int32), va_P (dC, dI) vwCl (WM r ct i_taped i_size i_faultKind i_at i_end i_token i_number i_bank i_rb i_codes i_within i_piled i_unitsInRule n_i_askHouse n_i_askTune n_i_acts n_i_undone i_laid i_knowns i_time f_text f_tunes f_houses f_hums f_told f_many f_ruleFrom f_ruleTo f_code f_eWhat f_eSign n_f_all f_kept n_f_was f_sTune f_boxAll n_J L) t.heap ∧ va_D (va_A (WM r ct i_taped i_size i_faultKind i_at i_end i_token i_number i_bank i_rb i_codes i_within i_piled i_unitsInRule i_askHouse i_askTune i_acts i_undone i_laid i_knowns i_time f_text f_tunes f_houses f_hums f_told f_many f_ruleFrom f_ruleTo f_code f_eWhat f_eSign f_all f_kept f_was f_sTune f_boxAll J L) sz) (WM r ct i_taped i_size i_faultKind i_at i_end i_token i_number i_bank i_rb i_codes i_within i_piled i_unitsInRule n_i_askHouse n_i_askTune n_i_acts n_i_undone i_laid i_knowns i_time f_text f_tunes f_houses f_hums f_told f_many f_ruleFrom f_ruleTo f_code f_eWhat f_eSign n_f_all f_kept n_f_was f_sTune f_boxAll n_J L) ∧ (IM i_taped i_size i_at i_end i_bank i_rb n_i_acts n_i_undone i_laid i_knowns i_time f_tunes f_houses f_hums f_told f_many f_ruleFrom f_ruleTo f_code n_f_all f_kept n_f_was f_sTune f_boxAll)) (va_A (WM r ct i_taped i_size i_faultKind i_at i_end i_token i_number i_bank i_rb i_codes i_within i_piled i_unitsInRule i_askHouse i_askTune i_acts i_undone i_laid i_knowns i_time f_text f_tunes f_houses f_hums f_told f_many f_ruleFrom f_ruleTo f_code f_eWhat f_eSign f_all f_kept f_was f_sTune f_boxAll J L) sz)) 0 0 (va_A (WM r ct i_taped i_size i_faultKind i_at i_end i_token i_number i_bank i_rb i_codes i_within i_piled i_unitsInRule i_askHouse i_askTune i_acts i_undone i_laid i_knowns i_time f_text f_tunes f_houses f_hums f_told f_many f_ruleFrom f_ruleTo f_code f_eWhat f_eSign f_all f_kept f_was f_sTune f_boxAll J L) sz) := by
  refine Met.ofW (cc := cX9_bring) (maxL := 3) (ret := (some .int)) (by decide) rfl ?_
  intro p e s m args below meth c0 s₁ B hml hv
  obtain ⟨rfl, hsz, hP, hK, hD0⟩ := hv
  have hx := B.exec
  have hb := B.bytes
  have hr := B.returns
  have hts := atoms_spec (ws := .code yX9_bring cX9_bring 3 (some .int) :: GW) B.pre
  have hG : ∀ w ∈ GW, w.before _ s = true := fun w h => hts w (List.mem_cons_of_mem _ h)
  have hown : s.vm.findClass RX9 = some m.cls := findClass_of_methodNamed B.named
  subst hsz
  have hD := hD0.self (sz := s.heap.size)
  generalize hAe : va_A (WM r ct i_taped i_size i_faultKind i_at i_end i_token i_number i_bank i_rb i_codes i_within i_piled i_unitsInRule i_askHouse i_askTune i_acts i_undone i_laid i_knowns i_time f_text f_tunes f_houses f_hums f_told f_many f_ruleFrom f_ruleTo f_code f_eWhat f_eSign f_all f_kept f_was f_sTune f_boxAll J L) s.heap.size = A at hD ⊢
  have hA : ∀ q : Nat, s.heap.size ≤ q → A q := fun q h => by rw [← hAe]; exact Or.inr h
  have hS : va_S A s.heap s.heap [] := va_S.rf
  have hP : va_P (dC, dI) vwCl (WM r ct i_taped i_size i_faultKind i_at i_end i_token i_number i_bank i_rb i_codes i_within i_piled i_unitsInRule i_askHouse i_askTune i_acts i_undone i_laid i_knowns i_time f_text f_tunes f_houses f_hums f_told f_many f_ruleFrom f_ruleTo f_code f_eWhat f_eSign f_all f_kept f_was f_sTune f_boxAll J L) s.heap := hP
  have hl := lv_entry ([.ref (r 0), .int p0, .int p1]) (n := 3) (Nat.le_of_ble_eq_true rfl)
  rw [lg_entry_eq]
  generalize (lg_sl ([.ref (r 0), .int p0, .int p1]) ++ List.replicate (3 - (lg_sl ([.ref (r 0), .int p0, .int p1])).length) Slot.unset).toArray = ls at hl ⊢
  have hl : lv_has ls 3 [(0, .ref (r 0)), (1, .int p0), (2, .int p1)] := hl
  refine nameQ (fun Q hQ => ?_)
  obtain ⟨im0, im1, im2, im3, im4, im5, im6, im7, im8, im9, im10, im11, im12, im13, im14, im15, im16, im17, im18, im19, im20, im21, im22, im23, im24, im25, im26, im27, im28, im29, im30⟩ := id hI
  have f1 : 0 ≤ (f_tunes (i_bank.toInt).toNat).toInt ∧ (f_tunes (i_bank.toInt).toNat).toInt ≤ 5 := im20 (i_bank.toInt)
  have f2 : 0 ≤ (f_houses (i_bank.toInt).toNat).toInt ∧ (f_houses (i_bank.toInt).toNat).toInt ≤ 4 := im21 (i_bank.toInt)
  refine lv_aload_n hx hb dX9_bring_0 rfl (lv_at hl 0 rfl) ?_
  refine lv_iload_n hx hb dX9_bring_1 rfl (lv_at hl 1 rfl) ?_
  refine va_calli (va_runV (As := [.int p0]) (rest := []) ⟨hx, hb, hml, hown, hG⟩ (kX9_isTune l dC dI r ct i_taped i_size i_faultKind i_at i_end i_token i_number i_bank i_rb i_codes i_within i_piled i_unitsInRule i_askHouse i_askTune i_acts i_undone i_laid i_knowns i_time f_text f_tunes f_houses f_hums f_told f_many f_ruleFrom f_ruleTo f_code f_eWhat f_eSign f_all f_kept f_was f_sTune f_boxAll J L p0 s.heap.size hI) (cwV 1 hG (goodV gw1508 gw1510 gw85 gw138 gw1511) rfl rfl rfl hd_X9_isTune ⟨(Nat.le_of_ble_eq_true rfl), (Nat.le_of_ble_eq_true rfl)⟩) ⟨fbR, va_recv hK hP (ci := 8) (q0 := 0) rfl rfl, pR_in hP hK⟩ rfl rfl hl.1 rfl (lv_room (Nat.le_of_ble_eq_true rfl)) dX9_bring_2 ⟨(Nat.le_of_ble_eq_true rfl), (Nat.le_of_ble_eq_true rfl)⟩) hS (fun q hq h => absurd hq (Nat.not_lt.mpr h)) (fun q h => hA q (Nat.le_trans hS.1 h)) (fun r_4 u_ t_ H3 locs ht hvm hw hB hz1 hk1 hS => ?_)
  subst hw
  have hP := wk hP hk1
  obtain ⟨f5, f6, f7, f8, f9⟩ := hB
  refine lv_if_eq (tgt := 32) hx hb dX9_bring_5 (by decide) (fun c_10 => ?_) (fun c_10 => ?_)
  · skip
    have f11 : r_4.toInt = 0 := qi_eq c_10 rfl zc_0
    refine lv_ldcw (v := (-1000000000)) hx hb hown (hG _ gw1601) dX9_bring_32 ?_
    rw [hQ]
    exact W.iret (v := (-1000000000)) hx hb hr (fun t ht hW => ⟨⟨(-1000000000), (-1000000000), rfl, rfl, ⟨i_askHouse, i_askTune, i_acts, i_undone, f_all, f_was, J, by rw [ht]; exact hP, hD, hI⟩⟩, hS.F ht⟩) hS.2.2 dX9_bring_35
  · skip
    have f12 : r_4.toInt ≠ 0 := qi_ne c_10 rfl zc_0
    have f13 : 1 ≤ r_4.toInt := (ob_399 f5 f12)
    have f14 : 0 ≤ p0.toInt := (ob_400 f5 f12)
    have f15 : p0.toInt + 1 ≤ (f_tunes (i_bank.toInt).toNat).toInt := (ob_401 f5 f12)
    have f16 : r_4.toInt = 1 := (ob_402 f7 f13)
    refine lv_aload_n hx hb dX9_bring_8 rfl (lv_at hl 0 rfl) ?_
    refine lv_iload_n hx hb dX9_bring_9 rfl (lv_at hl 2 rfl) ?_
    refine va_calli (va_runV (As := [.int p1]) (rest := []) ⟨hx, hb, hml, hown, hG⟩ (kX9_isHouse l dC dI r ct i_taped i_size i_faultKind i_at i_end i_token i_number i_bank i_rb i_codes i_within i_piled i_unitsInRule i_askHouse i_askTune i_acts i_undone i_laid i_knowns i_time f_text f_tunes f_houses f_hums f_told f_many f_ruleFrom f_ruleTo f_code f_eWhat f_eSign f_all f_kept f_was f_sTune f_boxAll J L p1 H3.size hI) (cwV 1 hG (goodV gw1542 gw1544 gw90 gw138 gw1545) rfl rfl rfl hd_X9_isHouse ⟨(Nat.le_of_ble_eq_true rfl), (Nat.le_of_ble_eq_true rfl)⟩) ⟨fbR, va_recv hK hP (ci := 8) (q0 := 0) rfl rfl, pR_in hP hK⟩ rfl rfl hl.1 rfl (lv_room (Nat.le_of_ble_eq_true rfl)) dX9_bring_10 ⟨(Nat.le_of_ble_eq_true rfl), (Nat.le_of_ble_eq_true rfl)⟩) hS (fun q hq h => absurd hq (Nat.not_lt.mpr h)) (fun q h => hA q (Nat.le_trans hS.1 h)) (fun r_18 u_ t_ H17 locs ht hvm hw hB hz1 hk1 hS => ?_)
    subst hw
    have hP := wk hP hk1
    obtain ⟨f19, f20, f21, f22, f23⟩ := hB
    refine lv_if_eq (tgt := 32) hx hb dX9_bring_13 (by decide) (fun c_24 => ?_) (fun c_24 => ?_)
    · skip
      have f25 : r_18.toInt = 0 := qi_eq c_24 rfl zc_0
      refine lv_ldcw (v := (-1000000000)) hx hb hown (hG _ gw1601) dX9_bring_32 ?_
      rw [hQ]
      exact W.iret (v := (-1000000000)) hx hb hr (fun t ht hW => ⟨⟨(-1000000000), (-1000000000), rfl, rfl, ⟨i_askHouse, i_askTune, i_acts, i_undone, f_all, f_was, J, by rw [ht]; exact hP, hD, hI⟩⟩, hS.F ht⟩) hS.2.2 dX9_bring_35
    · skip
      have f26 : r_18.toInt ≠ 0 := qi_ne c_24 rfl zc_0
      have f27 : 1 ≤ r_18.toInt := (ob_399 f19 f26)
      have f28 : 0 ≤ p1.toInt := (ob_400 f19 f26)
      have f29 : p1.toInt + 1 ≤ (f_houses (i_bank.toInt).toNat).toInt := (ob_401 f19 f26)
      have f30 : r_18.toInt = 1 := (ob_402 f21 f27)
      refine lv_aload_n hx hb dX9_bring_16 rfl (lv_at hl 0 rfl) ?_
      refine lv_iload_n hx hb dX9_bring_17 rfl (lv_at hl 1 rfl) ?_
      refine va_calli (va_runV (As := [.int p0]) (rest := []) ⟨hx, hb, hml, hown, hG⟩ (kX9_isOnCart l dC dI r ct i_taped i_size i_faultKind i_at i_end i_token i_number i_bank i_rb i_codes i_within i_piled i_unitsInRule i_askHouse i_askTune i_acts i_undone i_laid i_knowns i_time f_text f_tunes f_houses f_hums f_told f_many f_ruleFrom f_ruleTo f_code f_eWhat f_eSign f_all f_kept f_was f_sTune f_boxAll J L p0 H17.size hI (ob_108 f14 f15) (ob_109 f1 f14 f15)) (cwV 1 hG (goodV gw1704 gw1706 gw111 gw138 gw1707) rfl rfl rfl hd_X9_isOnCart ⟨(Nat.le_of_ble_eq_true rfl), (Nat.le_of_ble_eq_true rfl)⟩) ⟨fbR, va_recv hK hP (ci := 8) (q0 := 0) rfl rfl, pR_in hP hK⟩ rfl rfl hl.1 rfl (lv_room (Nat.le_of_ble_eq_true rfl)) dX9_bring_18 ⟨(Nat.le_of_ble_eq_true rfl), (Nat.le_of_ble_eq_true rfl)⟩) hS (fun q hq h => absurd hq (Nat.not_lt.mpr h)) (fun q h => hA q (Nat.le_trans hS.1 h)) (fun r_32 u_ t_ H31 locs ht hvm hw hB hz1 hk1 hS => ?_)
      subst hw
      have hP := wk hP hk1
      obtain ⟨f33, f34, f35⟩ := hB
      refine lv_if_eq (tgt := 32) hx hb dX9_bring_21 (by decide) (fun c_36 => ?_) (fun c_36 => ?_)
      · skip
        have f37 : r_32.toInt = 0 := qi_eq c_36 rfl zc_0
        have f38 : (f_all (p0.toInt).toNat).toInt + 1 ≠ 0 := (ob_518 f33 f37)
        have f39 : r_32.toInt = 0 := (ob_162 f34 f35 f37)
        refine lv_ldcw (v := (-1000000000)) hx hb hown (hG _ gw1601) dX9_bring_32 ?_
        rw [hQ]
        exact W.iret (v := (-1000000000)) hx hb hr (fun t ht hW => ⟨⟨(-1000000000), (-1000000000), rfl, rfl, ⟨i_askHouse, i_askTune, i_acts, i_undone, f_all, f_was, J, by rw [ht]; exact hP, hD, hI⟩⟩, hS.F ht⟩) hS.2.2 dX9_bring_35
      · skip
        have f40 : r_32.toInt ≠ 0 := qi_ne c_36 rfl zc_0
        have f41 : 1 ≤ r_32.toInt := (ob_519 f33 f40)
        have f42 : (f_all (p0.toInt).toNat).toInt + 1 = 0 := (ob_520 f33 f40)
        have f43 : r_32.toInt = 1 := (ob_167 f34 f35 f41)
        refine lv_aload_n hx hb dX9_bring_24 rfl (lv_at hl 0 rfl) ?_
        refine lv_iload_n hx hb dX9_bring_25 rfl (lv_at hl 2 rfl) ?_
        refine va_calli (va_runV (As := [.int p1]) (rest := []) ⟨hx, hb, hml, hown, hG⟩ (kX9_triedBy l dC dI r ct i_taped i_size i_faultKind i_at i_end i_token i_number i_bank i_rb i_codes i_within i_piled i_unitsInRule i_askHouse i_askTune i_acts i_undone i_laid i_knowns i_time f_text f_tunes f_houses f_hums f_told f_many f_ruleFrom f_ruleTo f_code f_eWhat f_eSign f_all f_kept f_was f_sTune f_boxAll J L p1 H31.size hI) (cwV 1 hG (goodV gw1550 gw1552 gw92 gw138 gw1553) rfl rfl rfl hd_X9_triedBy ⟨(Nat.le_of_ble_eq_true rfl), (Nat.le_of_ble_eq_true rfl)⟩) ⟨fbR, va_recv hK hP (ci := 8) (q0 := 0) rfl rfl, pR_in hP hK⟩ rfl rfl hl.1 rfl (lv_room (Nat.le_of_ble_eq_true rfl)) dX9_bring_26 ⟨(Nat.le_of_ble_eq_true rfl), (Nat.le_of_ble_eq_true rfl)⟩) hS (fun q hq h => absurd hq (Nat.not_lt.mpr h)) (fun q h => hA q (Nat.le_trans hS.1 h)) (fun r_45 u_ t_ H44 locs ht hvm hw hB hz1 hk1 hS => ?_)
        subst hw
        have hP := wk hP hk1
        obtain ⟨f46, f47, f48⟩ := hB
        have f49 : r_45.toInt = (trb f_all p1.toInt (f_tunes (i_bank.toInt).toNat).toInt (6 - (0 : Int32).toInt).toNat (0 : Int32).toInt) := (ob_278 f48)
        refine lv_if_lt (tgt := 36) hx hb dX9_bring_29 (by decide) (fun c_50 => ?_) (fun c_50 => ?_)
        · skip
          have f51 : r_45.toInt < 0 := qi_lt c_50 rfl zc_0
          refine lv_aload_n hx hb dX9_bring_36 rfl (lv_at hl 0 rfl) ?_
          have hFc := frA hD hS hA
          refine va_callv (va_runV (As := []) (rest := []) ⟨hx, hb, hml, hown, hG⟩ (kX9_keepAct l dC dI r ct i_taped i_size i_faultKind i_at i_end i_token i_number i_bank i_rb i_codes i_within i_piled i_unitsInRule i_askHouse i_askTune i_acts i_undone i_laid i_knowns i_time f_text f_tunes f_houses f_hums f_told f_many f_ruleFrom f_ruleTo f_code f_eWhat f_eSign f_all f_kept f_was f_sTune f_boxAll J L H44.size hI) (cwV 0 hG (goodV gw1684 gw1686 gw107 gw138 gw1687) rfl rfl rfl hd_X9_keepAct ⟨(Nat.le_of_ble_eq_true rfl), (Nat.le_of_ble_eq_true rfl)⟩) ⟨fbW, va_recv hK hP (ci := 8) (q0 := 0) rfl rfl, pW_in hP hK hD⟩ rfl rfl hl.1 rfl (lv_room (Nat.le_of_ble_eq_true rfl)) dX9_bring_37 ⟨(Nat.le_of_ble_eq_true rfl), (Nat.le_of_ble_eq_true rfl)⟩) hS (fun q _ h => hFc q h) hFc (fun _ t_ H52 locs ht hvm hw hB hz1 hk1 hS => ?_)
          obtain ⟨x54, x55, z56, hP1, hD1, hI57⟩ := hB
          rw [ht] at hP1
          have hP := hP1
          have hD := dW hFc hD1
          obtain ⟨im58, im59, im60, im61, im62, im63, im64, im65, im66, im67, im68, im69, im70, im71, im72, im73, im74, im75, im76, im77, im78, im79, im80, im81, im82, im83, im84, im85, im86, im87, im88⟩ := id hI57
          refine lv_aload_n hx hb dX9_bring_40 rfl (lv_at hl 0 rfl) ?_
          refine gM_X9_88_0 hx hb hG hown hK hP dX9_bring_41 ?_
          refine lv_iconst (v := 0) hx hb dX9_bring_44 (by decide) ?_
          refine lv_iload_n hx hb dX9_bring_45 rfl (lv_at hl 1 rfl) ?_
          refine lv_iadd hx hb dX9_bring_46 ?_
          refine lv_topi (fun x89 ex89 => ?_)
          have f90 : x89.toInt = p0.toInt := (ob_311 (qi_add ex89 zc_0 rfl (ob_335 f14 f15) (ob_405 f1 f15)))
          refine lv_iload_n hx hb dX9_bring_47 rfl (lv_at hl 2 rfl) ?_
          refine stM_25 (mm := p0.toInt) hx hb hK hP hD hS f90 (ob_108 f14 f15) (ob_406 f1 f15) dX9_bring_48 (fun z92 H91 locs ez92 hP hD hS => ?_)
          have g93 : EW z92 := ez92 ▸ EW.updo im25 (ob_108 f14 f15) (ob_521 f1 f6 f7 f13 f14 f15 f16 f47 f49)
          refine lv_aload_n hx hb dX9_bring_49 rfl (lv_at hl 0 rfl) ?_
          refine lv_iload_n hx hb dX9_bring_50 rfl (lv_at hl 2 rfl) ?_
          refine lv_iload_n hx hb dX9_bring_51 rfl (lv_at hl 1 rfl) ?_
          have hFc := frA hD hS hA
          refine va_calli (va_runV (As := [.int p1, .int p0]) (rest := []) ⟨hx, hb, hml, hown, hG⟩ (kX9_gladNow l dC dI r ct i_taped i_size i_faultKind i_at i_end i_token i_number i_bank i_rb i_codes i_within i_piled i_unitsInRule i_askHouse i_askTune x54 x55 i_laid i_knowns i_time f_text f_tunes f_houses f_hums f_told f_many f_ruleFrom f_ruleTo f_code f_eWhat f_eSign z92 f_kept z56 f_sTune f_boxAll J L p1 p0 H91.size ⟨im0, im1, im2, im3, im4, im5, im6, im7, im8, im9, im10, im11, im12, im13, im14, im15, im16, im75, im76, im77, im20, im21, im22, im23, im24, g93, im26, im85, im28, im29, im30⟩ (ob_108 f28 f29) (ob_135 f2 f28 f29) (ob_108 f14 f15) (ob_368 f15)) (cwV 2 hG (goodV gw1562 gw1564 gw94 gw138 gw1565) rfl rfl rfl hd_X9_gladNow ⟨(Nat.le_of_ble_eq_true rfl), (Nat.le_of_ble_eq_true rfl)⟩) ⟨fbW, va_recv hK hP (ci := 8) (q0 := 0) rfl rfl, pW_in hP hK hD⟩ rfl rfl hl.1 rfl (lv_room (Nat.le_of_ble_eq_true rfl)) dX9_bring_52 ⟨(Nat.le_of_ble_eq_true rfl), (Nat.le_of_ble_eq_true rfl)⟩) hS (fun q _ h => hFc q h) hFc (fun r_95 u_ t_ H94 locs ht hvm hw hB hz1 hk1 hS => ?_)
          subst hw
          obtain ⟨x96, x97, J98, hP1, hD1, hI100, f99⟩ := hB
          rw [ht] at hP1
          have hP := hP1
          have hD := dW hFc hD1
          obtain ⟨im101, im102, im103, im104, im105, im106, im107, im108, im109, im110, im111, im112, im113, im114, im115, im116, im117, im118, im119, im120, im121, im122, im123, im124, im125, im126, im127, im128, im129, im130, im131⟩ := id hI100
          rw [hQ]
          exact W.iret (v := r_95) hx hb hr (fun t ht hW => ⟨⟨r_95, r_95, rfl, rfl, ⟨x96, x97, x54, x55, z92, z56, J98, by rw [ht]; exact hP, hD, hI100⟩⟩, hS.F ht⟩) hS.2.2 dX9_bring_55
        · skip
          have f132 : 0 ≤ r_45.toInt := qi_nlt c_50 rfl zc_0
          refine lv_ldcw (v := (-1000000000)) hx hb hown (hG _ gw1601) dX9_bring_32 ?_
          rw [hQ]
          exact W.iret (v := (-1000000000)) hx hb hr (fun t ht hW => ⟨⟨(-1000000000), (-1000000000), rfl, rfl, ⟨i_askHouse, i_askTune, i_acts, i_undone, f_all, f_was, J, by rw [ht]; exact hP, hD, hI⟩⟩, hS.F ht⟩) hS.2.2 dX9_bring_35
set_option maxHeartbeats 4000000 in
set_option maxRecDepth 100000 in
theorem kX9_fetch (l : Launch) (dC : Nat → ClassId) (dI : Nat → Nat → Nat) (r : Nat → Nat) (ct : Nat → ClassId) (i_taped i_size i_faultKind i_at i_end i_token i_number i_bank i_rb i_codes i_within i_piled i_unitsInRule i_askHouse i_askTune i_acts i_undone i_laid i_knowns i_time : Int32) (f_text f_tunes f_houses f_hums f_told f_many f_ruleFrom f_ruleTo f_code f_eWhat f_eSign f_all f_kept f_was f_sTune f_boxAll : Nat → Int32) (J : Nat → Nat → Int32) (L : Nat → Nat → Int64) (p0 : Int32) (sz : Nat) (hI : (IM i_taped i_size i_at i_end i_bank i_rb i_acts i_undone i_laid i_knowns i_time f_tunes f_houses f_hums f_told f_many f_ruleFrom f_ruleTo f_code f_all f_kept f_was f_sTune f_boxAll)) : Met l yX9_fetch (.code yX9_fetch cX9_fetch 3 (some .int) :: GW) { frames := 6, cells := 0, slots := 0, locals := 223 } (va_Pc [.ref (r 0), .int p0] (pW (dC, dI) (WM r ct i_taped i_size i_faultKind i_at i_end i_token i_number i_bank i_rb i_codes i_within i_piled i_unitsInRule i_askHouse i_askTune i_acts i_undone i_laid i_knowns i_time f_text f_tunes f_houses f_hums f_told f_many f_ruleFrom f_ruleTo f_code f_eWhat f_eSign f_all f_kept f_was f_sTune f_boxAll J L) (TM ct) sz)) (va_Qi (fun (r0 : Int32) (u : Int32) => r0 = u) (fun (u : Int32) (t : State) => ∃ (n_i_acts n_i_undone : Int32) (n_f_all n_f_was : Nat → Int32), va_P (dC, dI) vwCl (WM r ct i_taped i_size i_faultKind i_at i_end i_token i_number i_bank i_rb i_codes i_within i_piled i_unitsInRule i_askHouse i_askTune n_i_acts n_i_undone i_laid i_knowns i_time f_text f_tunes f_houses f_hums f_told f_many f_ruleFrom f_ruleTo f_code f_eWhat f_eSign n_f_all f_kept n_f_was f_sTune f_boxAll J L) t.heap ∧ va_D (va_A (WM r ct i_taped i_size i_faultKind i_at i_end i_token i_number i_bank i_rb i_codes i_within i_piled i_unitsInRule i_askHouse i_askTune i_acts i_undone i_laid i_knowns i_time f_text f_tunes f_houses f_hums f_told f_many f_ruleFrom f_ruleTo f_code f_eWhat f_eSign f_all f_kept f_was f_sTune f_boxAll J L) sz) (WM r ct i_taped i_size i_faultKind i_at i_end i_token i_number i_bank i_rb i_codes i_within i_piled i_unitsInRule i_askHouse i_askTune n_i_acts n_i_undone i_laid i_knowns i_time f_text f_tunes f_houses f_hums f_told f_many f_ruleFrom f_ruleTo f_code f_eWhat f_eSign n_f_all f_kept n_f_was f_sTune f_boxAll J L) ∧ (IM i_taped i_size i_at i_end i_bank i_rb n_i_acts n_i_undone i_laid i_knowns i_time f_tunes f_houses f_hums f_told f_many f_ruleFrom f_ruleTo f_code n_f_all f_kept n_f_was f_sTune f_boxAll)) (va_A (WM r ct i_taped i_size i_faultKind i_at i_end i_token i_number i_bank i_rb i_codes i_within i_piled i_unitsInRule i_askHouse i_askTune i_acts i_undone i_laid i_knowns i_time f_text f_tunes f_houses f_hums f_told f_many f_ruleFrom f_ruleTo f_code f_eWhat f_eSign f_all f_kept f_was f_sTune f_boxAll J L) sz)) 0 0 (va_A (WM r ct i_taped i_size i_faultKind i_at i_end i_token i_number i_bank i_rb i_codes i_within i_piled i_unitsInRule i_askHouse i_askTune i_acts i_undone i_laid i_knowns i_time f_text f_tunes f_houses f_hums f_told f_many f_ruleFrom f_ruleTo f_code f_eWhat f_eSign f_all f_kept f_was f_sTune f_boxAll J L) sz) := by
  refine Met.ofW (cc := cX9_fetch) (maxL := 3) (ret := (some .int)) (by decide) rfl ?_
  intro p e s m args below meth c0 s₁ B hml hv
  obtain ⟨rfl, hsz, hP, hK, hD0⟩ := hv
  have hx := B.exec
  have hb := B.bytes
  have hr := B.returns
  have hts := atoms_spec (ws := .code yX9_fetch cX9_fetch 3 (some .int) :: GW) B.pre
  have hG : ∀ w ∈ GW, w.before _ s = true := fun w h => hts w (List.mem_cons_of_mem _ h)
  have hown : s.vm.findClass RX9 = some m.cls := findClass_of_methodNamed B.named
  subst hsz
  have hD := hD0.self (sz := s.heap.size)
  generalize hAe : va_A (WM r ct i_taped i_size i_faultKind i_at i_end i_token i_number i_bank i_rb i_codes i_within i_piled i_unitsInRule i_askHouse i_askTune i_acts i_undone i_laid i_knowns i_time f_text f_tunes f_houses f_hums f_told f_many f_ruleFrom f_ruleTo f_code f_eWhat f_eSign f_all f_kept f_was f_sTune f_boxAll J L) s.heap.size = A at hD ⊢
  have hA : ∀ q : Nat, s.heap.size ≤ q → A q := fun q h => by rw [← hAe]; exact Or.inr h
  have hS : va_S A s.heap s.heap [] := va_S.rf
  have hP : va_P (dC, dI) vwCl (WM r ct i_taped i_size i_faultKind i_at i_end i_token i_number i_bank i_rb i_codes i_within i_piled i_unitsInRule i_askHouse i_askTune i_acts i_undone i_laid i_knowns i_time f_text f_tunes f_houses f_hums f_told f_many f_ruleFrom f_ruleTo f_code f_eWhat f_eSign f_all f_kept f_was f_sTune f_boxAll J L) s.heap := hP
  have hl := lv_entry ([.ref (r 0), .int p0]) (n := 3) (Nat.le_of_ble_eq_true rfl)
  rw [lg_entry_eq]
  generalize (lg_sl ([.ref (r 0), .int p0]) ++ List.replicate (3 - (lg_sl ([.ref (r 0), .int p0])).length) Slot.unset).toArray = ls at hl ⊢
  have hl : lv_has ls 3 [(0, .ref (r 0)), (1, .int p0)] := hl
  refine nameQ (fun Q hQ => ?_)
  obtain ⟨im0, im1, im2, im3, im4, im5, im6, im7, im8, im9, im10, im11, im12, im13, im14, im15, im16, im17, im18, im19, im20, im21, im22, im23, im24, im25, im26, im27, im28, im29, im30⟩ := id hI
  have f1 : 0 ≤ (f_tunes (i_bank.toInt).toNat).toInt ∧ (f_tunes (i_bank.toInt).toNat).toInt ≤ 5 := im20 (i_bank.toInt)
  have f2 : 0 ≤ (f_houses (i_bank.toInt).toNat).toInt ∧ (f_houses (i_bank.toInt).toNat).toInt ≤ 4 := im21 (i_bank.toInt)
  refine lv_aload_n hx hb dX9_fetch_0 rfl (lv_at hl 0 rfl) ?_
  refine lv_iload_n hx hb dX9_fetch_1 rfl (lv_at hl 1 rfl) ?_
  refine va_calli (va_runV (As := [.int p0]) (rest := []) ⟨hx, hb, hml, hown, hG⟩ (kX9_isTune l dC dI r ct i_taped i_size i_faultKind i_at i_end i_token i_number i_bank i_rb i_codes i_within i_piled i_unitsInRule i_askHouse i_askTune i_acts i_undone i_laid i_knowns i_time f_text f_tunes f_houses f_hums f_told f_many f_ruleFrom f_ruleTo f_code f_eWhat f_eSign f_all f_kept f_was f_sTune f_boxAll J L p0 s.heap.size hI) (cwV 1 hG (goodV gw1508 gw1510 gw85 gw138 gw1511) rfl rfl rfl hd_X9_isTune ⟨(Nat.le_of_ble_eq_true rfl), (Nat.le_of_ble_eq_true rfl)⟩) ⟨fbR, va_recv hK hP (ci := 8) (q0 := 0) rfl rfl, pR_in hP hK⟩ rfl rfl hl.1 rfl (lv_room (Nat.le_of_ble_eq_true rfl)) dX9_fetch_2 ⟨(Nat.le_of_ble_eq_true rfl), (Nat.le_of_ble_eq_true rfl)⟩) hS (fun q hq h => absurd hq (Nat.not_lt.mpr h)) (fun q h => hA q (Nat.le_trans hS.1 h)) (fun r_4 u_ t_ H3 locs ht hvm hw hB hz1 hk1 hS => ?_)
  subst hw
  have hP := wk hP hk1
  obtain ⟨f5, f6, f7, f8, f9⟩ := hB
  refine lv_if_eq (tgt := 16) hx hb dX9_fetch_5 (by decide) (fun c_10 => ?_) (fun c_10 => ?_)
  · skip
    have f11 : r_4.toInt = 0 := qi_eq c_10 rfl zc_0
    refine lv_iconst (v := (-1)) hx hb dX9_fetch_16 (by decide) ?_
    rw [hQ]
    exact W.iret (v := (-1)) hx hb hr (fun t ht hW => ⟨⟨(-1), (-1), rfl, rfl, ⟨i_acts, i_undone, f_all, f_was, by rw [ht]; exact hP, hD, hI⟩⟩, hS.F ht⟩) hS.2.2 dX9_fetch_17
  · skip
    have f12 : r_4.toInt ≠ 0 := qi_ne c_10 rfl zc_0
    have f13 : 1 ≤ r_4.toInt := (ob_399 f5 f12)
    have f14 : 0 ≤ p0.toInt := (ob_400 f5 f12)
    have f15 : p0.toInt + 1 ≤ (f_tunes (i_bank.toInt).toNat).toInt := (ob_401 f5 f12)
    have f16 : r_4.toInt = 1 := (ob_402 f7 f13)
    refine lv_aload_n hx hb dX9_fetch_8 rfl (lv_at hl 0 rfl) ?_
    refine lv_iload_n hx hb dX9_fetch_9 rfl (lv_at hl 1 rfl) ?_
    refine va_calli (va_runV (As := [.int p0]) (rest := []) ⟨hx, hb, hml, hown, hG⟩ (kX9_isTried l dC dI r ct i_taped i_size i_faultKind i_at i_end i_token i_number i_bank i_rb i_codes i_within i_piled i_unitsInRule i_askHouse i_askTune i_acts i_undone i_laid i_knowns i_time f_text f_tunes f_houses f_hums f_told f_many f_ruleFrom f_ruleTo f_code f_eWhat f_eSign f_all f_kept f_was f_sTune f_boxAll J L p0 H3.size hI (ob_108 f14 f15) (ob_109 f1 f14 f15)) (cwV 1 hG (goodV gw1668 gw1670 gw106 gw138 gw1671) rfl rfl rfl hd_X9_isTried ⟨(Nat.le_of_ble_eq_true rfl), (Nat.le_of_ble_eq_true rfl)⟩) ⟨fbR, va_recv hK hP (ci := 8) (q0 := 0) rfl rfl, pR_in hP hK⟩ rfl rfl hl.1 rfl (lv_room (Nat.le_of_ble_eq_true rfl)) dX9_fetch_10 ⟨(Nat.le_of_ble_eq_true rfl), (Nat.le_of_ble_eq_true rfl)⟩) hS (fun q hq h => absurd hq (Nat.not_lt.mpr h)) (fun q h => hA q (Nat.le_trans hS.1 h)) (fun r_18 u_ t_ H17 locs ht hvm hw hB hz1 hk1 hS => ?_)
    subst hw
    have hP := wk hP hk1
    obtain ⟨f19, f20, f21⟩ := hB
    refine lv_if_ne (tgt := 18) hx hb dX9_fetch_13 (by decide) (fun c_22 => ?_) (fun c_22 => ?_)
    · skip
      have f23 : r_18.toInt ≠ 0 := qi_ne c_22 rfl zc_0
      have f24 : 1 ≤ r_18.toInt := (ob_465 f19 f23)
      have f25 : 0 ≤ (f_all (p0.toInt).toNat).toInt := (ob_466 f19 f23)
      have f26 : (f_all (p0.toInt + 5).toNat).toInt = 0 := (ob_467 f19 f23)
      have f27 : r_18.toInt = 1 := (ob_167 f20 f21 f24)
      refine lv_aload_n hx hb dX9_fetch_18 rfl (lv_at hl 0 rfl) ?_
      have hFc := frA hD hS hA
      refine va_callv (va_runV (As := []) (rest := []) ⟨hx, hb, hml, hown, hG⟩ (kX9_keepAct l dC dI r ct i_taped i_size i_faultKind i_at i_end i_token i_number i_bank i_rb i_codes i_within i_piled i_unitsInRule i_askHouse i_askTune i_acts i_undone i_laid i_knowns i_time f_text f_tunes f_houses f_hums f_told f_many f_ruleFrom f_ruleTo f_code f_eWhat f_eSign f_all f_kept f_was f_sTune f_boxAll J L H17.size hI) (cwV 0 hG (goodV gw1684 gw1686 gw107 gw138 gw1687) rfl rfl rfl hd_X9_keepAct ⟨(Nat.le_of_ble_eq_true rfl), (Nat.le_of_ble_eq_true rfl)⟩) ⟨fbW, va_recv hK hP (ci := 8) (q0 := 0) rfl rfl, pW_in hP hK hD⟩ rfl rfl hl.1 rfl (lv_room (Nat.le_of_ble_eq_true rfl)) dX9_fetch_19 ⟨(Nat.le_of_ble_eq_true rfl), (Nat.le_of_ble_eq_true rfl)⟩) hS (fun q _ h => hFc q h) hFc (fun _ t_ H28 locs ht hvm hw hB hz1 hk1 hS => ?_)
      obtain ⟨x30, x31, z32, hP1, hD1, hI33⟩ := hB
      rw [ht] at hP1
      have hP := hP1
      have hD := dW hFc hD1
      obtain ⟨im34, im35, im36, im37, im38, im39, im40, im41, im42, im43, im44, im45, im46, im47, im48, im49, im50, im51, im52, im53, im54, im55, im56, im57, im58, im59, im60, im61, im62, im63, im64⟩ := id hI33
      refine lv_aload_n hx hb dX9_fetch_22 rfl (lv_at hl 0 rfl) ?_
      refine gM_X9_88_0 hx hb hG hown hK hP dX9_fetch_23 ?_
      refine lv_iconst (v := 0) hx hb dX9_fetch_26 (by decide) ?_
      refine lv_iload_n hx hb dX9_fetch_27 rfl (lv_at hl 1 rfl) ?_
      refine lv_iadd hx hb dX9_fetch_28 ?_
      refine lv_topi (fun x65 ex65 => ?_)
      have f66 : x65.toInt = p0.toInt := (ob_311 (qi_add ex65 zc_0 rfl (ob_335 f14 f15) (ob_405 f1 f15)))
      refine ldM_25 (mm := p0.toInt) hx hb hK hP f66 (ob_108 f14 f15) (ob_406 f1 f15) dX9_fetch_29 ?_
      refine lv_istore_n (lv' := [(2, .int (f_all (p0.toInt).toNat)), (0, .ref (r 0)), (1, .int p0)]) hx hb dX9_fetch_30 rfl hl (by decide) rfl (fun ls hl => ?_)
      refine lv_aload_n hx hb dX9_fetch_31 rfl (lv_at hl 1 rfl) ?_
      refine lv_iload_n hx hb dX9_fetch_32 rfl (lv_at hl 2 rfl) ?_
      have hFc := frA hD hS hA
      refine va_callv (va_runV (As := [.int p0]) (rest := []) ⟨hx, hb, hml, hown, hG⟩ (kX9_toCart l dC dI r ct i_taped i_size i_faultKind i_at i_end i_token i_number i_bank i_rb i_codes i_within i_piled i_unitsInRule i_askHouse i_askTune x30 x31 i_laid i_knowns i_time f_text f_tunes f_houses f_hums f_told f_many f_ruleFrom f_ruleTo f_code f_eWhat f_eSign f_all f_kept z32 f_sTune f_boxAll J L p0 H28.size hI33 (ob_108 f14 f15) (ob_109 f1 f14 f15)) (cwV 1 hG (goodV gw1696 gw1698 gw110 gw138 gw1699) rfl rfl rfl hd_X9_toCart ⟨(Nat.le_of_ble_eq_true rfl), (Nat.le_of_ble_eq_true rfl)⟩) ⟨fbW, va_recv hK hP (ci := 8) (q0 := 0) rfl rfl, pW_in hP hK hD⟩ rfl rfl hl.1 rfl (lv_room (Nat.le_of_ble_eq_true rfl)) dX9_fetch_33 ⟨(Nat.le_of_ble_eq_true rfl), (Nat.le_of_ble_eq_true rfl)⟩) hS (fun q _ h => hFc q h) hFc (fun _ t_ H67 locs ht hvm hw hB hz1 hk1 hS => ?_)
      obtain ⟨z69, hP1, hD1, hI70⟩ := hB
      rw [ht] at hP1
      have hP := hP1
      have hD := dW hFc hD1
      obtain ⟨im71, im72, im73, im74, im75, im76, im77, im78, im79, im80, im81, im82, im83, im84, im85, im86, im87, im88, im89, im90, im91, im92, im93, im94, im95, im96, im97, im98, im99, im100, im101⟩ := id hI70
      refine lv_iload_n hx hb dX9_fetch_36 rfl (lv_at hl 0 rfl) ?_
      rw [hQ]
      exact W.iret (v := (f_all (p0.toInt).toNat)) hx hb hr (fun t ht hW => ⟨⟨(f_all (p0.toInt).toNat), (f_all (p0.toInt).toNat), rfl, rfl, ⟨x30, x31, z69, z32, by rw [ht]; exact hP, hD, hI70⟩⟩, hS.F ht⟩) hS.2.2 dX9_fetch_37
    · skip
      have f102 : r_18.toInt = 0 := qi_eq c_22 rfl zc_0
      refine lv_iconst (v := (-1)) hx hb dX9_fetch_16 (by decide) ?_
      rw [hQ]
      exact W.iret (v := (-1)) hx hb hr (fun t ht hW => ⟨⟨(-1), (-1), rfl, rfl, ⟨i_acts, i_undone, f_all, f_was, by rw [ht]; exact hP, hD, hI⟩⟩, hS.F ht⟩) hS.2.2 dX9_fetch_17
set_option maxHeartbeats 4000000 in
set_option maxRecDepth 100000 in
theorem kX9_give (l : Launch) (dC : Nat → ClassId) (dI : Nat → Nat → Nat) (r : Nat → Nat) (ct : Nat → ClassId) (i_taped i_size i_faultKind i_at i_end i_token i_number i_bank i_rb i_codes i_within i_piled i_unitsInRule i_askHouse i_askTune i_acts i_undone i_laid i_knowns i_time : Int32) (f_text f_tunes f_houses f_hums f_told f_many f_ruleFrom f_ruleTo f_code f_eWhat f_eSign f_all f_kept f_was f_sTune f_boxAll : Nat → Int32) (J : Nat → Nat → Int32) (L : Nat → Nat → Int64) (p0 : Int32) (sz : Nat) (hI : (IM i_taped i_size i_at i_end i_bank i_rb i_acts i_undone i_laid i_knowns i_time f_tunes f_houses f_hums f_told f_many f_ruleFrom f_ruleTo f_code f_all f_kept f_was f_sTune f_boxAll)) : Met l yX9_give (.code yX9_give cX9_give 3 (some .int) :: GW) { frames := 6, cells := 0, slots := 0, locals := 223 } (va_Pc [.ref (r 0), .int p0] (pW (dC, dI) (WM r ct i_taped i_size i_faultKind i_at i_end i_token i_number i_bank i_rb i_codes i_within i_piled i_unitsInRule i_askHouse i_askTune i_acts i_undone i_laid i_knowns i_time f_text f_tunes f_houses f_hums f_told f_many f_ruleFrom f_ruleTo f_code f_eWhat f_eSign f_all f_kept f_was f_sTune f_boxAll J L) (TM ct) sz)) (va_Qi (fun (r0 : Int32) (u : Int32) => r0 = u) (fun (u : Int32) (t : State) => ∃ (n_i_acts n_i_undone : Int32) (n_f_all n_f_was : Nat → Int32), va_P (dC, dI) vwCl (WM r ct i_taped i_size i_faultKind i_at i_end i_token i_number i_bank i_rb i_codes i_within i_piled i_unitsInRule i_askHouse i_askTune n_i_acts n_i_undone i_laid i_knowns i_time f_text f_tunes f_houses f_hums f_told f_many f_ruleFrom f_ruleTo f_code f_eWhat f_eSign n_f_all f_kept n_f_was f_sTune f_boxAll J L) t.heap ∧ va_D (va_A (WM r ct i_taped i_size i_faultKind i_at i_end i_token i_number i_bank i_rb i_codes i_within i_piled i_unitsInRule i_askHouse i_askTune i_acts i_undone i_laid i_knowns i_time f_text f_tunes f_houses f_hums f_told f_many f_ruleFrom f_ruleTo f_code f_eWhat f_eSign f_all f_kept f_was f_sTune f_boxAll J L) sz) (WM r ct i_taped i_size i_faultKind i_at i_end i_token i_number i_bank i_rb i_codes i_within i_piled i_unitsInRule i_askHouse i_askTune n_i_acts n_i_undone i_laid i_knowns i_time f_text f_tunes f_houses f_hums f_told f_many f_ruleFrom f_ruleTo f_code f_eWhat f_eSign n_f_all f_kept n_f_was f_sTune f_boxAll J L) ∧ (IM i_taped i_size i_at i_end i_bank i_rb n_i_acts n_i_undone i_laid i_knowns i_time f_tunes f_houses f_hums f_told f_many f_ruleFrom f_ruleTo f_code n_f_all f_kept n_f_was f_sTune f_boxAll)) (va_A (WM r ct i_taped i_size i_faultKind i_at i_end i_token i_number i_bank i_rb i_codes i_within i_piled i_unitsInRule i_askHouse i_askTune i_acts i_undone i_laid i_knowns i_time f_text f_tunes f_houses f_hums f_told f_many f_ruleFrom f_ruleTo f_code f_eWhat f_eSign f_all f_kept f_was f_sTune f_boxAll J L) sz)) 0 0 (va_A (WM r ct i_taped i_size i_faultKind i_at i_end i_token i_number i_bank i_rb i_codes i_within i_piled i_unitsInRule i_askHouse i_askTune i_acts i_undone i_laid i_knowns i_time f_text f_tunes f_houses f_hums f_told f_many f_ruleFrom f_ruleTo f_code f_eWhat f_eSign f_all f_kept f_was f_sTune f_boxAll J L) sz) := by
  refine Met.ofW (cc := cX9_give) (maxL := 3) (ret := (some .int)) (by decide) rfl ?_
  intro p e s m args below meth c0 s₁ B hml hv
  obtain ⟨rfl, hsz, hP, hK, hD0⟩ := hv
  have hx := B.exec
  have hb := B.bytes
  have hr := B.returns
  have hts := atoms_spec (ws := .code yX9_give cX9_give 3 (some .int) :: GW) B.pre
  have hG : ∀ w ∈ GW, w.before _ s = true := fun w h => hts w (List.mem_cons_of_mem _ h)
  have hown : s.vm.findClass RX9 = some m.cls := findClass_of_methodNamed B.named
  subst hsz
  have hD := hD0.self (sz := s.heap.size)
  generalize hAe : va_A (WM r ct i_taped i_size i_faultKind i_at i_end i_token i_number i_bank i_rb i_codes i_within i_piled i_unitsInRule i_askHouse i_askTune i_acts i_undone i_laid i_knowns i_time f_text f_tunes f_houses f_hums f_told f_many f_ruleFrom f_ruleTo f_code f_eWhat f_eSign f_all f_kept f_was f_sTune f_boxAll J L) s.heap.size = A at hD ⊢
  have hA : ∀ q : Nat, s.heap.size ≤ q → A q := fun q h => by rw [← hAe]; exact Or.inr h
  have hS : va_S A s.heap s.heap [] := va_S.rf
  have hP : va_P (dC, dI) vwCl (WM r ct i_taped i_size i_faultKind i_at i_end i_token i_number i_bank i_rb i_codes i_within i_piled i_unitsInRule i_askHouse i_askTune i_acts i_undone i_laid i_knowns i_time f_text f_tunes f_houses f_hums f_told f_many f_ruleFrom f_ruleTo f_code f_eWhat f_eSign f_all f_kept f_was f_sTune f_boxAll J L) s.heap := hP
  have hl := lv_entry ([.ref (r 0), .int p0]) (n := 3) (Nat.le_of_ble_eq_true rfl)
  rw [lg_entry_eq]
  generalize (lg_sl ([.ref (r 0), .int p0]) ++ List.replicate (3 - (lg_sl ([.ref (r 0), .int p0])).length) Slot.unset).toArray = ls at hl ⊢
  have hl : lv_has ls 3 [(0, .ref (r 0)), (1, .int p0)] := hl
  refine nameQ (fun Q hQ => ?_)
  obtain ⟨im0, im1, im2, im3, im4, im5, im6, im7, im8, im9, im10, im11, im12, im13, im14, im15, im16, im17, im18, im19, im20, im21, im22, im23, im24, im25, im26, im27, im28, im29, im30⟩ := id hI
  have f1 : 0 ≤ (f_tunes (i_bank.toInt).toNat).toInt ∧ (f_tunes (i_bank.toInt).toNat).toInt ≤ 5 := im20 (i_bank.toInt)
  have f2 : 0 ≤ (f_houses (i_bank.toInt).toNat).toInt ∧ (f_houses (i_bank.toInt).toNat).toInt ≤ 4 := im21 (i_bank.toInt)
  refine lv_aload_n hx hb dX9_give_0 rfl (lv_at hl 0 rfl) ?_
  refine lv_iload_n hx hb dX9_give_1 rfl (lv_at hl 1 rfl) ?_
  refine va_calli (va_runV (As := [.int p0]) (rest := []) ⟨hx, hb, hml, hown, hG⟩ (kX9_isTune l dC dI r ct i_taped i_size i_faultKind i_at i_end i_token i_number i_bank i_rb i_codes i_within i_piled i_unitsInRule i_askHouse i_askTune i_acts i_undone i_laid i_knowns i_time f_text f_tunes f_houses f_hums f_told f_many f_ruleFrom f_ruleTo f_code f_eWhat f_eSign f_all f_kept f_was f_sTune f_boxAll J L p0 s.heap.size hI) (cwV 1 hG (goodV gw1508 gw1510 gw85 gw138 gw1511) rfl rfl rfl hd_X9_isTune ⟨(Nat.le_of_ble_eq_true rfl), (Nat.le_of_ble_eq_true rfl)⟩) ⟨fbR, va_recv hK hP (ci := 8) (q0 := 0) rfl rfl, pR_in hP hK⟩ rfl rfl hl.1 rfl (lv_room (Nat.le_of_ble_eq_true rfl)) dX9_give_2 ⟨(Nat.le_of_ble_eq_true rfl), (Nat.le_of_ble_eq_true rfl)⟩) hS (fun q hq h => absurd hq (Nat.not_lt.mpr h)) (fun q h => hA q (Nat.le_trans hS.1 h)) (fun r_4 u_ t_ H3 locs ht hvm hw hB hz1 hk1 hS => ?_)
  subst hw
  have hP := wk hP hk1
  obtain ⟨f5, f6, f7, f8, f9⟩ := hB
  refine lv_if_eq (tgt := 19) hx hb dX9_give_5 (by decide) (fun c_10 => ?_) (fun c_10 => ?_)
  · skip
    have f11 : r_4.toInt = 0 := qi_eq c_10 rfl zc_0
    refine lv_iconst (v := (-1)) hx hb dX9_give_19 (by decide) ?_
    rw [hQ]
    exact W.iret (v := (-1)) hx hb hr (fun t ht hW => ⟨⟨(-1), (-1), rfl, rfl, ⟨i_acts, i_undone, f_all, f_was, by rw [ht]; exact hP, hD, hI⟩⟩, hS.F ht⟩) hS.2.2 dX9_give_20
  · skip
    have f12 : r_4.toInt ≠ 0 := qi_ne c_10 rfl zc_0
    have f13 : 1 ≤ r_4.toInt := (ob_399 f5 f12)
    have f14 : 0 ≤ p0.toInt := (ob_400 f5 f12)
    have f15 : p0.toInt + 1 ≤ (f_tunes (i_bank.toInt).toNat).toInt := (ob_401 f5 f12)
    have f16 : r_4.toInt = 1 := (ob_402 f7 f13)
    refine lv_aload_n hx hb dX9_give_8 rfl (lv_at hl 0 rfl) ?_
    refine gM_X9_88_0 hx hb hG hown hK hP dX9_give_9 ?_
    refine lv_iconst (v := 5) hx hb dX9_give_12 (by decide) ?_
    refine lv_iload_n hx hb dX9_give_13 rfl (lv_at hl 1 rfl) ?_
    refine lv_iadd hx hb dX9_give_14 ?_
    refine lv_topi (fun x17 ex17 => ?_)
    have f18 : x17.toInt = p0.toInt + 5 := (ob_343 (qi_add ex17 zc_5 rfl (ob_341 f14 f15) (ob_407 f1 f15)))
    refine ldM_25 (mm := p0.toInt + 5) hx hb hK hP f18 (ob_344 f14 f15) (ob_408 f1 f15) dX9_give_15 ?_
    refine lv_if_ne (tgt := 21) hx hb dX9_give_16 (by decide) (fun c_19 => ?_) (fun c_19 => ?_)
    · skip
      have f20 : (f_all (p0.toInt + 5).toNat).toInt ≠ 0 := qi_ne c_19 rfl zc_0
      refine lv_aload_n hx hb dX9_give_21 rfl (lv_at hl 0 rfl) ?_
      have hFc := frA hD hS hA
      refine va_callv (va_runV (As := []) (rest := []) ⟨hx, hb, hml, hown, hG⟩ (kX9_keepAct l dC dI r ct i_taped i_size i_faultKind i_at i_end i_token i_number i_bank i_rb i_codes i_within i_piled i_unitsInRule i_askHouse i_askTune i_acts i_undone i_laid i_knowns i_time f_text f_tunes f_houses f_hums f_told f_many f_ruleFrom f_ruleTo f_code f_eWhat f_eSign f_all f_kept f_was f_sTune f_boxAll J L H3.size hI) (cwV 0 hG (goodV gw1684 gw1686 gw107 gw138 gw1687) rfl rfl rfl hd_X9_keepAct ⟨(Nat.le_of_ble_eq_true rfl), (Nat.le_of_ble_eq_true rfl)⟩) ⟨fbW, va_recv hK hP (ci := 8) (q0 := 0) rfl rfl, pW_in hP hK hD⟩ rfl rfl hl.1 rfl (lv_room (Nat.le_of_ble_eq_true rfl)) dX9_give_22 ⟨(Nat.le_of_ble_eq_true rfl), (Nat.le_of_ble_eq_true rfl)⟩) hS (fun q _ h => hFc q h) hFc (fun _ t_ H21 locs ht hvm hw hB hz1 hk1 hS => ?_)
      obtain ⟨x23, x24, z25, hP1, hD1, hI26⟩ := hB
      rw [ht] at hP1
      have hP := hP1
      have hD := dW hFc hD1
      obtain ⟨im27, im28, im29, im30, im31, im32, im33, im34, im35, im36, im37, im38, im39, im40, im41, im42, im43, im44, im45, im46, im47, im48, im49, im50, im51, im52, im53, im54, im55, im56, im57⟩ := id hI26
      refine lv_aload_n hx hb dX9_give_25 rfl (lv_at hl 0 rfl) ?_
      refine gM_X9_88_0 hx hb hG hown hK hP dX9_give_26 ?_
      refine lv_iconst (v := 0) hx hb dX9_give_29 (by decide) ?_
      refine lv_iload_n hx hb dX9_give_30 rfl (lv_at hl 1 rfl) ?_
      refine lv_iadd hx hb dX9_give_31 ?_
      refine lv_topi (fun x58 ex58 => ?_)
      have f59 : x58.toInt = p0.toInt := (ob_311 (qi_add ex58 zc_0 rfl (ob_335 f14 f15) (ob_405 f1 f15)))
      refine ldM_25 (mm := p0.toInt) hx hb hK hP f59 (ob_108 f14 f15) (ob_406 f1 f15) dX9_give_32 ?_
      refine lv_istore_n (lv' := [(2, .int (f_all (p0.toInt).toNat)), (0, .ref (r 0)), (1, .int p0)]) hx hb dX9_give_33 rfl hl (by decide) rfl (fun ls hl => ?_)
      refine lv_aload_n hx hb dX9_give_34 rfl (lv_at hl 1 rfl) ?_
      refine lv_iload_n hx hb dX9_give_35 rfl (lv_at hl 2 rfl) ?_
      have hFc := frA hD hS hA
      refine va_callv (va_runV (As := [.int p0]) (rest := []) ⟨hx, hb, hml, hown, hG⟩ (kX9_toCart l dC dI r ct i_taped i_size i_faultKind i_at i_end i_token i_number i_bank i_rb i_codes i_within i_piled i_unitsInRule i_askHouse i_askTune x23 x24 i_laid i_knowns i_time f_text f_tunes f_houses f_hums f_told f_many f_ruleFrom f_ruleTo f_code f_eWhat f_eSign f_all f_kept z25 f_sTune f_boxAll J L p0 H21.size hI26 (ob_108 f14 f15) (ob_109 f1 f14 f15)) (cwV 1 hG (goodV gw1696 gw1698 gw110 gw138 gw1699) rfl rfl rfl hd_X9_toCart ⟨(Nat.le_of_ble_eq_true rfl), (Nat.le_of_ble_eq_true rfl)⟩) ⟨fbW, va_recv hK hP (ci := 8) (q0 := 0) rfl rfl, pW_in hP hK hD⟩ rfl rfl hl.1 rfl (lv_room (Nat.le_of_ble_eq_true rfl)) dX9_give_36 ⟨(Nat.le_of_ble_eq_true rfl), (Nat.le_of_ble_eq_true rfl)⟩) hS (fun q _ h => hFc q h) hFc (fun _ t_ H60 locs ht hvm hw hB hz1 hk1 hS => ?_)
      obtain ⟨z62, hP1, hD1, hI63⟩ := hB
      rw [ht] at hP1
      have hP := hP1
      have hD := dW hFc hD1
      obtain ⟨im64, im65, im66, im67, im68, im69, im70, im71, im72, im73, im74, im75, im76, im77, im78, im79, im80, im81, im82, im83, im84, im85, im86, im87, im88, im89, im90, im91, im92, im93, im94⟩ := id hI63
      refine lv_iload_n hx hb dX9_give_39 rfl (lv_at hl 0 rfl) ?_
      rw [hQ]
      exact W.iret (v := (f_all (p0.toInt).toNat)) hx hb hr (fun t ht hW => ⟨⟨(f_all (p0.toInt).toNat), (f_all (p0.toInt).toNat), rfl, rfl, ⟨x23, x24, z62, z25, by rw [ht]; exact hP, hD, hI63⟩⟩, hS.F ht⟩) hS.2.2 dX9_give_40
    · skip
      have f95 : (f_all (p0.toInt + 5).toNat).toInt = 0 := qi_eq c_19 rfl zc_0
      refine lv_iconst (v := (-1)) hx hb dX9_give_19 (by decide) ?_
      rw [hQ]
      exact W.iret (v := (-1)) hx hb hr (fun t ht hW => ⟨⟨(-1), (-1), rfl, rfl, ⟨i_acts, i_undone, f_all, f_was, by rw [ht]; exact hP, hD, hI⟩⟩, hS.F ht⟩) hS.2.2 dX9_give_20
set_option maxHeartbeats 4000000 in
set_option maxRecDepth 100000 in
theorem kX9_fill (l : Launch) (dC : Nat → ClassId) (dI : Nat → Nat → Nat) (r : Nat → Nat) (ct : Nat → ClassId) (i_taped i_size i_faultKind i_at i_end i_token i_number i_bank i_rb i_codes i_within i_piled i_unitsInRule i_askHouse i_askTune i_acts i_undone i_laid i_knowns i_time : Int32) (f_text f_tunes f_houses f_hums f_told f_many f_ruleFrom f_ruleTo f_code f_eWhat f_eSign f_all f_kept f_was f_sTune f_boxAll : Nat → Int32) (J : Nat → Nat → Int32) (L : Nat → Nat → Int64) (p0 p1 : Int32) (sz : Nat) (hI : (IM i_taped i_size i_at i_end i_bank i_rb i_acts i_undone i_laid i_knowns i_time f_tunes f_houses f_hums f_told f_many f_ruleFrom f_ruleTo f_code f_all f_kept f_was f_sTune f_boxAll)) : Met l yX9_fill (.code yX9_fill cX9_fill 3 (some .int) :: GW) { frames := 6, cells := 0, slots := 0, locals := 223 } (va_Pc [.ref (r 0), .int p0, .int p1] (pW (dC, dI) (WM r ct i_taped i_size i_faultKind i_at i_end i_token i_number i_bank i_rb i_codes i_within i_piled i_unitsInRule i_askHouse i_askTune i_acts i_undone i_laid i_knowns i_time f_text f_tunes f_houses f_hums f_told f_many f_ruleFrom f_ruleTo f_code f_eWhat f_eSign f_all f_kept f_was f_sTune f_boxAll J L) (TM ct) sz)) (va_Qi (fun (r0 : Int32) (u : Int32) => r0 = u) (fun (u : Int32) (t : State) => ∃ (n_i_acts n_i_undone : Int32) (n_f_all n_f_was : Nat → Int32), va_P (dC, dI) vwCl (WM r ct i_taped i_size i_faultKind i_at i_end i_token i_number i_bank i_rb i_codes i_within i_piled i_unitsInRule i_askHouse i_askTune n_i_acts n_i_undone i_laid i_knowns i_time f_text f_tunes f_houses f_hums f_told f_many f_ruleFrom f_ruleTo f_code f_eWhat f_eSign n_f_all f_kept n_f_was f_sTune f_boxAll J L) t.heap ∧ va_D (va_A (WM r ct i_taped i_size i_faultKind i_at i_end i_token i_number i_bank i_rb i_codes i_within i_piled i_unitsInRule i_askHouse i_askTune i_acts i_undone i_laid i_knowns i_time f_text f_tunes f_houses f_hums f_told f_many f_ruleFrom f_ruleTo f_code f_eWhat f_eSign f_all f_kept f_was f_sTune f_boxAll J L) sz) (WM r ct i_taped i_size i_faultKind i_at i_end i_token i_number i_bank i_rb i_codes i_within i_piled i_unitsInRule i_askHouse i_askTune n_i_acts n_i_undone i_laid i_knowns i_time f_text f_tunes f_houses f_hums f_told f_many f_ruleFrom f_ruleTo f_code f_eWhat f_eSign n_f_all f_kept n_f_was f_sTune f_boxAll J L) ∧ (IM i_taped i_size i_at i_end i_bank i_rb n_i_acts n_i_undone i_laid i_knowns i_time f_tunes f_houses f_hums f_told f_many f_ruleFrom f_ruleTo f_code n_f_all f_kept n_f_was f_sTune f_boxAll)) (va_A (WM r ct i_taped i_size i_faultKind i_at i_end i_token i_number i_bank i_rb i_codes i_within i_piled i_unitsInRule i_askHouse i_askTune i_acts i_undone i_laid i_knowns i_time f_text f_tunes f_houses f_hums f_told f_many f_ruleFrom f_ruleTo f_code f_eWhat f_eSign f_all f_kept f_was f_sTune f_boxAll J L) sz)) 0 0 (va_A (WM r ct i_taped i_size i_faultKind i_at i_end i_token i_number i_bank i_rb i_codes i_within i_piled i_unitsInRule i_askHouse i_askTune i_acts i_undone i_laid i_knowns i_time f_text f_tunes f_houses f_hums f_told f_many f_ruleFrom f_ruleTo f_code f_eWhat f_eSign f_all f_kept f_was f_sTune f_boxAll J L) sz) := by
  refine Met.ofW (cc := cX9_fill) (maxL := 3) (ret := (some .int)) (by decide) rfl ?_
  intro p e s m args below meth c0 s₁ B hml hv
  obtain ⟨rfl, hsz, hP, hK, hD0⟩ := hv
  have hx := B.exec
  have hb := B.bytes
  have hr := B.returns
  have hts := atoms_spec (ws := .code yX9_fill cX9_fill 3 (some .int) :: GW) B.pre
  have hG : ∀ w ∈ GW, w.before _ s = true := fun w h => hts w (List.mem_cons_of_mem _ h)
  have hown : s.vm.findClass RX9 = some m.cls := findClass_of_methodNamed B.named
  subst hsz
  have hD := hD0.self (sz := s.heap.size)
  generalize hAe : va_A (WM r ct i_taped i_size i_faultKind i_at i_end i_token i_number i_bank i_rb i_codes i_within i_piled i_unitsInRule i_askHouse i_askTune i_acts i_undone i_laid i_knowns i_time f_text f_tunes f_houses f_hums f_told f_many f_ruleFrom f_ruleTo f_code f_eWhat f_eSign f_all f_kept f_was f_sTune f_boxAll J L) s.heap.size = A at hD ⊢
  have hA : ∀ q : Nat, s.heap.size ≤ q → A q := fun q h => by rw [← hAe]; exact Or.inr h
  have hS : va_S A s.heap s.heap [] := va_S.rf
  have hP : va_P (dC, dI) vwCl (WM r ct i_taped i_size i_faultKind i_at i_end i_token i_number i_bank i_rb i_codes i_within i_piled i_unitsInRule i_askHouse i_askTune i_acts i_undone i_laid i_knowns i_time f_text f_tunes f_houses f_hums f_told f_many f_ruleFrom f_ruleTo f_code f_eWhat f_eSign f_all f_kept f_was f_sTune f_boxAll J L) s.heap := hP
  have hl := lv_entry ([.ref (r 0), .int p0, .int p1]) (n := 3) (Nat.le_of_ble_eq_true rfl)
  rw [lg_entry_eq]
  generalize (lg_sl ([.ref (r 0), .int p0, .int p1]) ++ List.replicate (3 - (lg_sl ([.ref (r 0), .int p0, .int p1])).length) Slot.unset).toArray = ls at hl ⊢
  have hl : lv_has ls 3 [(0, .ref (r 0)), (1, .int p0), (2, .int p1)] := hl
  refine nameQ (fun Q hQ => ?_)
  obtain ⟨im0, im1, im2, im3, im4, im5, im6, im7, im8, im9, im10, im11, im12, im13, im14, im15, im16, im17, im18, im19, im20, im21, im22, im23, im24, im25, im26, im27, im28, im29, im30⟩ := id hI
  have f1 : 0 ≤ (f_tunes (i_bank.toInt).toNat).toInt ∧ (f_tunes (i_bank.toInt).toNat).toInt ≤ 5 := im20 (i_bank.toInt)
  have f2 : 0 ≤ (f_houses (i_bank.toInt).toNat).toInt ∧ (f_houses (i_bank.toInt).toNat).toInt ≤ 4 := im21 (i_bank.toInt)
  refine lv_aload_n hx hb dX9_fill_0 rfl (lv_at hl 0 rfl) ?_
  refine lv_iload_n hx hb dX9_fill_1 rfl (lv_at hl 1 rfl) ?_
  refine va_calli (va_runV (As := [.int p0]) (rest := []) ⟨hx, hb, hml, hown, hG⟩ (kX9_isHouse l dC dI r ct i_taped i_size i_faultKind i_at i_end i_token i_number i_bank i_rb i_codes i_within i_piled i_unitsInRule i_askHouse i_askTune i_acts i_undone i_laid i_knowns i_time f_text f_tunes f_houses f_hums f_told f_many f_ruleFrom f_ruleTo f_code f_eWhat f_eSign f_all f_kept f_was f_sTune f_boxAll J L p0 s.heap.size hI) (cwV 1 hG (goodV gw1542 gw1544 gw90 gw138 gw1545) rfl rfl rfl hd_X9_isHouse ⟨(Nat.le_of_ble_eq_true rfl), (Nat.le_of_ble_eq_true rfl)⟩) ⟨fbR, va_recv hK hP (ci := 8) (q0 := 0) rfl rfl, pR_in hP hK⟩ rfl rfl hl.1 rfl (lv_room (Nat.le_of_ble_eq_true rfl)) dX9_fill_2 ⟨(Nat.le_of_ble_eq_true rfl), (Nat.le_of_ble_eq_true rfl)⟩) hS (fun q hq h => absurd hq (Nat.not_lt.mpr h)) (fun q h => hA q (Nat.le_trans hS.1 h)) (fun r_4 u_ t_ H3 locs ht hvm hw hB hz1 hk1 hS => ?_)
  subst hw
  have hP := wk hP hk1
  obtain ⟨f5, f6, f7, f8, f9⟩ := hB
  refine lv_if_eq (tgt := 33) hx hb dX9_fill_5 (by decide) (fun c_10 => ?_) (fun c_10 => ?_)
  · skip
    have f11 : r_4.toInt = 0 := qi_eq c_10 rfl zc_0
    refine lv_iconst (v := (-1)) hx hb dX9_fill_33 (by decide) ?_
    rw [hQ]
    exact W.iret (v := (-1)) hx hb hr (fun t ht hW => ⟨⟨(-1), (-1), rfl, rfl, ⟨i_acts, i_undone, f_all, f_was, by rw [ht]; exact hP, hD, hI⟩⟩, hS.F ht⟩) hS.2.2 dX9_fill_34
  · skip
    have f12 : r_4.toInt ≠ 0 := qi_ne c_10 rfl zc_0
    have f13 : 1 ≤ r_4.toInt := (ob_399 f5 f12)
    have f14 : 0 ≤ p0.toInt := (ob_400 f5 f12)
    have f15 : p0.toInt + 1 ≤ (f_houses (i_bank.toInt).toNat).toInt := (ob_401 f5 f12)
    have f16 : r_4.toInt = 1 := (ob_402 f7 f13)
    refine lv_iload_n hx hb dX9_fill_8 rfl (lv_at hl 2 rfl) ?_
    refine lv_iconst (v := 1) hx hb dX9_fill_9 (by decide) ?_
    refine lv_bipush (v := 50) hx hb dX9_fill_10 (by decide) ?_
    refine va_calli (va_runS (As := [.int p1, .int 1, .int 50]) (rest := []) ⟨hx, hb, hml, hown, hG⟩ (kX9_isIn l dC dI p1 1 50 H3.size) (va_cwS 3 hG (goodS gw1516 gw1517 gw138 gw1518) rfl rfl rfl hd_X9_isIn ⟨(Nat.le_of_ble_eq_true rfl), (Nat.le_of_ble_eq_true rfl)⟩) ⟨fbR, pR_in emptyP (emptyK hK)⟩ rfl rfl hl.1 rfl (lv_room (Nat.le_of_ble_eq_true rfl)) dX9_fill_12 ⟨(Nat.le_of_ble_eq_true rfl), (Nat.le_of_ble_eq_true rfl)⟩) hS (fun q hq h => absurd hq (Nat.not_lt.mpr h)) (fun q h => hA q (Nat.le_trans hS.1 h)) (fun r_18 u_ t_ H17 locs ht hvm hw hB hz1 hk1 hS => ?_)
    subst hw
    have hP := wk hP hk1
    obtain ⟨f19, f20, f21⟩ := hB
    refine lv_if_eq (tgt := 33) hx hb dX9_fill_15 (by decide) (fun c_22 => ?_) (fun c_22 => ?_)
    · skip
      have f23 : r_18.toInt = 0 := qi_eq c_22 rfl zc_0
      refine lv_iconst (v := (-1)) hx hb dX9_fill_33 (by decide) ?_
      rw [hQ]
      exact W.iret (v := (-1)) hx hb hr (fun t ht hW => ⟨⟨(-1), (-1), rfl, rfl, ⟨i_acts, i_undone, f_all, f_was, by rw [ht]; exact hP, hD, hI⟩⟩, hS.F ht⟩) hS.2.2 dX9_fill_34
    · skip
      have f24 : r_18.toInt ≠ 0 := qi_ne c_22 rfl zc_0
      have f25 : 1 ≤ r_18.toInt := (ob_522 f19 f24 zc_50 zc_1)
      have f26 : 1 ≤ p1.toInt := (ob_523 f19 f24 zc_50 zc_1)
      have f27 : p1.toInt ≤ 50 := (ob_524 f19 f24 zc_50 zc_1)
      have f28 : r_18.toInt = 1 := (ob_167 f20 f21 f25)
      refine lv_aload_n hx hb dX9_fill_18 rfl (lv_at hl 0 rfl) ?_
      refine gM_X9_88_0 hx hb hG hown hK hP dX9_fill_19 ?_
      refine lv_bipush (v := 20) hx hb dX9_fill_22 (by decide) ?_
      refine lv_iload_n hx hb dX9_fill_24 rfl (lv_at hl 1 rfl) ?_
      refine lv_iadd hx hb dX9_fill_25 ?_
      refine lv_topi (fun x29 ex29 => ?_)
      have f30 : x29.toInt = p0.toInt + 20 := (ob_176 (qi_add ex29 zc_20 rfl (ob_174 f14 f15) (ob_415 f2 f15)))
      refine ldM_25 (mm := p0.toInt + 20) hx hb hK hP f30 (ob_177 f14 f15) (ob_416 f2 f15) dX9_fill_26 ?_
      refine lv_sipush (v := 999) hx hb dX9_fill_27 (by decide) ?_
      refine lv_icmp_ne (tgt := 35) hx hb dX9_fill_30 (by decide) (fun c_31 => ?_) (fun c_31 => ?_)
      · skip
        have f32 : (f_all (p0.toInt + 20).toNat).toInt ≠ 999 := qi_ne c_31 rfl zc_999
        refine lv_aload_n hx hb dX9_fill_35 rfl (lv_at hl 0 rfl) ?_
        have hFc := frA hD hS hA
        refine va_callv (va_runV (As := []) (rest := []) ⟨hx, hb, hml, hown, hG⟩ (kX9_keepAct l dC dI r ct i_taped i_size i_faultKind i_at i_end i_token i_number i_bank i_rb i_codes i_within i_piled i_unitsInRule i_askHouse i_askTune i_acts i_undone i_laid i_knowns i_time f_text f_tunes f_houses f_hums f_told f_many f_ruleFrom f_ruleTo f_code f_eWhat f_eSign f_all f_kept f_was f_sTune f_boxAll J L H17.size hI) (cwV 0 hG (goodV gw1684 gw1686 gw107 gw138 gw1687) rfl rfl rfl hd_X9_keepAct ⟨(Nat.le_of_ble_eq_true rfl), (Nat.le_of_ble_eq_true rfl)⟩) ⟨fbW, va_recv hK hP (ci := 8) (q0 := 0) rfl rfl, pW_in hP hK hD⟩ rfl rfl hl.1 rfl (lv_room (Nat.le_of_ble_eq_true rfl)) dX9_fill_36 ⟨(Nat.le_of_ble_eq_true rfl), (Nat.le_of_ble_eq_true rfl)⟩) hS (fun q _ h => hFc q h) hFc (fun _ t_ H33 locs ht hvm hw hB hz1 hk1 hS => ?_)
        obtain ⟨x35, x36, z37, hP1, hD1, hI38⟩ := hB
        rw [ht] at hP1
        have hP := hP1
        have hD := dW hFc hD1
        obtain ⟨im39, im40, im41, im42, im43, im44, im45, im46, im47, im48, im49, im50, im51, im52, im53, im54, im55, im56, im57, im58, im59, im60, im61, im62, im63, im64, im65, im66, im67, im68, im69⟩ := id hI38
        refine lv_aload_n hx hb dX9_fill_39 rfl (lv_at hl 0 rfl) ?_
        refine gM_X9_88_0 hx hb hG hown hK hP dX9_fill_40 ?_
        refine lv_bipush (v := 20) hx hb dX9_fill_43 (by decide) ?_
        refine lv_iload_n hx hb dX9_fill_45 rfl (lv_at hl 1 rfl) ?_
        refine lv_iadd hx hb dX9_fill_46 ?_
        refine lv_topi (fun x70 ex70 => ?_)
        have f71 : x70.toInt = p0.toInt + 20 := (ob_176 (qi_add ex70 zc_20 rfl (ob_174 f14 f15) (ob_415 f2 f15)))
        refine lv_aload_n hx hb dX9_fill_47 rfl (lv_at hl 0 rfl) ?_
        refine gM_X9_88_0 hx hb hG hown hK hP dX9_fill_48 ?_
        refine lv_bipush (v := 20) hx hb dX9_fill_51 (by decide) ?_
        refine lv_iload_n hx hb dX9_fill_53 rfl (lv_at hl 1 rfl) ?_
        refine lv_iadd hx hb dX9_fill_54 ?_
        refine lv_topi (fun x72 ex72 => ?_)
        have f73 : x72.toInt = p0.toInt + 20 := (ob_176 (qi_add ex72 zc_20 rfl (ob_174 f14 f15) (ob_415 f2 f15)))
        refine ldM_25 (mm := p0.toInt + 20) hx hb hK hP f73 (ob_177 f14 f15) (ob_416 f2 f15) dX9_fill_55 ?_
        refine lv_iload_n hx hb dX9_fill_56 rfl (lv_at hl 2 rfl) ?_
        refine lv_iadd hx hb dX9_fill_57 ?_
        refine lv_topi (fun x74 ex74 => ?_)
        refine lv_iconst (v := 0) hx hb dX9_fill_58 (by decide) ?_
        refine lv_sipush (v := 999) hx hb dX9_fill_59 (by decide) ?_
        refine va_calli (va_runS (As := [.int x74, .int 0, .int 999]) (rest := [.int x70, .ref (r 25)]) ⟨hx, hb, hml, hown, hG⟩ (kX9_held l dC dI x74 0 999 H33.size) (va_cwS 3 hG (goodS gw1527 gw1528 gw138 gw1529) rfl rfl rfl hd_X9_held ⟨(Nat.le_of_ble_eq_true rfl), (Nat.le_of_ble_eq_true rfl)⟩) ⟨fbR, pR_in emptyP (emptyK hK)⟩ rfl rfl hl.1 rfl (lv_room (Nat.le_of_ble_eq_true rfl)) dX9_fill_62 ⟨(Nat.le_of_ble_eq_true rfl), (Nat.le_of_ble_eq_true rfl)⟩) hS (fun q hq h => absurd hq (Nat.not_lt.mpr h)) (fun q h => hA q (Nat.le_trans hS.1 h)) (fun r_76 u_ t_ H75 locs ht hvm hw hB hz1 hk1 hS => ?_)
        subst hw
        have hP := wk hP hk1
        have f77 := hB
        refine stM_25 (mm := p0.toInt + 20) hx hb hK hP hD hS f71 (ob_177 f14 f15) (ob_416 f2 f15) dX9_fill_65 (fun z79 H78 locs ez79 hP hD hS => ?_)
        have g80 : EW z79 := ez79 ▸ EW.updo im25 (ob_177 f14 f15) (ob_420 f2 f6 f7 f13 f14 f15 f16)
        refine lv_aload_n hx hb dX9_fill_66 rfl (lv_at hl 0 rfl) ?_
        refine gM_X9_88_0 hx hb hG hown hK hP dX9_fill_67 ?_
        refine lv_bipush (v := 20) hx hb dX9_fill_70 (by decide) ?_
        refine lv_iload_n hx hb dX9_fill_72 rfl (lv_at hl 1 rfl) ?_
        refine lv_iadd hx hb dX9_fill_73 ?_
        refine lv_topi (fun x81 ex81 => ?_)
        have f82 : x81.toInt = p0.toInt + 20 := (ob_176 (qi_add ex81 zc_20 rfl (ob_174 f14 f15) (ob_415 f2 f15)))
        refine ldM_25 (mm := p0.toInt + 20) hx hb hK hP f82 (ob_177 f14 f15) (ob_416 f2 f15) dX9_fill_74 ?_
        rw [hQ]
        exact W.iret (v := (z79 (p0.toInt + 20).toNat)) hx hb hr (fun t ht hW => ⟨⟨(z79 (p0.toInt + 20).toNat), (z79 (p0.toInt + 20).toNat), rfl, rfl, ⟨x35, x36, z79, z37, by rw [ht]; exact hP, hD, ⟨im0, im1, im2, im3, im4, im5, im6, im7, im8, im9, im10, im11, im12, im13, im14, im15, im16, im56, im57, im58, im20, im21, im22, im23, im24, g80, im26, im66, im28, im29, im30⟩⟩⟩, hS.F ht⟩) hS.2.2 dX9_fill_75
      · skip
        have f83 : (f_all (p0.toInt + 20).toNat).toInt = 999 := qi_eq c_31 rfl zc_999
        refine lv_iconst (v := (-1)) hx hb dX9_fill_33 (by decide) ?_
        rw [hQ]
        exact W.iret (v := (-1)) hx hb hr (fun t ht hW => ⟨⟨(-1), (-1), rfl, rfl, ⟨i_acts, i_undone, f_all, f_was, by rw [ht]; exact hP, hD, hI⟩⟩, hS.F ht⟩) hS.2.2 dX9_fill_34
set_option maxHeartbeats 4000000 in
set_option maxRecDepth 100000 in
theorem kX9_undo (l : Launch) (dC : Nat → ClassId) (dI : Nat → Nat → Nat) (r : Nat → Nat) (ct : Nat → ClassId) (i_taped i_size i_faultKind i_at i_end i_token i_number i_bank i_rb i_codes i_within i_piled i_unitsInRule i_askHouse i_askTune i_acts i_undone i_laid i_knowns i_time : Int32) (f_text f_tunes f_houses f_hums f_told f_many f_ruleFrom f_ruleTo f_code f_eWhat f_eSign f_all f_kept f_was f_sTune f_boxAll : Nat → Int32) (J : Nat → Nat → Int32) (L : Nat → Nat → Int64) (sz : Nat) (hI : (IM i_taped i_size i_at i_end i_bank i_rb i_acts i_undone i_laid i_knowns i_time f_tunes f_houses f_hums f_told f_many f_ruleFrom f_ruleTo f_code f_all f_kept f_was f_sTune f_boxAll)) : Met l yX9_undo (.code yX9_undo cX9_undo 1 (some .boolean) :: GW) { frames := 4, cells := 0, slots := 0, locals := 162 } (va_Pc [.ref (r 0)] (pW (dC, dI) (WM r ct i_taped i_size i_faultKind i_at i_end i_token i_number i_bank i_rb i_codes i_within i_piled i_unitsInRule i_askHouse i_askTune i_acts i_undone i_laid i_knowns i_time f_text f_tunes f_houses f_hums f_told f_many f_ruleFrom f_ruleTo f_code f_eWhat f_eSign f_all f_kept f_was f_sTune f_boxAll J L) (TM ct) sz)) (va_Qi (fun (r0 : Int32) (u : Int32) => r0 = u) (fun (u : Int32) (t : State) => ∃ (n_i_acts n_i_undone : Int32) (n_f_all n_f_was : Nat → Int32), va_P (dC, dI) vwCl (WM r ct i_taped i_size i_faultKind i_at i_end i_token i_number i_bank i_rb i_codes i_within i_piled i_unitsInRule i_askHouse i_askTune n_i_acts n_i_undone i_laid i_knowns i_time f_text f_tunes f_houses f_hums f_told f_many f_ruleFrom f_ruleTo f_code f_eWhat f_eSign n_f_all f_kept n_f_was f_sTune f_boxAll J L) t.heap ∧ va_D (va_A (WM r ct i_taped i_size i_faultKind i_at i_end i_token i_number i_bank i_rb i_codes i_within i_piled i_unitsInRule i_askHouse i_askTune i_acts i_undone i_laid i_knowns i_time f_text f_tunes f_houses f_hums f_told f_many f_ruleFrom f_ruleTo f_code f_eWhat f_eSign f_all f_kept f_was f_sTune f_boxAll J L) sz) (WM r ct i_taped i_size i_faultKind i_at i_end i_token i_number i_bank i_rb i_codes i_within i_piled i_unitsInRule i_askHouse i_askTune n_i_acts n_i_undone i_laid i_knowns i_time f_text f_tunes f_houses f_hums f_told f_many f_ruleFrom f_ruleTo f_code f_eWhat f_eSign n_f_all f_kept n_f_was f_sTune f_boxAll J L) ∧ (IM i_taped i_size i_at i_end i_bank i_rb n_i_acts n_i_undone i_laid i_knowns i_time f_tunes f_houses f_hums f_told f_many f_ruleFrom f_ruleTo f_code n_f_all f_kept n_f_was f_sTune f_boxAll)) (va_A (WM r ct i_taped i_size i_faultKind i_at i_end i_token i_number i_bank i_rb i_codes i_within i_piled i_unitsInRule i_askHouse i_askTune i_acts i_undone i_laid i_knowns i_time f_text f_tunes f_houses f_hums f_told f_many f_ruleFrom f_ruleTo f_code f_eWhat f_eSign f_all f_kept f_was f_sTune f_boxAll J L) sz)) 0 0 (va_A (WM r ct i_taped i_size i_faultKind i_at i_end i_token i_number i_bank i_rb i_codes i_within i_piled i_unitsInRule i_askHouse i_askTune i_acts i_undone i_laid i_knowns i_time f_text f_tunes f_houses f_hums f_told f_many f_ruleFrom f_ruleTo f_code f_eWhat f_eSign f_all f_kept f_was f_sTune f_boxAll J L) sz) := by
  refine Met.ofW (cc := cX9_undo) (maxL := 1) (ret := (some .boolean)) (by decide) rfl ?_
  intro p e s m args below meth c0 s₁ B hml hv
  obtain ⟨rfl, hsz, hP, hK, hD0⟩ := hv
  have hx := B.exec
  have hb := B.bytes
  have hr := B.returns
  have hts := atoms_spec (ws := .code yX9_undo cX9_undo 1 (some .boolean) :: GW) B.pre
  have hG : ∀ w ∈ GW, w.before _ s = true := fun w h => hts w (List.mem_cons_of_mem _ h)
  have hown : s.vm.findClass RX9 = some m.cls := findClass_of_methodNamed B.named
  subst hsz
  have hD := hD0.self (sz := s.heap.size)
  generalize hAe : va_A (WM r ct i_taped i_size i_faultKind i_at i_end i_token i_number i_bank i_rb i_codes i_within i_piled i_unitsInRule i_askHouse i_askTune i_acts i_undone i_laid i_knowns i_time f_text f_tunes f_houses f_hums f_told f_many f_ruleFrom f_ruleTo f_code f_eWhat f_eSign f_all f_kept f_was f_sTune f_boxAll J L) s.heap.size = A at hD ⊢
  have hA : ∀ q : Nat, s.heap.size ≤ q → A q := fun q h => by rw [← hAe]; exact Or.inr h
  have hS : va_S A s.heap s.heap [] := va_S.rf
  have hP : va_P (dC, dI) vwCl (WM r ct i_taped i_size i_faultKind i_at i_end i_token i_number i_bank i_rb i_codes i_within i_piled i_unitsInRule i_askHouse i_askTune i_acts i_undone i_laid i_knowns i_time f_text f_tunes f_houses f_hums f_told f_many f_ruleFrom f_ruleTo f_code f_eWhat f_eSign f_all f_kept f_was f_sTune f_boxAll J L) s.heap := hP
  have hl := lv_entry ([.ref (r 0)]) (n := 1) (Nat.le_of_ble_eq_true rfl)
  rw [lg_entry_eq]
  generalize (lg_sl ([.ref (r 0)]) ++ List.replicate (1 - (lg_sl ([.ref (r 0)])).length) Slot.unset).toArray = ls at hl ⊢
  have hl : lv_has ls 1 [(0, .ref (r 0))] := hl
  refine nameQ (fun Q hQ => ?_)
  obtain ⟨im0, im1, im2, im3, im4, im5, im6, im7, im8, im9, im10, im11, im12, im13, im14, im15, im16, im17, im18, im19, im20, im21, im22, im23, im24, im25, im26, im27, im28, im29, im30⟩ := id hI
  have f1 : 0 ≤ (f_tunes (i_bank.toInt).toNat).toInt ∧ (f_tunes (i_bank.toInt).toNat).toInt ≤ 5 := im20 (i_bank.toInt)
  have f2 : 0 ≤ (f_houses (i_bank.toInt).toNat).toInt ∧ (f_houses (i_bank.toInt).toNat).toInt ≤ 4 := im21 (i_bank.toInt)
  refine lv_aload_n hx hb dX9_undo_0 rfl (lv_at hl 0 rfl) ?_
  refine gM_X9_364_0 hx hb hG hown hK hP dX9_undo_1 ?_
  refine lv_if_ne (tgt := 9) hx hb dX9_undo_4 (by decide) (fun c_3 => ?_) (fun c_3 => ?_)
  · skip
    have f4 : i_acts.toInt ≠ 0 := qi_ne c_3 rfl zc_0
    have f5 : 1 ≤ i_acts.toInt := (ob_525 im17 im19 f4)
    refine lv_aload_n hx hb dX9_undo_9 rfl (lv_at hl 0 rfl) ?_
    refine lv_dup hx hb dX9_undo_10 rfl ?_
    refine gM_X9_364_0 hx hb hG hown hK hP dX9_undo_11 ?_
    refine lv_iconst (v := 1) hx hb dX9_undo_14 (by decide) ?_
    refine lv_isub hx hb dX9_undo_15 ?_
    refine lv_topi (fun x6 ex6 => ?_)
    have f7 : x6.toInt = i_acts.toInt + (-1) := (ob_217 (qi_sub ex6 rfl zc_1 (ob_526 im17 im19 f5) (ob_527 im18 im19)))
    refine pM_X9_364_0 hx hb hG hown hK hP hD hS dX9_undo_16 (fun H8 locs hP hD hS => ?_)
    refine lv_aload_n hx hb dX9_undo_19 rfl (lv_at hl 0 rfl) ?_
    refine lv_dup hx hb dX9_undo_20 rfl ?_
    refine gM_X9_367_0 hx hb hG hown hK hP dX9_undo_21 ?_
    refine lv_iconst (v := 1) hx hb dX9_undo_24 (by decide) ?_
    refine lv_iadd hx hb dX9_undo_25 ?_
    refine lv_topi (fun x9 ex9 => ?_)
    have f10 : x9.toInt = i_undone.toInt + 1 := (ob_139 (qi_add ex9 rfl zc_1 (ob_528 im18 im19) (ob_529 im17 im19)))
    refine pM_X9_367_0 hx hb hG hown hK hP hD hS dX9_undo_26 (fun H11 locs hP hD hS => ?_)
    refine lv_aload_n hx hb dX9_undo_29 rfl (lv_at hl 0 rfl) ?_
    have hFc := frA hD hS hA
    refine va_callv (va_runV (As := []) (rest := []) ⟨hx, hb, hml, hown, hG⟩ (kX9_swapAll l dC dI r ct i_taped i_size i_faultKind i_at i_end i_token i_number i_bank i_rb i_codes i_within i_piled i_unitsInRule i_askHouse i_askTune x6 x9 i_laid i_knowns i_time f_text f_tunes f_houses f_hums f_told f_many f_ruleFrom f_ruleTo f_code f_eWhat f_eSign f_all f_kept f_was f_sTune f_boxAll J L H11.size ⟨im0, im1, im2, im3, im4, im5, im6, im7, im8, im9, im10, im11, im12, im13, im14, im15, im16, (ob_530 im17 im19 f5 f7), (ob_531 im18 im19 f10), (ob_532 im19 f10 f7), im20, im21, im22, im23, im24, im25, im26, im27, im28, im29, im30⟩) (cwV 0 hG (goodV gw1724 gw1726 gw112 gw138 gw1727) rfl rfl rfl hd_X9_swapAll ⟨(Nat.le_of_ble_eq_true rfl), (Nat.le_of_ble_eq_true rfl)⟩) ⟨fbW, va_recv hK hP (ci := 8) (q0 := 0) rfl rfl, pW_in hP hK hD⟩ rfl rfl hl.1 rfl (lv_room (Nat.le_of_ble_eq_true rfl)) dX9_undo_30 ⟨(Nat.le_of_ble_eq_true rfl), (Nat.le_of_ble_eq_true rfl)⟩) hS (fun q _ h => hFc q h) hFc (fun _ t_ H12 locs ht hvm hw hB hz1 hk1 hS => ?_)
    obtain ⟨z14, z15, hP1, hD1, hI16⟩ := hB
    rw [ht] at hP1
    have hP := hP1
    have hD := dW hFc hD1
    obtain ⟨im17, im18, im19, im20, im21, im22, im23, im24, im25, im26, im27, im28, im29, im30, im31, im32, im33, im34, im35, im36, im37, im38, im39, im40, im41, im42, im43, im44, im45, im46, im47⟩ := id hI16
    refine lv_iconst (v := 1) hx hb dX9_undo_33 (by decide) ?_
    rw [hQ]
    exact W.zret (v := 1) hx hb hr (by decide) (fun t ht hW => ⟨⟨1, 1, rfl, rfl, ⟨x6, x9, z14, z15, by rw [ht]; exact hP, hD, hI16⟩⟩, hS.F ht⟩) hS.2.2 dX9_undo_34
  · skip
    have f48 : i_acts.toInt = 0 := qi_eq c_3 rfl zc_0
    refine lv_iconst (v := 0) hx hb dX9_undo_7 (by decide) ?_
    rw [hQ]
    exact W.zret (v := 0) hx hb hr (by decide) (fun t ht hW => ⟨⟨0, 0, rfl, rfl, ⟨i_acts, i_undone, f_all, f_was, by rw [ht]; exact hP, hD, hI⟩⟩, hS.F ht⟩) hS.2.2 dX9_undo_8
set_option maxHeartbeats 4000000 in
set_option maxRecDepth 100000 in
theorem kX9_redo (l : Launch) (dC : Nat → ClassId) (dI : Nat → Nat → Nat) (r : Nat → Nat) (ct : Nat → ClassId) (i_taped i_size i_faultKind i_at i_end i_token i_number i_bank i_rb i_codes i_within i_piled i_unitsInRule i_askHouse i_askTune i_acts i_undone i_laid i_knowns i_time : Int32) (f_text f_tunes f_houses f_hums f_told f_many f_ruleFrom f_ruleTo f_code f_eWhat f_eSign f_all f_kept f_was f_sTune f_boxAll : Nat → Int32) (J : Nat → Nat → Int32) (L : Nat → Nat → Int64) (sz : Nat) (hI : (IM i_taped i_size i_at i_end i_bank i_rb i_acts i_undone i_laid i_knowns i_time f_tunes f_houses f_hums f_told f_many f_ruleFrom f_ruleTo f_code f_all f_kept f_was f_sTune f_boxAll)) : Met l yX9_redo (.code yX9_redo cX9_redo 1 (some .boolean) :: GW) { frames := 4, cells := 0, slots := 0, locals := 162 } (va_Pc [.ref (r 0)] (pW (dC, dI) (WM r ct i_taped i_size i_faultKind i_at i_end i_token i_number i_bank i_rb i_codes i_within i_piled i_unitsInRule i_askHouse i_askTune i_acts i_undone i_laid i_knowns i_time f_text f_tunes f_houses f_hums f_told f_many f_ruleFrom f_ruleTo f_code f_eWhat f_eSign f_all f_kept f_was f_sTune f_boxAll J L) (TM ct) sz)) (va_Qi (fun (r0 : Int32) (u : Int32) => r0 = u) (fun (u : Int32) (t : State) => ∃ (n_i_acts n_i_undone : Int32) (n_f_all n_f_was : Nat → Int32), va_P (dC, dI) vwCl (WM r ct i_taped i_size i_faultKind i_at i_end i_token i_number i_bank i_rb i_codes i_within i_piled i_unitsInRule i_askHouse i_askTune n_i_acts n_i_undone i_laid i_knowns i_time f_text f_tunes f_houses f_hums f_told f_many f_ruleFrom f_ruleTo f_code f_eWhat f_eSign n_f_all f_kept n_f_was f_sTune f_boxAll J L) t.heap ∧ va_D (va_A (WM r ct i_taped i_size i_faultKind i_at i_end i_token i_number i_bank i_rb i_codes i_within i_piled i_unitsInRule i_askHouse i_askTune i_acts i_undone i_laid i_knowns i_time f_text f_tunes f_houses f_hums f_told f_many f_ruleFrom f_ruleTo f_code f_eWhat f_eSign f_all f_kept f_was f_sTune f_boxAll J L) sz) (WM r ct i_taped i_size i_faultKind i_at i_end i_token i_number i_bank i_rb i_codes i_within i_piled i_unitsInRule i_askHouse i_askTune n_i_acts n_i_undone i_laid i_knowns i_time f_text f_tunes f_houses f_hums f_told f_many f_ruleFrom f_ruleTo f_code f_eWhat f_eSign n_f_all f_kept n_f_was f_sTune f_boxAll J L) ∧ (IM i_taped i_size i_at i_end i_bank i_rb n_i_acts n_i_undone i_laid i_knowns i_time f_tunes f_houses f_hums f_told f_many f_ruleFrom f_ruleTo f_code n_f_all f_kept n_f_was f_sTune f_boxAll)) (va_A (WM r ct i_taped i_size i_faultKind i_at i_end i_token i_number i_bank i_rb i_codes i_within i_piled i_unitsInRule i_askHouse i_askTune i_acts i_undone i_laid i_knowns i_time f_text f_tunes f_houses f_hums f_told f_many f_ruleFrom f_ruleTo f_code f_eWhat f_eSign f_all f_kept f_was f_sTune f_boxAll J L) sz)) 0 0 (va_A (WM r ct i_taped i_size i_faultKind i_at i_end i_token i_number i_bank i_rb i_codes i_within i_piled i_unitsInRule i_askHouse i_askTune i_acts i_undone i_laid i_knowns i_time f_text f_tunes f_houses f_hums f_told f_many f_ruleFrom f_ruleTo f_code f_eWhat f_eSign f_all f_kept f_was f_sTune f_boxAll J L) sz) := by
  refine Met.ofW (cc := cX9_redo) (maxL := 1) (ret := (some .boolean)) (by decide) rfl ?_
  intro p e s m args below meth c0 s₁ B hml hv
  obtain ⟨rfl, hsz, hP, hK, hD0⟩ := hv
  have hx := B.exec
  have hb := B.bytes
  have hr := B.returns
  have hts := atoms_spec (ws := .code yX9_redo cX9_redo 1 (some .boolean) :: GW) B.pre
  have hG : ∀ w ∈ GW, w.before _ s = true := fun w h => hts w (List.mem_cons_of_mem _ h)
  have hown : s.vm.findClass RX9 = some m.cls := findClass_of_methodNamed B.named
  subst hsz
  have hD := hD0.self (sz := s.heap.size)
  generalize hAe : va_A (WM r ct i_taped i_size i_faultKind i_at i_end i_token i_number i_bank i_rb i_codes i_within i_piled i_unitsInRule i_askHouse i_askTune i_acts i_undone i_laid i_knowns i_time f_text f_tunes f_houses f_hums f_told f_many f_ruleFrom f_ruleTo f_code f_eWhat f_eSign f_all f_kept f_was f_sTune f_boxAll J L) s.heap.size = A at hD ⊢
  have hA : ∀ q : Nat, s.heap.size ≤ q → A q := fun q h => by rw [← hAe]; exact Or.inr h
  have hS : va_S A s.heap s.heap [] := va_S.rf
  have hP : va_P (dC, dI) vwCl (WM r ct i_taped i_size i_faultKind i_at i_end i_token i_number i_bank i_rb i_codes i_within i_piled i_unitsInRule i_askHouse i_askTune i_acts i_undone i_laid i_knowns i_time f_text f_tunes f_houses f_hums f_told f_many f_ruleFrom f_ruleTo f_code f_eWhat f_eSign f_all f_kept f_was f_sTune f_boxAll J L) s.heap := hP
  have hl := lv_entry ([.ref (r 0)]) (n := 1) (Nat.le_of_ble_eq_true rfl)
  rw [lg_entry_eq]
  generalize (lg_sl ([.ref (r 0)]) ++ List.replicate (1 - (lg_sl ([.ref (r 0)])).length) Slot.unset).toArray = ls at hl ⊢
  have hl : lv_has ls 1 [(0, .ref (r 0))] := hl
  refine nameQ (fun Q hQ => ?_)
  obtain ⟨im0, im1, im2, im3, im4, im5, im6, im7, im8, im9, im10, im11, im12, im13, im14, im15, im16, im17, im18, im19, im20, im21, im22, im23, im24, im25, im26, im27, im28, im29, im30⟩ := id hI
  have f1 : 0 ≤ (f_tunes (i_bank.toInt).toNat).toInt ∧ (f_tunes (i_bank.toInt).toNat).toInt ≤ 5 := im20 (i_bank.toInt)
  have f2 : 0 ≤ (f_houses (i_bank.toInt).toNat).toInt ∧ (f_houses (i_bank.toInt).toNat).toInt ≤ 4 := im21 (i_bank.toInt)
  refine lv_aload_n hx hb dX9_redo_0 rfl (lv_at hl 0 rfl) ?_
  refine gM_X9_367_0 hx hb hG hown hK hP dX9_redo_1 ?_
  refine lv_if_ne (tgt := 9) hx hb dX9_redo_4 (by decide) (fun c_3 => ?_) (fun c_3 => ?_)
  · skip
    have f4 : i_undone.toInt ≠ 0 := qi_ne c_3 rfl zc_0
    have f5 : 1 ≤ i_undone.toInt := (ob_533 im18 im19 f4)
    refine lv_aload_n hx hb dX9_redo_9 rfl (lv_at hl 0 rfl) ?_
    have hFc := frA hD hS hA
    refine va_callv (va_runV (As := []) (rest := []) ⟨hx, hb, hml, hown, hG⟩ (kX9_swapAll l dC dI r ct i_taped i_size i_faultKind i_at i_end i_token i_number i_bank i_rb i_codes i_within i_piled i_unitsInRule i_askHouse i_askTune i_acts i_undone i_laid i_knowns i_time f_text f_tunes f_houses f_hums f_told f_many f_ruleFrom f_ruleTo f_code f_eWhat f_eSign f_all f_kept f_was f_sTune f_boxAll J L s.heap.size hI) (cwV 0 hG (goodV gw1724 gw1726 gw112 gw138 gw1727) rfl rfl rfl hd_X9_swapAll ⟨(Nat.le_of_ble_eq_true rfl), (Nat.le_of_ble_eq_true rfl)⟩) ⟨fbW, va_recv hK hP (ci := 8) (q0 := 0) rfl rfl, pW_in hP hK hD⟩ rfl rfl hl.1 rfl (lv_room (Nat.le_of_ble_eq_true rfl)) dX9_redo_10 ⟨(Nat.le_of_ble_eq_true rfl), (Nat.le_of_ble_eq_true rfl)⟩) hS (fun q _ h => hFc q h) hFc (fun _ t_ H6 locs ht hvm hw hB hz1 hk1 hS => ?_)
    obtain ⟨z8, z9, hP1, hD1, hI10⟩ := hB
    rw [ht] at hP1
    have hP := hP1
    have hD := dW hFc hD1
    obtain ⟨im11, im12, im13, im14, im15, im16, im17, im18, im19, im20, im21, im22, im23, im24, im25, im26, im27, im28, im29, im30, im31, im32, im33, im34, im35, im36, im37, im38, im39, im40, im41⟩ := id hI10
    refine lv_aload_n hx hb dX9_redo_13 rfl (lv_at hl 0 rfl) ?_
    refine lv_dup hx hb dX9_redo_14 rfl ?_
    refine gM_X9_364_0 hx hb hG hown hK hP dX9_redo_15 ?_
    refine lv_iconst (v := 1) hx hb dX9_redo_18 (by decide) ?_
    refine lv_iadd hx hb dX9_redo_19 ?_
    refine lv_topi (fun x42 ex42 => ?_)
    have f43 : x42.toInt = i_acts.toInt + 1 := (ob_139 (qi_add ex42 rfl zc_1 (ob_474 im17 im19) (ob_534 im18 im19)))
    refine pM_X9_364_0 hx hb hG hown hK hP hD hS dX9_redo_20 (fun H44 locs hP hD hS => ?_)
    refine lv_aload_n hx hb dX9_redo_23 rfl (lv_at hl 0 rfl) ?_
    refine lv_dup hx hb dX9_redo_24 rfl ?_
    refine gM_X9_367_0 hx hb hG hown hK hP dX9_redo_25 ?_
    refine lv_iconst (v := 1) hx hb dX9_redo_28 (by decide) ?_
    refine lv_isub hx hb dX9_redo_29 ?_
    refine lv_topi (fun x45 ex45 => ?_)
    have f46 : x45.toInt = i_undone.toInt + (-1) := (ob_217 (qi_sub ex45 rfl zc_1 (ob_535 im18 im19 f5) (ob_536 im17 im19)))
    refine pM_X9_367_0 hx hb hG hown hK hP hD hS dX9_redo_30 (fun H47 locs hP hD hS => ?_)
    refine lv_iconst (v := 1) hx hb dX9_redo_33 (by decide) ?_
    rw [hQ]
    exact W.zret (v := 1) hx hb hr (by decide) (fun t ht hW => ⟨⟨1, 1, rfl, rfl, ⟨x42, x45, z8, z9, by rw [ht]; exact hP, hD, ⟨im0, im1, im2, im3, im4, im5, im6, im7, im8, im9, im10, im11, im12, im13, im14, im15, im16, (ob_476 im17 im19 f43), (ob_537 im18 im19 f5 f46), (ob_538 im19 f46 f43), im20, im21, im22, im23, im24, im36, im26, im38, im28, im29, im30⟩⟩⟩, hS.F ht⟩) hS.2.2 dX9_redo_34
  · skip
    have f48 : i_undone.toInt = 0 := qi_eq c_3 rfl zc_0
    refine lv_iconst (v := 0) hx hb dX9_redo_7 (by decide) ?_
    rw [hQ]
    exact W.zret (v := 0) hx hb hr (by decide) (fun t ht hW => ⟨⟨0, 0, rfl, rfl, ⟨i_acts, i_undone, f_all, f_was, by rw [ht]; exact hP, hD, hI⟩⟩, hS.F ht⟩) hS.2.2 dX9_redo_8
set_option maxHeartbeats 4000000 in
set_option maxRecDepth 100000 in
theorem kX9_will (l : Launch) (dC : Nat → ClassId) (dI : Nat → Nat → Nat) (r : Nat → Nat) (ct : Nat → ClassId) (i_taped i_size i_faultKind i_at i_end i_token i_number i_bank i_rb i_codes i_within i_piled i_unitsInRule i_askHouse i_askTune i_acts i_undone i_laid i_knowns i_time : Int32) (f_text f_tunes f_houses f_hums f_told f_many f_ruleFrom f_ruleTo f_code f_eWhat f_eSign f_all f_kept f_was f_sTune f_boxAll : Nat → Int32) (J : Nat → Nat → Int32) (L : Nat → Nat → Int64) (p0 p1 p2 : Int32) (sz : Nat) (hI : (IM i_taped i_size i_at i_end i_bank i_rb i_acts i_undone i_laid i_knowns i_time f_tunes f_houses f_hums f_told f_many f_ruleFrom f_ruleTo f_code f_all f_kept f_was f_sTune f_boxAll)) : Met l yX9_will (.code yX9_will cX9_will 6 (some .int) :: GW) { frames := 24, cells := 0, slots := 0, locals := 794 } (va_Pc [.ref (r 0), .int p0, .int p1, .int p2] (pW (dC, dI) (WM r ct i_taped i_size i_faultKind i_at i_end i_token i_number i_bank i_rb i_codes i_within i_piled i_unitsInRule i_askHouse i_askTune i_acts i_undone i_laid i_knowns i_time f_text f_tunes f_houses f_hums f_told f_many f_ruleFrom f_ruleTo f_code f_eWhat f_eSign f_all f_kept f_was f_sTune f_boxAll J L) (TM ct) sz)) (va_Qi (fun (r0 : Int32) (u : Int32) => r0 = u) (fun (u : Int32) (t : State) => ∃ (n_i_askHouse n_i_askTune : Int32) (n_f_all n_f_kept : Nat → Int32) (n_J : Nat → Nat → Int32), va_P (dC, dI) vwCl (WM r ct i_taped i_size i_faultKind i_at i_end i_token i_number i_bank i_rb i_codes i_within i_piled i_unitsInRule n_i_askHouse n_i_askTune i_acts i_undone i_laid i_knowns i_time f_text f_tunes f_houses f_hums f_told f_many f_ruleFrom f_ruleTo f_code f_eWhat f_eSign n_f_all n_f_kept f_was f_sTune f_boxAll n_J L) t.heap ∧ va_D (va_A (WM r ct i_taped i_size i_faultKind i_at i_end i_token i_number i_bank i_rb i_codes i_within i_piled i_unitsInRule i_askHouse i_askTune i_acts i_undone i_laid i_knowns i_time f_text f_tunes f_houses f_hums f_told f_many f_ruleFrom f_ruleTo f_code f_eWhat f_eSign f_all f_kept f_was f_sTune f_boxAll J L) sz) (WM r ct i_taped i_size i_faultKind i_at i_end i_token i_number i_bank i_rb i_codes i_within i_piled i_unitsInRule n_i_askHouse n_i_askTune i_acts i_undone i_laid i_knowns i_time f_text f_tunes f_houses f_hums f_told f_many f_ruleFrom f_ruleTo f_code f_eWhat f_eSign n_f_all n_f_kept f_was f_sTune f_boxAll n_J L) ∧ (IM i_taped i_size i_at i_end i_bank i_rb i_acts i_undone i_laid i_knowns i_time f_tunes f_houses f_hums f_told f_many f_ruleFrom f_ruleTo f_code n_f_all n_f_kept f_was f_sTune f_boxAll)) (va_A (WM r ct i_taped i_size i_faultKind i_at i_end i_token i_number i_bank i_rb i_codes i_within i_piled i_unitsInRule i_askHouse i_askTune i_acts i_undone i_laid i_knowns i_time f_text f_tunes f_houses f_hums f_told f_many f_ruleFrom f_ruleTo f_code f_eWhat f_eSign f_all f_kept f_was f_sTune f_boxAll J L) sz)) 0 0 (va_A (WM r ct i_taped i_size i_faultKind i_at i_end i_token i_number i_bank i_rb i_codes i_within i_piled i_unitsInRule i_askHouse i_askTune i_acts i_undone i_laid i_knowns i_time f_text f_tunes f_houses f_hums f_told f_many f_ruleFrom f_ruleTo f_code f_eWhat f_eSign f_all f_kept f_was f_sTune f_boxAll J L) sz) := by
  refine Met.ofW (cc := cX9_will) (maxL := 6) (ret := (some .int)) (by decide) rfl ?_
  intro p e s m args below meth c0 s₁ B hml hv
  obtain ⟨rfl, hsz, hP, hK, hD0⟩ := hv
  have hx := B.exec
  have hb := B.bytes
  have hr := B.returns
  have hts := atoms_spec (ws := .code yX9_will cX9_will 6 (some .int) :: GW) B.pre
  have hG : ∀ w ∈ GW, w.before _ s = true := fun w h => hts w (List.mem_cons_of_mem _ h)
  have hown : s.vm.findClass RX9 = some m.cls := findClass_of_methodNamed B.named
  subst hsz
  have hD := hD0.self (sz := s.heap.size)
  generalize hAe : va_A (WM r ct i_taped i_size i_faultKind i_at i_end i_token i_number i_bank i_rb i_codes i_within i_piled i_unitsInRule i_askHouse i_askTune i_acts i_undone i_laid i_knowns i_time f_text f_tunes f_houses f_hums f_told f_many f_ruleFrom f_ruleTo f_code f_eWhat f_eSign f_all f_kept f_was f_sTune f_boxAll J L) s.heap.size = A at hD ⊢
  have hA : ∀ q : Nat, s.heap.size ≤ q → A q := fun q h => by rw [← hAe]; exact Or.inr h
  have hS : va_S A s.heap s.heap [] := va_S.rf
  have hP : va_P (dC, dI) vwCl (WM r ct i_taped i_size i_faultKind i_at i_end i_token i_number i_bank i_rb i_codes i_within i_piled i_unitsInRule i_askHouse i_askTune i_acts i_undone i_laid i_knowns i_time f_text f_tunes f_houses f_hums f_told f_many f_ruleFrom f_ruleTo f_code f_eWhat f_eSign f_all f_kept f_was f_sTune f_boxAll J L) s.heap := hP
  have hl := lv_entry ([.ref (r 0), .int p0, .int p1, .int p2]) (n := 6) (Nat.le_of_ble_eq_true rfl)
  rw [lg_entry_eq]
  generalize (lg_sl ([.ref (r 0), .int p0, .int p1, .int p2]) ++ List.replicate (6 - (lg_sl ([.ref (r 0), .int p0, .int p1, .int p2])).length) Slot.unset).toArray = ls at hl ⊢
  have hl : lv_has ls 6 [(0, .ref (r 0)), (1, .int p0), (2, .int p1), (3, .int p2)] := hl
  refine nameQ (fun Q hQ => ?_)
  obtain ⟨im0, im1, im2, im3, im4, im5, im6, im7, im8, im9, im10, im11, im12, im13, im14, im15, im16, im17, im18, im19, im20, im21, im22, im23, im24, im25, im26, im27, im28, im29, im30⟩ := id hI
  have f1 : 0 ≤ (f_tunes (i_bank.toInt).toNat).toInt ∧ (f_tunes (i_bank.toInt).toNat).toInt ≤ 5 := im20 (i_bank.toInt)
  have f2 : 0 ≤ (f_houses (i_bank.toInt).toNat).toInt ∧ (f_houses (i_bank.toInt).toNat).toInt ≤ 4 := im21 (i_bank.toInt)
  refine lv_aload_n hx hb dX9_will_0 rfl (lv_at hl 0 rfl) ?_
  refine lv_iload_n hx hb dX9_will_1 rfl (lv_at hl 1 rfl) ?_
  refine va_calli (va_runV (As := [.int p0]) (rest := []) ⟨hx, hb, hml, hown, hG⟩ (kX9_isTune l dC dI r ct i_taped i_size i_faultKind i_at i_end i_token i_number i_bank i_rb i_codes i_within i_piled i_unitsInRule i_askHouse i_askTune i_acts i_undone i_laid i_knowns i_time f_text f_tunes f_houses f_hums f_told f_many f_ruleFrom f_ruleTo f_code f_eWhat f_eSign f_all f_kept f_was f_sTune f_boxAll J L p0 s.heap.size hI) (cwV 1 hG (goodV gw1508 gw1510 gw85 gw138 gw1511) rfl rfl rfl hd_X9_isTune ⟨(Nat.le_of_ble_eq_true rfl), (Nat.le_of_ble_eq_true rfl)⟩) ⟨fbR, va_recv hK hP (ci := 8) (q0 := 0) rfl rfl, pR_in hP hK⟩ rfl rfl hl.1 rfl (lv_room (Nat.le_of_ble_eq_true rfl)) dX9_will_2 ⟨(Nat.le_of_ble_eq_true rfl), (Nat.le_of_ble_eq_true rfl)⟩) hS (fun q hq h => absurd hq (Nat.not_lt.mpr h)) (fun q h => hA q (Nat.le_trans hS.1 h)) (fun r_4 u_ t_ H3 locs ht hvm hw hB hz1 hk1 hS => ?_)
  subst hw
  have hP := wk hP hk1
  obtain ⟨f5, f6, f7, f8, f9⟩ := hB
  refine lv_if_eq (tgt := 27) hx hb dX9_will_5 (by decide) (fun c_10 => ?_) (fun c_10 => ?_)
  · skip
    have f11 : r_4.toInt = 0 := qi_eq c_10 rfl zc_0
    refine lv_bipush (v := (-2)) hx hb dX9_will_27 (by decide) ?_
    rw [hQ]
    exact W.iret (v := (-2)) hx hb hr (fun t ht hW => ⟨⟨(-2), (-2), rfl, rfl, ⟨i_askHouse, i_askTune, f_all, f_kept, J, by rw [ht]; exact hP, hD, hI⟩⟩, hS.F ht⟩) hS.2.2 dX9_will_29
  · skip
    have f12 : r_4.toInt ≠ 0 := qi_ne c_10 rfl zc_0
    have f13 : 1 ≤ r_4.toInt := (ob_399 f5 f12)
    have f14 : 0 ≤ p0.toInt := (ob_400 f5 f12)
    have f15 : p0.toInt + 1 ≤ (f_tunes (i_bank.toInt).toNat).toInt := (ob_401 f5 f12)
    have f16 : r_4.toInt = 1 := (ob_402 f7 f13)
    refine lv_iload_n hx hb dX9_will_8 rfl (lv_at hl 2 rfl) ?_
    refine lv_iconst (v := 0) hx hb dX9_will_9 (by decide) ?_
    refine lv_bipush (v := 60) hx hb dX9_will_10 (by decide) ?_
    refine va_calli (va_runS (As := [.int p1, .int 0, .int 60]) (rest := []) ⟨hx, hb, hml, hown, hG⟩ (kX9_isIn l dC dI p1 0 60 H3.size) (va_cwS 3 hG (goodS gw1516 gw1517 gw138 gw1518) rfl rfl rfl hd_X9_isIn ⟨(Nat.le_of_ble_eq_true rfl), (Nat.le_of_ble_eq_true rfl)⟩) ⟨fbR, pR_in emptyP (emptyK hK)⟩ rfl rfl hl.1 rfl (lv_room (Nat.le_of_ble_eq_true rfl)) dX9_will_12 ⟨(Nat.le_of_ble_eq_true rfl), (Nat.le_of_ble_eq_true rfl)⟩) hS (fun q hq h => absurd hq (Nat.not_lt.mpr h)) (fun q h => hA q (Nat.le_trans hS.1 h)) (fun r_18 u_ t_ H17 locs ht hvm hw hB hz1 hk1 hS => ?_)
    subst hw
    have hP := wk hP hk1
    obtain ⟨f19, f20, f21⟩ := hB
    refine lv_if_eq (tgt := 27) hx hb dX9_will_15 (by decide) (fun c_22 => ?_) (fun c_22 => ?_)
    · skip
      have f23 : r_18.toInt = 0 := qi_eq c_22 rfl zc_0
      refine lv_bipush (v := (-2)) hx hb dX9_will_27 (by decide) ?_
      rw [hQ]
      exact W.iret (v := (-2)) hx hb hr (fun t ht hW => ⟨⟨(-2), (-2), rfl, rfl, ⟨i_askHouse, i_askTune, f_all, f_kept, J, by rw [ht]; exact hP, hD, hI⟩⟩, hS.F ht⟩) hS.2.2 dX9_will_29
    · skip
      have f24 : r_18.toInt ≠ 0 := qi_ne c_22 rfl zc_0
      have f25 : 1 ≤ r_18.toInt := (ob_539 f19 f24 zc_60 zc_0)
      have f26 : 0 ≤ p1.toInt := (ob_540 f19 f24 zc_60 zc_0)
      have f27 : p1.toInt ≤ 60 := (ob_541 f19 f24 zc_60 zc_0)
      have f28 : r_18.toInt = 1 := (ob_167 f20 f21 f25)
      refine lv_iload_n hx hb dX9_will_18 rfl (lv_at hl 3 rfl) ?_
      refine lv_iconst (v := 0) hx hb dX9_will_19 (by decide) ?_
      refine lv_iconst (v := 1) hx hb dX9_will_20 (by decide) ?_
      refine va_calli (va_runS (As := [.int p2, .int 0, .int 1]) (rest := []) ⟨hx, hb, hml, hown, hG⟩ (kX9_isIn l dC dI p2 0 1 H17.size) (va_cwS 3 hG (goodS gw1516 gw1517 gw138 gw1518) rfl rfl rfl hd_X9_isIn ⟨(Nat.le_of_ble_eq_true rfl), (Nat.le_of_ble_eq_true rfl)⟩) ⟨fbR, pR_in emptyP (emptyK hK)⟩ rfl rfl hl.1 rfl (lv_room (Nat.le_of_ble_eq_true rfl)) dX9_will_21 ⟨(Nat.le_of_ble_eq_true rfl), (Nat.le_of_ble_eq_true rfl)⟩) hS (fun q hq h => absurd hq (Nat.not_lt.mpr h)) (fun q h => hA q (Nat.le_trans hS.1 h)) (fun r_30 u_ t_ H29 locs ht hvm hw hB hz1 hk1 hS => ?_)
      subst hw
      have hP := wk hP hk1
      obtain ⟨f31, f32, f33⟩ := hB
      refine lv_if_ne (tgt := 30) hx hb dX9_will_24 (by decide) (fun c_34 => ?_) (fun c_34 => ?_)
      · skip
        have f35 : r_30.toInt ≠ 0 := qi_ne c_34 rfl zc_0
        have f36 : 1 ≤ r_30.toInt := (ob_439 f31 f35 zc_1 zc_0)
        have f37 : 0 ≤ p2.toInt := (ob_440 f31 f35 zc_1 zc_0)
        have f38 : p2.toInt ≤ 1 := (ob_441 f31 f35 zc_1 zc_0)
        have f39 : r_30.toInt = 1 := (ob_167 f32 f33 f36)
        refine lv_aload_n hx hb dX9_will_30 rfl (lv_at hl 0 rfl) ?_
        have hFc := frA hD hS hA
        refine va_callv (va_runV (As := []) (rest := []) ⟨hx, hb, hml, hown, hG⟩ (kX9_keepNow l dC dI r ct i_taped i_size i_faultKind i_at i_end i_token i_number i_bank i_rb i_codes i_within i_piled i_unitsInRule i_askHouse i_askTune i_acts i_undone i_laid i_knowns i_time f_text f_tunes f_houses f_hums f_told f_many f_ruleFrom f_ruleTo f_code f_eWhat f_eSign f_all f_kept f_was f_sTune f_boxAll J L H29.size hI) (cwV 0 hG (goodV gw1736 gw1738 gw113 gw138 gw1739) rfl rfl rfl hd_X9_keepNow ⟨(Nat.le_of_ble_eq_true rfl), (Nat.le_of_ble_eq_true rfl)⟩) ⟨fbW, va_recv hK hP (ci := 8) (q0 := 0) rfl rfl, pW_in hP hK hD⟩ rfl rfl hl.1 rfl (lv_room (Nat.le_of_ble_eq_true rfl)) dX9_will_31 ⟨(Nat.le_of_ble_eq_true rfl), (Nat.le_of_ble_eq_true rfl)⟩) hS (fun q _ h => hFc q h) hFc (fun _ t_ H40 locs ht hvm hw hB hz1 hk1 hS => ?_)
        obtain ⟨z42, hP1, hD1, hI43⟩ := hB
        rw [ht] at hP1
        have hP := hP1
        have hD := dW hFc hD1
        obtain ⟨im44, im45, im46, im47, im48, im49, im50, im51, im52, im53, im54, im55, im56, im57, im58, im59, im60, im61, im62, im63, im64, im65, im66, im67, im68, im69, im70, im71, im72, im73, im74⟩ := id hI43
        refine lv_iconst (v := 0) hx hb dX9_will_34 (by decide) ?_
        refine lv_istore (lv' := [(4, .int 0), (0, .ref (r 0)), (1, .int p0), (2, .int p1), (3, .int p2)]) hx hb dX9_will_35 hl (by decide) rfl (fun ls hl => ?_)
        refine lv_iconst (v := 0) hx hb dX9_will_37 (by decide) ?_
        refine lv_istore (lv' := [(5, .int 0), (4, .int 0), (0, .ref (r 0)), (1, .int p0), (2, .int p1), (3, .int p2)]) hx hb dX9_will_38 hl (by decide) rfl (fun ls hl => ?_)
        have L40 : ∀ (N40 : Nat) (y40_4 y40_5 : Int32) (m40_i_askHouse m40_i_askTune : Int32) (m40_f_all : Nat → Int32) (m40_J : Nat → Nat → Int32) (H40 : Heap) (locs : List Loc) (ls : Array Slot) (g40_0 : 0 ≤ y40_5.toInt) (g40_1 : y40_5.toInt ≤ 60) (gi40_all_p : EW m40_f_all) (hP : va_P (dC, dI) vwCl (WM r ct i_taped i_size i_faultKind i_at i_end i_token i_number i_bank i_rb i_codes i_within i_piled i_unitsInRule m40_i_askHouse m40_i_askTune i_acts i_undone i_laid i_knowns i_time f_text f_tunes f_houses f_hums f_told f_many f_ruleFrom f_ruleTo f_code f_eWhat f_eSign m40_f_all z42 f_was f_sTune f_boxAll m40_J L) H40) (hD : va_D A (WM r ct i_taped i_size i_faultKind i_at i_end i_token i_number i_bank i_rb i_codes i_within i_piled i_unitsInRule m40_i_askHouse m40_i_askTune i_acts i_undone i_laid i_knowns i_time f_text f_tunes f_houses f_hums f_told f_many f_ruleFrom f_ruleTo f_code f_eWhat f_eSign m40_f_all z42 f_was f_sTune f_boxAll m40_J L)) (hS : va_S A s.heap H40 locs) (hl : lv_has ls 6 [(0, .ref (r 0)), (1, .int p0), (2, .int p1), (3, .int p2), (4, .int y40_4), (5, .int y40_5)]) (hM : -1 * y40_5.toInt + 60 < (N40 : Int)), W p l e { frames := 24, cells := 0, slots := 0, locals := 794 } s m ([.ref (r 0), .int p0, .int p1, .int p2] : List Value).toArray below meth c0 H40 locs 0 0 Q (F0 m 40 ls []) := by
          intro N40
          induction N40 with
          | zero =>
            intro y40_4 y40_5 m40_i_askHouse m40_i_askTune m40_f_all m40_J H40 locs ls g40_0 g40_1 gi40_all_p hP hD hS hl hM
            exact ((ob_542 hM g40_0 g40_1)).elim
          | succ N40 ih40 =>
            intro y40_4 y40_5 m40_i_askHouse m40_i_askTune m40_f_all m40_J H40 locs ls g40_0 g40_1 gi40_all_p hP hD hS hl hM
            have hM40 := msucc hM
            refine lv_iload hx hb dX9_will_40 (lv_at hl 5 rfl) ?_
            refine lv_iload_n hx hb dX9_will_42 rfl (lv_at hl 2 rfl) ?_
            refine lv_icmp_ge (tgt := 71) hx hb dX9_will_43 (by decide) (fun c_75 => ?_) (fun c_75 => ?_)
            · skip
              have f76 : p1.toInt ≤ y40_5.toInt := qi_le c_75 rfl rfl
              refine lv_aload_n hx hb dX9_will_71 rfl (lv_at hl 0 rfl) ?_
              refine gM_X9_88_0 hx hb hG hown hK hP dX9_will_72 ?_
              refine lv_iconst (v := 0) hx hb dX9_will_75 (by decide) ?_
              refine lv_iload_n hx hb dX9_will_76 rfl (lv_at hl 1 rfl) ?_
              refine lv_iadd hx hb dX9_will_77 ?_
              refine lv_topi (fun x77 ex77 => ?_)
              have f78 : x77.toInt = p0.toInt := (ob_311 (qi_add ex77 zc_0 rfl (ob_335 f14 f15) (ob_405 f1 f15)))
              refine ldM_25 (mm := p0.toInt) hx hb hK hP f78 (ob_108 f14 f15) (ob_406 f1 f15) dX9_will_78 ?_
              refine lv_aload_n hx hb dX9_will_79 rfl (lv_at hl 0 rfl) ?_
              refine gM_X9_88_0 hx hb hG hown hK hP dX9_will_80 ?_
              refine lv_iconst (v := 5) hx hb dX9_will_83 (by decide) ?_
              refine lv_iload_n hx hb dX9_will_84 rfl (lv_at hl 1 rfl) ?_
              refine lv_iadd hx hb dX9_will_85 ?_
              refine lv_topi (fun x79 ex79 => ?_)
              have f80 : x79.toInt = p0.toInt + 5 := (ob_343 (qi_add ex79 zc_5 rfl (ob_341 f14 f15) (ob_407 f1 f15)))
              refine ldM_25 (mm := p0.toInt + 5) hx hb hK hP f80 (ob_344 f14 f15) (ob_408 f1 f15) dX9_will_86 ?_
              refine lv_bipush (v := 10) hx hb dX9_will_87 (by decide) ?_
              refine lv_imul hx hb dX9_will_89 ?_
              refine lv_topi (fun x81 ex81 => ?_)
              refine lv_iadd hx hb dX9_will_90 ?_
              refine lv_topi (fun x82 ex82 => ?_)
              refine lv_istore (lv' := [(5, .int x82), (0, .ref (r 0)), (1, .int p0), (2, .int p1), (3, .int p2), (4, .int y40_4)]) hx hb dX9_will_91 hl (by decide) rfl (fun ls hl => ?_)
              refine lv_aload_n hx hb dX9_will_93 rfl (lv_at hl 1 rfl) ?_
              have hFc := frA hD hS hA
              refine va_callv (va_runV (As := []) (rest := []) ⟨hx, hb, hml, hown, hG⟩ (kX9_bringBack l dC dI r ct i_taped i_size i_faultKind i_at i_end i_token i_number i_bank i_rb i_codes i_within i_piled i_unitsInRule m40_i_askHouse m40_i_askTune i_acts i_undone i_laid i_knowns i_time f_text f_tunes f_houses f_hums f_told f_many f_ruleFrom f_ruleTo f_code f_eWhat f_eSign m40_f_all z42 f_was f_sTune f_boxAll m40_J L H40.size ⟨im0, im1, im2, im3, im4, im5, im6, im7, im8, im9, im10, im11, im12, im13, im14, im15, im16, im17, im18, im19, im20, im21, im22, im23, im24, gi40_all_p, im70, im27, im28, im29, im30⟩) (cwV 0 hG (goodV gw1740 gw1742 gw114 gw138 gw1743) rfl rfl rfl hd_X9_bringBack ⟨(Nat.le_of_ble_eq_true rfl), (Nat.le_of_ble_eq_true rfl)⟩) ⟨fbW, va_recv hK hP (ci := 8) (q0 := 0) rfl rfl, pW_in hP hK hD⟩ rfl rfl hl.1 rfl (lv_room (Nat.le_of_ble_eq_true rfl)) dX9_will_94 ⟨(Nat.le_of_ble_eq_true rfl), (Nat.le_of_ble_eq_true rfl)⟩) hS (fun q _ h => hFc q h) hFc (fun _ t_ H83 locs ht hvm hw hB hz1 hk1 hS => ?_)
              obtain ⟨z85, hP1, hD1, hI86⟩ := hB
              rw [ht] at hP1
              have hP := hP1
              have hD := dW hFc hD1
              obtain ⟨im87, im88, im89, im90, im91, im92, im93, im94, im95, im96, im97, im98, im99, im100, im101, im102, im103, im104, im105, im106, im107, im108, im109, im110, im111, im112, im113, im114, im115, im116, im117⟩ := id hI86
              refine lv_iload hx hb dX9_will_97 (lv_at hl 0 rfl) ?_
              rw [hQ]
              exact W.iret (v := x82) hx hb hr (fun t ht hW => ⟨⟨x82, x82, rfl, rfl, ⟨m40_i_askHouse, m40_i_askTune, z85, z42, m40_J, by rw [ht]; exact hP, hD, hI86⟩⟩, hS.F ht⟩) hS.2.2 dX9_will_99
            · skip
              have f118 : y40_5.toInt < p1.toInt := qi_nle c_75 rfl rfl
              refine lv_iload hx hb dX9_will_46 (lv_at hl 4 rfl) ?_
              refine lv_aload_n hx hb dX9_will_48 rfl (lv_at hl 0 rfl) ?_
              refine lv_iload_n hx hb dX9_will_49 rfl (lv_at hl 3 rfl) ?_
              refine lv_iconst (v := 1) hx hb dX9_will_50 (by decide) ?_
              refine lv_icmp_ne (tgt := 58) hx hb dX9_will_51 (by decide) (fun c_119 => ?_) (fun c_119 => ?_)
              · skip
                have f120 : p2.toInt ≠ 1 := qi_ne c_119 rfl zc_1
                have f121 : p2.toInt ≤ 0 := (ob_543 f38 f120)
                refine lv_iconst (v := 0) hx hb dX9_will_58 (by decide) ?_
                have hFc := frA hD hS hA
                refine va_calli (va_runV (As := [.int 0]) (rest := [.int y40_4]) ⟨hx, hb, hml, hown, hG⟩ (kX9_goWeek l dC dI r ct i_taped i_size i_faultKind i_at i_end i_token i_number i_bank i_rb i_codes i_within i_piled i_unitsInRule m40_i_askHouse m40_i_askTune i_acts i_undone i_laid i_knowns i_time f_text f_tunes f_houses f_hums f_told f_many f_ruleFrom f_ruleTo f_code f_eWhat f_eSign m40_f_all z42 f_was f_sTune f_boxAll m40_J L 0 H40.size ⟨im0, im1, im2, im3, im4, im5, im6, im7, im8, im9, im10, im11, im12, im13, im14, im15, im16, im17, im18, im19, im20, im21, im22, im23, im24, gi40_all_p, im70, im27, im28, im29, im30⟩ (ob_544 zc_0)) (cwV 1 hG (goodV gw1688 gw1690 gw108 gw138 gw1691) rfl rfl rfl hd_X9_goWeek ⟨(Nat.le_of_ble_eq_true rfl), (Nat.le_of_ble_eq_true rfl)⟩) ⟨fbW, va_recv hK hP (ci := 8) (q0 := 0) rfl rfl, pW_in hP hK hD⟩ rfl rfl hl.1 rfl (lv_room (Nat.le_of_ble_eq_true rfl)) dX9_will_59 ⟨(Nat.le_of_ble_eq_true rfl), (Nat.le_of_ble_eq_true rfl)⟩) hS (fun q _ h => hFc q h) hFc (fun r_123 u_ t_ H122 locs ht hvm hw hB hz1 hk1 hS => ?_)
                subst hw
                obtain ⟨x124, x125, z126, J127, hP1, hD1, hI128⟩ := hB
                rw [ht] at hP1
                have hP := hP1
                have hD := dW hFc hD1
                obtain ⟨im129, im130, im131, im132, im133, im134, im135, im136, im137, im138, im139, im140, im141, im142, im143, im144, im145, im146, im147, im148, im149, im150, im151, im152, im153, im154, im155, im156, im157, im158, im159⟩ := id hI128
                refine lv_iadd hx hb dX9_will_62 ?_
                refine lv_topi (fun x160 ex160 => ?_)
                refine lv_istore (lv' := [(4, .int x160), (0, .ref (r 0)), (1, .int p0), (2, .int p1), (3, .int p2), (5, .int y40_5)]) hx hb dX9_will_63 hl (by decide) rfl (fun ls hl => ?_)
                obtain ⟨x161, ex161⟩ : ∃ y : Int32, y = y40_5 + Int32.ofInt 1 := ⟨_, rfl⟩
                have f162 : x161.toInt = y40_5.toInt + 1 := (ob_139 (qi_add ex161 rfl (by decide) (ob_137 g40_0) (ob_545 g40_1)))
                refine lv_iinc (v := x161) (lv' := [(5, .int x161), (4, .int x160), (0, .ref (r 0)), (1, .int p0), (2, .int p1), (3, .int p2)]) hx hb dX9_will_65 hl (k := 5) rfl ex161.symm (by decide) rfl (fun ls hl => ?_)
                refine lv_goto (tgt := 40) hx hb dX9_will_68 (by decide) ?_
                exact ih40 x160 x161 x124 x125 z126 J127 H122 _ _ (ob_140 g40_0 f162) (ob_546 f27 f118 f162) im154 hP hD hS (lv_sub hl [2, 3, 4, 5, 1, 0] rfl) (ob_547 hM40 f162)
              · skip
                have f163 : p2.toInt = 1 := qi_eq c_119 rfl zc_1
                refine lv_iconst (v := 1) hx hb dX9_will_54 (by decide) ?_
                refine lv_goto (tgt := 59) hx hb dX9_will_55 (by decide) ?_
                have hFc := frA hD hS hA
                refine va_calli (va_runV (As := [.int 1]) (rest := [.int y40_4]) ⟨hx, hb, hml, hown, hG⟩ (kX9_goWeek l dC dI r ct i_taped i_size i_faultKind i_at i_end i_token i_number i_bank i_rb i_codes i_within i_piled i_unitsInRule m40_i_askHouse m40_i_askTune i_acts i_undone i_laid i_knowns i_time f_text f_tunes f_houses f_hums f_told f_many f_ruleFrom f_ruleTo f_code f_eWhat f_eSign m40_f_all z42 f_was f_sTune f_boxAll m40_J L 1 H40.size ⟨im0, im1, im2, im3, im4, im5, im6, im7, im8, im9, im10, im11, im12, im13, im14, im15, im16, im17, im18, im19, im20, im21, im22, im23, im24, gi40_all_p, im70, im27, im28, im29, im30⟩ (ob_517 zc_1)) (cwV 1 hG (goodV gw1688 gw1690 gw108 gw138 gw1691) rfl rfl rfl hd_X9_goWeek ⟨(Nat.le_of_ble_eq_true rfl), (Nat.le_of_ble_eq_true rfl)⟩) ⟨fbW, va_recv hK hP (ci := 8) (q0 := 0) rfl rfl, pW_in hP hK hD⟩ rfl rfl hl.1 rfl (lv_room (Nat.le_of_ble_eq_true rfl)) dX9_will_59 ⟨(Nat.le_of_ble_eq_true rfl), (Nat.le_of_ble_eq_true rfl)⟩) hS (fun q _ h => hFc q h) hFc (fun r_165 u_ t_ H164 locs ht hvm hw hB hz1 hk1 hS => ?_)
                subst hw
                obtain ⟨x166, x167, z168, J169, hP1, hD1, hI170⟩ := hB
                rw [ht] at hP1
                have hP := hP1
                have hD := dW hFc hD1
                obtain ⟨im171, im172, im173, im174, im175, im176, im177, im178, im179, im180, im181, im182, im183, im184, im185, im186, im187, im188, im189, im190, im191, im192, im193, im194, im195, im196, im197, im198, im199, im200, im201⟩ := id hI170
                refine lv_iadd hx hb dX9_will_62 ?_
                refine lv_topi (fun x202 ex202 => ?_)
                refine lv_istore (lv' := [(4, .int x202), (0, .ref (r 0)), (1, .int p0), (2, .int p1), (3, .int p2), (5, .int y40_5)]) hx hb dX9_will_63 hl (by decide) rfl (fun ls hl => ?_)
                obtain ⟨x203, ex203⟩ : ∃ y : Int32, y = y40_5 + Int32.ofInt 1 := ⟨_, rfl⟩
                have f204 : x203.toInt = y40_5.toInt + 1 := (ob_139 (qi_add ex203 rfl (by decide) (ob_137 g40_0) (ob_545 g40_1)))
                refine lv_iinc (v := x203) (lv' := [(5, .int x203), (4, .int x202), (0, .ref (r 0)), (1, .int p0), (2, .int p1), (3, .int p2)]) hx hb dX9_will_65 hl (k := 5) rfl ex203.symm (by decide) rfl (fun ls hl => ?_)
                refine lv_goto (tgt := 40) hx hb dX9_will_68 (by decide) ?_
                exact ih40 x202 x203 x166 x167 z168 J169 H164 _ _ (ob_140 g40_0 f204) (ob_546 f27 f118 f204) im196 hP hD hS (lv_sub hl [2, 3, 4, 5, 1, 0] rfl) (ob_547 hM40 f204)
        exact L40 (-1 * (0 : Int32).toInt + 60 + 1).toNat 0 0 i_askHouse i_askTune f_all J H40 _ _ (ob_5 zc_0) (ob_548 zc_0) im25 hP hD hS (lv_sub hl [2, 3, 4, 5, 1, 0] rfl) (mlt (ob_549 zc_0))
      · skip
        have f205 : r_30.toInt = 0 := qi_eq c_34 rfl zc_0
        refine lv_bipush (v := (-2)) hx hb dX9_will_27 (by decide) ?_
        rw [hQ]
        exact W.iret (v := (-2)) hx hb hr (fun t ht hW => ⟨⟨(-2), (-2), rfl, rfl, ⟨i_askHouse, i_askTune, f_all, f_kept, J, by rw [ht]; exact hP, hD, hI⟩⟩, hS.F ht⟩) hS.2.2 dX9_will_29
