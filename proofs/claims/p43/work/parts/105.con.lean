set_option maxHeartbeats 4000000 in
set_option maxRecDepth 100000 in
theorem kX9_comes (l : Launch) (dC : Nat → ClassId) (dI : Nat → Nat → Nat) (r : Nat → Nat) (ct : Nat → ClassId) (i_taped i_size i_faultKind i_at i_end i_token i_number i_bank i_rb i_codes i_within i_piled i_unitsInRule i_askHouse i_askTune i_acts i_undone i_laid i_knowns i_time : Int32) (f_text f_tunes f_houses f_hums f_told f_many f_ruleFrom f_ruleTo f_code f_eWhat f_eSign f_all f_kept f_was f_sTune f_boxAll : Nat → Int32) (J : Nat → Nat → Int32) (L : Nat → Nat → Int64) (sz : Nat) (hI : (IM i_taped i_size i_faultKind i_at i_end i_bank i_rb i_acts i_undone i_laid i_knowns i_time f_tunes f_houses f_hums f_told f_many f_ruleFrom f_ruleTo f_code f_all f_kept f_was f_sTune f_boxAll)) (hp0 : (0 : Int) ≤ i_askHouse.toInt) (hp1 : i_askHouse.toInt + 1 ≤ (f_houses (i_bank.toInt).toNat).toInt) (hp2 : (0 : Int) ≤ i_askTune.toInt) (hp3 : i_askTune.toInt + 1 ≤ (f_tunes (i_bank.toInt).toNat).toInt) (hp4 : RUW (f_ruleFrom (i_bank.toInt).toNat).toInt (f_ruleTo (i_bank.toInt).toNat).toInt f_code) : Met l yX9_comes (.code yX9_comes cX9_comes 4 (some .int) :: GW) { frames := 16, cells := 0, slots := 0, locals := 540 } (va_Pc [.ref (r 0)] (pW (dC, dI) (WM r ct i_taped i_size i_faultKind i_at i_end i_token i_number i_bank i_rb i_codes i_within i_piled i_unitsInRule i_askHouse i_askTune i_acts i_undone i_laid i_knowns i_time f_text f_tunes f_houses f_hums f_told f_many f_ruleFrom f_ruleTo f_code f_eWhat f_eSign f_all f_kept f_was f_sTune f_boxAll J L) (TM ct) sz)) (va_Qi (fun (r0 : Int32) (u : Int32) => r0 = u) (fun (u : Int32) (t : State) => ∃ (n_J : Nat → Nat → Int32), va_P (dC, dI) vwCl (WM r ct i_taped i_size i_faultKind i_at i_end i_token i_number i_bank i_rb i_codes i_within i_piled i_unitsInRule i_askHouse i_askTune i_acts i_undone i_laid i_knowns i_time f_text f_tunes f_houses f_hums f_told f_many f_ruleFrom f_ruleTo f_code f_eWhat f_eSign f_all f_kept f_was f_sTune f_boxAll n_J L) t.heap ∧ va_D (va_A (WM r ct i_taped i_size i_faultKind i_at i_end i_token i_number i_bank i_rb i_codes i_within i_piled i_unitsInRule i_askHouse i_askTune i_acts i_undone i_laid i_knowns i_time f_text f_tunes f_houses f_hums f_told f_many f_ruleFrom f_ruleTo f_code f_eWhat f_eSign f_all f_kept f_was f_sTune f_boxAll J L) sz) (WM r ct i_taped i_size i_faultKind i_at i_end i_token i_number i_bank i_rb i_codes i_within i_piled i_unitsInRule i_askHouse i_askTune i_acts i_undone i_laid i_knowns i_time f_text f_tunes f_houses f_hums f_told f_many f_ruleFrom f_ruleTo f_code f_eWhat f_eSign f_all f_kept f_was f_sTune f_boxAll n_J L) ∧ (IM i_taped i_size i_faultKind i_at i_end i_bank i_rb i_acts i_undone i_laid i_knowns i_time f_tunes f_houses f_hums f_told f_many f_ruleFrom f_ruleTo f_code f_all f_kept f_was f_sTune f_boxAll)) (va_A (WM r ct i_taped i_size i_faultKind i_at i_end i_token i_number i_bank i_rb i_codes i_within i_piled i_unitsInRule i_askHouse i_askTune i_acts i_undone i_laid i_knowns i_time f_text f_tunes f_houses f_hums f_told f_many f_ruleFrom f_ruleTo f_code f_eWhat f_eSign f_all f_kept f_was f_sTune f_boxAll J L) sz)) 0 0 (va_A (WM r ct i_taped i_size i_faultKind i_at i_end i_token i_number i_bank i_rb i_codes i_within i_piled i_unitsInRule i_askHouse i_askTune i_acts i_undone i_laid i_knowns i_time f_text f_tunes f_houses f_hums f_told f_many f_ruleFrom f_ruleTo f_code f_eWhat f_eSign f_all f_kept f_was f_sTune f_boxAll J L) sz) := by
  refine Met.ofW (cc := cX9_comes) (maxL := 4) (ret := (some .int)) (by decide) rfl ?_
  intro p e s m args below meth c0 s₁ B hml hv
  obtain ⟨rfl, hsz, hP, hK, hD0⟩ := hv
  have hx := B.exec
  have hb := B.bytes
  have hr := B.returns
  have hts := atoms_spec (ws := .code yX9_comes cX9_comes 4 (some .int) :: GW) B.pre
  have hG : ∀ w ∈ GW, w.before _ s = true := fun w h => hts w (List.mem_cons_of_mem _ h)
  have hown : s.vm.findClass RX9 = some m.cls := findClass_of_methodNamed B.named
  subst hsz
  have hD := hD0.self (sz := s.heap.size)
  generalize hAe : va_A (WM r ct i_taped i_size i_faultKind i_at i_end i_token i_number i_bank i_rb i_codes i_within i_piled i_unitsInRule i_askHouse i_askTune i_acts i_undone i_laid i_knowns i_time f_text f_tunes f_houses f_hums f_told f_many f_ruleFrom f_ruleTo f_code f_eWhat f_eSign f_all f_kept f_was f_sTune f_boxAll J L) s.heap.size = A at hD ⊢
  have hA : ∀ q : Nat, s.heap.size ≤ q → A q := fun q h => by rw [← hAe]; exact Or.inr h
  have hS : va_S A s.heap s.heap [] := va_S.rf
  have hP : va_P (dC, dI) vwCl (WM r ct i_taped i_size i_faultKind i_at i_end i_token i_number i_bank i_rb i_codes i_within i_piled i_unitsInRule i_askHouse i_askTune i_acts i_undone i_laid i_knowns i_time f_text f_tunes f_houses f_hums f_told f_many f_ruleFrom f_ruleTo f_code f_eWhat f_eSign f_all f_kept f_was f_sTune f_boxAll J L) s.heap := hP
  have hl := lv_entry ([.ref (r 0)]) (n := 4) (Nat.le_of_ble_eq_true rfl)
  rw [lg_entry_eq]
  generalize (lg_sl ([.ref (r 0)]) ++ List.replicate (4 - (lg_sl ([.ref (r 0)])).length) Slot.unset).toArray = ls at hl ⊢
  have hl : lv_has ls 4 [(0, .ref (r 0))] := hl
  refine nameQ (fun Q hQ => ?_)
  obtain ⟨im0, im1, im2, im3, im4, im5, im6, im7, im8, im9, im10, im11, im12, im13, im14, im15, im16, im17, im18, im19, im20, im21, im22, im23, im24, im25, im26, im27, im28, im29, im30, im31, im32⟩ := id hI
  have f1 : 0 ≤ (f_tunes (i_bank.toInt).toNat).toInt ∧ (f_tunes (i_bank.toInt).toNat).toInt ≤ 5 := im21 (i_bank.toInt)
  have f2 : 0 ≤ (f_houses (i_bank.toInt).toNat).toInt ∧ (f_houses (i_bank.toInt).toNat).toInt ≤ 4 := im22 (i_bank.toInt)
  refine lv_iconst (v := 0) hx hb dX9_comes_0 (by decide) ?_
  refine lv_istore_n (lv' := [(1, .int 0), (0, .ref (r 0))]) hx hb dX9_comes_1 rfl hl (by decide) rfl (fun ls hl => ?_)
  refine lv_aload_n hx hb dX9_comes_2 rfl (lv_at hl 1 rfl) ?_
  refine gM_X9_60_0 hx hb hG hown hK hP dX9_comes_3 ?_
  refine lv_aload_n hx hb dX9_comes_6 rfl (lv_at hl 1 rfl) ?_
  refine gM_X9_249_0 hx hb hG hown hK hP dX9_comes_7 ?_
  refine ldM_16 (mm := i_bank.toInt) hx hb hK hP rfl (ob_584 im4 im5) (ob_585 im4 im5) dX9_comes_10 ?_
  have f3 : (dp f_code (f_ruleFrom (i_bank.toInt).toNat).toInt ((f_ruleFrom (i_bank.toInt).toNat).toInt - (f_ruleFrom (i_bank.toInt).toNat).toInt).toNat) = 0 := dp_zero
  refine lv_istore_n (lv' := [(2, .int (f_ruleFrom (i_bank.toInt).toNat)), (1, .int 0), (0, .ref (r 0))]) hx hb dX9_comes_11 rfl hl (by decide) rfl (fun ls hl => ?_)
  have L12 : ∀ (N12 : Nat) (y12_1 y12_2 : Int32) (m12_J : Nat → Nat → Int32) (H12 : Heap) (locs : List Loc) (ls : Array Slot) (g12_0 : (0 : Int) ≤ y12_1.toInt + 1) (g12_1 : y12_1.toInt ≤ (61 : Int)) (g12_2 : (0 : Int) ≤ y12_2.toInt) (g12_3 : y12_2.toInt ≤ (1120 : Int)) (g12_4 : y12_1.toInt = (dp f_code (f_ruleFrom (i_bank.toInt).toNat).toInt (y12_2.toInt - (f_ruleFrom (i_bank.toInt).toNat).toInt).toNat)) (g12_5 : (f_ruleFrom (i_bank.toInt).toNat).toInt ≤ y12_2.toInt) (g12_6 : y12_2.toInt ≤ (1120 : Int)) (hP : va_P (dC, dI) vwCl (WM r ct i_taped i_size i_faultKind i_at i_end i_token i_number i_bank i_rb i_codes i_within i_piled i_unitsInRule i_askHouse i_askTune i_acts i_undone i_laid i_knowns i_time f_text f_tunes f_houses f_hums f_told f_many f_ruleFrom f_ruleTo f_code f_eWhat f_eSign f_all f_kept f_was f_sTune f_boxAll m12_J L) H12) (hD : va_D A (WM r ct i_taped i_size i_faultKind i_at i_end i_token i_number i_bank i_rb i_codes i_within i_piled i_unitsInRule i_askHouse i_askTune i_acts i_undone i_laid i_knowns i_time f_text f_tunes f_houses f_hums f_told f_many f_ruleFrom f_ruleTo f_code f_eWhat f_eSign f_all f_kept f_was f_sTune f_boxAll m12_J L)) (hS : va_S A s.heap H12 locs) (hl : lv_has ls 4 [(0, .ref (r 0)), (1, .int y12_1), (2, .int y12_2)]) (hM : -1 * y12_2.toInt + 1120 < (N12 : Int)), W p l e { frames := 16, cells := 0, slots := 0, locals := 540 } s m ([.ref (r 0)] : List Value).toArray below meth c0 H12 locs 0 0 Q (F0 m 12 ls []) := by
    intro N12
    induction N12 with
    | zero =>
      intro y12_1 y12_2 m12_J H12 locs ls g12_0 g12_1 g12_2 g12_3 g12_4 g12_5 g12_6 hP hD hS hl hM
      exact ((ob_586 hM g12_3)).elim
    | succ N12 ih12 =>
      intro y12_1 y12_2 m12_J H12 locs ls g12_0 g12_1 g12_2 g12_3 g12_4 g12_5 g12_6 hP hD hS hl hM
      have hM12 := msucc hM
      refine lv_iload_n hx hb dX9_comes_12 rfl (lv_at hl 2 rfl) ?_
      refine lv_aload_n hx hb dX9_comes_13 rfl (lv_at hl 0 rfl) ?_
      refine gM_X9_63_0 hx hb hG hown hK hP dX9_comes_14 ?_
      refine lv_aload_n hx hb dX9_comes_17 rfl (lv_at hl 0 rfl) ?_
      refine gM_X9_249_0 hx hb hG hown hK hP dX9_comes_18 ?_
      refine ldM_17 (mm := i_bank.toInt) hx hb hK hP rfl (ob_584 im4 im5) (ob_585 im4 im5) dX9_comes_21 ?_
      refine lv_icmp_ge (tgt := 130) hx hb dX9_comes_22 (by decide) (fun c_4 => ?_) (fun c_4 => ?_)
      · skip
        have f5 : (f_ruleTo (i_bank.toInt).toNat).toInt ≤ y12_2.toInt := qi_le c_4 rfl rfl
        refine lv_aload_n hx hb dX9_comes_130 rfl (lv_at hl 0 rfl) ?_
        refine gM_X9_85_0 hx hb hG hown hK hP dX9_comes_131 ?_
        refine lv_iconst (v := 0) hx hb dX9_comes_134 (by decide) ?_
        refine ldM_24 (mm := (0 : Int)) hx hb hK hP zc_0 (ob_587) (ob_588) dX9_comes_135 (fun x6 => ?_)
        rw [hQ]
        exact W.iret (v := x6) hx hb hr (fun t ht hW => ⟨⟨x6, x6, rfl, rfl, ⟨m12_J, by rw [ht]; exact hP, hD, hI⟩⟩, hS.F ht⟩) hS.2.2 dX9_comes_136
      · skip
        have f7 : y12_2.toInt < (f_ruleTo (i_bank.toInt).toNat).toInt := qi_nle c_4 rfl rfl
        refine lv_aload_n hx hb dX9_comes_25 rfl (lv_at hl 0 rfl) ?_
        refine gM_X9_73_0 hx hb hG hown hK hP dX9_comes_26 ?_
        refine lv_iload_n hx hb dX9_comes_29 rfl (lv_at hl 2 rfl) ?_
        refine ldM_20 (mm := y12_2.toInt) hx hb hK hP rfl (ob_212 g12_2) (ob_589 hp4.2.2.1 f7) dX9_comes_30 ?_
        have f8 : ((f_code (y12_2.toInt).toNat).toInt = 126 ∧ (dp f_code (f_ruleFrom (i_bank.toInt).toNat).toInt (y12_2.toInt + 1 - (f_ruleFrom (i_bank.toInt).toNat).toInt).toNat) = (dp f_code (f_ruleFrom (i_bank.toInt).toNat).toInt (y12_2.toInt - (f_ruleFrom (i_bank.toInt).toNat).toInt).toNat)) ∨ (97 ≤ (f_code (y12_2.toInt).toNat).toInt ∧ (f_code (y12_2.toInt).toNat).toInt ≤ 122 ∧ (dp f_code (f_ruleFrom (i_bank.toInt).toNat).toInt (y12_2.toInt + 1 - (f_ruleFrom (i_bank.toInt).toNat).toInt).toNat) = (dp f_code (f_ruleFrom (i_bank.toInt).toNat).toInt (y12_2.toInt - (f_ruleFrom (i_bank.toInt).toNat).toInt).toNat) + 1) ∨ ((f_code (y12_2.toInt).toNat).toInt ≠ 126 ∧ ((f_code (y12_2.toInt).toNat).toInt < 97 ∨ 122 < (f_code (y12_2.toInt).toNat).toInt) ∧ (dp f_code (f_ruleFrom (i_bank.toInt).toNat).toInt (y12_2.toInt + 1 - (f_ruleFrom (i_bank.toInt).toNat).toInt).toNat) = (dp f_code (f_ruleFrom (i_bank.toInt).toNat).toInt (y12_2.toInt - (f_ruleFrom (i_bank.toInt).toNat).toInt).toNat) + -1) := dp_or (ob_87 g12_5)
        have f9 := ruw_at hp4 (ob_87 g12_5) (ob_590 f7)
        refine lv_istore_n (lv' := [(3, .int (f_code (y12_2.toInt).toNat)), (0, .ref (r 0)), (1, .int y12_1), (2, .int y12_2)]) hx hb dX9_comes_31 rfl hl (by decide) rfl (fun ls hl => ?_)
        refine lv_iload_n hx hb dX9_comes_32 rfl (lv_at hl 0 rfl) ?_
        refine lv_bipush (v := 126) hx hb dX9_comes_33 (by decide) ?_
        refine lv_icmp_ne (tgt := 65) hx hb dX9_comes_35 (by decide) (fun c_10 => ?_) (fun c_10 => ?_)
        · skip
          have f11 : (f_code (y12_2.toInt).toNat).toInt ≠ 126 := qi_ne c_10 rfl zc_126
          refine lv_iload_n hx hb dX9_comes_65 rfl (lv_at hl 0 rfl) ?_
          refine va_calli (va_runS (As := [.int (f_code (y12_2.toInt).toNat)]) (rest := []) ⟨hx, hb, hml, hown, hG⟩ (kX9_isLetter l dC dI (f_code (y12_2.toInt).toNat) H12.size) (va_cwS 1 hG (goodS gw1370 gw1371 gw138 gw1372) rfl rfl rfl hd_X9_isLetter ⟨(Nat.le_of_ble_eq_true rfl), (Nat.le_of_ble_eq_true rfl)⟩) ⟨fbR, pR_in emptyP (emptyK hK)⟩ rfl rfl hl.1 rfl (lv_room (Nat.le_of_ble_eq_true rfl)) dX9_comes_66 ⟨(Nat.le_of_ble_eq_true rfl), (Nat.le_of_ble_eq_true rfl)⟩) hS (fun q hq h => absurd hq (Nat.not_lt.mpr h)) (fun q h => hA q (Nat.le_trans hS.1 h)) (fun r_13 u_ t_ H12 locs ht hvm hw hB hz1 hk1 hS => ?_)
          subst hw
          have hP := wk hP hk1
          obtain ⟨f14, f15, f16⟩ := hB
          refine lv_if_eq (tgt := 95) hx hb dX9_comes_69 (by decide) (fun c_17 => ?_) (fun c_17 => ?_)
          · skip
            have f18 : r_13.toInt = 0 := qi_eq c_17 rfl zc_0
            obtain ⟨x19, ex19⟩ : ∃ y : Int32, y = y12_1 + Int32.ofInt (-1) := ⟨_, rfl⟩
            have f20 : x19.toInt = y12_1.toInt + (-1) := (ob_330 (qi_add ex19 rfl (by decide) (ob_591 g12_0 g12_1 g12_4) (ob_592 g12_0 g12_1 g12_4)))
            refine lv_iinc (v := x19) (lv' := [(1, .int x19), (3, .int (f_code (y12_2.toInt).toNat)), (0, .ref (r 0)), (2, .int y12_2)]) hx hb dX9_comes_95 hl (k := 2) rfl ex19.symm (by decide) rfl (fun ls hl => ?_)
            refine lv_aload_n hx hb dX9_comes_98 rfl (lv_at hl 2 rfl) ?_
            refine gM_X9_85_0 hx hb hG hown hK hP dX9_comes_99 ?_
            refine lv_iload_n hx hb dX9_comes_102 rfl (lv_at hl 0 rfl) ?_
            refine lv_iconst (v := 1) hx hb dX9_comes_103 (by decide) ?_
            refine lv_isub hx hb dX9_comes_104 ?_
            refine lv_topi (fun x21 ex21 => ?_)
            have f22 : x21.toInt = y12_1.toInt + (-2) := (ob_595 (qi_sub ex21 rfl zc_1 (ob_593 g12_0 g12_1 g12_4 f20) (ob_594 g12_0 g12_1 g12_4 f20)) f20)
            refine lv_iload_n hx hb dX9_comes_105 rfl (lv_at hl 1 rfl) ?_
            refine lv_aload_n hx hb dX9_comes_106 rfl (lv_at hl 2 rfl) ?_
            refine gM_X9_85_0 hx hb hG hown hK hP dX9_comes_107 ?_
            refine lv_iload_n hx hb dX9_comes_110 rfl (lv_at hl 0 rfl) ?_
            refine lv_iconst (v := 1) hx hb dX9_comes_111 (by decide) ?_
            refine lv_isub hx hb dX9_comes_112 ?_
            refine lv_topi (fun x23 ex23 => ?_)
            have f24 : x23.toInt = y12_1.toInt + (-2) := (ob_595 (qi_sub ex23 rfl zc_1 (ob_593 g12_0 g12_1 g12_4 f20) (ob_594 g12_0 g12_1 g12_4 f20)) f20)
            refine ldM_24 (mm := y12_1.toInt + (-2)) hx hb hK hP f24 (ob_596 g12_4 f9.2.2.2.2 f11 f14 f18) (ob_597 g12_0 g12_1 g12_4) dX9_comes_113 (fun x25 => ?_)
            refine lv_aload_n hx hb dX9_comes_114 rfl (lv_at hl 2 rfl) ?_
            refine gM_X9_85_0 hx hb hG hown hK hP dX9_comes_115 ?_
            refine lv_iload_n hx hb dX9_comes_118 rfl (lv_at hl 0 rfl) ?_
            refine ldM_24 (mm := y12_1.toInt + (-1)) hx hb hK hP f20 (ob_598 g12_4 f9.1 f9.2.2.2.2 f14 f18) (ob_599 g12_4 f9.2.2.2.1) dX9_comes_119 (fun x26 => ?_)
            refine va_calli (va_runS (As := [.int (f_code (y12_2.toInt).toNat), .int x25, .int x26]) (rest := [.int x21, .ref (r 24)]) ⟨hx, hb, hml, hown, hG⟩ (kX9_two l dC dI (f_code (y12_2.toInt).toNat) x25 x26 H12.size) (va_cwS 3 hG (goodS gw1598 gw1599 gw138 gw1600) rfl rfl rfl hd_X9_two ⟨(Nat.le_of_ble_eq_true rfl), (Nat.le_of_ble_eq_true rfl)⟩) ⟨fbR, pR_in emptyP (emptyK hK)⟩ rfl rfl hl.1 rfl (lv_room (Nat.le_of_ble_eq_true rfl)) dX9_comes_120 ⟨(Nat.le_of_ble_eq_true rfl), (Nat.le_of_ble_eq_true rfl)⟩) hS (fun q hq h => absurd hq (Nat.not_lt.mpr h)) (fun q h => hA q (Nat.le_trans hS.1 h)) (fun r_28 u_ t_ H27 locs ht hvm hw hB hz1 hk1 hS => ?_)
            subst hw
            have hP := wk hP hk1
            refine stM_24 (mm := y12_1.toInt + (-2)) hx hb hK hP hD hS f22 (ob_596 g12_4 f9.2.2.2.2 f11 f14 f18) (ob_597 g12_0 g12_1 g12_4) dX9_comes_123 (fun J30 H29 locs hP hD hS => ?_)
            obtain ⟨x31, ex31⟩ : ∃ y : Int32, y = y12_2 + Int32.ofInt 1 := ⟨_, rfl⟩
            have f32 : x31.toInt = y12_2.toInt + 1 := (ob_84 (qi_add ex31 rfl (by decide) (ob_82 g12_2) (ob_600 g12_3)))
            refine lv_iinc (v := x31) (lv' := [(2, .int x31), (1, .int x19), (3, .int (f_code (y12_2.toInt).toNat)), (0, .ref (r 0))]) hx hb dX9_comes_124 hl (k := 3) rfl ex31.symm (by decide) rfl (fun ls hl => ?_)
            have f33 : (dp f_code (f_ruleFrom (i_bank.toInt).toNat).toInt (x31.toInt - (f_ruleFrom (i_bank.toInt).toNat).toInt).toNat) = (dp f_code (f_ruleFrom (i_bank.toInt).toNat).toInt (y12_2.toInt + 1 - (f_ruleFrom (i_bank.toInt).toNat).toInt).toNat) := by rw [f32]
            refine lv_goto (tgt := 12) hx hb dX9_comes_127 (by decide) ?_
            exact ih12 x19 x31 J30 H29 _ _ (ob_601 g12_4 f9.2.2.1 f20) (ob_602 g12_0 g12_1 g12_4 f20) (ob_91 g12_2 f32) (ob_603 hp4.2.2.1 f7 f32) (ob_604 g12_4 f8 f11 f14 f18 f33 f20) (ob_93 g12_5 f32) (ob_603 hp4.2.2.1 f7 f32) hP hD hS (lv_sub hl [3, 1, 0] rfl) (ob_605 hM12 f32)
          · skip
            have f34 : r_13.toInt ≠ 0 := qi_ne c_17 rfl zc_0
            have f35 : (1 : Int) ≤ r_13.toInt := (ob_606 f14 f34)
            have f36 : (97 : Int) ≤ (f_code (y12_2.toInt).toNat).toInt := (ob_607 f14 f34)
            have f37 : (f_code (y12_2.toInt).toNat).toInt ≤ (122 : Int) := (ob_608 f14 f34)
            have f38 : r_13.toInt = (1 : Int) := (ob_104 f15 f16 f35)
            refine lv_aload_n hx hb dX9_comes_72 rfl (lv_at hl 1 rfl) ?_
            refine gM_X9_85_0 hx hb hG hown hK hP dX9_comes_73 ?_
            refine lv_iload_n hx hb dX9_comes_76 rfl (lv_at hl 2 rfl) ?_
            refine lv_aload_n hx hb dX9_comes_77 rfl (lv_at hl 1 rfl) ?_
            refine lv_iload_n hx hb dX9_comes_78 rfl (lv_at hl 0 rfl) ?_
            refine lv_aload_n hx hb dX9_comes_79 rfl (lv_at hl 1 rfl) ?_
            refine gM_X9_76_0 hx hb hG hown hK hP dX9_comes_80 ?_
            refine lv_iload_n hx hb dX9_comes_83 rfl (lv_at hl 3 rfl) ?_
            refine ldM_21 (mm := y12_2.toInt) hx hb hK hP rfl (ob_212 g12_2) (ob_589 hp4.2.2.1 f7) dX9_comes_84 (fun x39 => ?_)
            refine va_calli (va_runV (As := [.int (f_code (y12_2.toInt).toNat), .int x39]) (rest := [.int y12_1, .ref (r 24)]) ⟨hx, hb, hml, hown, hG⟩ (kX9_asked l dC dI r ct i_taped i_size i_faultKind i_at i_end i_token i_number i_bank i_rb i_codes i_within i_piled i_unitsInRule i_askHouse i_askTune i_acts i_undone i_laid i_knowns i_time f_text f_tunes f_houses f_hums f_told f_many f_ruleFrom f_ruleTo f_code f_eWhat f_eSign f_all f_kept f_was f_sTune f_boxAll m12_J L (f_code (y12_2.toInt).toNat) x39 H12.size hI (ob_526 hp0 hp1) (ob_552 f2 hp0 hp1) (ob_526 hp2 hp3) (ob_527 f1 hp2 hp3)) (cwV 2 hG (goodV gw1574 gw1576 gw97 gw138 gw1577) rfl rfl rfl hd_X9_asked ⟨(Nat.le_of_ble_eq_true rfl), (Nat.le_of_ble_eq_true rfl)⟩) ⟨fbR, va_recv hK hP (ci := 8) (q0 := 0) rfl rfl, pR_in hP hK⟩ rfl rfl hl.1 rfl (lv_room (Nat.le_of_ble_eq_true rfl)) dX9_comes_85 ⟨(Nat.le_of_ble_eq_true rfl), (Nat.le_of_ble_eq_true rfl)⟩) hS (fun q hq h => absurd hq (Nat.not_lt.mpr h)) (fun q h => hA q (Nat.le_trans hS.1 h)) (fun r_41 u_ t_ H40 locs ht hvm hw hB hz1 hk1 hS => ?_)
            subst hw
            have hP := wk hP hk1
            refine stM_24 (mm := y12_1.toInt) hx hb hK hP hD hS rfl (ob_609 g12_4 f9.2.2.1) (ob_610 g12_4 f9.2.1 f36 f37) dX9_comes_88 (fun J43 H42 locs hP hD hS => ?_)
            obtain ⟨x44, ex44⟩ : ∃ y : Int32, y = y12_1 + Int32.ofInt 1 := ⟨_, rfl⟩
            have f45 : x44.toInt = y12_1.toInt + 1 := (ob_84 (qi_add ex44 rfl (by decide) (ob_611 g12_0 g12_1 g12_4) (ob_612 g12_0 g12_1 g12_4)))
            refine lv_iinc (v := x44) (lv' := [(1, .int x44), (3, .int (f_code (y12_2.toInt).toNat)), (0, .ref (r 0)), (2, .int y12_2)]) hx hb dX9_comes_89 hl (k := 2) rfl ex44.symm (by decide) rfl (fun ls hl => ?_)
            refine lv_goto (tgt := 124) hx hb dX9_comes_92 (by decide) ?_
            obtain ⟨x46, ex46⟩ : ∃ y : Int32, y = y12_2 + Int32.ofInt 1 := ⟨_, rfl⟩
            have f47 : x46.toInt = y12_2.toInt + 1 := (ob_84 (qi_add ex46 rfl (by decide) (ob_82 g12_2) (ob_600 g12_3)))
            refine lv_iinc (v := x46) (lv' := [(2, .int x46), (1, .int x44), (3, .int (f_code (y12_2.toInt).toNat)), (0, .ref (r 0))]) hx hb dX9_comes_124 hl (k := 3) rfl ex46.symm (by decide) rfl (fun ls hl => ?_)
            have f48 : (dp f_code (f_ruleFrom (i_bank.toInt).toNat).toInt (x46.toInt - (f_ruleFrom (i_bank.toInt).toNat).toInt).toNat) = (dp f_code (f_ruleFrom (i_bank.toInt).toNat).toInt (y12_2.toInt + 1 - (f_ruleFrom (i_bank.toInt).toNat).toInt).toNat) := by rw [f47]
            refine lv_goto (tgt := 12) hx hb dX9_comes_127 (by decide) ?_
            exact ih12 x44 x46 J43 H42 _ _ (ob_613 g12_0 g12_1 g12_4 f45) (ob_614 g12_4 f9.2.2.2.1 f45) (ob_91 g12_2 f47) (ob_603 hp4.2.2.1 f7 f47) (ob_615 g12_4 f8 f36 f37 f48 f45) (ob_93 g12_5 f47) (ob_603 hp4.2.2.1 f7 f47) hP hD hS (lv_sub hl [3, 1, 0] rfl) (ob_605 hM12 f47)
        · skip
          have f49 : (f_code (y12_2.toInt).toNat).toInt = 126 := qi_eq c_10 rfl zc_126
          have f50 : ((f_code (y12_2.toInt).toNat).toInt ≤ (122 : Int)) → ((dp f_code (f_ruleFrom (i_bank.toInt).toNat).toInt (y12_2.toInt - (f_ruleFrom (i_bank.toInt).toNat).toInt).toNat) ≤ (59 : Int)) := (ob_616 f49)
          refine lv_aload_n hx hb dX9_comes_38 rfl (lv_at hl 1 rfl) ?_
          refine gM_X9_85_0 hx hb hG hown hK hP dX9_comes_39 ?_
          refine lv_iload_n hx hb dX9_comes_42 rfl (lv_at hl 2 rfl) ?_
          refine lv_iconst (v := 1) hx hb dX9_comes_43 (by decide) ?_
          refine lv_isub hx hb dX9_comes_44 ?_
          refine lv_topi (fun x51 ex51 => ?_)
          have f52 : x51.toInt = y12_1.toInt + (-1) := (ob_208 (qi_sub ex51 rfl zc_1 (ob_617 g12_0 g12_1 g12_4) (ob_618 g12_0 g12_1 g12_4)))
          refine lv_aload_n hx hb dX9_comes_45 rfl (lv_at hl 1 rfl) ?_
          refine gM_X9_85_0 hx hb hG hown hK hP dX9_comes_46 ?_
          refine lv_iload_n hx hb dX9_comes_49 rfl (lv_at hl 2 rfl) ?_
          refine lv_iconst (v := 1) hx hb dX9_comes_50 (by decide) ?_
          refine lv_isub hx hb dX9_comes_51 ?_
          refine lv_topi (fun x53 ex53 => ?_)
          have f54 : x53.toInt = y12_1.toInt + (-1) := (ob_208 (qi_sub ex53 rfl zc_1 (ob_617 g12_0 g12_1 g12_4) (ob_618 g12_0 g12_1 g12_4)))
          refine ldM_24 (mm := y12_1.toInt + (-1)) hx hb hK hP f54 (ob_619 g12_4 f9.1 f49) (ob_599 g12_4 f9.2.2.2.1) dX9_comes_52 (fun x55 => ?_)
          refine lv_if_ne (tgt := 60) hx hb dX9_comes_53 (by decide) (fun c_56 => ?_) (fun c_56 => ?_)
          · skip
            have f57 : x55.toInt ≠ 0 := qi_ne c_56 rfl zc_0
            refine lv_iconst (v := 0) hx hb dX9_comes_60 (by decide) ?_
            refine stM_24 (mm := y12_1.toInt + (-1)) hx hb hK hP hD hS f52 (ob_619 g12_4 f9.1 f49) (ob_599 g12_4 f9.2.2.2.1) dX9_comes_61 (fun J59 H58 locs hP hD hS => ?_)
            refine lv_goto (tgt := 124) hx hb dX9_comes_62 (by decide) ?_
            obtain ⟨x60, ex60⟩ : ∃ y : Int32, y = y12_2 + Int32.ofInt 1 := ⟨_, rfl⟩
            have f61 : x60.toInt = y12_2.toInt + 1 := (ob_84 (qi_add ex60 rfl (by decide) (ob_82 g12_2) (ob_600 g12_3)))
            refine lv_iinc (v := x60) (lv' := [(2, .int x60), (3, .int (f_code (y12_2.toInt).toNat)), (0, .ref (r 0)), (1, .int y12_1)]) hx hb dX9_comes_124 hl (k := 3) rfl ex60.symm (by decide) rfl (fun ls hl => ?_)
            have f62 : (dp f_code (f_ruleFrom (i_bank.toInt).toNat).toInt (x60.toInt - (f_ruleFrom (i_bank.toInt).toNat).toInt).toNat) = (dp f_code (f_ruleFrom (i_bank.toInt).toNat).toInt (y12_2.toInt + 1 - (f_ruleFrom (i_bank.toInt).toNat).toInt).toNat) := by rw [f61]
            refine lv_goto (tgt := 12) hx hb dX9_comes_127 (by decide) ?_
            exact ih12 y12_1 x60 J59 H58 _ _ (ob_620 g12_0 g12_1 g12_4) (ob_621 g12_0 g12_1 g12_4) (ob_91 g12_2 f61) (ob_603 hp4.2.2.1 f7 f61) (ob_622 g12_4 f8 f49 f62) (ob_93 g12_5 f61) (ob_603 hp4.2.2.1 f7 f61) hP hD hS (lv_sub hl [2, 3, 0] rfl) (ob_605 hM12 f61)
          · skip
            have f63 : x55.toInt = 0 := qi_eq c_56 rfl zc_0
            refine lv_iconst (v := 1) hx hb dX9_comes_56 (by decide) ?_
            refine lv_goto (tgt := 61) hx hb dX9_comes_57 (by decide) ?_
            refine stM_24 (mm := y12_1.toInt + (-1)) hx hb hK hP hD hS f52 (ob_619 g12_4 f9.1 f49) (ob_599 g12_4 f9.2.2.2.1) dX9_comes_61 (fun J65 H64 locs hP hD hS => ?_)
            refine lv_goto (tgt := 124) hx hb dX9_comes_62 (by decide) ?_
            obtain ⟨x66, ex66⟩ : ∃ y : Int32, y = y12_2 + Int32.ofInt 1 := ⟨_, rfl⟩
            have f67 : x66.toInt = y12_2.toInt + 1 := (ob_84 (qi_add ex66 rfl (by decide) (ob_82 g12_2) (ob_600 g12_3)))
            refine lv_iinc (v := x66) (lv' := [(2, .int x66), (3, .int (f_code (y12_2.toInt).toNat)), (0, .ref (r 0)), (1, .int y12_1)]) hx hb dX9_comes_124 hl (k := 3) rfl ex66.symm (by decide) rfl (fun ls hl => ?_)
            have f68 : (dp f_code (f_ruleFrom (i_bank.toInt).toNat).toInt (x66.toInt - (f_ruleFrom (i_bank.toInt).toNat).toInt).toNat) = (dp f_code (f_ruleFrom (i_bank.toInt).toNat).toInt (y12_2.toInt + 1 - (f_ruleFrom (i_bank.toInt).toNat).toInt).toNat) := by rw [f67]
            refine lv_goto (tgt := 12) hx hb dX9_comes_127 (by decide) ?_
            exact ih12 y12_1 x66 J65 H64 _ _ (ob_620 g12_0 g12_1 g12_4) (ob_621 g12_0 g12_1 g12_4) (ob_91 g12_2 f67) (ob_603 hp4.2.2.1 f7 f67) (ob_622 g12_4 f8 f49 f68) (ob_93 g12_5 f67) (ob_603 hp4.2.2.1 f7 f67) hP hD hS (lv_sub hl [2, 3, 0] rfl) (ob_605 hM12 f67)
  exact L12 (-1 * (f_ruleFrom (i_bank.toInt).toNat).toInt + 1120 + 1).toNat 0 (f_ruleFrom (i_bank.toInt).toNat) J s.heap _ _ (ob_623 zc_0) (ob_624 zc_0) (ob_625 hp4.1 hp4.2.1) (ob_626 hp4.1 hp4.2.1) (ob_0 f3 zc_0) (ob_88) (ob_626 hp4.1 hp4.2.1) hP hD hS (lv_sub hl [2, 1, 0] rfl) (mlt (ob_627 hp4.1 hp4.2.1))
set_option maxHeartbeats 4000000 in
set_option maxRecDepth 100000 in
theorem kX9_fault (l : Launch) (dC : Nat → ClassId) (dI : Nat → Nat → Nat) (r : Nat → Nat) (ct : Nat → ClassId) (i_taped i_size i_faultKind i_at i_end i_token i_number i_bank i_rb i_codes i_within i_piled i_unitsInRule i_askHouse i_askTune i_acts i_undone i_laid i_knowns i_time : Int32) (f_text f_tunes f_houses f_hums f_told f_many f_ruleFrom f_ruleTo f_code f_eWhat f_eSign f_all f_kept f_was f_sTune f_boxAll : Nat → Int32) (J : Nat → Nat → Int32) (L : Nat → Nat → Int64) (p0 : Int32) (sz : Nat) (hI : (IM i_taped i_size i_faultKind i_at i_end i_bank i_rb i_acts i_undone i_laid i_knowns i_time f_tunes f_houses f_hums f_told f_many f_ruleFrom f_ruleTo f_code f_all f_kept f_was f_sTune f_boxAll)) : Met l yX9_fault (.code yX9_fault cX9_fault 2 (some .int) :: GW) { frames := 2, cells := 0, slots := 0, locals := 100 } (va_Pc [.ref (r 0), .int p0] (pR (dC, dI) (WM r ct i_taped i_size i_faultKind i_at i_end i_token i_number i_bank i_rb i_codes i_within i_piled i_unitsInRule i_askHouse i_askTune i_acts i_undone i_laid i_knowns i_time f_text f_tunes f_houses f_hums f_told f_many f_ruleFrom f_ruleTo f_code f_eWhat f_eSign f_all f_kept f_was f_sTune f_boxAll J L) (TM ct) sz)) (va_Qi (fun (r0 : Int32) (u : Int32) => r0 = u) (fun (u : Int32) (t : State) => True) (fun q => sz ≤ q)) 0 0 (fun q => sz ≤ q) := by
  refine Met.ofW (cc := cX9_fault) (maxL := 2) (ret := (some .int)) (by decide) rfl ?_
  intro p e s m args below meth c0 s₁ B hml hv
  obtain ⟨rfl, hsz, hP, hK⟩ := hv
  have hx := B.exec
  have hb := B.bytes
  have hr := B.returns
  have hts := atoms_spec (ws := .code yX9_fault cX9_fault 2 (some .int) :: GW) B.pre
  have hG : ∀ w ∈ GW, w.before _ s = true := fun w h => hts w (List.mem_cons_of_mem _ h)
  have hown : s.vm.findClass RX9 = some m.cls := findClass_of_methodNamed B.named
  subst hsz
  have hS : va_S (fun q => s.heap.size ≤ q) s.heap s.heap [] := va_S.rf
  have hP : va_P (dC, dI) vwCl (WM r ct i_taped i_size i_faultKind i_at i_end i_token i_number i_bank i_rb i_codes i_within i_piled i_unitsInRule i_askHouse i_askTune i_acts i_undone i_laid i_knowns i_time f_text f_tunes f_houses f_hums f_told f_many f_ruleFrom f_ruleTo f_code f_eWhat f_eSign f_all f_kept f_was f_sTune f_boxAll J L) s.heap := hP
  have hl := lv_entry ([.ref (r 0), .int p0]) (n := 2) (Nat.le_of_ble_eq_true rfl)
  rw [lg_entry_eq]
  generalize (lg_sl ([.ref (r 0), .int p0]) ++ List.replicate (2 - (lg_sl ([.ref (r 0), .int p0])).length) Slot.unset).toArray = ls at hl ⊢
  have hl : lv_has ls 2 [(0, .ref (r 0)), (1, .int p0)] := hl
  refine nameQ (fun Q hQ => ?_)
  obtain ⟨im0, im1, im2, im3, im4, im5, im6, im7, im8, im9, im10, im11, im12, im13, im14, im15, im16, im17, im18, im19, im20, im21, im22, im23, im24, im25, im26, im27, im28, im29, im30, im31, im32⟩ := id hI
  have f1 : 0 ≤ (f_tunes (i_bank.toInt).toNat).toInt ∧ (f_tunes (i_bank.toInt).toNat).toInt ≤ 5 := im21 (i_bank.toInt)
  have f2 : 0 ≤ (f_houses (i_bank.toInt).toNat).toInt ∧ (f_houses (i_bank.toInt).toNat).toInt ≤ 4 := im22 (i_bank.toInt)
  refine lv_iload_n hx hb dX9_fault_0 rfl (lv_at hl 1 rfl) ?_
  refine lv_if_ne (tgt := 11) hx hb dX9_fault_1 (by decide) (fun c_3 => ?_) (fun c_3 => ?_)
  · skip
    have f4 : p0.toInt ≠ 0 := qi_ne c_3 rfl zc_0
    refine lv_iload_n hx hb dX9_fault_11 rfl (lv_at hl 1 rfl) ?_
    refine lv_iconst (v := 1) hx hb dX9_fault_12 (by decide) ?_
    refine lv_icmp_ne (tgt := 23) hx hb dX9_fault_13 (by decide) (fun c_5 => ?_) (fun c_5 => ?_)
    · skip
      have f6 : p0.toInt ≠ 1 := qi_ne c_5 rfl zc_1
      refine lv_iconst (v := (-1)) hx hb dX9_fault_23 (by decide) ?_
      rw [hQ]
      exact W.iret (v := (-1)) hx hb hr (fun t ht hW => ⟨⟨(-1), (-1), rfl, rfl, trivial⟩, hS.F ht⟩) hS.2.2 dX9_fault_24
    · skip
      have f7 : p0.toInt = 1 := qi_eq c_5 rfl zc_1
      have f8 : (1 : Int) ≤ p0.toInt := (ob_157 f7)
      refine lv_aload_n hx hb dX9_fault_16 rfl (lv_at hl 0 rfl) ?_
      refine gM_X9_16_0 hx hb hG hown hK hP dX9_fault_17 (fun x9 => ?_)
      refine lv_goto (tgt := 24) hx hb dX9_fault_20 (by decide) ?_
      rw [hQ]
      exact W.iret (v := x9) hx hb hr (fun t ht hW => ⟨⟨x9, x9, rfl, rfl, trivial⟩, hS.F ht⟩) hS.2.2 dX9_fault_24
  · skip
    have f10 : p0.toInt = 0 := qi_eq c_3 rfl zc_0
    refine lv_aload_n hx hb dX9_fault_4 rfl (lv_at hl 0 rfl) ?_
    refine gM_X9_140_0 hx hb hG hown hK hP dX9_fault_5 ?_
    refine lv_goto (tgt := 24) hx hb dX9_fault_8 (by decide) ?_
    rw [hQ]
    exact W.iret (v := i_faultKind) hx hb hr (fun t ht hW => ⟨⟨i_faultKind, i_faultKind, rfl, rfl, trivial⟩, hS.F ht⟩) hS.2.2 dX9_fault_24
set_option maxHeartbeats 4000000 in
set_option maxRecDepth 100000 in
theorem kX9_isIn (l : Launch) (dC : Nat → ClassId) (dI : Nat → Nat → Nat) (p0 p1 p2 : Int32) (sz : Nat) : Met l yX9_isIn (.code yX9_isIn cX9_isIn 3 (some .boolean) :: GW) { frames := 2, cells := 0, slots := 0, locals := 100 } (va_Pc [.int p0, .int p1, .int p2] (pR (dC, dI) [] [] sz)) (va_Qi (fun (r0 : Int32) (u : Int32) => r0 = u) (fun (u : Int32) (t : State) => (((p0.toInt + 1 ≤ p1.toInt) ∧ (u.toInt = (0 : Int))) ∨ ((p1.toInt ≤ p0.toInt) ∧ (p2.toInt + 1 ≤ p0.toInt) ∧ (u.toInt = (0 : Int))) ∨ ((p1.toInt ≤ p0.toInt) ∧ (p0.toInt ≤ p2.toInt) ∧ (u.toInt = (1 : Int)))) ∧ ((0 : Int) ≤ u.toInt) ∧ (u.toInt ≤ (1 : Int))) (fun q => sz ≤ q)) 0 0 (fun q => sz ≤ q) := by
  refine Met.ofW (cc := cX9_isIn) (maxL := 3) (ret := (some .boolean)) (by decide) rfl ?_
  intro p e s m args below meth c0 s₁ B hml hv
  obtain ⟨rfl, hsz, hP, hK⟩ := hv
  have hx := B.exec
  have hb := B.bytes
  have hr := B.returns
  have hts := atoms_spec (ws := .code yX9_isIn cX9_isIn 3 (some .boolean) :: GW) B.pre
  have hG : ∀ w ∈ GW, w.before _ s = true := fun w h => hts w (List.mem_cons_of_mem _ h)
  have hown : s.vm.findClass RX9 = some m.cls := findClass_of_methodNamed B.named
  subst hsz
  have hS : va_S (fun q => s.heap.size ≤ q) s.heap s.heap [] := va_S.rf
  have hP : va_P (dC, dI) vwCl [] s.heap := hP
  have hl := lv_entry ([.int p0, .int p1, .int p2]) (n := 3) (Nat.le_of_ble_eq_true rfl)
  rw [lg_entry_eq]
  generalize (lg_sl ([.int p0, .int p1, .int p2]) ++ List.replicate (3 - (lg_sl ([.int p0, .int p1, .int p2])).length) Slot.unset).toArray = ls at hl ⊢
  have hl : lv_has ls 3 [(0, .int p0), (1, .int p1), (2, .int p2)] := hl
  refine nameQ (fun Q hQ => ?_)
  refine lv_iload_n hx hb dX9_isIn_0 rfl (lv_at hl 0 rfl) ?_
  refine lv_iload_n hx hb dX9_isIn_1 rfl (lv_at hl 1 rfl) ?_
  refine lv_icmp_lt (tgt := 14) hx hb dX9_isIn_2 (by decide) (fun c_1 => ?_) (fun c_1 => ?_)
  · skip
    have f2 : p0.toInt < p1.toInt := qi_lt c_1 rfl rfl
    refine lv_iconst (v := 0) hx hb dX9_isIn_14 (by decide) ?_
    rw [hQ]
    exact W.zret (v := 0) hx hb hr (by decide) (fun t ht hW => ⟨⟨0, 0, rfl, rfl, ⟨(ob_628 f2 zc_0), (ob_1 zc_0), (ob_11 zc_0)⟩⟩, hS.F ht⟩) hS.2.2 dX9_isIn_15
  · skip
    have f3 : p1.toInt ≤ p0.toInt := qi_nlt c_1 rfl rfl
    refine lv_iload_n hx hb dX9_isIn_5 rfl (lv_at hl 0 rfl) ?_
    refine lv_iload_n hx hb dX9_isIn_6 rfl (lv_at hl 2 rfl) ?_
    refine lv_icmp_gt (tgt := 14) hx hb dX9_isIn_7 (by decide) (fun c_4 => ?_) (fun c_4 => ?_)
    · skip
      have f5 : p2.toInt < p0.toInt := qi_lt c_4 rfl rfl
      refine lv_iconst (v := 0) hx hb dX9_isIn_14 (by decide) ?_
      rw [hQ]
      exact W.zret (v := 0) hx hb hr (by decide) (fun t ht hW => ⟨⟨0, 0, rfl, rfl, ⟨(ob_629 f3 f5 zc_0), (ob_1 zc_0), (ob_11 zc_0)⟩⟩, hS.F ht⟩) hS.2.2 dX9_isIn_15
    · skip
      have f6 : p0.toInt ≤ p2.toInt := qi_nlt c_4 rfl rfl
      refine lv_iconst (v := 1) hx hb dX9_isIn_10 (by decide) ?_
      refine lv_goto (tgt := 15) hx hb dX9_isIn_11 (by decide) ?_
      rw [hQ]
      exact W.zret (v := 1) hx hb hr (by decide) (fun t ht hW => ⟨⟨1, 1, rfl, rfl, ⟨(ob_630 f3 f6 zc_1), (ob_14 zc_1), (ob_15 zc_1)⟩⟩, hS.F ht⟩) hS.2.2 dX9_isIn_15
set_option maxHeartbeats 4000000 in
set_option maxRecDepth 100000 in
theorem kX9_absolute (l : Launch) (dC : Nat → ClassId) (dI : Nat → Nat → Nat) (p0 : Int32) (sz : Nat) : Met l yX9_absolute (.code yX9_absolute cX9_absolute 1 (some .int) :: GW) { frames := 2, cells := 0, slots := 0, locals := 100 } (va_Pc [.int p0] (pR (dC, dI) [] [] sz)) (va_Qi (fun (r0 : Int32) (u : Int32) => r0 = u) (fun (u : Int32) (t : State) => ((((0 : Int) ≤ p0.toInt) ∧ (u.toInt = p0.toInt)) ∨ ((p0.toInt + 1 ≤ (0 : Int))))) (fun q => sz ≤ q)) 0 0 (fun q => sz ≤ q) := by
  refine Met.ofW (cc := cX9_absolute) (maxL := 1) (ret := (some .int)) (by decide) rfl ?_
  intro p e s m args below meth c0 s₁ B hml hv
  obtain ⟨rfl, hsz, hP, hK⟩ := hv
  have hx := B.exec
  have hb := B.bytes
  have hr := B.returns
  have hts := atoms_spec (ws := .code yX9_absolute cX9_absolute 1 (some .int) :: GW) B.pre
  have hG : ∀ w ∈ GW, w.before _ s = true := fun w h => hts w (List.mem_cons_of_mem _ h)
  have hown : s.vm.findClass RX9 = some m.cls := findClass_of_methodNamed B.named
  subst hsz
  have hS : va_S (fun q => s.heap.size ≤ q) s.heap s.heap [] := va_S.rf
  have hP : va_P (dC, dI) vwCl [] s.heap := hP
  have hl := lv_entry ([.int p0]) (n := 1) (Nat.le_of_ble_eq_true rfl)
  rw [lg_entry_eq]
  generalize (lg_sl ([.int p0]) ++ List.replicate (1 - (lg_sl ([.int p0])).length) Slot.unset).toArray = ls at hl ⊢
  have hl : lv_has ls 1 [(0, .int p0)] := hl
  refine nameQ (fun Q hQ => ?_)
  refine lv_iload_n hx hb dX9_absolute_0 rfl (lv_at hl 0 rfl) ?_
  refine lv_if_ge (tgt := 9) hx hb dX9_absolute_1 (by decide) (fun c_1 => ?_) (fun c_1 => ?_)
  · skip
    have f2 : 0 ≤ p0.toInt := qi_le c_1 zc_0 rfl
    refine lv_iload_n hx hb dX9_absolute_9 rfl (lv_at hl 0 rfl) ?_
    rw [hQ]
    exact W.iret (v := p0) hx hb hr (fun t ht hW => ⟨⟨p0, p0, rfl, rfl, (ob_631 f2)⟩, hS.F ht⟩) hS.2.2 dX9_absolute_10
  · skip
    have f3 : p0.toInt < 0 := qi_nle c_1 zc_0 rfl
    refine lv_iload_n hx hb dX9_absolute_4 rfl (lv_at hl 0 rfl) ?_
    refine lv_ineg hx hb dX9_absolute_5 ?_
    refine lv_topi (fun x4 ex4 => ?_)
    refine lv_goto (tgt := 10) hx hb dX9_absolute_6 (by decide) ?_
    rw [hQ]
    exact W.iret (v := x4) hx hb hr (fun t ht hW => ⟨⟨x4, x4, rfl, rfl, (ob_632 f3)⟩, hS.F ht⟩) hS.2.2 dX9_absolute_10
set_option maxHeartbeats 4000000 in
set_option maxRecDepth 100000 in
theorem kX9_bit (l : Launch) (dC : Nat → ClassId) (dI : Nat → Nat → Nat) (p0 p1 : Int32) (sz : Nat) : Met l yX9_bit (.code yX9_bit cX9_bit 2 (some .boolean) :: GW) { frames := 2, cells := 0, slots := 0, locals := 100 } (va_Pc [.int p0, .int p1] (pR (dC, dI) [] [] sz)) (va_Qi (fun (r0 : Int32) (u : Int32) => r0 = u) (fun (u : Int32) (t : State) => ((0 : Int) ≤ u.toInt) ∧ (u.toInt ≤ (1 : Int)) ∧ (u.toInt = 1 → BT p0 p1) ∧ (u.toInt = 0 → ¬ BT p0 p1)) (fun q => sz ≤ q)) 0 0 (fun q => sz ≤ q) := by
  refine Met.ofW (cc := cX9_bit) (maxL := 2) (ret := (some .boolean)) (by decide) rfl ?_
  intro p e s m args below meth c0 s₁ B hml hv
  obtain ⟨rfl, hsz, hP, hK⟩ := hv
  have hx := B.exec
  have hb := B.bytes
  have hr := B.returns
  have hts := atoms_spec (ws := .code yX9_bit cX9_bit 2 (some .boolean) :: GW) B.pre
  have hG : ∀ w ∈ GW, w.before _ s = true := fun w h => hts w (List.mem_cons_of_mem _ h)
  have hown : s.vm.findClass RX9 = some m.cls := findClass_of_methodNamed B.named
  subst hsz
  have hS : va_S (fun q => s.heap.size ≤ q) s.heap s.heap [] := va_S.rf
  have hP : va_P (dC, dI) vwCl [] s.heap := hP
  have hl := lv_entry ([.int p0, .int p1]) (n := 2) (Nat.le_of_ble_eq_true rfl)
  rw [lg_entry_eq]
  generalize (lg_sl ([.int p0, .int p1]) ++ List.replicate (2 - (lg_sl ([.int p0, .int p1])).length) Slot.unset).toArray = ls at hl ⊢
  have hl : lv_has ls 2 [(0, .int p0), (1, .int p1)] := hl
  refine nameQ (fun Q hQ => ?_)
  refine lv_iload_n hx hb dX9_bit_0 rfl (lv_at hl 0 rfl) ?_
  refine lv_iload_n hx hb dX9_bit_1 rfl (lv_at hl 1 rfl) ?_
  refine lv_ishr hx hb dX9_bit_2 ?_
  refine lv_topi (fun x1 ex1 => ?_)
  refine lv_iconst (v := 1) hx hb dX9_bit_3 (by decide) ?_
  refine lv_iand hx hb dX9_bit_4 ?_
  refine lv_topi (fun x2 ex2 => ?_)
  refine lv_iconst (v := 1) hx hb dX9_bit_5 (by decide) ?_
  refine lv_icmp_ne (tgt := 13) hx hb dX9_bit_6 (by decide) (fun c_3 => ?_) (fun c_3 => ?_)
  · skip
    have f4 : x2.toInt ≠ 1 := qi_ne c_3 rfl zc_1
    refine lv_iconst (v := 0) hx hb dX9_bit_13 (by decide) ?_
    rw [hQ]
    exact W.zret (v := 0) hx hb hr (by decide) (fun t ht hW => ⟨⟨0, 0, rfl, rfl, ⟨(ob_1 zc_0), (ob_11 zc_0), (fun h => absurd h (by decide)), (fun _ => (by unfold BT; rw [← ex1, ← ex2]; exact toN1 f4))⟩⟩, hS.F ht⟩) hS.2.2 dX9_bit_14
  · skip
    have f5 : x2.toInt = 1 := qi_eq c_3 rfl zc_1
    refine lv_iconst (v := 1) hx hb dX9_bit_9 (by decide) ?_
    refine lv_goto (tgt := 14) hx hb dX9_bit_10 (by decide) ?_
    rw [hQ]
    exact W.zret (v := 1) hx hb hr (by decide) (fun t ht hW => ⟨⟨1, 1, rfl, rfl, ⟨(ob_14 zc_1), (ob_15 zc_1), (fun _ => (by unfold BT; rw [← ex1, ← ex2]; exact toI1 f5)), (fun h => absurd h (by decide))⟩⟩, hS.F ht⟩) hS.2.2 dX9_bit_14
set_option maxHeartbeats 4000000 in
set_option maxRecDepth 100000 in
theorem kX9_bitsOf (l : Launch) (dC : Nat → ClassId) (dI : Nat → Nat → Nat) (p0 : Int32) (sz : Nat) : Met l yX9_bitsOf (.code yX9_bitsOf cX9_bitsOf 3 (some .int) :: GW) { frames := 2, cells := 0, slots := 0, locals := 100 } (va_Pc [.int p0] (pR (dC, dI) [] [] sz)) (va_Qi (fun (r0 : Int32) (u : Int32) => r0 = u) (fun (u : Int32) (t : State) => True) (fun q => sz ≤ q)) 0 0 (fun q => sz ≤ q) := by
  refine Met.ofW (cc := cX9_bitsOf) (maxL := 3) (ret := (some .int)) (by decide) rfl ?_
  intro p e s m args below meth c0 s₁ B hml hv
  obtain ⟨rfl, hsz, hP, hK⟩ := hv
  have hx := B.exec
  have hb := B.bytes
  have hr := B.returns
  have hts := atoms_spec (ws := .code yX9_bitsOf cX9_bitsOf 3 (some .int) :: GW) B.pre
  have hG : ∀ w ∈ GW, w.before _ s = true := fun w h => hts w (List.mem_cons_of_mem _ h)
  have hown : s.vm.findClass RX9 = some m.cls := findClass_of_methodNamed B.named
  subst hsz
  have hS : va_S (fun q => s.heap.size ≤ q) s.heap s.heap [] := va_S.rf
  have hP : va_P (dC, dI) vwCl [] s.heap := hP
  have hl := lv_entry ([.int p0]) (n := 3) (Nat.le_of_ble_eq_true rfl)
  rw [lg_entry_eq]
  generalize (lg_sl ([.int p0]) ++ List.replicate (3 - (lg_sl ([.int p0])).length) Slot.unset).toArray = ls at hl ⊢
  have hl : lv_has ls 3 [(0, .int p0)] := hl
  refine nameQ (fun Q hQ => ?_)
  refine lv_iconst (v := 0) hx hb dX9_bitsOf_0 (by decide) ?_
  refine lv_istore_n (lv' := [(1, .int 0), (0, .int p0)]) hx hb dX9_bitsOf_1 rfl hl (by decide) rfl (fun ls hl => ?_)
  refine lv_iload_n hx hb dX9_bitsOf_2 rfl (lv_at hl 1 rfl) ?_
  have f1 : 0 ≤ (p0.toUInt32.toNat : Int) := nn_nat _
  refine lv_istore_n (lv' := [(2, .int p0), (1, .int 0), (0, .int p0)]) hx hb dX9_bitsOf_3 rfl hl (by decide) rfl (fun ls hl => ?_)
  have L4 : ∀ (N4 : Nat) (y4_1 y4_2 : Int32) (H4 : Heap) (locs : List Loc) (ls : Array Slot) (g4_0 : (0 : Int) ≤ (y4_2.toUInt32.toNat : Int)) (hP : va_P (dC, dI) vwCl [] H4) (hS : va_S (fun q => s.heap.size ≤ q) s.heap H4 locs) (hl : lv_has ls 3 [(0, .int p0), (1, .int y4_1), (2, .int y4_2)]) (hM : (y4_2.toUInt32.toNat : Int) < (N4 : Int)), W p l e { frames := 2, cells := 0, slots := 0, locals := 100 } s m ([.int p0] : List Value).toArray below meth c0 H4 locs 0 0 Q (F0 m 4 ls []) := by
    intro N4
    induction N4 with
    | zero =>
      intro y4_1 y4_2 H4 locs ls g4_0 hP hS hl hM
      exact ((ob_325 hM g4_0)).elim
    | succ N4 ih4 =>
      intro y4_1 y4_2 H4 locs ls g4_0 hP hS hl hM
      have hM4 := msucc hM
      refine lv_iload_n hx hb dX9_bitsOf_4 rfl (lv_at hl 2 rfl) ?_
      refine lv_if_eq (tgt := 20) hx hb dX9_bitsOf_5 (by decide) (fun c_2 => ?_) (fun c_2 => ?_)
      · skip
        have f3 : y4_2.toInt = 0 := qi_eq c_2 rfl zc_0
        refine lv_iload_n hx hb dX9_bitsOf_20 rfl (lv_at hl 1 rfl) ?_
        rw [hQ]
        exact W.iret (v := y4_1) hx hb hr (fun t ht hW => ⟨⟨y4_1, y4_1, rfl, rfl, trivial⟩, hS.F ht⟩) hS.2.2 dX9_bitsOf_21
      · skip
        have f4 : y4_2.toInt ≠ 0 := qi_ne c_2 rfl zc_0
        obtain ⟨x5, ex5⟩ : ∃ y : Int32, y = y4_1 + Int32.ofInt 1 := ⟨_, rfl⟩
        have f6 : (-2147483648) ≤ y4_1.toInt ∧ y4_1.toInt ≤ 2147483647 := i32_rg _
        refine lv_iinc (v := x5) (lv' := [(1, .int x5), (0, .int p0), (2, .int y4_2)]) hx hb dX9_bitsOf_8 hl (k := 1) rfl ex5.symm (by decide) rfl (fun ls hl => ?_)
        refine lv_iload_n hx hb dX9_bitsOf_11 rfl (lv_at hl 2 rfl) ?_
        refine lv_iload_n hx hb dX9_bitsOf_12 rfl (lv_at hl 2 rfl) ?_
        refine lv_iconst (v := 1) hx hb dX9_bitsOf_13 (by decide) ?_
        refine lv_isub hx hb dX9_bitsOf_14 ?_
        refine lv_topi (fun x7 ex7 => ?_)
        refine lv_iand hx hb dX9_bitsOf_15 ?_
        refine lv_topi (fun x8 ex8 => ?_)
        have f9 : 0 ≤ (x8.toUInt32.toNat : Int) := nn_nat _
        have f10 : (x8.toUInt32.toNat : Int) < (y4_2.toUInt32.toNat : Int) := and_dec ex8 ex7 f4
        refine lv_istore_n (lv' := [(2, .int x8), (1, .int x5), (0, .int p0)]) hx hb dX9_bitsOf_16 rfl hl (by decide) rfl (fun ls hl => ?_)
        refine lv_goto (tgt := 4) hx hb dX9_bitsOf_17 (by decide) ?_
        exact ih4 x5 x8 H4 _ _ (ob_633 f9 f10) hP hS (lv_sub hl [2, 1, 0] rfl) (ob_634 hM4 f9 f10)
  exact L4 ((p0.toUInt32.toNat : Int) + 1).toNat 0 p0 s.heap _ _ (ob_635 f1) hP hS (lv_sub hl [2, 1, 0] rfl) (mlt (ob_636 f1))
set_option maxHeartbeats 4000000 in
set_option maxRecDepth 100000 in
theorem kX9_divisor (l : Launch) (dC : Nat → ClassId) (dI : Nat → Nat → Nat) (p0 p1 : Int32) (sz : Nat) (hp0 : (1 : Int) ≤ p0.toInt) (hp1 : (0 : Int) ≤ p1.toInt) : Met l yX9_divisor (.code yX9_divisor cX9_divisor 5 (some .int) :: GW) { frames := 2, cells := 0, slots := 0, locals := 100 } (va_Pc [.int p0, .int p1] (pR (dC, dI) [] [] sz)) (va_Qi (fun (r0 : Int32) (u : Int32) => r0 = u) (fun (u : Int32) (t : State) => ((1 : Int) ≤ u.toInt) ∧ ((1 : Int) ≤ u.toInt)) (fun q => sz ≤ q)) 0 0 (fun q => sz ≤ q) := by
  refine Met.ofW (cc := cX9_divisor) (maxL := 5) (ret := (some .int)) (by decide) rfl ?_
  intro p e s m args below meth c0 s₁ B hml hv
  obtain ⟨rfl, hsz, hP, hK⟩ := hv
  have hx := B.exec
  have hb := B.bytes
  have hr := B.returns
  have hts := atoms_spec (ws := .code yX9_divisor cX9_divisor 5 (some .int) :: GW) B.pre
  have hG : ∀ w ∈ GW, w.before _ s = true := fun w h => hts w (List.mem_cons_of_mem _ h)
  have hown : s.vm.findClass RX9 = some m.cls := findClass_of_methodNamed B.named
  subst hsz
  have hS : va_S (fun q => s.heap.size ≤ q) s.heap s.heap [] := va_S.rf
  have hP : va_P (dC, dI) vwCl [] s.heap := hP
  have hl := lv_entry ([.int p0, .int p1]) (n := 5) (Nat.le_of_ble_eq_true rfl)
  rw [lg_entry_eq]
  generalize (lg_sl ([.int p0, .int p1]) ++ List.replicate (5 - (lg_sl ([.int p0, .int p1])).length) Slot.unset).toArray = ls at hl ⊢
  have hl : lv_has ls 5 [(0, .int p0), (1, .int p1)] := hl
  refine nameQ (fun Q hQ => ?_)
  refine lv_iload_n hx hb dX9_divisor_0 rfl (lv_at hl 0 rfl) ?_
  refine lv_istore_n (lv' := [(2, .int p0), (0, .int p0), (1, .int p1)]) hx hb dX9_divisor_1 rfl hl (by decide) rfl (fun ls hl => ?_)
  refine lv_iload_n hx hb dX9_divisor_2 rfl (lv_at hl 2 rfl) ?_
  refine lv_istore_n (lv' := [(3, .int p1), (2, .int p0), (0, .int p0), (1, .int p1)]) hx hb dX9_divisor_3 rfl hl (by decide) rfl (fun ls hl => ?_)
  have L4 : ∀ (N4 : Nat) (y4_2 y4_3 : Int32) (H4 : Heap) (locs : List Loc) (ls : Array Slot) (g4_0 : (1 : Int) ≤ y4_2.toInt) (g4_1 : (0 : Int) ≤ y4_3.toInt) (hP : va_P (dC, dI) vwCl [] H4) (hS : va_S (fun q => s.heap.size ≤ q) s.heap H4 locs) (hl : lv_has ls 5 [(0, .int p0), (1, .int p1), (2, .int y4_2), (3, .int y4_3)]) (hM : y4_3.toInt < (N4 : Int)), W p l e { frames := 2, cells := 0, slots := 0, locals := 100 } s m ([.int p0, .int p1] : List Value).toArray below meth c0 H4 locs 0 0 Q (F0 m 4 ls []) := by
    intro N4
    induction N4 with
    | zero =>
      intro y4_2 y4_3 H4 locs ls g4_0 g4_1 hP hS hl hM
      exact ((ob_325 hM g4_1)).elim
    | succ N4 ih4 =>
      intro y4_2 y4_3 H4 locs ls g4_0 g4_1 hP hS hl hM
      have hM4 := msucc hM
      refine lv_iload_n hx hb dX9_divisor_4 rfl (lv_at hl 3 rfl) ?_
      refine lv_if_le (tgt := 21) hx hb dX9_divisor_5 (by decide) (fun c_1 => ?_) (fun c_1 => ?_)
      · skip
        have f2 : y4_3.toInt ≤ 0 := qi_le c_1 rfl zc_0
        refine lv_iload_n hx hb dX9_divisor_21 rfl (lv_at hl 2 rfl) ?_
        rw [hQ]
        exact W.iret (v := y4_2) hx hb hr (fun t ht hW => ⟨⟨y4_2, y4_2, rfl, rfl, ⟨(ob_19 g4_0), (ob_19 g4_0)⟩⟩, hS.F ht⟩) hS.2.2 dX9_divisor_22
      · skip
        have f3 : 0 < y4_3.toInt := qi_nle c_1 rfl zc_0
        refine lv_iload_n hx hb dX9_divisor_8 rfl (lv_at hl 2 rfl) ?_
        refine lv_iload_n hx hb dX9_divisor_9 rfl (lv_at hl 3 rfl) ?_
        refine lv_irem hx hb dX9_divisor_10 (qi_nz (ob_637 g4_1 hM4 f3)) ?_
        refine lv_topi (fun x4 ex4 => ?_)
        have f5 : 0 ≤ x4.toInt ∧ x4.toInt < y4_3.toInt ∧ x4.toInt ≤ y4_2.toInt := qi_rem ex4 rfl rfl (ob_638 g4_0) (ob_637 g4_1 hM4 f3)
        have f6 : x4.toInt = (y4_2.toInt % y4_3.toInt) := remnn ex4 rfl rfl (ob_639 g4_0 f5) (ob_460 f3)
        refine lv_istore (lv' := [(4, .int x4), (0, .int p0), (1, .int p1), (2, .int y4_2), (3, .int y4_3)]) hx hb dX9_divisor_11 hl (by decide) rfl (fun ls hl => ?_)
        refine lv_iload_n hx hb dX9_divisor_13 rfl (lv_at hl 4 rfl) ?_
        refine lv_istore_n (lv' := [(2, .int y4_3), (4, .int x4), (0, .int p0), (1, .int p1), (3, .int y4_3)]) hx hb dX9_divisor_14 rfl hl (by decide) rfl (fun ls hl => ?_)
        refine lv_iload hx hb dX9_divisor_15 (lv_at hl 1 rfl) ?_
        refine lv_istore_n (lv' := [(3, .int x4), (2, .int y4_3), (4, .int x4), (0, .int p0), (1, .int p1)]) hx hb dX9_divisor_17 rfl hl (by decide) rfl (fun ls hl => ?_)
        refine lv_goto (tgt := 4) hx hb dX9_divisor_18 (by decide) ?_
        exact ih4 y4_3 x4 H4 _ _ (ob_450 f3) (ob_640 f5 f6) hP hS (lv_sub hl [3, 4, 1, 0] rfl) (ob_641 hM4 f5 f6)
  exact L4 (p1.toInt + 1).toNat p0 p1 s.heap _ _ (ob_19 hp0) (ob_81 hp1) hP hS (lv_sub hl [2, 3, 1, 0] rfl) (mlt (ob_212 hp1))
set_option maxHeartbeats 4000000 in
set_option maxRecDepth 100000 in
theorem kX9_power (l : Launch) (dC : Nat → ClassId) (dI : Nat → Nat → Nat) (p0 p1 : Int32) (sz : Nat) (hp0 : (0 : Int) ≤ p0.toInt) (hp1 : p0.toInt ≤ (100 : Int)) (hp2 : (0 : Int) ≤ p1.toInt) (hp3 : p1.toInt ≤ (4 : Int)) : Met l yX9_power (.code yX9_power cX9_power 4 (some .int) :: GW) { frames := 2, cells := 0, slots := 0, locals := 100 } (va_Pc [.int p0, .int p1] (pR (dC, dI) [] [] sz)) (va_Qi (fun (r0 : Int32) (u : Int32) => r0 = u) (fun (u : Int32) (t : State) => (u.toInt = (pw p0.toInt (p1.toInt).toNat)) ∧ ((0 : Int) ≤ (pw p0.toInt (p1.toInt).toNat)) ∧ ((pw p0.toInt (p1.toInt).toNat) ≤ (100000000 : Int))) (fun q => sz ≤ q)) 0 0 (fun q => sz ≤ q) := by
  refine Met.ofW (cc := cX9_power) (maxL := 4) (ret := (some .int)) (by decide) rfl ?_
  intro p e s m args below meth c0 s₁ B hml hv
  obtain ⟨rfl, hsz, hP, hK⟩ := hv
  have hx := B.exec
  have hb := B.bytes
  have hr := B.returns
  have hts := atoms_spec (ws := .code yX9_power cX9_power 4 (some .int) :: GW) B.pre
  have hG : ∀ w ∈ GW, w.before _ s = true := fun w h => hts w (List.mem_cons_of_mem _ h)
  have hown : s.vm.findClass RX9 = some m.cls := findClass_of_methodNamed B.named
  subst hsz
  have hS : va_S (fun q => s.heap.size ≤ q) s.heap s.heap [] := va_S.rf
  have hP : va_P (dC, dI) vwCl [] s.heap := hP
  have hl := lv_entry ([.int p0, .int p1]) (n := 4) (Nat.le_of_ble_eq_true rfl)
  rw [lg_entry_eq]
  generalize (lg_sl ([.int p0, .int p1]) ++ List.replicate (4 - (lg_sl ([.int p0, .int p1])).length) Slot.unset).toArray = ls at hl ⊢
  have hl : lv_has ls 4 [(0, .int p0), (1, .int p1)] := hl
  refine nameQ (fun Q hQ => ?_)
  refine lv_iconst (v := 1) hx hb dX9_power_0 (by decide) ?_
  refine lv_istore_n (lv' := [(2, .int 1), (0, .int p0), (1, .int p1)]) hx hb dX9_power_1 rfl hl (by decide) rfl (fun ls hl => ?_)
  refine lv_iconst (v := 0) hx hb dX9_power_2 (by decide) ?_
  refine lv_istore_n (lv' := [(3, .int 0), (2, .int 1), (0, .int p0), (1, .int p1)]) hx hb dX9_power_3 rfl hl (by decide) rfl (fun ls hl => ?_)
  refine lv_iload_n hx hb dX9_power_4 rfl (lv_at hl 0 rfl) ?_
  refine lv_iload_n hx hb dX9_power_5 rfl (lv_at hl 3 rfl) ?_
  refine lv_icmp_ge (tgt := 19) hx hb dX9_power_6 (by decide) (fun c_1 => ?_) (fun c_1 => ?_)
  · skip
    have f2 : p1.toInt ≤ 0 := qi_le c_1 rfl zc_0
    refine lv_iload_n hx hb dX9_power_19 rfl (lv_at hl 1 rfl) ?_
    have f3 : (pw p0.toInt (p1.toInt).toNat) = 1 := pw_0 (ob_642 hp2 hp3 f2)
    rw [hQ]
    exact W.iret (v := 1) hx hb hr (fun t ht hW => ⟨⟨1, 1, rfl, rfl, ⟨(ob_643 f3 zc_1), (ob_14 f3), (ob_644 f3)⟩⟩, hS.F ht⟩) hS.2.2 dX9_power_20
  · skip
    have f4 : 0 < p1.toInt := qi_nle c_1 rfl zc_0
    refine lv_iload_n hx hb dX9_power_9 rfl (lv_at hl 1 rfl) ?_
    refine lv_iload_n hx hb dX9_power_10 rfl (lv_at hl 2 rfl) ?_
    refine lv_imul hx hb dX9_power_11 ?_
    refine lv_topi (fun x5 ex5 => ?_)
    have f6 : x5.toInt = p0.toInt := (ob_647 (qi_mul ex5 zc_1 rfl (ob_645 hp0 hp1) (ob_646 hp0 hp1)))
    refine lv_istore_n (lv' := [(2, .int x5), (3, .int 0), (0, .int p0), (1, .int p1)]) hx hb dX9_power_12 rfl hl (by decide) rfl (fun ls hl => ?_)
    refine lv_iinc (v := 1) (lv' := [(3, .int 1), (2, .int x5), (0, .int p0), (1, .int p1)]) hx hb dX9_power_13 hl (k := 1) rfl (by decide) (by decide) rfl (fun ls hl => ?_)
    refine lv_goto (tgt := 4) hx hb dX9_power_16 (by decide) ?_
    refine lv_iload_n hx hb dX9_power_4 rfl (lv_at hl 0 rfl) ?_
    refine lv_iload_n hx hb dX9_power_5 rfl (lv_at hl 3 rfl) ?_
    refine lv_icmp_ge (tgt := 19) hx hb dX9_power_6 (by decide) (fun c_7 => ?_) (fun c_7 => ?_)
    · skip
      have f8 : p1.toInt ≤ 1 := qi_le c_7 rfl zc_1
      refine lv_iload_n hx hb dX9_power_19 rfl (lv_at hl 1 rfl) ?_
      have f9 : (pw p0.toInt (p1.toInt).toNat) = p0.toInt := pw_1 (ob_648 f4 f8)
      rw [hQ]
      exact W.iret (v := x5) hx hb hr (fun t ht hW => ⟨⟨x5, x5, rfl, rfl, ⟨(ob_649 hp0 hp1 f9 f6), (ob_650 hp0 hp1 f9), (ob_651 hp0 hp1 f9)⟩⟩, hS.F ht⟩) hS.2.2 dX9_power_20
    · skip
      have f10 : 1 < p1.toInt := qi_nle c_7 rfl zc_1
      refine lv_iload_n hx hb dX9_power_9 rfl (lv_at hl 1 rfl) ?_
      refine lv_iload_n hx hb dX9_power_10 rfl (lv_at hl 2 rfl) ?_
      refine lv_imul hx hb dX9_power_11 ?_
      refine lv_topi (fun x11 ex11 => ?_)
      have f12 : 0 * 0 ≤ x11.toInt ∧ x11.toInt ≤ 100 * 100 := qi_mulb ex11 (ob_652 hp0 hp1 f6) (ob_653 hp0 hp1 f6) (ob_654 hp0 hp1) (ob_655 hp0 hp1) (by decide) (by decide) (by decide)
      have f13 : x11.toInt = (p0.toInt * p0.toInt) := qi_mulx ex11 f6 rfl (ob_652 hp0 hp1 f6) (ob_653 hp0 hp1 f6) (ob_654 hp0 hp1) (ob_655 hp0 hp1) (by decide) (by decide) (by decide)
      refine lv_istore_n (lv' := [(2, .int x11), (3, .int 1), (0, .int p0), (1, .int p1)]) hx hb dX9_power_12 rfl hl (by decide) rfl (fun ls hl => ?_)
      refine lv_iinc (v := 2) (lv' := [(3, .int 2), (2, .int x11), (0, .int p0), (1, .int p1)]) hx hb dX9_power_13 hl (k := 1) rfl (by decide) (by decide) rfl (fun ls hl => ?_)
      refine lv_goto (tgt := 4) hx hb dX9_power_16 (by decide) ?_
      refine lv_iload_n hx hb dX9_power_4 rfl (lv_at hl 0 rfl) ?_
      refine lv_iload_n hx hb dX9_power_5 rfl (lv_at hl 3 rfl) ?_
      refine lv_icmp_ge (tgt := 19) hx hb dX9_power_6 (by decide) (fun c_14 => ?_) (fun c_14 => ?_)
      · skip
        have f15 : p1.toInt ≤ 2 := qi_le c_14 rfl zc_2
        refine lv_iload_n hx hb dX9_power_19 rfl (lv_at hl 1 rfl) ?_
        have f16 : (pw p0.toInt (p1.toInt).toNat) = (p0.toInt * p0.toInt) := pw_2 (ob_656 f10 f15)
        rw [hQ]
        exact W.iret (v := x11) hx hb hr (fun t ht hW => ⟨⟨x11, x11, rfl, rfl, ⟨(ob_657 f12 f16 f13), (ob_658 f12 f16 f13), (ob_659 f12 f16 f13)⟩⟩, hS.F ht⟩) hS.2.2 dX9_power_20
      · skip
        have f17 : 2 < p1.toInt := qi_nle c_14 rfl zc_2
        refine lv_iload_n hx hb dX9_power_9 rfl (lv_at hl 1 rfl) ?_
        refine lv_iload_n hx hb dX9_power_10 rfl (lv_at hl 2 rfl) ?_
        refine lv_imul hx hb dX9_power_11 ?_
        refine lv_topi (fun x18 ex18 => ?_)
        have f19 : 0 * 0 ≤ x18.toInt ∧ x18.toInt ≤ 10000 * 100 := qi_mulb ex18 (ob_660 f12 f13) (ob_661 f12 f13) (ob_654 hp0 hp1) (ob_655 hp0 hp1) (by decide) (by decide) (by decide)
        have f20 : x18.toInt = ((p0.toInt * p0.toInt) * p0.toInt) := qi_mulx ex18 f13 rfl (ob_660 f12 f13) (ob_661 f12 f13) (ob_654 hp0 hp1) (ob_655 hp0 hp1) (by decide) (by decide) (by decide)
        refine lv_istore_n (lv' := [(2, .int x18), (3, .int 2), (0, .int p0), (1, .int p1)]) hx hb dX9_power_12 rfl hl (by decide) rfl (fun ls hl => ?_)
        refine lv_iinc (v := 3) (lv' := [(3, .int 3), (2, .int x18), (0, .int p0), (1, .int p1)]) hx hb dX9_power_13 hl (k := 1) rfl (by decide) (by decide) rfl (fun ls hl => ?_)
        refine lv_goto (tgt := 4) hx hb dX9_power_16 (by decide) ?_
        refine lv_iload_n hx hb dX9_power_4 rfl (lv_at hl 0 rfl) ?_
        refine lv_iload_n hx hb dX9_power_5 rfl (lv_at hl 3 rfl) ?_
        refine lv_icmp_ge (tgt := 19) hx hb dX9_power_6 (by decide) (fun c_21 => ?_) (fun c_21 => ?_)
        · skip
          have f22 : p1.toInt ≤ 3 := qi_le c_21 rfl zc_3
          refine lv_iload_n hx hb dX9_power_19 rfl (lv_at hl 1 rfl) ?_
          have f23 : (pw p0.toInt (p1.toInt).toNat) = ((p0.toInt * p0.toInt) * p0.toInt) := pw_3 (ob_662 f17 f22)
          rw [hQ]
          exact W.iret (v := x18) hx hb hr (fun t ht hW => ⟨⟨x18, x18, rfl, rfl, ⟨(ob_663 f19 f23 f20), (ob_664 f19 f23 f20), (ob_665 f19 f23 f20)⟩⟩, hS.F ht⟩) hS.2.2 dX9_power_20
        · skip
          have f24 : 3 < p1.toInt := qi_nle c_21 rfl zc_3
          refine lv_iload_n hx hb dX9_power_9 rfl (lv_at hl 1 rfl) ?_
          refine lv_iload_n hx hb dX9_power_10 rfl (lv_at hl 2 rfl) ?_
          refine lv_imul hx hb dX9_power_11 ?_
          refine lv_topi (fun x25 ex25 => ?_)
          have f26 : 0 * 0 ≤ x25.toInt ∧ x25.toInt ≤ 1000000 * 100 := qi_mulb ex25 (ob_666 f19 f20) (ob_667 f19 f20) (ob_654 hp0 hp1) (ob_655 hp0 hp1) (by decide) (by decide) (by decide)
          have f27 : x25.toInt = (((p0.toInt * p0.toInt) * p0.toInt) * p0.toInt) := qi_mulx ex25 f20 rfl (ob_666 f19 f20) (ob_667 f19 f20) (ob_654 hp0 hp1) (ob_655 hp0 hp1) (by decide) (by decide) (by decide)
          refine lv_istore_n (lv' := [(2, .int x25), (3, .int 3), (0, .int p0), (1, .int p1)]) hx hb dX9_power_12 rfl hl (by decide) rfl (fun ls hl => ?_)
          refine lv_iinc (v := 4) (lv' := [(3, .int 4), (2, .int x25), (0, .int p0), (1, .int p1)]) hx hb dX9_power_13 hl (k := 1) rfl (by decide) (by decide) rfl (fun ls hl => ?_)
          refine lv_goto (tgt := 4) hx hb dX9_power_16 (by decide) ?_
          refine lv_iload_n hx hb dX9_power_4 rfl (lv_at hl 0 rfl) ?_
          refine lv_iload_n hx hb dX9_power_5 rfl (lv_at hl 3 rfl) ?_
          refine lv_icmp_ge (tgt := 19) hx hb dX9_power_6 (by decide) (fun c_28 => ?_) (fun c_28 => ((ob_668 (qi_nle c_28 rfl zc_4) hp3)).elim)
          have f29 : p1.toInt ≤ 4 := qi_le c_28 rfl zc_4
          refine lv_iload_n hx hb dX9_power_19 rfl (lv_at hl 1 rfl) ?_
          have f30 : (pw p0.toInt (p1.toInt).toNat) = (((p0.toInt * p0.toInt) * p0.toInt) * p0.toInt) := pw_4 (ob_669 hp3 f24)
          rw [hQ]
          exact W.iret (v := x25) hx hb hr (fun t ht hW => ⟨⟨x25, x25, rfl, rfl, ⟨(ob_670 f26 f30 f27), (ob_671 f26 f30 f27), (ob_672 f26 f30 f27)⟩⟩, hS.F ht⟩) hS.2.2 dX9_power_20
set_option maxHeartbeats 4000000 in
set_option maxRecDepth 100000 in
theorem kX9_songs (l : Launch) (dC : Nat → ClassId) (dI : Nat → Nat → Nat) (r : Nat → Nat) (ct : Nat → ClassId) (i_taped i_size i_faultKind i_at i_end i_token i_number i_bank i_rb i_codes i_within i_piled i_unitsInRule i_askHouse i_askTune i_acts i_undone i_laid i_knowns i_time : Int32) (f_text f_tunes f_houses f_hums f_told f_many f_ruleFrom f_ruleTo f_code f_eWhat f_eSign f_all f_kept f_was f_sTune f_boxAll : Nat → Int32) (J : Nat → Nat → Int32) (L : Nat → Nat → Int64) (sz : Nat) (hI : (IM i_taped i_size i_faultKind i_at i_end i_bank i_rb i_acts i_undone i_laid i_knowns i_time f_tunes f_houses f_hums f_told f_many f_ruleFrom f_ruleTo f_code f_all f_kept f_was f_sTune f_boxAll)) : Met l yX9_songs (.code yX9_songs cX9_songs 1 (some .int) :: GW) { frames := 2, cells := 0, slots := 0, locals := 100 } (va_Pc [.ref (r 0)] (pR (dC, dI) (WM r ct i_taped i_size i_faultKind i_at i_end i_token i_number i_bank i_rb i_codes i_within i_piled i_unitsInRule i_askHouse i_askTune i_acts i_undone i_laid i_knowns i_time f_text f_tunes f_houses f_hums f_told f_many f_ruleFrom f_ruleTo f_code f_eWhat f_eSign f_all f_kept f_was f_sTune f_boxAll J L) (TM ct) sz)) (va_Qi (fun (r0 : Int32) (u : Int32) => r0 = u) (fun (u : Int32) (t : State) => (u.toInt = (f_tunes (i_bank.toInt).toNat).toInt)) (fun q => sz ≤ q)) 0 0 (fun q => sz ≤ q) := by
  refine Met.ofW (cc := cX9_songs) (maxL := 1) (ret := (some .int)) (by decide) rfl ?_
  intro p e s m args below meth c0 s₁ B hml hv
  obtain ⟨rfl, hsz, hP, hK⟩ := hv
  have hx := B.exec
  have hb := B.bytes
  have hr := B.returns
  have hts := atoms_spec (ws := .code yX9_songs cX9_songs 1 (some .int) :: GW) B.pre
  have hG : ∀ w ∈ GW, w.before _ s = true := fun w h => hts w (List.mem_cons_of_mem _ h)
  have hown : s.vm.findClass RX9 = some m.cls := findClass_of_methodNamed B.named
  subst hsz
  have hS : va_S (fun q => s.heap.size ≤ q) s.heap s.heap [] := va_S.rf
  have hP : va_P (dC, dI) vwCl (WM r ct i_taped i_size i_faultKind i_at i_end i_token i_number i_bank i_rb i_codes i_within i_piled i_unitsInRule i_askHouse i_askTune i_acts i_undone i_laid i_knowns i_time f_text f_tunes f_houses f_hums f_told f_many f_ruleFrom f_ruleTo f_code f_eWhat f_eSign f_all f_kept f_was f_sTune f_boxAll J L) s.heap := hP
  have hl := lv_entry ([.ref (r 0)]) (n := 1) (Nat.le_of_ble_eq_true rfl)
  rw [lg_entry_eq]
  generalize (lg_sl ([.ref (r 0)]) ++ List.replicate (1 - (lg_sl ([.ref (r 0)])).length) Slot.unset).toArray = ls at hl ⊢
  have hl : lv_has ls 1 [(0, .ref (r 0))] := hl
  refine nameQ (fun Q hQ => ?_)
  obtain ⟨im0, im1, im2, im3, im4, im5, im6, im7, im8, im9, im10, im11, im12, im13, im14, im15, im16, im17, im18, im19, im20, im21, im22, im23, im24, im25, im26, im27, im28, im29, im30, im31, im32⟩ := id hI
  have f1 : 0 ≤ (f_tunes (i_bank.toInt).toNat).toInt ∧ (f_tunes (i_bank.toInt).toNat).toInt ≤ 5 := im21 (i_bank.toInt)
  have f2 : 0 ≤ (f_houses (i_bank.toInt).toNat).toInt ∧ (f_houses (i_bank.toInt).toNat).toInt ≤ 4 := im22 (i_bank.toInt)
  refine lv_aload_n hx hb dX9_songs_0 rfl (lv_at hl 0 rfl) ?_
  refine gM_X9_24_0 hx hb hG hown hK hP dX9_songs_1 ?_
  refine lv_aload_n hx hb dX9_songs_4 rfl (lv_at hl 0 rfl) ?_
  refine gM_X9_249_0 hx hb hG hown hK hP dX9_songs_5 ?_
  refine ldM_4 (mm := i_bank.toInt) hx hb hK hP rfl (ob_584 im4 im5) (ob_585 im4 im5) dX9_songs_8 ?_
  rw [hQ]
  exact W.iret (v := (f_tunes (i_bank.toInt).toNat)) hx hb hr (fun t ht hW => ⟨⟨(f_tunes (i_bank.toInt).toNat), (f_tunes (i_bank.toInt).toNat), rfl, rfl, (ob_673)⟩, hS.F ht⟩) hS.2.2 dX9_songs_9
set_option maxHeartbeats 4000000 in
set_option maxRecDepth 100000 in
theorem kX9_homes (l : Launch) (dC : Nat → ClassId) (dI : Nat → Nat → Nat) (r : Nat → Nat) (ct : Nat → ClassId) (i_taped i_size i_faultKind i_at i_end i_token i_number i_bank i_rb i_codes i_within i_piled i_unitsInRule i_askHouse i_askTune i_acts i_undone i_laid i_knowns i_time : Int32) (f_text f_tunes f_houses f_hums f_told f_many f_ruleFrom f_ruleTo f_code f_eWhat f_eSign f_all f_kept f_was f_sTune f_boxAll : Nat → Int32) (J : Nat → Nat → Int32) (L : Nat → Nat → Int64) (sz : Nat) (hI : (IM i_taped i_size i_faultKind i_at i_end i_bank i_rb i_acts i_undone i_laid i_knowns i_time f_tunes f_houses f_hums f_told f_many f_ruleFrom f_ruleTo f_code f_all f_kept f_was f_sTune f_boxAll)) : Met l yX9_homes (.code yX9_homes cX9_homes 1 (some .int) :: GW) { frames := 2, cells := 0, slots := 0, locals := 100 } (va_Pc [.ref (r 0)] (pR (dC, dI) (WM r ct i_taped i_size i_faultKind i_at i_end i_token i_number i_bank i_rb i_codes i_within i_piled i_unitsInRule i_askHouse i_askTune i_acts i_undone i_laid i_knowns i_time f_text f_tunes f_houses f_hums f_told f_many f_ruleFrom f_ruleTo f_code f_eWhat f_eSign f_all f_kept f_was f_sTune f_boxAll J L) (TM ct) sz)) (va_Qi (fun (r0 : Int32) (u : Int32) => r0 = u) (fun (u : Int32) (t : State) => (u.toInt = (f_houses (i_bank.toInt).toNat).toInt)) (fun q => sz ≤ q)) 0 0 (fun q => sz ≤ q) := by
  refine Met.ofW (cc := cX9_homes) (maxL := 1) (ret := (some .int)) (by decide) rfl ?_
  intro p e s m args below meth c0 s₁ B hml hv
  obtain ⟨rfl, hsz, hP, hK⟩ := hv
  have hx := B.exec
  have hb := B.bytes
  have hr := B.returns
  have hts := atoms_spec (ws := .code yX9_homes cX9_homes 1 (some .int) :: GW) B.pre
  have hG : ∀ w ∈ GW, w.before _ s = true := fun w h => hts w (List.mem_cons_of_mem _ h)
  have hown : s.vm.findClass RX9 = some m.cls := findClass_of_methodNamed B.named
  subst hsz
  have hS : va_S (fun q => s.heap.size ≤ q) s.heap s.heap [] := va_S.rf
  have hP : va_P (dC, dI) vwCl (WM r ct i_taped i_size i_faultKind i_at i_end i_token i_number i_bank i_rb i_codes i_within i_piled i_unitsInRule i_askHouse i_askTune i_acts i_undone i_laid i_knowns i_time f_text f_tunes f_houses f_hums f_told f_many f_ruleFrom f_ruleTo f_code f_eWhat f_eSign f_all f_kept f_was f_sTune f_boxAll J L) s.heap := hP
  have hl := lv_entry ([.ref (r 0)]) (n := 1) (Nat.le_of_ble_eq_true rfl)
  rw [lg_entry_eq]
  generalize (lg_sl ([.ref (r 0)]) ++ List.replicate (1 - (lg_sl ([.ref (r 0)])).length) Slot.unset).toArray = ls at hl ⊢
  have hl : lv_has ls 1 [(0, .ref (r 0))] := hl
  refine nameQ (fun Q hQ => ?_)
  obtain ⟨im0, im1, im2, im3, im4, im5, im6, im7, im8, im9, im10, im11, im12, im13, im14, im15, im16, im17, im18, im19, im20, im21, im22, im23, im24, im25, im26, im27, im28, im29, im30, im31, im32⟩ := id hI
  have f1 : 0 ≤ (f_tunes (i_bank.toInt).toNat).toInt ∧ (f_tunes (i_bank.toInt).toNat).toInt ≤ 5 := im21 (i_bank.toInt)
  have f2 : 0 ≤ (f_houses (i_bank.toInt).toNat).toInt ∧ (f_houses (i_bank.toInt).toNat).toInt ≤ 4 := im22 (i_bank.toInt)
  refine lv_aload_n hx hb dX9_homes_0 rfl (lv_at hl 0 rfl) ?_
  refine gM_X9_27_0 hx hb hG hown hK hP dX9_homes_1 ?_
  refine lv_aload_n hx hb dX9_homes_4 rfl (lv_at hl 0 rfl) ?_
  refine gM_X9_249_0 hx hb hG hown hK hP dX9_homes_5 ?_
  refine ldM_5 (mm := i_bank.toInt) hx hb hK hP rfl (ob_584 im4 im5) (ob_585 im4 im5) dX9_homes_8 ?_
  rw [hQ]
  exact W.iret (v := (f_houses (i_bank.toInt).toNat)) hx hb hr (fun t ht hW => ⟨⟨(f_houses (i_bank.toInt).toNat), (f_houses (i_bank.toInt).toNat), rfl, rfl, (ob_673)⟩, hS.F ht⟩) hS.2.2 dX9_homes_9
set_option maxHeartbeats 4000000 in
set_option maxRecDepth 100000 in
theorem kX9_isTune (l : Launch) (dC : Nat → ClassId) (dI : Nat → Nat → Nat) (r : Nat → Nat) (ct : Nat → ClassId) (i_taped i_size i_faultKind i_at i_end i_token i_number i_bank i_rb i_codes i_within i_piled i_unitsInRule i_askHouse i_askTune i_acts i_undone i_laid i_knowns i_time : Int32) (f_text f_tunes f_houses f_hums f_told f_many f_ruleFrom f_ruleTo f_code f_eWhat f_eSign f_all f_kept f_was f_sTune f_boxAll : Nat → Int32) (J : Nat → Nat → Int32) (L : Nat → Nat → Int64) (p0 : Int32) (sz : Nat) (hI : (IM i_taped i_size i_faultKind i_at i_end i_bank i_rb i_acts i_undone i_laid i_knowns i_time f_tunes f_houses f_hums f_told f_many f_ruleFrom f_ruleTo f_code f_all f_kept f_was f_sTune f_boxAll)) : Met l yX9_isTune (.code yX9_isTune cX9_isTune 2 (some .boolean) :: GW) { frames := 4, cells := 0, slots := 0, locals := 162 } (va_Pc [.ref (r 0), .int p0] (pR (dC, dI) (WM r ct i_taped i_size i_faultKind i_at i_end i_token i_number i_bank i_rb i_codes i_within i_piled i_unitsInRule i_askHouse i_askTune i_acts i_undone i_laid i_knowns i_time f_text f_tunes f_houses f_hums f_told f_many f_ruleFrom f_ruleTo f_code f_eWhat f_eSign f_all f_kept f_was f_sTune f_boxAll J L) (TM ct) sz)) (va_Qi (fun (r0 : Int32) (u : Int32) => r0 = u) (fun (u : Int32) (t : State) => (((p0.toInt + 1 ≤ (0 : Int)) ∧ (u.toInt = (0 : Int))) ∨ (((0 : Int) ≤ p0.toInt) ∧ ((f_tunes (i_bank.toInt).toNat).toInt ≤ p0.toInt) ∧ (u.toInt = (0 : Int))) ∨ (((0 : Int) ≤ p0.toInt) ∧ (p0.toInt + 1 ≤ (f_tunes (i_bank.toInt).toNat).toInt) ∧ (u.toInt = (1 : Int)))) ∧ ((0 : Int) ≤ u.toInt) ∧ (u.toInt ≤ (1 : Int)) ∧ ((0 : Int) ≤ u.toInt) ∧ (u.toInt ≤ (1 : Int))) (fun q => sz ≤ q)) 0 0 (fun q => sz ≤ q) := by
  refine Met.ofW (cc := cX9_isTune) (maxL := 2) (ret := (some .boolean)) (by decide) rfl ?_
  intro p e s m args below meth c0 s₁ B hml hv
  obtain ⟨rfl, hsz, hP, hK⟩ := hv
  have hx := B.exec
  have hb := B.bytes
  have hr := B.returns
  have hts := atoms_spec (ws := .code yX9_isTune cX9_isTune 2 (some .boolean) :: GW) B.pre
  have hG : ∀ w ∈ GW, w.before _ s = true := fun w h => hts w (List.mem_cons_of_mem _ h)
  have hown : s.vm.findClass RX9 = some m.cls := findClass_of_methodNamed B.named
  subst hsz
  have hS : va_S (fun q => s.heap.size ≤ q) s.heap s.heap [] := va_S.rf
  have hP : va_P (dC, dI) vwCl (WM r ct i_taped i_size i_faultKind i_at i_end i_token i_number i_bank i_rb i_codes i_within i_piled i_unitsInRule i_askHouse i_askTune i_acts i_undone i_laid i_knowns i_time f_text f_tunes f_houses f_hums f_told f_many f_ruleFrom f_ruleTo f_code f_eWhat f_eSign f_all f_kept f_was f_sTune f_boxAll J L) s.heap := hP
  have hl := lv_entry ([.ref (r 0), .int p0]) (n := 2) (Nat.le_of_ble_eq_true rfl)
  rw [lg_entry_eq]
  generalize (lg_sl ([.ref (r 0), .int p0]) ++ List.replicate (2 - (lg_sl ([.ref (r 0), .int p0])).length) Slot.unset).toArray = ls at hl ⊢
  have hl : lv_has ls 2 [(0, .ref (r 0)), (1, .int p0)] := hl
  refine nameQ (fun Q hQ => ?_)
  obtain ⟨im0, im1, im2, im3, im4, im5, im6, im7, im8, im9, im10, im11, im12, im13, im14, im15, im16, im17, im18, im19, im20, im21, im22, im23, im24, im25, im26, im27, im28, im29, im30, im31, im32⟩ := id hI
  have f1 : 0 ≤ (f_tunes (i_bank.toInt).toNat).toInt ∧ (f_tunes (i_bank.toInt).toNat).toInt ≤ 5 := im21 (i_bank.toInt)
  have f2 : 0 ≤ (f_houses (i_bank.toInt).toNat).toInt ∧ (f_houses (i_bank.toInt).toNat).toInt ≤ 4 := im22 (i_bank.toInt)
  refine lv_iload_n hx hb dX9_isTune_0 rfl (lv_at hl 1 rfl) ?_
  refine lv_iconst (v := 0) hx hb dX9_isTune_1 (by decide) ?_
  refine lv_aload_n hx hb dX9_isTune_2 rfl (lv_at hl 0 rfl) ?_
  refine va_calli (va_runV (As := []) (rest := [.int 0, .int p0]) ⟨hx, hb, hml, hown, hG⟩ (kX9_songs l dC dI r ct i_taped i_size i_faultKind i_at i_end i_token i_number i_bank i_rb i_codes i_within i_piled i_unitsInRule i_askHouse i_askTune i_acts i_undone i_laid i_knowns i_time f_text f_tunes f_houses f_hums f_told f_many f_ruleFrom f_ruleTo f_code f_eWhat f_eSign f_all f_kept f_was f_sTune f_boxAll J L s.heap.size hI) (cwV 0 hG (goodV gw1512 gw1514 gw86 gw138 gw1515) rfl rfl rfl hd_X9_songs ⟨(Nat.le_of_ble_eq_true rfl), (Nat.le_of_ble_eq_true rfl)⟩) ⟨fbR, va_recv hK hP (ci := 8) (q0 := 0) rfl rfl, pR_in hP hK⟩ rfl rfl hl.1 rfl (lv_room (Nat.le_of_ble_eq_true rfl)) dX9_isTune_3 ⟨(Nat.le_of_ble_eq_true rfl), (Nat.le_of_ble_eq_true rfl)⟩) hS (fun q hq h => absurd hq (Nat.not_lt.mpr h)) (fun q h => Nat.le_trans hS.1 h) (fun r_4 u_ t_ H3 locs ht hvm hw hB hz1 hk1 hS => ?_)
  subst hw
  have hP := wk hP hk1
  have f5 := hB
  have f6 : r_4.toInt = (f_tunes (i_bank.toInt).toNat).toInt := (ob_6 f5)
  refine lv_iconst (v := 1) hx hb dX9_isTune_6 (by decide) ?_
  refine lv_isub hx hb dX9_isTune_7 ?_
  refine lv_topi (fun x7 ex7 => ?_)
  have f8 : x7.toInt = (f_tunes (i_bank.toInt).toNat).toInt + (-1) := (ob_676 (qi_sub ex7 rfl zc_1 (ob_674 f1 f6) (ob_675 f1 f6)) f6)
  refine va_calli (va_runS (As := [.int p0, .int 0, .int x7]) (rest := []) ⟨hx, hb, hml, hown, hG⟩ (kX9_isIn l dC dI p0 0 x7 H3.size) (va_cwS 3 hG (goodS gw1516 gw1517 gw138 gw1518) rfl rfl rfl hd_X9_isIn ⟨(Nat.le_of_ble_eq_true rfl), (Nat.le_of_ble_eq_true rfl)⟩) ⟨fbR, pR_in emptyP (emptyK hK)⟩ rfl rfl hl.1 rfl (lv_room (Nat.le_of_ble_eq_true rfl)) dX9_isTune_8 ⟨(Nat.le_of_ble_eq_true rfl), (Nat.le_of_ble_eq_true rfl)⟩) hS (fun q hq h => absurd hq (Nat.not_lt.mpr h)) (fun q h => Nat.le_trans hS.1 h) (fun r_10 u_ t_ H9 locs ht hvm hw hB hz1 hk1 hS => ?_)
  subst hw
  have hP := wk hP hk1
  obtain ⟨f11, f12, f13⟩ := hB
  rw [hQ]
  exact W.zret (v := r_10) hx hb hr (zn (ob_584 f12 f13) (ob_678 f12 f13)) (fun t ht hW => ⟨⟨r_10, r_10, rfl, rfl, ⟨(ob_677 f11 f8 zc_0), (ob_462 f12 f13), (ob_463 f12 f13), (ob_462 f12 f13), (ob_463 f12 f13)⟩⟩, hS.F ht⟩) hS.2.2 dX9_isTune_11
set_option maxHeartbeats 4000000 in
set_option maxRecDepth 100000 in
theorem kX9_isHouse (l : Launch) (dC : Nat → ClassId) (dI : Nat → Nat → Nat) (r : Nat → Nat) (ct : Nat → ClassId) (i_taped i_size i_faultKind i_at i_end i_token i_number i_bank i_rb i_codes i_within i_piled i_unitsInRule i_askHouse i_askTune i_acts i_undone i_laid i_knowns i_time : Int32) (f_text f_tunes f_houses f_hums f_told f_many f_ruleFrom f_ruleTo f_code f_eWhat f_eSign f_all f_kept f_was f_sTune f_boxAll : Nat → Int32) (J : Nat → Nat → Int32) (L : Nat → Nat → Int64) (p0 : Int32) (sz : Nat) (hI : (IM i_taped i_size i_faultKind i_at i_end i_bank i_rb i_acts i_undone i_laid i_knowns i_time f_tunes f_houses f_hums f_told f_many f_ruleFrom f_ruleTo f_code f_all f_kept f_was f_sTune f_boxAll)) : Met l yX9_isHouse (.code yX9_isHouse cX9_isHouse 2 (some .boolean) :: GW) { frames := 4, cells := 0, slots := 0, locals := 162 } (va_Pc [.ref (r 0), .int p0] (pR (dC, dI) (WM r ct i_taped i_size i_faultKind i_at i_end i_token i_number i_bank i_rb i_codes i_within i_piled i_unitsInRule i_askHouse i_askTune i_acts i_undone i_laid i_knowns i_time f_text f_tunes f_houses f_hums f_told f_many f_ruleFrom f_ruleTo f_code f_eWhat f_eSign f_all f_kept f_was f_sTune f_boxAll J L) (TM ct) sz)) (va_Qi (fun (r0 : Int32) (u : Int32) => r0 = u) (fun (u : Int32) (t : State) => (((p0.toInt + 1 ≤ (0 : Int)) ∧ (u.toInt = (0 : Int))) ∨ (((0 : Int) ≤ p0.toInt) ∧ ((f_houses (i_bank.toInt).toNat).toInt ≤ p0.toInt) ∧ (u.toInt = (0 : Int))) ∨ (((0 : Int) ≤ p0.toInt) ∧ (p0.toInt + 1 ≤ (f_houses (i_bank.toInt).toNat).toInt) ∧ (u.toInt = (1 : Int)))) ∧ ((0 : Int) ≤ u.toInt) ∧ (u.toInt ≤ (1 : Int)) ∧ ((0 : Int) ≤ u.toInt) ∧ (u.toInt ≤ (1 : Int))) (fun q => sz ≤ q)) 0 0 (fun q => sz ≤ q) := by
  refine Met.ofW (cc := cX9_isHouse) (maxL := 2) (ret := (some .boolean)) (by decide) rfl ?_
  intro p e s m args below meth c0 s₁ B hml hv
  obtain ⟨rfl, hsz, hP, hK⟩ := hv
  have hx := B.exec
  have hb := B.bytes
  have hr := B.returns
  have hts := atoms_spec (ws := .code yX9_isHouse cX9_isHouse 2 (some .boolean) :: GW) B.pre
  have hG : ∀ w ∈ GW, w.before _ s = true := fun w h => hts w (List.mem_cons_of_mem _ h)
  have hown : s.vm.findClass RX9 = some m.cls := findClass_of_methodNamed B.named
  subst hsz
  have hS : va_S (fun q => s.heap.size ≤ q) s.heap s.heap [] := va_S.rf
  have hP : va_P (dC, dI) vwCl (WM r ct i_taped i_size i_faultKind i_at i_end i_token i_number i_bank i_rb i_codes i_within i_piled i_unitsInRule i_askHouse i_askTune i_acts i_undone i_laid i_knowns i_time f_text f_tunes f_houses f_hums f_told f_many f_ruleFrom f_ruleTo f_code f_eWhat f_eSign f_all f_kept f_was f_sTune f_boxAll J L) s.heap := hP
  have hl := lv_entry ([.ref (r 0), .int p0]) (n := 2) (Nat.le_of_ble_eq_true rfl)
  rw [lg_entry_eq]
  generalize (lg_sl ([.ref (r 0), .int p0]) ++ List.replicate (2 - (lg_sl ([.ref (r 0), .int p0])).length) Slot.unset).toArray = ls at hl ⊢
  have hl : lv_has ls 2 [(0, .ref (r 0)), (1, .int p0)] := hl
  refine nameQ (fun Q hQ => ?_)
  obtain ⟨im0, im1, im2, im3, im4, im5, im6, im7, im8, im9, im10, im11, im12, im13, im14, im15, im16, im17, im18, im19, im20, im21, im22, im23, im24, im25, im26, im27, im28, im29, im30, im31, im32⟩ := id hI
  have f1 : 0 ≤ (f_tunes (i_bank.toInt).toNat).toInt ∧ (f_tunes (i_bank.toInt).toNat).toInt ≤ 5 := im21 (i_bank.toInt)
  have f2 : 0 ≤ (f_houses (i_bank.toInt).toNat).toInt ∧ (f_houses (i_bank.toInt).toNat).toInt ≤ 4 := im22 (i_bank.toInt)
  refine lv_iload_n hx hb dX9_isHouse_0 rfl (lv_at hl 1 rfl) ?_
  refine lv_iconst (v := 0) hx hb dX9_isHouse_1 (by decide) ?_
  refine lv_aload_n hx hb dX9_isHouse_2 rfl (lv_at hl 0 rfl) ?_
  refine va_calli (va_runV (As := []) (rest := [.int 0, .int p0]) ⟨hx, hb, hml, hown, hG⟩ (kX9_homes l dC dI r ct i_taped i_size i_faultKind i_at i_end i_token i_number i_bank i_rb i_codes i_within i_piled i_unitsInRule i_askHouse i_askTune i_acts i_undone i_laid i_knowns i_time f_text f_tunes f_houses f_hums f_told f_many f_ruleFrom f_ruleTo f_code f_eWhat f_eSign f_all f_kept f_was f_sTune f_boxAll J L s.heap.size hI) (cwV 0 hG (goodV gw1167 gw1169 gw58 gw138 gw1170) rfl rfl rfl hd_X9_homes ⟨(Nat.le_of_ble_eq_true rfl), (Nat.le_of_ble_eq_true rfl)⟩) ⟨fbR, va_recv hK hP (ci := 8) (q0 := 0) rfl rfl, pR_in hP hK⟩ rfl rfl hl.1 rfl (lv_room (Nat.le_of_ble_eq_true rfl)) dX9_isHouse_3 ⟨(Nat.le_of_ble_eq_true rfl), (Nat.le_of_ble_eq_true rfl)⟩) hS (fun q hq h => absurd hq (Nat.not_lt.mpr h)) (fun q h => Nat.le_trans hS.1 h) (fun r_4 u_ t_ H3 locs ht hvm hw hB hz1 hk1 hS => ?_)
  subst hw
  have hP := wk hP hk1
  have f5 := hB
  have f6 : r_4.toInt = (f_houses (i_bank.toInt).toNat).toInt := (ob_6 f5)
  refine lv_iconst (v := 1) hx hb dX9_isHouse_6 (by decide) ?_
  refine lv_isub hx hb dX9_isHouse_7 ?_
  refine lv_topi (fun x7 ex7 => ?_)
  have f8 : x7.toInt = (f_houses (i_bank.toInt).toNat).toInt + (-1) := (ob_676 (qi_sub ex7 rfl zc_1 (ob_679 f2 f6) (ob_680 f2 f6)) f6)
  refine va_calli (va_runS (As := [.int p0, .int 0, .int x7]) (rest := []) ⟨hx, hb, hml, hown, hG⟩ (kX9_isIn l dC dI p0 0 x7 H3.size) (va_cwS 3 hG (goodS gw1516 gw1517 gw138 gw1518) rfl rfl rfl hd_X9_isIn ⟨(Nat.le_of_ble_eq_true rfl), (Nat.le_of_ble_eq_true rfl)⟩) ⟨fbR, pR_in emptyP (emptyK hK)⟩ rfl rfl hl.1 rfl (lv_room (Nat.le_of_ble_eq_true rfl)) dX9_isHouse_8 ⟨(Nat.le_of_ble_eq_true rfl), (Nat.le_of_ble_eq_true rfl)⟩) hS (fun q hq h => absurd hq (Nat.not_lt.mpr h)) (fun q h => Nat.le_trans hS.1 h) (fun r_10 u_ t_ H9 locs ht hvm hw hB hz1 hk1 hS => ?_)
  subst hw
  have hP := wk hP hk1
  obtain ⟨f11, f12, f13⟩ := hB
  rw [hQ]
  exact W.zret (v := r_10) hx hb hr (zn (ob_584 f12 f13) (ob_678 f12 f13)) (fun t ht hW => ⟨⟨r_10, r_10, rfl, rfl, ⟨(ob_677 f11 f8 zc_0), (ob_462 f12 f13), (ob_463 f12 f13), (ob_462 f12 f13), (ob_463 f12 f13)⟩⟩, hS.F ht⟩) hS.2.2 dX9_isHouse_11
set_option maxHeartbeats 4000000 in
set_option maxRecDepth 100000 in
theorem kX9_isNote (l : Launch) (dC : Nat → ClassId) (dI : Nat → Nat → Nat) (p0 : Int32) (sz : Nat) : Met l yX9_isNote (.code yX9_isNote cX9_isNote 1 (some .boolean) :: GW) { frames := 2, cells := 0, slots := 0, locals := 100 } (va_Pc [.int p0] (pR (dC, dI) [] [] sz)) (va_Qi (fun (r0 : Int32) (u : Int32) => r0 = u) (fun (u : Int32) (t : State) => (((p0.toInt + 1 ≤ (0 : Int)) ∧ (u.toInt = (0 : Int))) ∨ (((0 : Int) ≤ p0.toInt) ∧ ((7 : Int) ≤ p0.toInt) ∧ (u.toInt = (0 : Int))) ∨ (((0 : Int) ≤ p0.toInt) ∧ (p0.toInt ≤ (6 : Int)) ∧ (u.toInt = (1 : Int)))) ∧ ((0 : Int) ≤ u.toInt) ∧ (u.toInt ≤ (1 : Int))) (fun q => sz ≤ q)) 0 0 (fun q => sz ≤ q) := by
  refine Met.ofW (cc := cX9_isNote) (maxL := 1) (ret := (some .boolean)) (by decide) rfl ?_
  intro p e s m args below meth c0 s₁ B hml hv
  obtain ⟨rfl, hsz, hP, hK⟩ := hv
  have hx := B.exec
  have hb := B.bytes
  have hr := B.returns
  have hts := atoms_spec (ws := .code yX9_isNote cX9_isNote 1 (some .boolean) :: GW) B.pre
  have hG : ∀ w ∈ GW, w.before _ s = true := fun w h => hts w (List.mem_cons_of_mem _ h)
  have hown : s.vm.findClass RX9 = some m.cls := findClass_of_methodNamed B.named
  subst hsz
  have hS : va_S (fun q => s.heap.size ≤ q) s.heap s.heap [] := va_S.rf
  have hP : va_P (dC, dI) vwCl [] s.heap := hP
  have hl := lv_entry ([.int p0]) (n := 1) (Nat.le_of_ble_eq_true rfl)
  rw [lg_entry_eq]
  generalize (lg_sl ([.int p0]) ++ List.replicate (1 - (lg_sl ([.int p0])).length) Slot.unset).toArray = ls at hl ⊢
  have hl : lv_has ls 1 [(0, .int p0)] := hl
  refine nameQ (fun Q hQ => ?_)
  refine lv_iload_n hx hb dX9_isNote_0 rfl (lv_at hl 0 rfl) ?_
  refine lv_if_lt (tgt := 14) hx hb dX9_isNote_1 (by decide) (fun c_1 => ?_) (fun c_1 => ?_)
  · skip
    have f2 : p0.toInt < 0 := qi_lt c_1 rfl zc_0
    refine lv_iconst (v := 0) hx hb dX9_isNote_14 (by decide) ?_
    rw [hQ]
    exact W.zret (v := 0) hx hb hr (by decide) (fun t ht hW => ⟨⟨0, 0, rfl, rfl, ⟨(ob_681 f2 zc_0), (ob_1 zc_0), (ob_11 zc_0)⟩⟩, hS.F ht⟩) hS.2.2 dX9_isNote_15
  · skip
    have f3 : 0 ≤ p0.toInt := qi_nlt c_1 rfl zc_0
    refine lv_iload_n hx hb dX9_isNote_4 rfl (lv_at hl 0 rfl) ?_
    refine lv_bipush (v := 7) hx hb dX9_isNote_5 (by decide) ?_
    refine lv_icmp_ge (tgt := 14) hx hb dX9_isNote_7 (by decide) (fun c_4 => ?_) (fun c_4 => ?_)
    · skip
      have f5 : 7 ≤ p0.toInt := qi_le c_4 zc_7 rfl
      refine lv_iconst (v := 0) hx hb dX9_isNote_14 (by decide) ?_
      rw [hQ]
      exact W.zret (v := 0) hx hb hr (by decide) (fun t ht hW => ⟨⟨0, 0, rfl, rfl, ⟨(ob_682 f3 f5 zc_0), (ob_1 zc_0), (ob_11 zc_0)⟩⟩, hS.F ht⟩) hS.2.2 dX9_isNote_15
    · skip
      have f6 : p0.toInt < 7 := qi_nle c_4 zc_7 rfl
      refine lv_iconst (v := 1) hx hb dX9_isNote_10 (by decide) ?_
      refine lv_goto (tgt := 15) hx hb dX9_isNote_11 (by decide) ?_
      rw [hQ]
      exact W.zret (v := 1) hx hb hr (by decide) (fun t ht hW => ⟨⟨1, 1, rfl, rfl, ⟨(ob_683 f3 f6 zc_1), (ob_14 zc_1), (ob_15 zc_1)⟩⟩, hS.F ht⟩) hS.2.2 dX9_isNote_15
set_option maxHeartbeats 4000000 in
set_option maxRecDepth 100000 in
theorem kX9_placeOf (l : Launch) (dC : Nat → ClassId) (dI : Nat → Nat → Nat) (r : Nat → Nat) (ct : Nat → ClassId) (i_taped i_size i_faultKind i_at i_end i_token i_number i_bank i_rb i_codes i_within i_piled i_unitsInRule i_askHouse i_askTune i_acts i_undone i_laid i_knowns i_time : Int32) (f_text f_tunes f_houses f_hums f_told f_many f_ruleFrom f_ruleTo f_code f_eWhat f_eSign f_all f_kept f_was f_sTune f_boxAll : Nat → Int32) (J : Nat → Nat → Int32) (L : Nat → Nat → Int64) (p0 : Int32) (sz : Nat) (hI : (IM i_taped i_size i_faultKind i_at i_end i_bank i_rb i_acts i_undone i_laid i_knowns i_time f_tunes f_houses f_hums f_told f_many f_ruleFrom f_ruleTo f_code f_all f_kept f_was f_sTune f_boxAll)) (hp0 : (0 : Int) ≤ p0.toInt) (hp1 : p0.toInt + 1 ≤ (f_houses (i_bank.toInt).toNat).toInt) : Met l yX9_placeOf (.code yX9_placeOf cX9_placeOf 2 (some .int) :: GW) { frames := 2, cells := 0, slots := 0, locals := 100 } (va_Pc [.ref (r 0), .int p0] (pR (dC, dI) (WM r ct i_taped i_size i_faultKind i_at i_end i_token i_number i_bank i_rb i_codes i_within i_piled i_unitsInRule i_askHouse i_askTune i_acts i_undone i_laid i_knowns i_time f_text f_tunes f_houses f_hums f_told f_many f_ruleFrom f_ruleTo f_code f_eWhat f_eSign f_all f_kept f_was f_sTune f_boxAll J L) (TM ct) sz)) (va_Qi (fun (r0 : Int32) (u : Int32) => r0 = u) (fun (u : Int32) (t : State) => True) (fun q => sz ≤ q)) 0 0 (fun q => sz ≤ q) := by
  refine Met.ofW (cc := cX9_placeOf) (maxL := 2) (ret := (some .int)) (by decide) rfl ?_
  intro p e s m args below meth c0 s₁ B hml hv
  obtain ⟨rfl, hsz, hP, hK⟩ := hv
  have hx := B.exec
  have hb := B.bytes
  have hr := B.returns
  have hts := atoms_spec (ws := .code yX9_placeOf cX9_placeOf 2 (some .int) :: GW) B.pre
  have hG : ∀ w ∈ GW, w.before _ s = true := fun w h => hts w (List.mem_cons_of_mem _ h)
  have hown : s.vm.findClass RX9 = some m.cls := findClass_of_methodNamed B.named
  subst hsz
  have hS : va_S (fun q => s.heap.size ≤ q) s.heap s.heap [] := va_S.rf
  have hP : va_P (dC, dI) vwCl (WM r ct i_taped i_size i_faultKind i_at i_end i_token i_number i_bank i_rb i_codes i_within i_piled i_unitsInRule i_askHouse i_askTune i_acts i_undone i_laid i_knowns i_time f_text f_tunes f_houses f_hums f_told f_many f_ruleFrom f_ruleTo f_code f_eWhat f_eSign f_all f_kept f_was f_sTune f_boxAll J L) s.heap := hP
  have hl := lv_entry ([.ref (r 0), .int p0]) (n := 2) (Nat.le_of_ble_eq_true rfl)
  rw [lg_entry_eq]
  generalize (lg_sl ([.ref (r 0), .int p0]) ++ List.replicate (2 - (lg_sl ([.ref (r 0), .int p0])).length) Slot.unset).toArray = ls at hl ⊢
  have hl : lv_has ls 2 [(0, .ref (r 0)), (1, .int p0)] := hl
  refine nameQ (fun Q hQ => ?_)
  obtain ⟨im0, im1, im2, im3, im4, im5, im6, im7, im8, im9, im10, im11, im12, im13, im14, im15, im16, im17, im18, im19, im20, im21, im22, im23, im24, im25, im26, im27, im28, im29, im30, im31, im32⟩ := id hI
  have f1 : 0 ≤ (f_tunes (i_bank.toInt).toNat).toInt ∧ (f_tunes (i_bank.toInt).toNat).toInt ≤ 5 := im21 (i_bank.toInt)
  have f2 : 0 ≤ (f_houses (i_bank.toInt).toNat).toInt ∧ (f_houses (i_bank.toInt).toNat).toInt ≤ 4 := im22 (i_bank.toInt)
  refine lv_aload_n hx hb dX9_placeOf_0 rfl (lv_at hl 0 rfl) ?_
  refine gM_X9_51_0 hx hb hG hown hK hP dX9_placeOf_1 ?_
  refine lv_iconst (v := 4) hx hb dX9_placeOf_4 (by decide) ?_
  refine lv_aload_n hx hb dX9_placeOf_5 rfl (lv_at hl 0 rfl) ?_
  refine gM_X9_249_0 hx hb hG hown hK hP dX9_placeOf_6 ?_
  refine lv_imul hx hb dX9_placeOf_9 ?_
  refine lv_topi (fun x3 ex3 => ?_)
  have f4 : x3.toInt = 4 * i_bank.toInt := (ob_538 (qi_mul ex3 zc_4 rfl (ob_536 im4 im5) (ob_537 im4 im5)))
  refine lv_iload_n hx hb dX9_placeOf_10 rfl (lv_at hl 1 rfl) ?_
  refine lv_iadd hx hb dX9_placeOf_11 ?_
  refine lv_topi (fun x5 ex5 => ?_)
  have f6 : x5.toInt = p0.toInt + 4 * i_bank.toInt := (ob_541 (qi_add ex5 rfl rfl (ob_539 im4 hp0 f4) (ob_540 im5 f2 hp1 f4)) f4)
  refine ldM_13 (mm := p0.toInt + 4 * i_bank.toInt) hx hb hK hP f6 (ob_684 im4 hp0) (ob_685 im5 f2 hp1) dX9_placeOf_12 (fun x7 => ?_)
  rw [hQ]
  exact W.iret (v := x7) hx hb hr (fun t ht hW => ⟨⟨x7, x7, rfl, rfl, trivial⟩, hS.F ht⟩) hS.2.2 dX9_placeOf_13
set_option maxHeartbeats 4000000 in
set_option maxRecDepth 100000 in
theorem kX9_layTold (l : Launch) (dC : Nat → ClassId) (dI : Nat → Nat → Nat) (r : Nat → Nat) (ct : Nat → ClassId) (i_taped i_size i_faultKind i_at i_end i_token i_number i_bank i_rb i_codes i_within i_piled i_unitsInRule i_askHouse i_askTune i_acts i_undone i_laid i_knowns i_time : Int32) (f_text f_tunes f_houses f_hums f_told f_many f_ruleFrom f_ruleTo f_code f_eWhat f_eSign f_all f_kept f_was f_sTune f_boxAll : Nat → Int32) (J : Nat → Nat → Int32) (L : Nat → Nat → Int64) (sz : Nat) (hI : (IM i_taped i_size i_faultKind i_at i_end i_bank i_rb i_acts i_undone i_laid i_knowns i_time f_tunes f_houses f_hums f_told f_many f_ruleFrom f_ruleTo f_code f_all f_kept f_was f_sTune f_boxAll)) : Met l yX9_layTold (.code yX9_layTold cX9_layTold 2 none :: GW) { frames := 4, cells := 0, slots := 0, locals := 160 } (va_Pc [.ref (r 0)] (pW (dC, dI) (WM r ct i_taped i_size i_faultKind i_at i_end i_token i_number i_bank i_rb i_codes i_within i_piled i_unitsInRule i_askHouse i_askTune i_acts i_undone i_laid i_knowns i_time f_text f_tunes f_houses f_hums f_told f_many f_ruleFrom f_ruleTo f_code f_eWhat f_eSign f_all f_kept f_was f_sTune f_boxAll J L) (TM ct) sz)) (va_Qv (fun _ : Unit => True) (fun (_ : Unit) (t : State) => ∃ (n_f_all : Nat → Int32), va_P (dC, dI) vwCl (WM r ct i_taped i_size i_faultKind i_at i_end i_token i_number i_bank i_rb i_codes i_within i_piled i_unitsInRule i_askHouse i_askTune i_acts i_undone i_laid i_knowns i_time f_text f_tunes f_houses f_hums f_told f_many f_ruleFrom f_ruleTo f_code f_eWhat f_eSign n_f_all f_kept f_was f_sTune f_boxAll J L) t.heap ∧ va_D (va_A (WM r ct i_taped i_size i_faultKind i_at i_end i_token i_number i_bank i_rb i_codes i_within i_piled i_unitsInRule i_askHouse i_askTune i_acts i_undone i_laid i_knowns i_time f_text f_tunes f_houses f_hums f_told f_many f_ruleFrom f_ruleTo f_code f_eWhat f_eSign f_all f_kept f_was f_sTune f_boxAll J L) sz) (WM r ct i_taped i_size i_faultKind i_at i_end i_token i_number i_bank i_rb i_codes i_within i_piled i_unitsInRule i_askHouse i_askTune i_acts i_undone i_laid i_knowns i_time f_text f_tunes f_houses f_hums f_told f_many f_ruleFrom f_ruleTo f_code f_eWhat f_eSign n_f_all f_kept f_was f_sTune f_boxAll J L) ∧ (IM i_taped i_size i_faultKind i_at i_end i_bank i_rb i_acts i_undone i_laid i_knowns i_time f_tunes f_houses f_hums f_told f_many f_ruleFrom f_ruleTo f_code n_f_all f_kept f_was f_sTune f_boxAll)) (va_A (WM r ct i_taped i_size i_faultKind i_at i_end i_token i_number i_bank i_rb i_codes i_within i_piled i_unitsInRule i_askHouse i_askTune i_acts i_undone i_laid i_knowns i_time f_text f_tunes f_houses f_hums f_told f_many f_ruleFrom f_ruleTo f_code f_eWhat f_eSign f_all f_kept f_was f_sTune f_boxAll J L) sz)) 0 0 (va_A (WM r ct i_taped i_size i_faultKind i_at i_end i_token i_number i_bank i_rb i_codes i_within i_piled i_unitsInRule i_askHouse i_askTune i_acts i_undone i_laid i_knowns i_time f_text f_tunes f_houses f_hums f_told f_many f_ruleFrom f_ruleTo f_code f_eWhat f_eSign f_all f_kept f_was f_sTune f_boxAll J L) sz) := by
  refine Met.ofW (cc := cX9_layTold) (maxL := 2) (ret := none) (by decide) rfl ?_
  intro p e s m args below meth c0 s₁ B hml hv
  obtain ⟨rfl, hsz, hP, hK, hD0⟩ := hv
  have hx := B.exec
  have hb := B.bytes
  have hr := B.returns
  have hts := atoms_spec (ws := .code yX9_layTold cX9_layTold 2 none :: GW) B.pre
  have hG : ∀ w ∈ GW, w.before _ s = true := fun w h => hts w (List.mem_cons_of_mem _ h)
  have hown : s.vm.findClass RX9 = some m.cls := findClass_of_methodNamed B.named
  subst hsz
  have hD := hD0.self (sz := s.heap.size)
  generalize hAe : va_A (WM r ct i_taped i_size i_faultKind i_at i_end i_token i_number i_bank i_rb i_codes i_within i_piled i_unitsInRule i_askHouse i_askTune i_acts i_undone i_laid i_knowns i_time f_text f_tunes f_houses f_hums f_told f_many f_ruleFrom f_ruleTo f_code f_eWhat f_eSign f_all f_kept f_was f_sTune f_boxAll J L) s.heap.size = A at hD ⊢
  have hA : ∀ q : Nat, s.heap.size ≤ q → A q := fun q h => by rw [← hAe]; exact Or.inr h
  have hS : va_S A s.heap s.heap [] := va_S.rf
  have hP : va_P (dC, dI) vwCl (WM r ct i_taped i_size i_faultKind i_at i_end i_token i_number i_bank i_rb i_codes i_within i_piled i_unitsInRule i_askHouse i_askTune i_acts i_undone i_laid i_knowns i_time f_text f_tunes f_houses f_hums f_told f_many f_ruleFrom f_ruleTo f_code f_eWhat f_eSign f_all f_kept f_was f_sTune f_boxAll J L) s.heap := hP
  have hl := lv_entry ([.ref (r 0)]) (n := 2) (Nat.le_of_ble_eq_true rfl)
  rw [lg_entry_eq]
  generalize (lg_sl ([.ref (r 0)]) ++ List.replicate (2 - (lg_sl ([.ref (r 0)])).length) Slot.unset).toArray = ls at hl ⊢
  have hl : lv_has ls 2 [(0, .ref (r 0))] := hl
  refine nameQ (fun Q hQ => ?_)
  obtain ⟨im0, im1, im2, im3, im4, im5, im6, im7, im8, im9, im10, im11, im12, im13, im14, im15, im16, im17, im18, im19, im20, im21, im22, im23, im24, im25, im26, im27, im28, im29, im30, im31, im32⟩ := id hI
  have f1 : 0 ≤ (f_tunes (i_bank.toInt).toNat).toInt ∧ (f_tunes (i_bank.toInt).toNat).toInt ≤ 5 := im21 (i_bank.toInt)
  have f2 : 0 ≤ (f_houses (i_bank.toInt).toNat).toInt ∧ (f_houses (i_bank.toInt).toNat).toInt ≤ 4 := im22 (i_bank.toInt)
  refine lv_iconst (v := 0) hx hb dX9_layTold_0 (by decide) ?_
  refine lv_istore_n (lv' := [(1, .int 0), (0, .ref (r 0))]) hx hb dX9_layTold_1 rfl hl (by decide) rfl (fun ls hl => ?_)
  have L2 : ∀ (N2 : Nat) (y2_1 : Int32) (m2_f_all : Nat → Int32) (H2 : Heap) (locs : List Loc) (ls : Array Slot) (g2_0 : (0 : Int) ≤ y2_1.toInt) (g2_1 : y2_1.toInt ≤ (26 : Int)) (gi2_all_p : EW m2_f_all) (hP : va_P (dC, dI) vwCl (WM r ct i_taped i_size i_faultKind i_at i_end i_token i_number i_bank i_rb i_codes i_within i_piled i_unitsInRule i_askHouse i_askTune i_acts i_undone i_laid i_knowns i_time f_text f_tunes f_houses f_hums f_told f_many f_ruleFrom f_ruleTo f_code f_eWhat f_eSign m2_f_all f_kept f_was f_sTune f_boxAll J L) H2) (hD : va_D A (WM r ct i_taped i_size i_faultKind i_at i_end i_token i_number i_bank i_rb i_codes i_within i_piled i_unitsInRule i_askHouse i_askTune i_acts i_undone i_laid i_knowns i_time f_text f_tunes f_houses f_hums f_told f_many f_ruleFrom f_ruleTo f_code f_eWhat f_eSign m2_f_all f_kept f_was f_sTune f_boxAll J L)) (hS : va_S A s.heap H2 locs) (hl : lv_has ls 2 [(0, .ref (r 0)), (1, .int y2_1)]) (hM : -1 * y2_1.toInt + 26 < (N2 : Int)), W p l e { frames := 4, cells := 0, slots := 0, locals := 160 } s m ([.ref (r 0)] : List Value).toArray below meth c0 H2 locs 0 0 Q (F0 m 2 ls []) := by
    intro N2
    induction N2 with
    | zero =>
      intro y2_1 m2_f_all H2 locs ls g2_0 g2_1 gi2_all_p hP hD hS hl hM
      exact ((ob_686 hM g2_0 g2_1)).elim
    | succ N2 ih2 =>
      intro y2_1 m2_f_all H2 locs ls g2_0 g2_1 gi2_all_p hP hD hS hl hM
      have hM2 := msucc hM
      refine lv_iload_n hx hb dX9_layTold_2 rfl (lv_at hl 1 rfl) ?_
      refine lv_bipush (v := 26) hx hb dX9_layTold_3 (by decide) ?_
      refine lv_icmp_ge (tgt := 21) hx hb dX9_layTold_5 (by decide) (fun c_3 => ?_) (fun c_3 => ?_)
      · skip
        have f4 : 26 ≤ y2_1.toInt := qi_le c_3 zc_26 rfl
        refine lv_iconst (v := 0) hx hb dX9_layTold_21 (by decide) ?_
        refine lv_istore_n (lv' := [(1, .int 0), (0, .ref (r 0))]) hx hb dX9_layTold_22 rfl hl (by decide) rfl (fun ls hl => ?_)
        have L23 : ∀ (N23 : Nat) (y23_1 : Int32) (m23_f_all : Nat → Int32) (H23 : Heap) (locs : List Loc) (ls : Array Slot) (g23_0 : (0 : Int) ≤ y23_1.toInt) (g23_1 : y23_1.toInt ≤ (5 : Int)) (gi23_all_p : EW m23_f_all) (hP : va_P (dC, dI) vwCl (WM r ct i_taped i_size i_faultKind i_at i_end i_token i_number i_bank i_rb i_codes i_within i_piled i_unitsInRule i_askHouse i_askTune i_acts i_undone i_laid i_knowns i_time f_text f_tunes f_houses f_hums f_told f_many f_ruleFrom f_ruleTo f_code f_eWhat f_eSign m23_f_all f_kept f_was f_sTune f_boxAll J L) H23) (hD : va_D A (WM r ct i_taped i_size i_faultKind i_at i_end i_token i_number i_bank i_rb i_codes i_within i_piled i_unitsInRule i_askHouse i_askTune i_acts i_undone i_laid i_knowns i_time f_text f_tunes f_houses f_hums f_told f_many f_ruleFrom f_ruleTo f_code f_eWhat f_eSign m23_f_all f_kept f_was f_sTune f_boxAll J L)) (hS : va_S A s.heap H23 locs) (hl : lv_has ls 2 [(0, .ref (r 0)), (1, .int y23_1)]) (hM : -1 * y23_1.toInt + 5 < (N23 : Int)), W p l e { frames := 4, cells := 0, slots := 0, locals := 160 } s m ([.ref (r 0)] : List Value).toArray below meth c0 H23 locs 0 0 Q (F0 m 23 ls []) := by
          intro N23
          induction N23 with
          | zero =>
            intro y23_1 m23_f_all H23 locs ls g23_0 g23_1 gi23_all_p hP hD hS hl hM
            exact ((ob_687 hM g23_0 g23_1)).elim
          | succ N23 ih23 =>
            intro y23_1 m23_f_all H23 locs ls g23_0 g23_1 gi23_all_p hP hD hS hl hM
            have hM23 := msucc hM
            refine lv_iload_n hx hb dX9_layTold_23 rfl (lv_at hl 1 rfl) ?_
            refine lv_iconst (v := 5) hx hb dX9_layTold_24 (by decide) ?_
            refine lv_icmp_ge (tgt := 43) hx hb dX9_layTold_25 (by decide) (fun c_5 => ?_) (fun c_5 => ?_)
            · skip
              have f6 : 5 ≤ y23_1.toInt := qi_le c_5 zc_5 rfl
              refine lv_iconst (v := 0) hx hb dX9_layTold_43 (by decide) ?_
              refine lv_istore_n (lv' := [(1, .int 0), (0, .ref (r 0))]) hx hb dX9_layTold_44 rfl hl (by decide) rfl (fun ls hl => ?_)
              have L45 : ∀ (N45 : Nat) (y45_1 : Int32) (m45_f_all : Nat → Int32) (H45 : Heap) (locs : List Loc) (ls : Array Slot) (g45_0 : (0 : Int) ≤ y45_1.toInt) (g45_1 : y45_1.toInt ≤ (4 : Int)) (gi45_all_p : EW m45_f_all) (hP : va_P (dC, dI) vwCl (WM r ct i_taped i_size i_faultKind i_at i_end i_token i_number i_bank i_rb i_codes i_within i_piled i_unitsInRule i_askHouse i_askTune i_acts i_undone i_laid i_knowns i_time f_text f_tunes f_houses f_hums f_told f_many f_ruleFrom f_ruleTo f_code f_eWhat f_eSign m45_f_all f_kept f_was f_sTune f_boxAll J L) H45) (hD : va_D A (WM r ct i_taped i_size i_faultKind i_at i_end i_token i_number i_bank i_rb i_codes i_within i_piled i_unitsInRule i_askHouse i_askTune i_acts i_undone i_laid i_knowns i_time f_text f_tunes f_houses f_hums f_told f_many f_ruleFrom f_ruleTo f_code f_eWhat f_eSign m45_f_all f_kept f_was f_sTune f_boxAll J L)) (hS : va_S A s.heap H45 locs) (hl : lv_has ls 2 [(0, .ref (r 0)), (1, .int y45_1)]) (hM : -1 * y45_1.toInt + 4 < (N45 : Int)), W p l e { frames := 4, cells := 0, slots := 0, locals := 160 } s m ([.ref (r 0)] : List Value).toArray below meth c0 H45 locs 0 0 Q (F0 m 45 ls []) := by
                intro N45
                induction N45 with
                | zero =>
                  intro y45_1 m45_f_all H45 locs ls g45_0 g45_1 gi45_all_p hP hD hS hl hM
                  exact ((ob_688 hM g45_0 g45_1)).elim
                | succ N45 ih45 =>
                  intro y45_1 m45_f_all H45 locs ls g45_0 g45_1 gi45_all_p hP hD hS hl hM
                  have hM45 := msucc hM
                  refine lv_iload_n hx hb dX9_layTold_45 rfl (lv_at hl 1 rfl) ?_
                  refine lv_aload_n hx hb dX9_layTold_46 rfl (lv_at hl 0 rfl) ?_
                  refine va_calli (va_runV (As := []) (rest := [.int y45_1]) ⟨hx, hb, hml, hown, hG⟩ (kX9_homes l dC dI r ct i_taped i_size i_faultKind i_at i_end i_token i_number i_bank i_rb i_codes i_within i_piled i_unitsInRule i_askHouse i_askTune i_acts i_undone i_laid i_knowns i_time f_text f_tunes f_houses f_hums f_told f_many f_ruleFrom f_ruleTo f_code f_eWhat f_eSign m45_f_all f_kept f_was f_sTune f_boxAll J L H45.size ⟨im0, im1, im2, im3, im4, im5, im6, im7, im8, im9, im10, im11, im12, im13, im14, im15, im16, im17, im18, im19, im20, im21, im22, im23, im24, im25, im26, gi45_all_p, im28, im29, im30, im31, im32⟩) (cwV 0 hG (goodV gw1167 gw1169 gw58 gw138 gw1170) rfl rfl rfl hd_X9_homes ⟨(Nat.le_of_ble_eq_true rfl), (Nat.le_of_ble_eq_true rfl)⟩) ⟨fbR, va_recv hK hP (ci := 8) (q0 := 0) rfl rfl, pR_in hP hK⟩ rfl rfl hl.1 rfl (lv_room (Nat.le_of_ble_eq_true rfl)) dX9_layTold_47 ⟨(Nat.le_of_ble_eq_true rfl), (Nat.le_of_ble_eq_true rfl)⟩) hS (fun q hq h => absurd hq (Nat.not_lt.mpr h)) (fun q h => hA q (Nat.le_trans hS.1 h)) (fun r_8 u_ t_ H7 locs ht hvm hw hB hz1 hk1 hS => ?_)
                  subst hw
                  have hP := wk hP hk1
                  have f9 := hB
                  have f10 : r_8.toInt = (f_houses (i_bank.toInt).toNat).toInt := (ob_6 f9)
                  refine lv_icmp_ge (tgt := 81) hx hb dX9_layTold_50 (by decide) (fun c_11 => ?_) (fun c_11 => ?_)
                  · skip
                    have f12 : r_8.toInt ≤ y45_1.toInt := qi_le c_11 rfl rfl
                    refine lv_aload_n hx hb dX9_layTold_81 rfl (lv_at hl 0 rfl) ?_
                    refine gM_X9_88_0 hx hb hG hown hK hP dX9_layTold_82 ?_
                    refine lv_bipush (v := 25) hx hb dX9_layTold_85 (by decide) ?_
                    refine lv_aload_n hx hb dX9_layTold_87 rfl (lv_at hl 0 rfl) ?_
                    refine gM_X9_36_0 hx hb hG hown hK hP dX9_layTold_88 ?_
                    refine lv_aload_n hx hb dX9_layTold_91 rfl (lv_at hl 0 rfl) ?_
                    refine gM_X9_249_0 hx hb hG hown hK hP dX9_layTold_92 ?_
                    refine ldM_8 (mm := i_bank.toInt) hx hb hK hP rfl (ob_584 im4 im5) (ob_585 im4 im5) dX9_layTold_95 (fun x13 => ?_)
                    refine stM_25 (mm := (25 : Int)) hx hb hK hP hD hS zc_25 (ob_689) (ob_690) dX9_layTold_96 (fun z15 H14 locs ez15 hP hD hS => ?_)
                    have g16 : EW z15 := ez15 ▸ EW.updo gi45_all_p (ob_689) (ob_691)
                    rw [hQ]
                    exact W.vret hx hb hr (fun t ht hW => ⟨⟨(), rfl, trivial, ⟨z15, by rw [ht]; exact hP, hD, ⟨im0, im1, im2, im3, im4, im5, im6, im7, im8, im9, im10, im11, im12, im13, im14, im15, im16, im17, im18, im19, im20, im21, im22, im23, im24, im25, im26, g16, im28, im29, im30, im31, im32⟩⟩⟩, hS.F ht⟩) hS.2.2 dX9_layTold_97
                  · skip
                    have f17 : y45_1.toInt < r_8.toInt := qi_nle c_11 rfl rfl
                    refine lv_aload_n hx hb dX9_layTold_53 rfl (lv_at hl 0 rfl) ?_
                    refine gM_X9_88_0 hx hb hG hown hK hP dX9_layTold_54 ?_
                    refine lv_bipush (v := 20) hx hb dX9_layTold_57 (by decide) ?_
                    refine lv_iload_n hx hb dX9_layTold_59 rfl (lv_at hl 1 rfl) ?_
                    refine lv_iadd hx hb dX9_layTold_60 ?_
                    refine lv_topi (fun x18 ex18 => ?_)
                    have f19 : x18.toInt = y45_1.toInt + 20 := (ob_581 (qi_add ex18 zc_20 rfl (ob_692 g45_0) (ob_693 g45_1)))
                    refine lv_aload_n hx hb dX9_layTold_61 rfl (lv_at hl 0 rfl) ?_
                    refine gM_X9_54_0 hx hb hG hown hK hP dX9_layTold_62 ?_
                    refine lv_iconst (v := 4) hx hb dX9_layTold_65 (by decide) ?_
                    refine lv_aload_n hx hb dX9_layTold_66 rfl (lv_at hl 0 rfl) ?_
                    refine gM_X9_249_0 hx hb hG hown hK hP dX9_layTold_67 ?_
                    refine lv_imul hx hb dX9_layTold_70 ?_
                    refine lv_topi (fun x20 ex20 => ?_)
                    have f21 : x20.toInt = 4 * i_bank.toInt := (ob_538 (qi_mul ex20 zc_4 rfl (ob_536 im4 im5) (ob_537 im4 im5)))
                    refine lv_iload_n hx hb dX9_layTold_71 rfl (lv_at hl 1 rfl) ?_
                    refine lv_iadd hx hb dX9_layTold_72 ?_
                    refine lv_topi (fun x22 ex22 => ?_)
                    have f23 : x22.toInt = y45_1.toInt + 4 * i_bank.toInt := (ob_541 (qi_add ex22 rfl rfl (ob_539 im4 g45_0 f21) (ob_694 im5 g45_1 f21)) f21)
                    refine ldM_14 (mm := y45_1.toInt + 4 * i_bank.toInt) hx hb hK hP f23 (ob_684 im4 g45_0) (ob_695 im5 f2 f17 f10) dX9_layTold_73 (fun x24 => ?_)
                    refine stM_25 (mm := y45_1.toInt + 20) hx hb hK hP hD hS f19 (ob_696 g45_0) (ob_697 g45_1) dX9_layTold_74 (fun z26 H25 locs ez26 hP hD hS => ?_)
                    have g27 : EW z26 := ez26 ▸ EW.updo gi45_all_p (ob_696 g45_0) (ob_698 f2 g45_0 g45_1 hM45 f17 f10)
                    obtain ⟨x28, ex28⟩ : ∃ y : Int32, y = y45_1 + Int32.ofInt 1 := ⟨_, rfl⟩
                    have f29 : x28.toInt = y45_1.toInt + 1 := (ob_84 (qi_add ex28 rfl (by decide) (ob_82 g45_0) (ob_699 g45_1)))
                    refine lv_iinc (v := x28) (lv' := [(1, .int x28), (0, .ref (r 0))]) hx hb dX9_layTold_75 hl (k := 1) rfl ex28.symm (by decide) rfl (fun ls hl => ?_)
                    refine lv_goto (tgt := 45) hx hb dX9_layTold_78 (by decide) ?_
                    exact ih45 x28 z26 H25 _ _ (ob_91 g45_0 f29) (ob_700 f2 f17 f10 f29) g27 hP hD hS (lv_sub hl [1, 0] rfl) (ob_701 hM45 f29)
              exact L45 (-1 * (0 : Int32).toInt + 4 + 1).toNat 0 m23_f_all H23 _ _ (ob_1 zc_0) (ob_702 zc_0) gi23_all_p hP hD hS (lv_sub hl [1, 0] rfl) (mlt (ob_703 zc_0))
            · skip
              have f30 : y23_1.toInt < 5 := qi_nle c_5 zc_5 rfl
              refine lv_aload_n hx hb dX9_layTold_28 rfl (lv_at hl 0 rfl) ?_
              refine gM_X9_88_0 hx hb hG hown hK hP dX9_layTold_29 ?_
              refine lv_iconst (v := 0) hx hb dX9_layTold_32 (by decide) ?_
              refine lv_iload_n hx hb dX9_layTold_33 rfl (lv_at hl 1 rfl) ?_
              refine lv_iadd hx hb dX9_layTold_34 ?_
              refine lv_topi (fun x31 ex31 => ?_)
              have f32 : x31.toInt = y23_1.toInt := (ob_706 (qi_add ex31 zc_0 rfl (ob_704 g23_0) (ob_705 g23_1)))
              refine lv_iconst (v := (-1)) hx hb dX9_layTold_35 (by decide) ?_
              refine stM_25 (mm := y23_1.toInt) hx hb hK hP hD hS f32 (ob_212 g23_0) (ob_707 g23_1) dX9_layTold_36 (fun z34 H33 locs ez34 hP hD hS => ?_)
              have g35 : EW z34 := ez34 ▸ EW.updo gi23_all_p (ob_212 g23_0) (ob_708 g23_0 g23_1 hM23 f30)
              obtain ⟨x36, ex36⟩ : ∃ y : Int32, y = y23_1 + Int32.ofInt 1 := ⟨_, rfl⟩
              have f37 : x36.toInt = y23_1.toInt + 1 := (ob_84 (qi_add ex36 rfl (by decide) (ob_82 g23_0) (ob_709 g23_1)))
              refine lv_iinc (v := x36) (lv' := [(1, .int x36), (0, .ref (r 0))]) hx hb dX9_layTold_37 hl (k := 1) rfl ex36.symm (by decide) rfl (fun ls hl => ?_)
              refine lv_goto (tgt := 23) hx hb dX9_layTold_40 (by decide) ?_
              exact ih23 x36 z34 H33 _ _ (ob_91 g23_0 f37) (ob_710 f30 f37) g35 hP hD hS (lv_sub hl [1, 0] rfl) (ob_711 hM23 f37)
        exact L23 (-1 * (0 : Int32).toInt + 5 + 1).toNat 0 m2_f_all H2 _ _ (ob_1 zc_0) (ob_712 zc_0) gi2_all_p hP hD hS (lv_sub hl [1, 0] rfl) (mlt (ob_713 zc_0))
      · skip
        have f38 : y2_1.toInt < 26 := qi_nle c_3 zc_26 rfl
        refine lv_aload_n hx hb dX9_layTold_8 rfl (lv_at hl 0 rfl) ?_
        refine gM_X9_88_0 hx hb hG hown hK hP dX9_layTold_9 ?_
        refine lv_iload_n hx hb dX9_layTold_12 rfl (lv_at hl 1 rfl) ?_
        refine lv_iconst (v := 0) hx hb dX9_layTold_13 (by decide) ?_
        refine stM_25 (mm := y2_1.toInt) hx hb hK hP hD hS rfl (ob_212 g2_0) (ob_714 f38) dX9_layTold_14 (fun z40 H39 locs ez40 hP hD hS => ?_)
        have g41 : EW z40 := ez40 ▸ EW.updi gi2_all_p (by decide) (by decide)
        obtain ⟨x42, ex42⟩ : ∃ y : Int32, y = y2_1 + Int32.ofInt 1 := ⟨_, rfl⟩
        have f43 : x42.toInt = y2_1.toInt + 1 := (ob_84 (qi_add ex42 rfl (by decide) (ob_82 g2_0) (ob_715 g2_1)))
        refine lv_iinc (v := x42) (lv' := [(1, .int x42), (0, .ref (r 0))]) hx hb dX9_layTold_15 hl (k := 1) rfl ex42.symm (by decide) rfl (fun ls hl => ?_)
        refine lv_goto (tgt := 2) hx hb dX9_layTold_18 (by decide) ?_
        exact ih2 x42 z40 H39 _ _ (ob_91 g2_0 f43) (ob_716 f38 f43) g41 hP hD hS (lv_sub hl [1, 0] rfl) (ob_717 hM2 f43)
  exact L2 (-1 * (0 : Int32).toInt + 26 + 1).toNat 0 f_all s.heap _ _ (ob_1 zc_0) (ob_718 zc_0) im27 hP hD hS (lv_sub hl [1, 0] rfl) (mlt (ob_719 zc_0))
set_option maxHeartbeats 4000000 in
set_option maxRecDepth 100000 in
theorem kX9_startAnew (l : Launch) (dC : Nat → ClassId) (dI : Nat → Nat → Nat) (r : Nat → Nat) (ct : Nat → ClassId) (i_taped i_size i_faultKind i_at i_end i_token i_number i_bank i_rb i_codes i_within i_piled i_unitsInRule i_askHouse i_askTune i_acts i_undone i_laid i_knowns i_time : Int32) (f_text f_tunes f_houses f_hums f_told f_many f_ruleFrom f_ruleTo f_code f_eWhat f_eSign f_all f_kept f_was f_sTune f_boxAll : Nat → Int32) (J : Nat → Nat → Int32) (L : Nat → Nat → Int64) (sz : Nat) (hI : (IM i_taped i_size i_faultKind i_at i_end i_bank i_rb i_acts i_undone i_laid i_knowns i_time f_tunes f_houses f_hums f_told f_many f_ruleFrom f_ruleTo f_code f_all f_kept f_was f_sTune f_boxAll)) : Met l yX9_startAnew (.code yX9_startAnew cX9_startAnew 2 none :: GW) { frames := 6, cells := 0, slots := 0, locals := 221 } (va_Pc [.ref (r 0)] (pW (dC, dI) (WM r ct i_taped i_size i_faultKind i_at i_end i_token i_number i_bank i_rb i_codes i_within i_piled i_unitsInRule i_askHouse i_askTune i_acts i_undone i_laid i_knowns i_time f_text f_tunes f_houses f_hums f_told f_many f_ruleFrom f_ruleTo f_code f_eWhat f_eSign f_all f_kept f_was f_sTune f_boxAll J L) (TM ct) sz)) (va_Qv (fun _ : Unit => True) (fun (_ : Unit) (t : State) => ∃ (n_i_acts n_i_undone n_i_laid n_i_knowns : Int32) (n_f_all : Nat → Int32) (n_J : Nat → Nat → Int32), va_P (dC, dI) vwCl (WM r ct i_taped i_size i_faultKind i_at i_end i_token i_number i_bank i_rb i_codes i_within i_piled i_unitsInRule i_askHouse i_askTune n_i_acts n_i_undone n_i_laid n_i_knowns i_time f_text f_tunes f_houses f_hums f_told f_many f_ruleFrom f_ruleTo f_code f_eWhat f_eSign n_f_all f_kept f_was f_sTune f_boxAll n_J L) t.heap ∧ va_D (va_A (WM r ct i_taped i_size i_faultKind i_at i_end i_token i_number i_bank i_rb i_codes i_within i_piled i_unitsInRule i_askHouse i_askTune i_acts i_undone i_laid i_knowns i_time f_text f_tunes f_houses f_hums f_told f_many f_ruleFrom f_ruleTo f_code f_eWhat f_eSign f_all f_kept f_was f_sTune f_boxAll J L) sz) (WM r ct i_taped i_size i_faultKind i_at i_end i_token i_number i_bank i_rb i_codes i_within i_piled i_unitsInRule i_askHouse i_askTune n_i_acts n_i_undone n_i_laid n_i_knowns i_time f_text f_tunes f_houses f_hums f_told f_many f_ruleFrom f_ruleTo f_code f_eWhat f_eSign n_f_all f_kept f_was f_sTune f_boxAll n_J L) ∧ (IM i_taped i_size i_faultKind i_at i_end i_bank i_rb n_i_acts n_i_undone n_i_laid n_i_knowns i_time f_tunes f_houses f_hums f_told f_many f_ruleFrom f_ruleTo f_code n_f_all f_kept f_was f_sTune f_boxAll)) (va_A (WM r ct i_taped i_size i_faultKind i_at i_end i_token i_number i_bank i_rb i_codes i_within i_piled i_unitsInRule i_askHouse i_askTune i_acts i_undone i_laid i_knowns i_time f_text f_tunes f_houses f_hums f_told f_many f_ruleFrom f_ruleTo f_code f_eWhat f_eSign f_all f_kept f_was f_sTune f_boxAll J L) sz)) 0 0 (va_A (WM r ct i_taped i_size i_faultKind i_at i_end i_token i_number i_bank i_rb i_codes i_within i_piled i_unitsInRule i_askHouse i_askTune i_acts i_undone i_laid i_knowns i_time f_text f_tunes f_houses f_hums f_told f_many f_ruleFrom f_ruleTo f_code f_eWhat f_eSign f_all f_kept f_was f_sTune f_boxAll J L) sz) := by
  refine Met.ofW (cc := cX9_startAnew) (maxL := 2) (ret := none) (by decide) rfl ?_
  intro p e s m args below meth c0 s₁ B hml hv
  obtain ⟨rfl, hsz, hP, hK, hD0⟩ := hv
  have hx := B.exec
  have hb := B.bytes
  have hr := B.returns
  have hts := atoms_spec (ws := .code yX9_startAnew cX9_startAnew 2 none :: GW) B.pre
  have hG : ∀ w ∈ GW, w.before _ s = true := fun w h => hts w (List.mem_cons_of_mem _ h)
  have hown : s.vm.findClass RX9 = some m.cls := findClass_of_methodNamed B.named
  subst hsz
  have hD := hD0.self (sz := s.heap.size)
  generalize hAe : va_A (WM r ct i_taped i_size i_faultKind i_at i_end i_token i_number i_bank i_rb i_codes i_within i_piled i_unitsInRule i_askHouse i_askTune i_acts i_undone i_laid i_knowns i_time f_text f_tunes f_houses f_hums f_told f_many f_ruleFrom f_ruleTo f_code f_eWhat f_eSign f_all f_kept f_was f_sTune f_boxAll J L) s.heap.size = A at hD ⊢
  have hA : ∀ q : Nat, s.heap.size ≤ q → A q := fun q h => by rw [← hAe]; exact Or.inr h
  have hS : va_S A s.heap s.heap [] := va_S.rf
  have hP : va_P (dC, dI) vwCl (WM r ct i_taped i_size i_faultKind i_at i_end i_token i_number i_bank i_rb i_codes i_within i_piled i_unitsInRule i_askHouse i_askTune i_acts i_undone i_laid i_knowns i_time f_text f_tunes f_houses f_hums f_told f_many f_ruleFrom f_ruleTo f_code f_eWhat f_eSign f_all f_kept f_was f_sTune f_boxAll J L) s.heap := hP
  have hl := lv_entry ([.ref (r 0)]) (n := 2) (Nat.le_of_ble_eq_true rfl)
  rw [lg_entry_eq]
  generalize (lg_sl ([.ref (r 0)]) ++ List.replicate (2 - (lg_sl ([.ref (r 0)])).length) Slot.unset).toArray = ls at hl ⊢
  have hl : lv_has ls 2 [(0, .ref (r 0))] := hl
  refine nameQ (fun Q hQ => ?_)
  obtain ⟨im0, im1, im2, im3, im4, im5, im6, im7, im8, im9, im10, im11, im12, im13, im14, im15, im16, im17, im18, im19, im20, im21, im22, im23, im24, im25, im26, im27, im28, im29, im30, im31, im32⟩ := id hI
  have f1 : 0 ≤ (f_tunes (i_bank.toInt).toNat).toInt ∧ (f_tunes (i_bank.toInt).toNat).toInt ≤ 5 := im21 (i_bank.toInt)
  have f2 : 0 ≤ (f_houses (i_bank.toInt).toNat).toInt ∧ (f_houses (i_bank.toInt).toNat).toInt ≤ 4 := im22 (i_bank.toInt)
  refine lv_aload_n hx hb dX9_startAnew_0 rfl (lv_at hl 0 rfl) ?_
  have hFc := frA hD hS hA
  refine va_callv (va_runV (As := []) (rest := []) ⟨hx, hb, hml, hown, hG⟩ (kX9_layTold l dC dI r ct i_taped i_size i_faultKind i_at i_end i_token i_number i_bank i_rb i_codes i_within i_piled i_unitsInRule i_askHouse i_askTune i_acts i_undone i_laid i_knowns i_time f_text f_tunes f_houses f_hums f_told f_many f_ruleFrom f_ruleTo f_code f_eWhat f_eSign f_all f_kept f_was f_sTune f_boxAll J L s.heap.size hI) (cwV 0 hG (goodV gw1163 gw1165 gw57 gw138 gw1166) rfl rfl rfl hd_X9_layTold ⟨(Nat.le_of_ble_eq_true rfl), (Nat.le_of_ble_eq_true rfl)⟩) ⟨fbW, va_recv hK hP (ci := 8) (q0 := 0) rfl rfl, pW_in hP hK hD⟩ rfl rfl hl.1 rfl (lv_room (Nat.le_of_ble_eq_true rfl)) dX9_startAnew_1 ⟨(Nat.le_of_ble_eq_true rfl), (Nat.le_of_ble_eq_true rfl)⟩) hS (fun q _ h => hFc q h) hFc (fun _ t_ H3 locs ht hvm hw hB hz1 hk1 hS => ?_)
  obtain ⟨z5, hP1, hD1, hI6⟩ := hB
  rw [ht] at hP1
  have hP := hP1
  have hD := dW hFc hD1
  obtain ⟨im7, im8, im9, im10, im11, im12, im13, im14, im15, im16, im17, im18, im19, im20, im21, im22, im23, im24, im25, im26, im27, im28, im29, im30, im31, im32, im33, im34, im35, im36, im37, im38, im39⟩ := id hI6
  refine lv_aload_n hx hb dX9_startAnew_4 rfl (lv_at hl 0 rfl) ?_
  refine lv_iconst (v := 0) hx hb dX9_startAnew_5 (by decide) ?_
  refine pM_X9_364_0 hx hb hG hown hK hP hD hS dX9_startAnew_6 (fun H40 locs hP hD hS => ?_)
  refine lv_aload_n hx hb dX9_startAnew_9 rfl (lv_at hl 0 rfl) ?_
  refine lv_iconst (v := 0) hx hb dX9_startAnew_10 (by decide) ?_
  refine pM_X9_367_0 hx hb hG hown hK hP hD hS dX9_startAnew_11 (fun H41 locs hP hD hS => ?_)
  refine lv_aload_n hx hb dX9_startAnew_14 rfl (lv_at hl 0 rfl) ?_
  refine lv_iconst (v := 0) hx hb dX9_startAnew_15 (by decide) ?_
  refine pM_X9_370_0 hx hb hG hown hK hP hD hS dX9_startAnew_16 (fun H42 locs hP hD hS => ?_)
  refine lv_aload_n hx hb dX9_startAnew_19 rfl (lv_at hl 0 rfl) ?_
  refine lv_iconst (v := 0) hx hb dX9_startAnew_20 (by decide) ?_
  refine pM_X9_373_0 hx hb hG hown hK hP hD hS dX9_startAnew_21 (fun H43 locs hP hD hS => ?_)
  refine lv_iconst (v := 0) hx hb dX9_startAnew_24 (by decide) ?_
  refine lv_istore_n (lv' := [(1, .int 0), (0, .ref (r 0))]) hx hb dX9_startAnew_25 rfl hl (by decide) rfl (fun ls hl => ?_)
  have L26 : ∀ (N26 : Nat) (y26_1 : Int32) (m26_J : Nat → Nat → Int32) (H26 : Heap) (locs : List Loc) (ls : Array Slot) (g26_0 : (0 : Int) ≤ y26_1.toInt) (g26_1 : y26_1.toInt ≤ (3 : Int)) (hP : va_P (dC, dI) vwCl (WM r ct i_taped i_size i_faultKind i_at i_end i_token i_number i_bank i_rb i_codes i_within i_piled i_unitsInRule i_askHouse i_askTune 0 0 0 0 i_time f_text f_tunes f_houses f_hums f_told f_many f_ruleFrom f_ruleTo f_code f_eWhat f_eSign z5 f_kept f_was f_sTune f_boxAll m26_J L) H26) (hD : va_D A (WM r ct i_taped i_size i_faultKind i_at i_end i_token i_number i_bank i_rb i_codes i_within i_piled i_unitsInRule i_askHouse i_askTune 0 0 0 0 i_time f_text f_tunes f_houses f_hums f_told f_many f_ruleFrom f_ruleTo f_code f_eWhat f_eSign z5 f_kept f_was f_sTune f_boxAll m26_J L)) (hS : va_S A s.heap H26 locs) (hl : lv_has ls 2 [(0, .ref (r 0)), (1, .int y26_1)]) (hM : -1 * y26_1.toInt + 3 < (N26 : Int)), W p l e { frames := 6, cells := 0, slots := 0, locals := 221 } s m ([.ref (r 0)] : List Value).toArray below meth c0 H26 locs 0 0 Q (F0 m 26 ls []) := by
    intro N26
    induction N26 with
    | zero =>
      intro y26_1 m26_J H26 locs ls g26_0 g26_1 hP hD hS hl hM
      exact ((ob_720 hM g26_0 g26_1)).elim
    | succ N26 ih26 =>
      intro y26_1 m26_J H26 locs ls g26_0 g26_1 hP hD hS hl hM
      have hM26 := msucc hM
      refine lv_iload_n hx hb dX9_startAnew_26 rfl (lv_at hl 1 rfl) ?_
      refine lv_iconst (v := 3) hx hb dX9_startAnew_27 (by decide) ?_
      refine lv_icmp_ge (tgt := 44) hx hb dX9_startAnew_28 (by decide) (fun c_44 => ?_) (fun c_44 => ?_)
      · skip
        have f45 : 3 ≤ y26_1.toInt := qi_le c_44 zc_3 rfl
        rw [hQ]
        exact W.vret hx hb hr (fun t ht hW => ⟨⟨(), rfl, trivial, ⟨0, 0, 0, 0, z5, m26_J, by rw [ht]; exact hP, hD, ⟨im0, im1, im2, im3, im4, im5, im6, im7, (ob_1 zc_0), (ob_702 zc_0), (ob_1 zc_0), (ob_721 zc_0), im12, im13, im14, im15, im16, im17, (ob_1 zc_0), (ob_1 zc_0), (ob_722 zc_0), im21, im22, im23, im24, im25, im26, im34, im28, im29, im30, im31, im32⟩⟩⟩, hS.F ht⟩) hS.2.2 dX9_startAnew_44
      · skip
        have f46 : y26_1.toInt < 3 := qi_nle c_44 zc_3 rfl
        refine lv_aload_n hx hb dX9_startAnew_31 rfl (lv_at hl 0 rfl) ?_
        refine gM_X9_128_0 hx hb hG hown hK hP dX9_startAnew_32 ?_
        refine lv_iload_n hx hb dX9_startAnew_35 rfl (lv_at hl 1 rfl) ?_
        refine lv_iconst (v := 0) hx hb dX9_startAnew_36 (by decide) ?_
        refine stM_38 (mm := y26_1.toInt) hx hb hK hP hD hS rfl (ob_212 g26_0) (ob_723 f46) dX9_startAnew_37 (fun J48 H47 locs hP hD hS => ?_)
        obtain ⟨x49, ex49⟩ : ∃ y : Int32, y = y26_1 + Int32.ofInt 1 := ⟨_, rfl⟩
        have f50 : x49.toInt = y26_1.toInt + 1 := (ob_84 (qi_add ex49 rfl (by decide) (ob_82 g26_0) (ob_724 g26_1)))
        refine lv_iinc (v := x49) (lv' := [(1, .int x49), (0, .ref (r 0))]) hx hb dX9_startAnew_38 hl (k := 1) rfl ex49.symm (by decide) rfl (fun ls hl => ?_)
        refine lv_goto (tgt := 26) hx hb dX9_startAnew_41 (by decide) ?_
        exact ih26 x49 J48 H47 _ _ (ob_91 g26_0 f50) (ob_725 f46 f50) hP hD hS (lv_sub hl [1, 0] rfl) (ob_726 hM26 f50)
  exact L26 (-1 * (0 : Int32).toInt + 3 + 1).toNat 0 J H43 _ _ (ob_1 zc_0) (ob_727 zc_0) hP hD hS (lv_sub hl [1, 0] rfl) (mlt (ob_728 zc_0))
set_option maxHeartbeats 4000000 in
set_option maxRecDepth 100000 in
theorem kX9_keepNow (l : Launch) (dC : Nat → ClassId) (dI : Nat → Nat → Nat) (r : Nat → Nat) (ct : Nat → ClassId) (i_taped i_size i_faultKind i_at i_end i_token i_number i_bank i_rb i_codes i_within i_piled i_unitsInRule i_askHouse i_askTune i_acts i_undone i_laid i_knowns i_time : Int32) (f_text f_tunes f_houses f_hums f_told f_many f_ruleFrom f_ruleTo f_code f_eWhat f_eSign f_all f_kept f_was f_sTune f_boxAll : Nat → Int32) (J : Nat → Nat → Int32) (L : Nat → Nat → Int64) (sz : Nat) (hI : (IM i_taped i_size i_faultKind i_at i_end i_bank i_rb i_acts i_undone i_laid i_knowns i_time f_tunes f_houses f_hums f_told f_many f_ruleFrom f_ruleTo f_code f_all f_kept f_was f_sTune f_boxAll)) : Met l yX9_keepNow (.code yX9_keepNow cX9_keepNow 2 none :: GW) { frames := 2, cells := 0, slots := 0, locals := 100 } (va_Pc [.ref (r 0)] (pW (dC, dI) (WM r ct i_taped i_size i_faultKind i_at i_end i_token i_number i_bank i_rb i_codes i_within i_piled i_unitsInRule i_askHouse i_askTune i_acts i_undone i_laid i_knowns i_time f_text f_tunes f_houses f_hums f_told f_many f_ruleFrom f_ruleTo f_code f_eWhat f_eSign f_all f_kept f_was f_sTune f_boxAll J L) (TM ct) sz)) (va_Qv (fun _ : Unit => True) (fun (_ : Unit) (t : State) => ∃ (n_f_kept : Nat → Int32), va_P (dC, dI) vwCl (WM r ct i_taped i_size i_faultKind i_at i_end i_token i_number i_bank i_rb i_codes i_within i_piled i_unitsInRule i_askHouse i_askTune i_acts i_undone i_laid i_knowns i_time f_text f_tunes f_houses f_hums f_told f_many f_ruleFrom f_ruleTo f_code f_eWhat f_eSign f_all n_f_kept f_was f_sTune f_boxAll J L) t.heap ∧ va_D (va_A (WM r ct i_taped i_size i_faultKind i_at i_end i_token i_number i_bank i_rb i_codes i_within i_piled i_unitsInRule i_askHouse i_askTune i_acts i_undone i_laid i_knowns i_time f_text f_tunes f_houses f_hums f_told f_many f_ruleFrom f_ruleTo f_code f_eWhat f_eSign f_all f_kept f_was f_sTune f_boxAll J L) sz) (WM r ct i_taped i_size i_faultKind i_at i_end i_token i_number i_bank i_rb i_codes i_within i_piled i_unitsInRule i_askHouse i_askTune i_acts i_undone i_laid i_knowns i_time f_text f_tunes f_houses f_hums f_told f_many f_ruleFrom f_ruleTo f_code f_eWhat f_eSign f_all n_f_kept f_was f_sTune f_boxAll J L) ∧ (IM i_taped i_size i_faultKind i_at i_end i_bank i_rb i_acts i_undone i_laid i_knowns i_time f_tunes f_houses f_hums f_told f_many f_ruleFrom f_ruleTo f_code f_all n_f_kept f_was f_sTune f_boxAll)) (va_A (WM r ct i_taped i_size i_faultKind i_at i_end i_token i_number i_bank i_rb i_codes i_within i_piled i_unitsInRule i_askHouse i_askTune i_acts i_undone i_laid i_knowns i_time f_text f_tunes f_houses f_hums f_told f_many f_ruleFrom f_ruleTo f_code f_eWhat f_eSign f_all f_kept f_was f_sTune f_boxAll J L) sz)) 0 0 (va_A (WM r ct i_taped i_size i_faultKind i_at i_end i_token i_number i_bank i_rb i_codes i_within i_piled i_unitsInRule i_askHouse i_askTune i_acts i_undone i_laid i_knowns i_time f_text f_tunes f_houses f_hums f_told f_many f_ruleFrom f_ruleTo f_code f_eWhat f_eSign f_all f_kept f_was f_sTune f_boxAll J L) sz) := by
  refine Met.ofW (cc := cX9_keepNow) (maxL := 2) (ret := none) (by decide) rfl ?_
  intro p e s m args below meth c0 s₁ B hml hv
  obtain ⟨rfl, hsz, hP, hK, hD0⟩ := hv
  have hx := B.exec
  have hb := B.bytes
  have hr := B.returns
  have hts := atoms_spec (ws := .code yX9_keepNow cX9_keepNow 2 none :: GW) B.pre
  have hG : ∀ w ∈ GW, w.before _ s = true := fun w h => hts w (List.mem_cons_of_mem _ h)
  have hown : s.vm.findClass RX9 = some m.cls := findClass_of_methodNamed B.named
  subst hsz
  have hD := hD0.self (sz := s.heap.size)
  generalize hAe : va_A (WM r ct i_taped i_size i_faultKind i_at i_end i_token i_number i_bank i_rb i_codes i_within i_piled i_unitsInRule i_askHouse i_askTune i_acts i_undone i_laid i_knowns i_time f_text f_tunes f_houses f_hums f_told f_many f_ruleFrom f_ruleTo f_code f_eWhat f_eSign f_all f_kept f_was f_sTune f_boxAll J L) s.heap.size = A at hD ⊢
  have hA : ∀ q : Nat, s.heap.size ≤ q → A q := fun q h => by rw [← hAe]; exact Or.inr h
  have hS : va_S A s.heap s.heap [] := va_S.rf
  have hP : va_P (dC, dI) vwCl (WM r ct i_taped i_size i_faultKind i_at i_end i_token i_number i_bank i_rb i_codes i_within i_piled i_unitsInRule i_askHouse i_askTune i_acts i_undone i_laid i_knowns i_time f_text f_tunes f_houses f_hums f_told f_many f_ruleFrom f_ruleTo f_code f_eWhat f_eSign f_all f_kept f_was f_sTune f_boxAll J L) s.heap := hP
  have hl := lv_entry ([.ref (r 0)]) (n := 2) (Nat.le_of_ble_eq_true rfl)
  rw [lg_entry_eq]
  generalize (lg_sl ([.ref (r 0)]) ++ List.replicate (2 - (lg_sl ([.ref (r 0)])).length) Slot.unset).toArray = ls at hl ⊢
  have hl : lv_has ls 2 [(0, .ref (r 0))] := hl
  refine nameQ (fun Q hQ => ?_)
  obtain ⟨im0, im1, im2, im3, im4, im5, im6, im7, im8, im9, im10, im11, im12, im13, im14, im15, im16, im17, im18, im19, im20, im21, im22, im23, im24, im25, im26, im27, im28, im29, im30, im31, im32⟩ := id hI
  have f1 : 0 ≤ (f_tunes (i_bank.toInt).toNat).toInt ∧ (f_tunes (i_bank.toInt).toNat).toInt ≤ 5 := im21 (i_bank.toInt)
  have f2 : 0 ≤ (f_houses (i_bank.toInt).toNat).toInt ∧ (f_houses (i_bank.toInt).toNat).toInt ≤ 4 := im22 (i_bank.toInt)
  refine lv_iconst (v := 0) hx hb dX9_keepNow_0 (by decide) ?_
  refine lv_istore_n (lv' := [(1, .int 0), (0, .ref (r 0))]) hx hb dX9_keepNow_1 rfl hl (by decide) rfl (fun ls hl => ?_)
  have L2 : ∀ (N2 : Nat) (y2_1 : Int32) (m2_f_kept : Nat → Int32) (H2 : Heap) (locs : List Loc) (ls : Array Slot) (g2_0 : (0 : Int) ≤ y2_1.toInt) (g2_1 : y2_1.toInt ≤ (26 : Int)) (gi2_kept_p : EW m2_f_kept) (hP : va_P (dC, dI) vwCl (WM r ct i_taped i_size i_faultKind i_at i_end i_token i_number i_bank i_rb i_codes i_within i_piled i_unitsInRule i_askHouse i_askTune i_acts i_undone i_laid i_knowns i_time f_text f_tunes f_houses f_hums f_told f_many f_ruleFrom f_ruleTo f_code f_eWhat f_eSign f_all m2_f_kept f_was f_sTune f_boxAll J L) H2) (hD : va_D A (WM r ct i_taped i_size i_faultKind i_at i_end i_token i_number i_bank i_rb i_codes i_within i_piled i_unitsInRule i_askHouse i_askTune i_acts i_undone i_laid i_knowns i_time f_text f_tunes f_houses f_hums f_told f_many f_ruleFrom f_ruleTo f_code f_eWhat f_eSign f_all m2_f_kept f_was f_sTune f_boxAll J L)) (hS : va_S A s.heap H2 locs) (hl : lv_has ls 2 [(0, .ref (r 0)), (1, .int y2_1)]) (hM : -1 * y2_1.toInt + 26 < (N2 : Int)), W p l e { frames := 2, cells := 0, slots := 0, locals := 100 } s m ([.ref (r 0)] : List Value).toArray below meth c0 H2 locs 0 0 Q (F0 m 2 ls []) := by
    intro N2
    induction N2 with
    | zero =>
      intro y2_1 m2_f_kept H2 locs ls g2_0 g2_1 gi2_kept_p hP hD hS hl hM
      exact ((ob_686 hM g2_0 g2_1)).elim
    | succ N2 ih2 =>
      intro y2_1 m2_f_kept H2 locs ls g2_0 g2_1 gi2_kept_p hP hD hS hl hM
      have hM2 := msucc hM
      refine lv_iload_n hx hb dX9_keepNow_2 rfl (lv_at hl 1 rfl) ?_
      refine lv_bipush (v := 26) hx hb dX9_keepNow_3 (by decide) ?_
      refine lv_icmp_ge (tgt := 26) hx hb dX9_keepNow_5 (by decide) (fun c_3 => ?_) (fun c_3 => ?_)
      · skip
        have f4 : 26 ≤ y2_1.toInt := qi_le c_3 zc_26 rfl
        rw [hQ]
        exact W.vret hx hb hr (fun t ht hW => ⟨⟨(), rfl, trivial, ⟨m2_f_kept, by rw [ht]; exact hP, hD, ⟨im0, im1, im2, im3, im4, im5, im6, im7, im8, im9, im10, im11, im12, im13, im14, im15, im16, im17, im18, im19, im20, im21, im22, im23, im24, im25, im26, im27, gi2_kept_p, im29, im30, im31, im32⟩⟩⟩, hS.F ht⟩) hS.2.2 dX9_keepNow_26
      · skip
        have f5 : y2_1.toInt < 26 := qi_nle c_3 zc_26 rfl
        refine lv_aload_n hx hb dX9_keepNow_8 rfl (lv_at hl 0 rfl) ?_
        refine gM_X9_91_0 hx hb hG hown hK hP dX9_keepNow_9 ?_
        refine lv_iload_n hx hb dX9_keepNow_12 rfl (lv_at hl 1 rfl) ?_
        refine lv_aload_n hx hb dX9_keepNow_13 rfl (lv_at hl 0 rfl) ?_
        refine gM_X9_88_0 hx hb hG hown hK hP dX9_keepNow_14 ?_
        refine lv_iload_n hx hb dX9_keepNow_17 rfl (lv_at hl 1 rfl) ?_
        refine ldM_25 (mm := y2_1.toInt) hx hb hK hP rfl (ob_212 g2_0) (ob_714 f5) dX9_keepNow_18 ?_
        refine stM_26 (mm := y2_1.toInt) hx hb hK hP hD hS rfl (ob_212 g2_0) (ob_714 f5) dX9_keepNow_19 (fun z7 H6 locs ez7 hP hD hS => ?_)
        have g8 : EW z7 := ez7 ▸ EW.updc gi2_kept_p im27 (ob_212 g2_0) (ob_212 g2_0) (ob_729)
        obtain ⟨x9, ex9⟩ : ∃ y : Int32, y = y2_1 + Int32.ofInt 1 := ⟨_, rfl⟩
        have f10 : x9.toInt = y2_1.toInt + 1 := (ob_84 (qi_add ex9 rfl (by decide) (ob_82 g2_0) (ob_715 g2_1)))
        refine lv_iinc (v := x9) (lv' := [(1, .int x9), (0, .ref (r 0))]) hx hb dX9_keepNow_20 hl (k := 1) rfl ex9.symm (by decide) rfl (fun ls hl => ?_)
        refine lv_goto (tgt := 2) hx hb dX9_keepNow_23 (by decide) ?_
        exact ih2 x9 z7 H6 _ _ (ob_91 g2_0 f10) (ob_716 f5 f10) g8 hP hD hS (lv_sub hl [1, 0] rfl) (ob_717 hM2 f10)
  exact L2 (-1 * (0 : Int32).toInt + 26 + 1).toNat 0 f_kept s.heap _ _ (ob_1 zc_0) (ob_718 zc_0) im28 hP hD hS (lv_sub hl [1, 0] rfl) (mlt (ob_719 zc_0))
set_option maxHeartbeats 4000000 in
set_option maxRecDepth 100000 in
theorem kX9_bringBack (l : Launch) (dC : Nat → ClassId) (dI : Nat → Nat → Nat) (r : Nat → Nat) (ct : Nat → ClassId) (i_taped i_size i_faultKind i_at i_end i_token i_number i_bank i_rb i_codes i_within i_piled i_unitsInRule i_askHouse i_askTune i_acts i_undone i_laid i_knowns i_time : Int32) (f_text f_tunes f_houses f_hums f_told f_many f_ruleFrom f_ruleTo f_code f_eWhat f_eSign f_all f_kept f_was f_sTune f_boxAll : Nat → Int32) (J : Nat → Nat → Int32) (L : Nat → Nat → Int64) (sz : Nat) (hI : (IM i_taped i_size i_faultKind i_at i_end i_bank i_rb i_acts i_undone i_laid i_knowns i_time f_tunes f_houses f_hums f_told f_many f_ruleFrom f_ruleTo f_code f_all f_kept f_was f_sTune f_boxAll)) : Met l yX9_bringBack (.code yX9_bringBack cX9_bringBack 2 none :: GW) { frames := 2, cells := 0, slots := 0, locals := 100 } (va_Pc [.ref (r 0)] (pW (dC, dI) (WM r ct i_taped i_size i_faultKind i_at i_end i_token i_number i_bank i_rb i_codes i_within i_piled i_unitsInRule i_askHouse i_askTune i_acts i_undone i_laid i_knowns i_time f_text f_tunes f_houses f_hums f_told f_many f_ruleFrom f_ruleTo f_code f_eWhat f_eSign f_all f_kept f_was f_sTune f_boxAll J L) (TM ct) sz)) (va_Qv (fun _ : Unit => True) (fun (_ : Unit) (t : State) => ∃ (n_f_all : Nat → Int32), va_P (dC, dI) vwCl (WM r ct i_taped i_size i_faultKind i_at i_end i_token i_number i_bank i_rb i_codes i_within i_piled i_unitsInRule i_askHouse i_askTune i_acts i_undone i_laid i_knowns i_time f_text f_tunes f_houses f_hums f_told f_many f_ruleFrom f_ruleTo f_code f_eWhat f_eSign n_f_all f_kept f_was f_sTune f_boxAll J L) t.heap ∧ va_D (va_A (WM r ct i_taped i_size i_faultKind i_at i_end i_token i_number i_bank i_rb i_codes i_within i_piled i_unitsInRule i_askHouse i_askTune i_acts i_undone i_laid i_knowns i_time f_text f_tunes f_houses f_hums f_told f_many f_ruleFrom f_ruleTo f_code f_eWhat f_eSign f_all f_kept f_was f_sTune f_boxAll J L) sz) (WM r ct i_taped i_size i_faultKind i_at i_end i_token i_number i_bank i_rb i_codes i_within i_piled i_unitsInRule i_askHouse i_askTune i_acts i_undone i_laid i_knowns i_time f_text f_tunes f_houses f_hums f_told f_many f_ruleFrom f_ruleTo f_code f_eWhat f_eSign n_f_all f_kept f_was f_sTune f_boxAll J L) ∧ (IM i_taped i_size i_faultKind i_at i_end i_bank i_rb i_acts i_undone i_laid i_knowns i_time f_tunes f_houses f_hums f_told f_many f_ruleFrom f_ruleTo f_code n_f_all f_kept f_was f_sTune f_boxAll)) (va_A (WM r ct i_taped i_size i_faultKind i_at i_end i_token i_number i_bank i_rb i_codes i_within i_piled i_unitsInRule i_askHouse i_askTune i_acts i_undone i_laid i_knowns i_time f_text f_tunes f_houses f_hums f_told f_many f_ruleFrom f_ruleTo f_code f_eWhat f_eSign f_all f_kept f_was f_sTune f_boxAll J L) sz)) 0 0 (va_A (WM r ct i_taped i_size i_faultKind i_at i_end i_token i_number i_bank i_rb i_codes i_within i_piled i_unitsInRule i_askHouse i_askTune i_acts i_undone i_laid i_knowns i_time f_text f_tunes f_houses f_hums f_told f_many f_ruleFrom f_ruleTo f_code f_eWhat f_eSign f_all f_kept f_was f_sTune f_boxAll J L) sz) := by
  refine Met.ofW (cc := cX9_bringBack) (maxL := 2) (ret := none) (by decide) rfl ?_
  intro p e s m args below meth c0 s₁ B hml hv
  obtain ⟨rfl, hsz, hP, hK, hD0⟩ := hv
  have hx := B.exec
  have hb := B.bytes
  have hr := B.returns
  have hts := atoms_spec (ws := .code yX9_bringBack cX9_bringBack 2 none :: GW) B.pre
  have hG : ∀ w ∈ GW, w.before _ s = true := fun w h => hts w (List.mem_cons_of_mem _ h)
  have hown : s.vm.findClass RX9 = some m.cls := findClass_of_methodNamed B.named
  subst hsz
  have hD := hD0.self (sz := s.heap.size)
  generalize hAe : va_A (WM r ct i_taped i_size i_faultKind i_at i_end i_token i_number i_bank i_rb i_codes i_within i_piled i_unitsInRule i_askHouse i_askTune i_acts i_undone i_laid i_knowns i_time f_text f_tunes f_houses f_hums f_told f_many f_ruleFrom f_ruleTo f_code f_eWhat f_eSign f_all f_kept f_was f_sTune f_boxAll J L) s.heap.size = A at hD ⊢
  have hA : ∀ q : Nat, s.heap.size ≤ q → A q := fun q h => by rw [← hAe]; exact Or.inr h
  have hS : va_S A s.heap s.heap [] := va_S.rf
  have hP : va_P (dC, dI) vwCl (WM r ct i_taped i_size i_faultKind i_at i_end i_token i_number i_bank i_rb i_codes i_within i_piled i_unitsInRule i_askHouse i_askTune i_acts i_undone i_laid i_knowns i_time f_text f_tunes f_houses f_hums f_told f_many f_ruleFrom f_ruleTo f_code f_eWhat f_eSign f_all f_kept f_was f_sTune f_boxAll J L) s.heap := hP
  have hl := lv_entry ([.ref (r 0)]) (n := 2) (Nat.le_of_ble_eq_true rfl)
  rw [lg_entry_eq]
  generalize (lg_sl ([.ref (r 0)]) ++ List.replicate (2 - (lg_sl ([.ref (r 0)])).length) Slot.unset).toArray = ls at hl ⊢
  have hl : lv_has ls 2 [(0, .ref (r 0))] := hl
  refine nameQ (fun Q hQ => ?_)
  obtain ⟨im0, im1, im2, im3, im4, im5, im6, im7, im8, im9, im10, im11, im12, im13, im14, im15, im16, im17, im18, im19, im20, im21, im22, im23, im24, im25, im26, im27, im28, im29, im30, im31, im32⟩ := id hI
  have f1 : 0 ≤ (f_tunes (i_bank.toInt).toNat).toInt ∧ (f_tunes (i_bank.toInt).toNat).toInt ≤ 5 := im21 (i_bank.toInt)
  have f2 : 0 ≤ (f_houses (i_bank.toInt).toNat).toInt ∧ (f_houses (i_bank.toInt).toNat).toInt ≤ 4 := im22 (i_bank.toInt)
  refine lv_iconst (v := 0) hx hb dX9_bringBack_0 (by decide) ?_
  refine lv_istore_n (lv' := [(1, .int 0), (0, .ref (r 0))]) hx hb dX9_bringBack_1 rfl hl (by decide) rfl (fun ls hl => ?_)
  have L2 : ∀ (N2 : Nat) (y2_1 : Int32) (m2_f_all : Nat → Int32) (H2 : Heap) (locs : List Loc) (ls : Array Slot) (g2_0 : (0 : Int) ≤ y2_1.toInt) (g2_1 : y2_1.toInt ≤ (26 : Int)) (gi2_all_p : EW m2_f_all) (hP : va_P (dC, dI) vwCl (WM r ct i_taped i_size i_faultKind i_at i_end i_token i_number i_bank i_rb i_codes i_within i_piled i_unitsInRule i_askHouse i_askTune i_acts i_undone i_laid i_knowns i_time f_text f_tunes f_houses f_hums f_told f_many f_ruleFrom f_ruleTo f_code f_eWhat f_eSign m2_f_all f_kept f_was f_sTune f_boxAll J L) H2) (hD : va_D A (WM r ct i_taped i_size i_faultKind i_at i_end i_token i_number i_bank i_rb i_codes i_within i_piled i_unitsInRule i_askHouse i_askTune i_acts i_undone i_laid i_knowns i_time f_text f_tunes f_houses f_hums f_told f_many f_ruleFrom f_ruleTo f_code f_eWhat f_eSign m2_f_all f_kept f_was f_sTune f_boxAll J L)) (hS : va_S A s.heap H2 locs) (hl : lv_has ls 2 [(0, .ref (r 0)), (1, .int y2_1)]) (hM : -1 * y2_1.toInt + 26 < (N2 : Int)), W p l e { frames := 2, cells := 0, slots := 0, locals := 100 } s m ([.ref (r 0)] : List Value).toArray below meth c0 H2 locs 0 0 Q (F0 m 2 ls []) := by
    intro N2
    induction N2 with
    | zero =>
      intro y2_1 m2_f_all H2 locs ls g2_0 g2_1 gi2_all_p hP hD hS hl hM
      exact ((ob_686 hM g2_0 g2_1)).elim
    | succ N2 ih2 =>
      intro y2_1 m2_f_all H2 locs ls g2_0 g2_1 gi2_all_p hP hD hS hl hM
      have hM2 := msucc hM
      refine lv_iload_n hx hb dX9_bringBack_2 rfl (lv_at hl 1 rfl) ?_
      refine lv_bipush (v := 26) hx hb dX9_bringBack_3 (by decide) ?_
      refine lv_icmp_ge (tgt := 26) hx hb dX9_bringBack_5 (by decide) (fun c_3 => ?_) (fun c_3 => ?_)
      · skip
        have f4 : 26 ≤ y2_1.toInt := qi_le c_3 zc_26 rfl
        rw [hQ]
        exact W.vret hx hb hr (fun t ht hW => ⟨⟨(), rfl, trivial, ⟨m2_f_all, by rw [ht]; exact hP, hD, ⟨im0, im1, im2, im3, im4, im5, im6, im7, im8, im9, im10, im11, im12, im13, im14, im15, im16, im17, im18, im19, im20, im21, im22, im23, im24, im25, im26, gi2_all_p, im28, im29, im30, im31, im32⟩⟩⟩, hS.F ht⟩) hS.2.2 dX9_bringBack_26
      · skip
        have f5 : y2_1.toInt < 26 := qi_nle c_3 zc_26 rfl
        refine lv_aload_n hx hb dX9_bringBack_8 rfl (lv_at hl 0 rfl) ?_
        refine gM_X9_88_0 hx hb hG hown hK hP dX9_bringBack_9 ?_
        refine lv_iload_n hx hb dX9_bringBack_12 rfl (lv_at hl 1 rfl) ?_
        refine lv_aload_n hx hb dX9_bringBack_13 rfl (lv_at hl 0 rfl) ?_
        refine gM_X9_91_0 hx hb hG hown hK hP dX9_bringBack_14 ?_
        refine lv_iload_n hx hb dX9_bringBack_17 rfl (lv_at hl 1 rfl) ?_
        refine ldM_26 (mm := y2_1.toInt) hx hb hK hP rfl (ob_212 g2_0) (ob_714 f5) dX9_bringBack_18 ?_
        refine stM_25 (mm := y2_1.toInt) hx hb hK hP hD hS rfl (ob_212 g2_0) (ob_714 f5) dX9_bringBack_19 (fun z7 H6 locs ez7 hP hD hS => ?_)
        have g8 : EW z7 := ez7 ▸ EW.updc gi2_all_p im28 (ob_212 g2_0) (ob_212 g2_0) (ob_729)
        obtain ⟨x9, ex9⟩ : ∃ y : Int32, y = y2_1 + Int32.ofInt 1 := ⟨_, rfl⟩
        have f10 : x9.toInt = y2_1.toInt + 1 := (ob_84 (qi_add ex9 rfl (by decide) (ob_82 g2_0) (ob_715 g2_1)))
        refine lv_iinc (v := x9) (lv' := [(1, .int x9), (0, .ref (r 0))]) hx hb dX9_bringBack_20 hl (k := 1) rfl ex9.symm (by decide) rfl (fun ls hl => ?_)
        refine lv_goto (tgt := 2) hx hb dX9_bringBack_23 (by decide) ?_
        exact ih2 x9 z7 H6 _ _ (ob_91 g2_0 f10) (ob_716 f5 f10) g8 hP hD hS (lv_sub hl [1, 0] rfl) (ob_717 hM2 f10)
  exact L2 (-1 * (0 : Int32).toInt + 26 + 1).toNat 0 f_all s.heap _ _ (ob_1 zc_0) (ob_718 zc_0) im27 hP hD hS (lv_sub hl [1, 0] rfl) (mlt (ob_719 zc_0))
set_option maxHeartbeats 4000000 in
set_option maxRecDepth 100000 in
theorem kX9_isOnCart (l : Launch) (dC : Nat → ClassId) (dI : Nat → Nat → Nat) (r : Nat → Nat) (ct : Nat → ClassId) (i_taped i_size i_faultKind i_at i_end i_token i_number i_bank i_rb i_codes i_within i_piled i_unitsInRule i_askHouse i_askTune i_acts i_undone i_laid i_knowns i_time : Int32) (f_text f_tunes f_houses f_hums f_told f_many f_ruleFrom f_ruleTo f_code f_eWhat f_eSign f_all f_kept f_was f_sTune f_boxAll : Nat → Int32) (J : Nat → Nat → Int32) (L : Nat → Nat → Int64) (p0 : Int32) (sz : Nat) (hI : (IM i_taped i_size i_faultKind i_at i_end i_bank i_rb i_acts i_undone i_laid i_knowns i_time f_tunes f_houses f_hums f_told f_many f_ruleFrom f_ruleTo f_code f_all f_kept f_was f_sTune f_boxAll)) (hp0 : (0 : Int) ≤ p0.toInt) (hp1 : p0.toInt + 1 ≤ (f_tunes (i_bank.toInt).toNat).toInt) : Met l yX9_isOnCart (.code yX9_isOnCart cX9_isOnCart 2 (some .boolean) :: GW) { frames := 2, cells := 0, slots := 0, locals := 100 } (va_Pc [.ref (r 0), .int p0] (pR (dC, dI) (WM r ct i_taped i_size i_faultKind i_at i_end i_token i_number i_bank i_rb i_codes i_within i_piled i_unitsInRule i_askHouse i_askTune i_acts i_undone i_laid i_knowns i_time f_text f_tunes f_houses f_hums f_told f_many f_ruleFrom f_ruleTo f_code f_eWhat f_eSign f_all f_kept f_was f_sTune f_boxAll J L) (TM ct) sz)) (va_Qi (fun (r0 : Int32) (u : Int32) => r0 = u) (fun (u : Int32) (t : State) => ((((f_all (p0.toInt).toNat).toInt + 1 ≠ (0 : Int)) ∧ (u.toInt = (0 : Int))) ∨ (((f_all (p0.toInt).toNat).toInt + 1 = (0 : Int)) ∧ (u.toInt = (1 : Int)))) ∧ ((0 : Int) ≤ u.toInt) ∧ (u.toInt ≤ (1 : Int))) (fun q => sz ≤ q)) 0 0 (fun q => sz ≤ q) := by
  refine Met.ofW (cc := cX9_isOnCart) (maxL := 2) (ret := (some .boolean)) (by decide) rfl ?_
  intro p e s m args below meth c0 s₁ B hml hv
  obtain ⟨rfl, hsz, hP, hK⟩ := hv
  have hx := B.exec
  have hb := B.bytes
  have hr := B.returns
  have hts := atoms_spec (ws := .code yX9_isOnCart cX9_isOnCart 2 (some .boolean) :: GW) B.pre
  have hG : ∀ w ∈ GW, w.before _ s = true := fun w h => hts w (List.mem_cons_of_mem _ h)
  have hown : s.vm.findClass RX9 = some m.cls := findClass_of_methodNamed B.named
  subst hsz
  have hS : va_S (fun q => s.heap.size ≤ q) s.heap s.heap [] := va_S.rf
  have hP : va_P (dC, dI) vwCl (WM r ct i_taped i_size i_faultKind i_at i_end i_token i_number i_bank i_rb i_codes i_within i_piled i_unitsInRule i_askHouse i_askTune i_acts i_undone i_laid i_knowns i_time f_text f_tunes f_houses f_hums f_told f_many f_ruleFrom f_ruleTo f_code f_eWhat f_eSign f_all f_kept f_was f_sTune f_boxAll J L) s.heap := hP
  have hl := lv_entry ([.ref (r 0), .int p0]) (n := 2) (Nat.le_of_ble_eq_true rfl)
  rw [lg_entry_eq]
  generalize (lg_sl ([.ref (r 0), .int p0]) ++ List.replicate (2 - (lg_sl ([.ref (r 0), .int p0])).length) Slot.unset).toArray = ls at hl ⊢
  have hl : lv_has ls 2 [(0, .ref (r 0)), (1, .int p0)] := hl
  refine nameQ (fun Q hQ => ?_)
  obtain ⟨im0, im1, im2, im3, im4, im5, im6, im7, im8, im9, im10, im11, im12, im13, im14, im15, im16, im17, im18, im19, im20, im21, im22, im23, im24, im25, im26, im27, im28, im29, im30, im31, im32⟩ := id hI
  have f1 : 0 ≤ (f_tunes (i_bank.toInt).toNat).toInt ∧ (f_tunes (i_bank.toInt).toNat).toInt ≤ 5 := im21 (i_bank.toInt)
  have f2 : 0 ≤ (f_houses (i_bank.toInt).toNat).toInt ∧ (f_houses (i_bank.toInt).toNat).toInt ≤ 4 := im22 (i_bank.toInt)
  refine lv_aload_n hx hb dX9_isOnCart_0 rfl (lv_at hl 0 rfl) ?_
  refine gM_X9_88_0 hx hb hG hown hK hP dX9_isOnCart_1 ?_
  refine lv_iconst (v := 0) hx hb dX9_isOnCart_4 (by decide) ?_
  refine lv_iload_n hx hb dX9_isOnCart_5 rfl (lv_at hl 1 rfl) ?_
  refine lv_iadd hx hb dX9_isOnCart_6 ?_
  refine lv_topi (fun x3 ex3 => ?_)
  have f4 : x3.toInt = p0.toInt := (ob_706 (qi_add ex3 zc_0 rfl (ob_730 hp0 hp1) (ob_731 f1 hp0 hp1)))
  refine ldM_25 (mm := p0.toInt) hx hb hK hP f4 (ob_732 hp0 hp1) (ob_733 f1 hp0 hp1) dX9_isOnCart_7 ?_
  refine lv_iconst (v := (-1)) hx hb dX9_isOnCart_8 (by decide) ?_
  refine lv_icmp_ne (tgt := 16) hx hb dX9_isOnCart_9 (by decide) (fun c_5 => ?_) (fun c_5 => ?_)
  · skip
    have f6 : (f_all (p0.toInt).toNat).toInt ≠ (-1) := qi_ne c_5 rfl zc_m1
    refine lv_iconst (v := 0) hx hb dX9_isOnCart_16 (by decide) ?_
    rw [hQ]
    exact W.zret (v := 0) hx hb hr (by decide) (fun t ht hW => ⟨⟨0, 0, rfl, rfl, ⟨(ob_734 f6 zc_0), (ob_1 zc_0), (ob_11 zc_0)⟩⟩, hS.F ht⟩) hS.2.2 dX9_isOnCart_17
  · skip
    have f7 : (f_all (p0.toInt).toNat).toInt = (-1) := qi_eq c_5 rfl zc_m1
    refine lv_iconst (v := 1) hx hb dX9_isOnCart_12 (by decide) ?_
    refine lv_goto (tgt := 17) hx hb dX9_isOnCart_13 (by decide) ?_
    rw [hQ]
    exact W.zret (v := 1) hx hb hr (by decide) (fun t ht hW => ⟨⟨1, 1, rfl, rfl, ⟨(ob_735 f7 zc_1), (ob_14 zc_1), (ob_15 zc_1)⟩⟩, hS.F ht⟩) hS.2.2 dX9_isOnCart_17
set_option maxHeartbeats 4000000 in
set_option maxRecDepth 100000 in
theorem kX9_isTried (l : Launch) (dC : Nat → ClassId) (dI : Nat → Nat → Nat) (r : Nat → Nat) (ct : Nat → ClassId) (i_taped i_size i_faultKind i_at i_end i_token i_number i_bank i_rb i_codes i_within i_piled i_unitsInRule i_askHouse i_askTune i_acts i_undone i_laid i_knowns i_time : Int32) (f_text f_tunes f_houses f_hums f_told f_many f_ruleFrom f_ruleTo f_code f_eWhat f_eSign f_all f_kept f_was f_sTune f_boxAll : Nat → Int32) (J : Nat → Nat → Int32) (L : Nat → Nat → Int64) (p0 : Int32) (sz : Nat) (hI : (IM i_taped i_size i_faultKind i_at i_end i_bank i_rb i_acts i_undone i_laid i_knowns i_time f_tunes f_houses f_hums f_told f_many f_ruleFrom f_ruleTo f_code f_all f_kept f_was f_sTune f_boxAll)) (hp0 : (0 : Int) ≤ p0.toInt) (hp1 : p0.toInt + 1 ≤ (f_tunes (i_bank.toInt).toNat).toInt) : Met l yX9_isTried (.code yX9_isTried cX9_isTried 2 (some .boolean) :: GW) { frames := 2, cells := 0, slots := 0, locals := 100 } (va_Pc [.ref (r 0), .int p0] (pR (dC, dI) (WM r ct i_taped i_size i_faultKind i_at i_end i_token i_number i_bank i_rb i_codes i_within i_piled i_unitsInRule i_askHouse i_askTune i_acts i_undone i_laid i_knowns i_time f_text f_tunes f_houses f_hums f_told f_many f_ruleFrom f_ruleTo f_code f_eWhat f_eSign f_all f_kept f_was f_sTune f_boxAll J L) (TM ct) sz)) (va_Qi (fun (r0 : Int32) (u : Int32) => r0 = u) (fun (u : Int32) (t : State) => ((((f_all (p0.toInt).toNat).toInt + 1 ≤ (0 : Int)) ∧ (u.toInt = (0 : Int))) ∨ (((0 : Int) ≤ (f_all (p0.toInt).toNat).toInt) ∧ ((f_all (p0.toInt + 5).toNat).toInt ≠ (0 : Int)) ∧ (u.toInt = (0 : Int))) ∨ (((0 : Int) ≤ (f_all (p0.toInt).toNat).toInt) ∧ ((f_all (p0.toInt + 5).toNat).toInt = (0 : Int)) ∧ (u.toInt = (1 : Int)))) ∧ ((0 : Int) ≤ u.toInt) ∧ (u.toInt ≤ (1 : Int))) (fun q => sz ≤ q)) 0 0 (fun q => sz ≤ q) := by
  refine Met.ofW (cc := cX9_isTried) (maxL := 2) (ret := (some .boolean)) (by decide) rfl ?_
  intro p e s m args below meth c0 s₁ B hml hv
  obtain ⟨rfl, hsz, hP, hK⟩ := hv
  have hx := B.exec
  have hb := B.bytes
  have hr := B.returns
  have hts := atoms_spec (ws := .code yX9_isTried cX9_isTried 2 (some .boolean) :: GW) B.pre
  have hG : ∀ w ∈ GW, w.before _ s = true := fun w h => hts w (List.mem_cons_of_mem _ h)
  have hown : s.vm.findClass RX9 = some m.cls := findClass_of_methodNamed B.named
  subst hsz
  have hS : va_S (fun q => s.heap.size ≤ q) s.heap s.heap [] := va_S.rf
  have hP : va_P (dC, dI) vwCl (WM r ct i_taped i_size i_faultKind i_at i_end i_token i_number i_bank i_rb i_codes i_within i_piled i_unitsInRule i_askHouse i_askTune i_acts i_undone i_laid i_knowns i_time f_text f_tunes f_houses f_hums f_told f_many f_ruleFrom f_ruleTo f_code f_eWhat f_eSign f_all f_kept f_was f_sTune f_boxAll J L) s.heap := hP
  have hl := lv_entry ([.ref (r 0), .int p0]) (n := 2) (Nat.le_of_ble_eq_true rfl)
  rw [lg_entry_eq]
  generalize (lg_sl ([.ref (r 0), .int p0]) ++ List.replicate (2 - (lg_sl ([.ref (r 0), .int p0])).length) Slot.unset).toArray = ls at hl ⊢
  have hl : lv_has ls 2 [(0, .ref (r 0)), (1, .int p0)] := hl
  refine nameQ (fun Q hQ => ?_)
  obtain ⟨im0, im1, im2, im3, im4, im5, im6, im7, im8, im9, im10, im11, im12, im13, im14, im15, im16, im17, im18, im19, im20, im21, im22, im23, im24, im25, im26, im27, im28, im29, im30, im31, im32⟩ := id hI
  have f1 : 0 ≤ (f_tunes (i_bank.toInt).toNat).toInt ∧ (f_tunes (i_bank.toInt).toNat).toInt ≤ 5 := im21 (i_bank.toInt)
  have f2 : 0 ≤ (f_houses (i_bank.toInt).toNat).toInt ∧ (f_houses (i_bank.toInt).toNat).toInt ≤ 4 := im22 (i_bank.toInt)
  refine lv_aload_n hx hb dX9_isTried_0 rfl (lv_at hl 0 rfl) ?_
  refine gM_X9_88_0 hx hb hG hown hK hP dX9_isTried_1 ?_
  refine lv_iconst (v := 0) hx hb dX9_isTried_4 (by decide) ?_
  refine lv_iload_n hx hb dX9_isTried_5 rfl (lv_at hl 1 rfl) ?_
  refine lv_iadd hx hb dX9_isTried_6 ?_
  refine lv_topi (fun x3 ex3 => ?_)
  have f4 : x3.toInt = p0.toInt := (ob_706 (qi_add ex3 zc_0 rfl (ob_730 hp0 hp1) (ob_731 f1 hp0 hp1)))
  refine ldM_25 (mm := p0.toInt) hx hb hK hP f4 (ob_732 hp0 hp1) (ob_733 f1 hp0 hp1) dX9_isTried_7 ?_
  refine lv_if_lt (tgt := 26) hx hb dX9_isTried_8 (by decide) (fun c_5 => ?_) (fun c_5 => ?_)
  · skip
    have f6 : (f_all (p0.toInt).toNat).toInt < 0 := qi_lt c_5 rfl zc_0
    refine lv_iconst (v := 0) hx hb dX9_isTried_26 (by decide) ?_
    rw [hQ]
    exact W.zret (v := 0) hx hb hr (by decide) (fun t ht hW => ⟨⟨0, 0, rfl, rfl, ⟨(ob_736 f6 zc_0), (ob_1 zc_0), (ob_11 zc_0)⟩⟩, hS.F ht⟩) hS.2.2 dX9_isTried_27
  · skip
    have f7 : 0 ≤ (f_all (p0.toInt).toNat).toInt := qi_nlt c_5 rfl zc_0
    refine lv_aload_n hx hb dX9_isTried_11 rfl (lv_at hl 0 rfl) ?_
    refine gM_X9_88_0 hx hb hG hown hK hP dX9_isTried_12 ?_
    refine lv_iconst (v := 5) hx hb dX9_isTried_15 (by decide) ?_
    refine lv_iload_n hx hb dX9_isTried_16 rfl (lv_at hl 1 rfl) ?_
    refine lv_iadd hx hb dX9_isTried_17 ?_
    refine lv_topi (fun x8 ex8 => ?_)
    have f9 : x8.toInt = p0.toInt + 5 := (ob_739 (qi_add ex8 zc_5 rfl (ob_737 hp0 hp1) (ob_738 f1 hp0 hp1)))
    refine ldM_25 (mm := p0.toInt + 5) hx hb hK hP f9 (ob_740 hp0 hp1) (ob_741 f1 hp0 hp1) dX9_isTried_18 ?_
    refine lv_if_ne (tgt := 26) hx hb dX9_isTried_19 (by decide) (fun c_10 => ?_) (fun c_10 => ?_)
    · skip
      have f11 : (f_all (p0.toInt + 5).toNat).toInt ≠ 0 := qi_ne c_10 rfl zc_0
      refine lv_iconst (v := 0) hx hb dX9_isTried_26 (by decide) ?_
      rw [hQ]
      exact W.zret (v := 0) hx hb hr (by decide) (fun t ht hW => ⟨⟨0, 0, rfl, rfl, ⟨(ob_742 f7 f11 zc_0), (ob_1 zc_0), (ob_11 zc_0)⟩⟩, hS.F ht⟩) hS.2.2 dX9_isTried_27
    · skip
      have f12 : (f_all (p0.toInt + 5).toNat).toInt = 0 := qi_eq c_10 rfl zc_0
      refine lv_iconst (v := 1) hx hb dX9_isTried_22 (by decide) ?_
      refine lv_goto (tgt := 27) hx hb dX9_isTried_23 (by decide) ?_
      rw [hQ]
      exact W.zret (v := 1) hx hb hr (by decide) (fun t ht hW => ⟨⟨1, 1, rfl, rfl, ⟨(ob_743 f7 f12 zc_1), (ob_14 zc_1), (ob_15 zc_1)⟩⟩, hS.F ht⟩) hS.2.2 dX9_isTried_27
