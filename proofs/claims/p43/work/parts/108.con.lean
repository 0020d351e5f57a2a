set_option maxHeartbeats 4000000 in
set_option maxRecDepth 100000 in
theorem kX9_comes (l : Launch) (dC : Nat → ClassId) (dI : Nat → Nat → Nat) (r : Nat → Nat) (ct : Nat → ClassId) (i_taped i_size i_faultKind i_at i_end i_token i_number i_bank i_rb i_codes i_within i_piled i_unitsInRule i_askHouse i_askTune i_acts i_undone i_laid i_knowns i_time : Int32) (f_text f_tunes f_houses f_hums f_told f_many f_ruleFrom f_ruleTo f_code f_eWhat f_eSign f_all f_kept f_was f_sTune f_boxAll : Nat → Int32) (J : Nat → Nat → Int32) (L : Nat → Nat → Int64) (sz : Nat) (hI : (IM i_taped i_size i_faultKind i_at i_end i_bank i_rb i_acts i_undone i_laid i_knowns i_time f_tunes f_houses f_hums f_told f_many f_ruleFrom f_ruleTo f_code f_all f_kept f_was f_sTune f_boxAll)) (hp0 : (0 : Int) ≤ i_askHouse.toInt) (hp1 : i_askHouse.toInt + 1 ≤ (f_houses (i_bank.toInt).toNat).toInt) (hp2 : (0 : Int) ≤ i_askTune.toInt) (hp3 : i_askTune.toInt + 1 ≤ (f_tunes (i_bank.toInt).toNat).toInt) (hp4 : RUW (f_ruleFrom (i_bank.toInt).toNat).toInt (f_ruleTo (i_bank.toInt).toNat).toInt f_code) : Met l yX9_comes (.code yX9_comes cX9_comes 4 (some .int) :: GW) { frames := 16, cells := 0, slots := 0, locals := 540 } (va_Pc [.ref (r 0)] (pW (dC, dI) (WM r ct i_taped i_size i_faultKind i_at i_end i_token i_number i_bank i_rb i_codes i_within i_piled i_unitsInRule i_askHouse i_askTune i_acts i_undone i_laid i_knowns i_time f_text f_tunes f_houses f_hums f_told f_many f_ruleFrom f_ruleTo f_code f_eWhat f_eSign f_all f_kept f_was f_sTune f_boxAll J L) (TM ct) sz)) (va_Qi (fun (r0 : Int32) (u : Int32) => r0 = u) (fun (u : Int32) (t : State) => ∃ (n_J : Nat → Nat → Int32), va_P (dC, dI) vwCl (WM r ct i_taped i_size i_faultKind i_at i_end i_token i_number i_bank i_rb i_codes i_within i_piled i_unitsInRule i_askHouse i_askTune i_acts i_undone i_laid i_knowns i_time f_text f_tunes f_houses f_hums f_told f_many f_ruleFrom f_ruleTo f_code f_eWhat f_eSign f_all f_kept f_was f_sTune f_boxAll n_J L) t.heap ∧ va_D (va_A (WM r ct i_taped i_size i_faultKind i_at i_end i_token i_number i_bank i_rb i_codes i_within i_piled i_unitsInRule i_askHouse i_askTune i_acts i_undone i_laid i_knowns i_time f_text f_tunes f_houses f_hums f_told f_many f_ruleFrom f_ruleTo f_code f_eWhat f_eSign f_all f_kept f_was f_sTune f_boxAll J L) sz) (WM r ct i_taped i_size i_faultKind i_at i_end i_token i_number i_bank i_rb i_codes i_within i_piled i_unitsInRule i_askHouse i_askTune i_acts i_undone i_laid i_knowns i_time f_text f_tunes f_houses f_hums f_told f_many f_ruleFrom f_ruleTo f_code f_eWhat f_eSign f_all f_kept f_was f_sTune f_boxAll n_J L) ∧ (IM i_taped i_size i_faultKind i_at i_end i_bank i_rb i_acts i_undone i_laid i_knowns i_time f_tunes f_houses f_hums f_told f_many f_ruleFrom f_ruleTo f_code f_all f_kept f_was f_sTune f_boxAll)) (va_A (WM r ct i_taped i_size i_faultKind i_at i_end i_token i_number i_bank i_rb i_codes i_within i_piled i_unitsInRule i_askHouse i_askTune i_acts i_undone i_laid i_knowns i_time f_text f_tunes f_houses f_hums f_told f_many f_ruleFrom f_ruleTo f_code f_eWhat f_eSign f_all f_kept f_was f_sTune f_boxAll J L) sz)) 0 0 (va_A (WM r ct i_taped i_size i_faultKind i_at i_end i_token i_number i_bank i_rb i_codes i_within i_piled i_unitsInRule i_askHouse i_askTune i_acts i_undone i_laid i_knowns i_time f_text f_tunes f_houses f_hums f_told f_many f_ruleFrom f_ruleTo f_code f_eWhat f_eSign f_all f_kept f_was f_sTune f_boxAll J L) sz) := by
  refine Met.ofW (cc := cX9_comes) (maxL := 4) (ret := (some .int)) (by decide) rfl ?_
  intro p e s m args below meth c0 s₁ B hml hv
  obtain ⟨rfl, hsz, hP, hK, hD0⟩ := hv
  have hx := B.exec
  have hb := B.bytes
  have hr := B.returns
  have hts := atoms_spec (ws := .code yX9_comes cX9_comes 4 (some .int) :: GW) B.pre
  have hG : ∀ w ∈ GW, w.before _ s = true := fun w h => hts w (List.mem_cons_of_mem _ h)
  have hown : s.vm.findClass RX9 = some m.cls := findClass_of_methodNamed B.named
  subst hsz
  have hD := hD0.self (sz := s.heap.size)
  generalize hAe : va_A (WM r ct i_taped i_size i_faultKind i_at i_end i_token i_number i_bank i_rb i_codes i_within i_piled i_unitsInRule i_askHouse i_askTune i_acts i_undone i_laid i_knowns i_time f_text f_tunes f_houses f_hums f_told f_many f_ruleFrom f_ruleTo f_code f_eWhat f_eSign f_all f_kept f_was f_sTune f_boxAll J L) s.heap.size = A at hD ⊢
  have hA : ∀ q : Nat, s.heap.size ≤ q → A q := fun q h => by rw [← hAe]; exact Or.inr h
  have hS : va_S A s.heap s.heap [] := va_S.rf
  have hP : va_P (dC, dI) vwCl (WM r ct i_taped i_size i_faultKind i_at i_end i_token i_number i_bank i_rb i_codes i_within i_piled i_unitsInRule i_askHouse i_askTune i_acts i_undone i_laid i_knowns i_time f_text f_tunes f_houses f_hums f_told f_many f_ruleFrom f_ruleTo f_code f_eWhat f_eSign f_all f_kept f_was f_sTune f_boxAll J L) s.heap := hP
  have hl := lv_entry ([.ref (r 0)]) (n := 4) (Nat.le_of_ble_eq_true rfl)
  rw [lg_entry_eq]
  generalize (lg_sl ([.ref (r 0)]) ++ List.replicate (4 - (lg_sl ([.ref (r 0)])).length) Slot.unset).toArray = ls at hl ⊢
  have hl : lv_has ls 4 [(0, .ref (r 0))] := hl
  refine nameQ (fun Q hQ => ?_)
  obtain ⟨ie0, ie1, ie2, ie3, ie4, ie5, ie6, ie7, ie8, ie9, ie10, ie11, ie12, ie13, ie14, ie15, ie16, ie17, ie18, ie19, ie20, ie21, ie22, ie23, ie24, ie25, ie26, ie27, ie28, ie29, ie30, ie31, ie32⟩ := id hI
  have f1 : 0 ≤ (f_tunes (i_bank.toInt).toNat).toInt ∧ (f_tunes (i_bank.toInt).toNat).toInt ≤ 5 := ie21 (i_bank.toInt)
  have f2 : 0 ≤ (f_houses (i_bank.toInt).toNat).toInt ∧ (f_houses (i_bank.toInt).toNat).toInt ≤ 4 := ie22 (i_bank.toInt)
  refine lv_iconst (v := 0) hx hb dX9_comes_0 (by decide) ?_
  refine lv_istore_n (lv' := [(1, .int 0), (0, .ref (r 0))]) hx hb dX9_comes_1 rfl hl (by decide) rfl (fun ls hl => ?_)
  refine lv_aload_n hx hb dX9_comes_2 rfl (lv_at hl 1 rfl) ?_
  refine gM_X9_60_0 hx hb hG hown hK hP dX9_comes_3 ?_
  refine lv_aload_n hx hb dX9_comes_6 rfl (lv_at hl 1 rfl) ?_
  refine gM_X9_249_0 hx hb hG hown hK hP dX9_comes_7 ?_
  refine ldM_16 (mm := i_bank.toInt) hx hb hK hP rfl (ob_263 ie4 ie5) (ob_264 ie4 ie5) dX9_comes_10 ?_
  have f3 : (dp f_code (f_ruleFrom (i_bank.toInt).toNat).toInt ((f_ruleFrom (i_bank.toInt).toNat).toInt - (f_ruleFrom (i_bank.toInt).toNat).toInt).toNat) = 0 := dp_zero
  refine lv_istore_n (lv' := [(2, .int (f_ruleFrom (i_bank.toInt).toNat)), (1, .int 0), (0, .ref (r 0))]) hx hb dX9_comes_11 rfl hl (by decide) rfl (fun ls hl => ?_)
  have L12 : ∀ (N12 : Nat) (y12_1 y12_2 : Int32) (m12_J : Nat → Nat → Int32) (H12 : Heap) (locs : List Loc) (ls : Array Slot) (g12_0 : (0 : Int) ≤ y12_1.toInt + 1) (g12_1 : y12_1.toInt ≤ (61 : Int)) (g12_2 : (0 : Int) ≤ y12_2.toInt) (g12_3 : y12_2.toInt ≤ (1120 : Int)) (g12_4 : y12_1.toInt = (dp f_code (f_ruleFrom (i_bank.toInt).toNat).toInt (y12_2.toInt - (f_ruleFrom (i_bank.toInt).toNat).toInt).toNat)) (g12_5 : (f_ruleFrom (i_bank.toInt).toNat).toInt ≤ y12_2.toInt) (g12_6 : y12_2.toInt ≤ (1120 : Int)) (hP : va_P (dC, dI) vwCl (WM r ct i_taped i_size i_faultKind i_at i_end i_token i_number i_bank i_rb i_codes i_within i_piled i_unitsInRule i_askHouse i_askTune i_acts i_undone i_laid i_knowns i_time f_text f_tunes f_houses f_hums f_told f_many f_ruleFrom f_ruleTo f_code f_eWhat f_eSign f_all f_kept f_was f_sTune f_boxAll m12_J L) H12) (hD : va_D A (WM r ct i_taped i_size i_faultKind i_at i_end i_token i_number i_bank i_rb i_codes i_within i_piled i_unitsInRule i_askHouse i_askTune i_acts i_undone i_laid i_knowns i_time f_text f_tunes f_houses f_hums f_told f_many f_ruleFrom f_ruleTo f_code f_eWhat f_eSign f_all f_kept f_was f_sTune f_boxAll m12_J L)) (hS : va_S A s.heap H12 locs) (hl : lv_has ls 4 [(0, .ref (r 0)), (1, .int y12_1), (2, .int y12_2)]) (hM : -1 * y12_2.toInt + 1120 < (N12 : Int)), W p l e { frames := 16, cells := 0, slots := 0, locals := 540 } s m ([.ref (r 0)] : List Value).toArray below meth c0 H12 locs 0 0 Q (F0 m 12 ls []) := by
    intro N12
    induction N12 with
    | zero =>
      intro y12_1 y12_2 m12_J H12 locs ls g12_0 g12_1 g12_2 g12_3 g12_4 g12_5 g12_6 hP hD hS hl hM
      exact ((ob_925 hM g12_3)).elim
    | succ N12 ih12 =>
      intro y12_1 y12_2 m12_J H12 locs ls g12_0 g12_1 g12_2 g12_3 g12_4 g12_5 g12_6 hP hD hS hl hM
      have hM12 := msucc hM
      refine lv_iload_n hx hb dX9_comes_12 rfl (lv_at hl 2 rfl) ?_
      refine lv_aload_n hx hb dX9_comes_13 rfl (lv_at hl 0 rfl) ?_
      refine gM_X9_63_0 hx hb hG hown hK hP dX9_comes_14 ?_
      refine lv_aload_n hx hb dX9_comes_17 rfl (lv_at hl 0 rfl) ?_
      refine gM_X9_249_0 hx hb hG hown hK hP dX9_comes_18 ?_
      refine ldM_17 (mm := i_bank.toInt) hx hb hK hP rfl (ob_263 ie4 ie5) (ob_264 ie4 ie5) dX9_comes_21 ?_
      refine lv_icmp_ge (tgt := 130) hx hb dX9_comes_22 (by decide) (fun c_4 => ?_) (fun c_4 => ?_)
      · skip
        have f5 : (f_ruleTo (i_bank.toInt).toNat).toInt ≤ y12_2.toInt := qi_le c_4 rfl rfl
        refine lv_aload_n hx hb dX9_comes_130 rfl (lv_at hl 0 rfl) ?_
        refine gM_X9_85_0 hx hb hG hown hK hP dX9_comes_131 ?_
        refine lv_iconst (v := 0) hx hb dX9_comes_134 (by decide) ?_
        refine ldM_24 (mm := (0 : Int)) hx hb hK hP zc_0 (ob_926) (ob_927) dX9_comes_135 (fun x6 => ?_)
        rw [hQ]
        exact W.iret (v := x6) hx hb hr (fun t ht hW => ⟨⟨x6, x6, rfl, rfl, ⟨m12_J, by rw [ht]; exact hP, hD, hI⟩⟩, hS.F ht⟩) hS.2.2 dX9_comes_136
      · skip
        have f7 : y12_2.toInt < (f_ruleTo (i_bank.toInt).toNat).toInt := qi_nle c_4 rfl rfl
        refine lv_aload_n hx hb dX9_comes_25 rfl (lv_at hl 0 rfl) ?_
        refine gM_X9_73_0 hx hb hG hown hK hP dX9_comes_26 ?_
        refine lv_iload_n hx hb dX9_comes_29 rfl (lv_at hl 2 rfl) ?_
        refine ldM_20 (mm := y12_2.toInt) hx hb hK hP rfl (ob_350 g12_2) (ob_928 hp4.2.2.1 f7) dX9_comes_30 ?_
        have f8 : ((f_code (y12_2.toInt).toNat).toInt = 126 ∧ (dp f_code (f_ruleFrom (i_bank.toInt).toNat).toInt (y12_2.toInt + 1 - (f_ruleFrom (i_bank.toInt).toNat).toInt).toNat) = (dp f_code (f_ruleFrom (i_bank.toInt).toNat).toInt (y12_2.toInt - (f_ruleFrom (i_bank.toInt).toNat).toInt).toNat)) ∨ (97 ≤ (f_code (y12_2.toInt).toNat).toInt ∧ (f_code (y12_2.toInt).toNat).toInt ≤ 122 ∧ (dp f_code (f_ruleFrom (i_bank.toInt).toNat).toInt (y12_2.toInt + 1 - (f_ruleFrom (i_bank.toInt).toNat).toInt).toNat) = (dp f_code (f_ruleFrom (i_bank.toInt).toNat).toInt (y12_2.toInt - (f_ruleFrom (i_bank.toInt).toNat).toInt).toNat) + 1) ∨ ((f_code (y12_2.toInt).toNat).toInt ≠ 126 ∧ ((f_code (y12_2.toInt).toNat).toInt < 97 ∨ 122 < (f_code (y12_2.toInt).toNat).toInt) ∧ (dp f_code (f_ruleFrom (i_bank.toInt).toNat).toInt (y12_2.toInt + 1 - (f_ruleFrom (i_bank.toInt).toNat).toInt).toNat) = (dp f_code (f_ruleFrom (i_bank.toInt).toNat).toInt (y12_2.toInt - (f_ruleFrom (i_bank.toInt).toNat).toInt).toNat) + -1) := dp_or (ob_145 g12_5)
        have f9 := ruw_at hp4 (ob_145 g12_5) (ob_929 f7)
        refine lv_istore_n (lv' := [(3, .int (f_code (y12_2.toInt).toNat)), (0, .ref (r 0)), (1, .int y12_1), (2, .int y12_2)]) hx hb dX9_comes_31 rfl hl (by decide) rfl (fun ls hl => ?_)
        refine lv_iload_n hx hb dX9_comes_32 rfl (lv_at hl 0 rfl) ?_
        refine lv_bipush (v := 126) hx hb dX9_comes_33 (by decide) ?_
        refine lv_icmp_ne (tgt := 65) hx hb dX9_comes_35 (by decide) (fun c_10 => ?_) (fun c_10 => ?_)
        · skip
          have f11 : (f_code (y12_2.toInt).toNat).toInt ≠ 126 := qi_ne c_10 rfl zc_126
          have f12 : (((f_code (y12_2.toInt).toNat).toInt ≤ (96 : Int)) ∨ ((123 : Int) ≤ (f_code (y12_2.toInt).toNat).toInt)) → ((2 : Int) ≤ (dp f_code (f_ruleFrom (i_bank.toInt).toNat).toInt (y12_2.toInt - (f_ruleFrom (i_bank.toInt).toNat).toInt).toNat)) := (ob_930 f9.2.2.2.2 f11)
          refine lv_iload_n hx hb dX9_comes_65 rfl (lv_at hl 0 rfl) ?_
          refine va_calli (va_runS (As := [.int (f_code (y12_2.toInt).toNat)]) (rest := []) ⟨hx, hb, hml, hown, hG⟩ (kX9_isLetter l dC dI (f_code (y12_2.toInt).toNat) H12.size) (va_cwS 1 hG (goodS gw1370 gw1371 gw138 gw1372) rfl rfl rfl hd_X9_isLetter ⟨(Nat.le_of_ble_eq_true rfl), (Nat.le_of_ble_eq_true rfl)⟩) ⟨fbR, pR_in emptyP (emptyK hK)⟩ rfl rfl hl.1 rfl (lv_room (Nat.le_of_ble_eq_true rfl)) dX9_comes_66 ⟨(Nat.le_of_ble_eq_true rfl), (Nat.le_of_ble_eq_true rfl)⟩) hS (fun q hq h => absurd hq (Nat.not_lt.mpr h)) (fun q h => hA q (Nat.le_trans hS.1 h)) (fun r_14 u_ t_ H13 locs ht hvm hw hB hz1 hk1 hS => ?_)
          subst hw
          have hP := wk hP hk1
          obtain ⟨f15, f16, f17⟩ := hB
          refine lv_if_eq (tgt := 95) hx hb dX9_comes_69 (by decide) (fun c_18 => ?_) (fun c_18 => ?_)
          · skip
            have f19 : r_14.toInt = 0 := qi_eq c_18 rfl zc_0
            obtain ⟨x20, ex20⟩ : ∃ y : Int32, y = y12_1 + Int32.ofInt (-1) := ⟨_, rfl⟩
            have f21 : x20.toInt = y12_1.toInt + (-1) := (ob_483 (qi_add ex20 rfl (by decide) (ob_931 g12_0 g12_1 g12_4) (ob_932 g12_0 g12_1 g12_4)))
            refine lv_iinc (v := x20) (lv' := [(1, .int x20), (3, .int (f_code (y12_2.toInt).toNat)), (0, .ref (r 0)), (2, .int y12_2)]) hx hb dX9_comes_95 hl (k := 2) rfl ex20.symm (by decide) rfl (fun ls hl => ?_)
            refine lv_aload_n hx hb dX9_comes_98 rfl (lv_at hl 2 rfl) ?_
            refine gM_X9_85_0 hx hb hG hown hK hP dX9_comes_99 ?_
            refine lv_iload_n hx hb dX9_comes_102 rfl (lv_at hl 0 rfl) ?_
            refine lv_iconst (v := 1) hx hb dX9_comes_103 (by decide) ?_
            refine lv_isub hx hb dX9_comes_104 ?_
            refine lv_topi (fun x22 ex22 => ?_)
            have f23 : x22.toInt = y12_1.toInt + (-2) := (ob_935 (qi_sub ex22 rfl zc_1 (ob_933 g12_0 g12_1 g12_4 f21) (ob_934 g12_0 g12_1 g12_4 f21)) f21)
            refine lv_iload_n hx hb dX9_comes_105 rfl (lv_at hl 1 rfl) ?_
            refine lv_aload_n hx hb dX9_comes_106 rfl (lv_at hl 2 rfl) ?_
            refine gM_X9_85_0 hx hb hG hown hK hP dX9_comes_107 ?_
            refine lv_iload_n hx hb dX9_comes_110 rfl (lv_at hl 0 rfl) ?_
            refine lv_iconst (v := 1) hx hb dX9_comes_111 (by decide) ?_
            refine lv_isub hx hb dX9_comes_112 ?_
            refine lv_topi (fun x24 ex24 => ?_)
            have f25 : x24.toInt = y12_1.toInt + (-2) := (ob_935 (qi_sub ex24 rfl zc_1 (ob_933 g12_0 g12_1 g12_4 f21) (ob_934 g12_0 g12_1 g12_4 f21)) f21)
            refine ldM_24 (mm := y12_1.toInt + (-2)) hx hb hK hP f25 (ob_936 g12_4 f9.2.2.2.2 f11 f15 f19) (ob_937 g12_0 g12_1 g12_4) dX9_comes_113 (fun x26 => ?_)
            refine lv_aload_n hx hb dX9_comes_114 rfl (lv_at hl 2 rfl) ?_
            refine gM_X9_85_0 hx hb hG hown hK hP dX9_comes_115 ?_
            refine lv_iload_n hx hb dX9_comes_118 rfl (lv_at hl 0 rfl) ?_
            refine ldM_24 (mm := y12_1.toInt + (-1)) hx hb hK hP f21 (ob_938 g12_4 f9.1 f9.2.2.2.2 f15 f19) (ob_939 g12_4 f9.2.2.2.1) dX9_comes_119 (fun x27 => ?_)
            refine va_calli (va_runS (As := [.int (f_code (y12_2.toInt).toNat), .int x26, .int x27]) (rest := [.int x22, .ref (r 24)]) ⟨hx, hb, hml, hown, hG⟩ (kX9_two l dC dI (f_code (y12_2.toInt).toNat) x26 x27 H13.size) (va_cwS 3 hG (goodS gw1598 gw1599 gw138 gw1600) rfl rfl rfl hd_X9_two ⟨(Nat.le_of_ble_eq_true rfl), (Nat.le_of_ble_eq_true rfl)⟩) ⟨fbR, pR_in emptyP (emptyK hK)⟩ rfl rfl hl.1 rfl (lv_room (Nat.le_of_ble_eq_true rfl)) dX9_comes_120 ⟨(Nat.le_of_ble_eq_true rfl), (Nat.le_of_ble_eq_true rfl)⟩) hS (fun q hq h => absurd hq (Nat.not_lt.mpr h)) (fun q h => hA q (Nat.le_trans hS.1 h)) (fun r_29 u_ t_ H28 locs ht hvm hw hB hz1 hk1 hS => ?_)
            subst hw
            have hP := wk hP hk1
            refine stM_24 (mm := y12_1.toInt + (-2)) hx hb hK hP hD hS f23 (ob_936 g12_4 f9.2.2.2.2 f11 f15 f19) (ob_937 g12_0 g12_1 g12_4) dX9_comes_123 (fun J31 H30 locs hP hD hS => ?_)
            obtain ⟨x32, ex32⟩ : ∃ y : Int32, y = y12_2 + Int32.ofInt 1 := ⟨_, rfl⟩
            have f33 : x32.toInt = y12_2.toInt + 1 := (ob_142 (qi_add ex32 rfl (by decide) (ob_140 g12_2) (ob_940 g12_3)))
            refine lv_iinc (v := x32) (lv' := [(2, .int x32), (1, .int x20), (3, .int (f_code (y12_2.toInt).toNat)), (0, .ref (r 0))]) hx hb dX9_comes_124 hl (k := 3) rfl ex32.symm (by decide) rfl (fun ls hl => ?_)
            have f34 : (dp f_code (f_ruleFrom (i_bank.toInt).toNat).toInt (x32.toInt - (f_ruleFrom (i_bank.toInt).toNat).toInt).toNat) = (dp f_code (f_ruleFrom (i_bank.toInt).toNat).toInt (y12_2.toInt + 1 - (f_ruleFrom (i_bank.toInt).toNat).toInt).toNat) := by rw [f33]
            refine lv_goto (tgt := 12) hx hb dX9_comes_127 (by decide) ?_
            exact ih12 x20 x32 J31 H30 _ _ (ob_941 g12_4 f9.2.2.1 f21) (ob_942 g12_0 g12_1 g12_4 f21) (ob_149 g12_2 f33) (ob_943 hp4.2.2.1 f7 f33) (ob_944 g12_4 f8 f11 f15 f19 f34 f21) (ob_151 g12_5 f33) (ob_943 hp4.2.2.1 f7 f33) hP hD hS (lv_sub hl [3, 1, 0] rfl) (ob_945 hM12 f33)
          · skip
            have f35 : r_14.toInt ≠ 0 := qi_ne c_18 rfl zc_0
            have f36 : (97 : Int) ≤ (f_code (y12_2.toInt).toNat).toInt := (ob_946 f15 f35)
            have f37 : (f_code (y12_2.toInt).toNat).toInt ≤ (122 : Int) := (ob_947 f15 f35)
            have f38 : r_14.toInt = (1 : Int) := (ob_948 f15 f35)
            have f39 : (1 : Int) ≤ r_14.toInt := (ob_162 f16 f17 f38)
            refine lv_aload_n hx hb dX9_comes_72 rfl (lv_at hl 1 rfl) ?_
            refine gM_X9_85_0 hx hb hG hown hK hP dX9_comes_73 ?_
            refine lv_iload_n hx hb dX9_comes_76 rfl (lv_at hl 2 rfl) ?_
            refine lv_aload_n hx hb dX9_comes_77 rfl (lv_at hl 1 rfl) ?_
            refine lv_iload_n hx hb dX9_comes_78 rfl (lv_at hl 0 rfl) ?_
            refine lv_aload_n hx hb dX9_comes_79 rfl (lv_at hl 1 rfl) ?_
            refine gM_X9_76_0 hx hb hG hown hK hP dX9_comes_80 ?_
            refine lv_iload_n hx hb dX9_comes_83 rfl (lv_at hl 3 rfl) ?_
            refine ldM_21 (mm := y12_2.toInt) hx hb hK hP rfl (ob_350 g12_2) (ob_928 hp4.2.2.1 f7) dX9_comes_84 (fun x40 => ?_)
            refine va_calli (va_runV (As := [.int (f_code (y12_2.toInt).toNat), .int x40]) (rest := [.int y12_1, .ref (r 24)]) ⟨hx, hb, hml, hown, hG⟩ (kX9_asked l dC dI r ct i_taped i_size i_faultKind i_at i_end i_token i_number i_bank i_rb i_codes i_within i_piled i_unitsInRule i_askHouse i_askTune i_acts i_undone i_laid i_knowns i_time f_text f_tunes f_houses f_hums f_told f_many f_ruleFrom f_ruleTo f_code f_eWhat f_eSign f_all f_kept f_was f_sTune f_boxAll m12_J L (f_code (y12_2.toInt).toNat) x40 H13.size hI (ob_880 hp0 hp1) (ob_898 f2 hp0 hp1) (ob_880 hp2 hp3) (ob_881 f1 hp2 hp3)) (cwV 2 hG (goodV gw1574 gw1576 gw97 gw138 gw1577) rfl rfl rfl hd_X9_asked ⟨(Nat.le_of_ble_eq_true rfl), (Nat.le_of_ble_eq_true rfl)⟩) ⟨fbR, va_recv hK hP (ci := 8) (q0 := 0) rfl rfl, pR_in hP hK⟩ rfl rfl hl.1 rfl (lv_room (Nat.le_of_ble_eq_true rfl)) dX9_comes_85 ⟨(Nat.le_of_ble_eq_true rfl), (Nat.le_of_ble_eq_true rfl)⟩) hS (fun q hq h => absurd hq (Nat.not_lt.mpr h)) (fun q h => hA q (Nat.le_trans hS.1 h)) (fun r_42 u_ t_ H41 locs ht hvm hw hB hz1 hk1 hS => ?_)
            subst hw
            have hP := wk hP hk1
            refine stM_24 (mm := y12_1.toInt) hx hb hK hP hD hS rfl (ob_949 g12_4 f9.2.2.1) (ob_950 g12_4 f9.2.1 f36 f37) dX9_comes_88 (fun J44 H43 locs hP hD hS => ?_)
            obtain ⟨x45, ex45⟩ : ∃ y : Int32, y = y12_1 + Int32.ofInt 1 := ⟨_, rfl⟩
            have f46 : x45.toInt = y12_1.toInt + 1 := (ob_142 (qi_add ex45 rfl (by decide) (ob_951 g12_0 g12_1 g12_4) (ob_952 g12_0 g12_1 g12_4)))
            refine lv_iinc (v := x45) (lv' := [(1, .int x45), (3, .int (f_code (y12_2.toInt).toNat)), (0, .ref (r 0)), (2, .int y12_2)]) hx hb dX9_comes_89 hl (k := 2) rfl ex45.symm (by decide) rfl (fun ls hl => ?_)
            refine lv_goto (tgt := 124) hx hb dX9_comes_92 (by decide) ?_
            obtain ⟨x47, ex47⟩ : ∃ y : Int32, y = y12_2 + Int32.ofInt 1 := ⟨_, rfl⟩
            have f48 : x47.toInt = y12_2.toInt + 1 := (ob_142 (qi_add ex47 rfl (by decide) (ob_140 g12_2) (ob_940 g12_3)))
            refine lv_iinc (v := x47) (lv' := [(2, .int x47), (1, .int x45), (3, .int (f_code (y12_2.toInt).toNat)), (0, .ref (r 0))]) hx hb dX9_comes_124 hl (k := 3) rfl ex47.symm (by decide) rfl (fun ls hl => ?_)
            have f49 : (dp f_code (f_ruleFrom (i_bank.toInt).toNat).toInt (x47.toInt - (f_ruleFrom (i_bank.toInt).toNat).toInt).toNat) = (dp f_code (f_ruleFrom (i_bank.toInt).toNat).toInt (y12_2.toInt + 1 - (f_ruleFrom (i_bank.toInt).toNat).toInt).toNat) := by rw [f48]
            refine lv_goto (tgt := 12) hx hb dX9_comes_127 (by decide) ?_
            exact ih12 x45 x47 J44 H43 _ _ (ob_953 g12_0 g12_1 g12_4 f46) (ob_954 g12_4 f9.2.2.2.1 f46) (ob_149 g12_2 f48) (ob_943 hp4.2.2.1 f7 f48) (ob_955 g12_4 f8 f36 f37 f49 f46) (ob_151 g12_5 f48) (ob_943 hp4.2.2.1 f7 f48) hP hD hS (lv_sub hl [3, 1, 0] rfl) (ob_945 hM12 f48)
        · skip
          have f50 : (f_code (y12_2.toInt).toNat).toInt = 126 := qi_eq c_10 rfl zc_126
          have f51 : (f_code (y12_2.toInt).toNat).toInt = (126 : Int) := (ob_956 f50)
          have f52 : (dp f_code (f_ruleFrom (i_bank.toInt).toNat).toInt (y12_2.toInt + 1 - (f_ruleFrom (i_bank.toInt).toNat).toInt).toNat) = (dp f_code (f_ruleFrom (i_bank.toInt).toNat).toInt (y12_2.toInt - (f_ruleFrom (i_bank.toInt).toNat).toInt).toNat) := (ob_957 f8 f50)
          have f53 : (1 : Int) ≤ (dp f_code (f_ruleFrom (i_bank.toInt).toNat).toInt (y12_2.toInt - (f_ruleFrom (i_bank.toInt).toNat).toInt).toNat) := (ob_958 f8 f9.1 f52)
          have f54 : ((f_code (y12_2.toInt).toNat).toInt ≤ (122 : Int)) → ((dp f_code (f_ruleFrom (i_bank.toInt).toNat).toInt (y12_2.toInt - (f_ruleFrom (i_bank.toInt).toNat).toInt).toNat) ≤ (59 : Int)) := (ob_959 f50)
          refine lv_aload_n hx hb dX9_comes_38 rfl (lv_at hl 1 rfl) ?_
          refine gM_X9_85_0 hx hb hG hown hK hP dX9_comes_39 ?_
          refine lv_iload_n hx hb dX9_comes_42 rfl (lv_at hl 2 rfl) ?_
          refine lv_iconst (v := 1) hx hb dX9_comes_43 (by decide) ?_
          refine lv_isub hx hb dX9_comes_44 ?_
          refine lv_topi (fun x55 ex55 => ?_)
          have f56 : x55.toInt = y12_1.toInt + (-1) := (ob_346 (qi_sub ex55 rfl zc_1 (ob_960 g12_0 g12_1 g12_4) (ob_961 g12_0 g12_1 g12_4)))
          refine lv_aload_n hx hb dX9_comes_45 rfl (lv_at hl 1 rfl) ?_
          refine gM_X9_85_0 hx hb hG hown hK hP dX9_comes_46 ?_
          refine lv_iload_n hx hb dX9_comes_49 rfl (lv_at hl 2 rfl) ?_
          refine lv_iconst (v := 1) hx hb dX9_comes_50 (by decide) ?_
          refine lv_isub hx hb dX9_comes_51 ?_
          refine lv_topi (fun x57 ex57 => ?_)
          have f58 : x57.toInt = y12_1.toInt + (-1) := (ob_346 (qi_sub ex57 rfl zc_1 (ob_960 g12_0 g12_1 g12_4) (ob_961 g12_0 g12_1 g12_4)))
          refine ldM_24 (mm := y12_1.toInt + (-1)) hx hb hK hP f58 (ob_962 g12_4 f53) (ob_939 g12_4 f9.2.2.2.1) dX9_comes_52 (fun x59 => ?_)
          refine lv_if_ne (tgt := 60) hx hb dX9_comes_53 (by decide) (fun c_60 => ?_) (fun c_60 => ?_)
          · skip
            have f61 : x59.toInt ≠ 0 := qi_ne c_60 rfl zc_0
            refine lv_iconst (v := 0) hx hb dX9_comes_60 (by decide) ?_
            refine stM_24 (mm := y12_1.toInt + (-1)) hx hb hK hP hD hS f56 (ob_962 g12_4 f53) (ob_939 g12_4 f9.2.2.2.1) dX9_comes_61 (fun J63 H62 locs hP hD hS => ?_)
            refine lv_goto (tgt := 124) hx hb dX9_comes_62 (by decide) ?_
            obtain ⟨x64, ex64⟩ : ∃ y : Int32, y = y12_2 + Int32.ofInt 1 := ⟨_, rfl⟩
            have f65 : x64.toInt = y12_2.toInt + 1 := (ob_142 (qi_add ex64 rfl (by decide) (ob_140 g12_2) (ob_940 g12_3)))
            refine lv_iinc (v := x64) (lv' := [(2, .int x64), (3, .int (f_code (y12_2.toInt).toNat)), (0, .ref (r 0)), (1, .int y12_1)]) hx hb dX9_comes_124 hl (k := 3) rfl ex64.symm (by decide) rfl (fun ls hl => ?_)
            have f66 : (dp f_code (f_ruleFrom (i_bank.toInt).toNat).toInt (x64.toInt - (f_ruleFrom (i_bank.toInt).toNat).toInt).toNat) = (dp f_code (f_ruleFrom (i_bank.toInt).toNat).toInt (y12_2.toInt + 1 - (f_ruleFrom (i_bank.toInt).toNat).toInt).toNat) := by rw [f65]
            refine lv_goto (tgt := 12) hx hb dX9_comes_127 (by decide) ?_
            exact ih12 y12_1 x64 J63 H62 _ _ (ob_963 g12_0 g12_1 g12_4) (ob_964 g12_0 g12_1 g12_4) (ob_149 g12_2 f65) (ob_943 hp4.2.2.1 f7 f65) (ob_965 g12_4 f52 f66) (ob_151 g12_5 f65) (ob_943 hp4.2.2.1 f7 f65) hP hD hS (lv_sub hl [2, 3, 0] rfl) (ob_945 hM12 f65)
          · skip
            have f67 : x59.toInt = 0 := qi_eq c_60 rfl zc_0
            refine lv_iconst (v := 1) hx hb dX9_comes_56 (by decide) ?_
            refine lv_goto (tgt := 61) hx hb dX9_comes_57 (by decide) ?_
            refine stM_24 (mm := y12_1.toInt + (-1)) hx hb hK hP hD hS f56 (ob_962 g12_4 f53) (ob_939 g12_4 f9.2.2.2.1) dX9_comes_61 (fun J69 H68 locs hP hD hS => ?_)
            refine lv_goto (tgt := 124) hx hb dX9_comes_62 (by decide) ?_
            obtain ⟨x70, ex70⟩ : ∃ y : Int32, y = y12_2 + Int32.ofInt 1 := ⟨_, rfl⟩
            have f71 : x70.toInt = y12_2.toInt + 1 := (ob_142 (qi_add ex70 rfl (by decide) (ob_140 g12_2) (ob_940 g12_3)))
            refine lv_iinc (v := x70) (lv' := [(2, .int x70), (3, .int (f_code (y12_2.toInt).toNat)), (0, .ref (r 0)), (1, .int y12_1)]) hx hb dX9_comes_124 hl (k := 3) rfl ex70.symm (by decide) rfl (fun ls hl => ?_)
            have f72 : (dp f_code (f_ruleFrom (i_bank.toInt).toNat).toInt (x70.toInt - (f_ruleFrom (i_bank.toInt).toNat).toInt).toNat) = (dp f_code (f_ruleFrom (i_bank.toInt).toNat).toInt (y12_2.toInt + 1 - (f_ruleFrom (i_bank.toInt).toNat).toInt).toNat) := by rw [f71]
            refine lv_goto (tgt := 12) hx hb dX9_comes_127 (by decide) ?_
            exact ih12 y12_1 x70 J69 H68 _ _ (ob_963 g12_0 g12_1 g12_4) (ob_964 g12_0 g12_1 g12_4) (ob_149 g12_2 f71) (ob_943 hp4.2.2.1 f7 f71) (ob_965 g12_4 f52 f72) (ob_151 g12_5 f71) (ob_943 hp4.2.2.1 f7 f71) hP hD hS (lv_sub hl [2, 3, 0] rfl) (ob_945 hM12 f71)
  exact L12 (-1 * (f_ruleFrom (i_bank.toInt).toNat).toInt + 1120 + 1).toNat 0 (f_ruleFrom (i_bank.toInt).toNat) J s.heap _ _ (ob_966 zc_0) (ob_967 zc_0) (ob_968 hp4.1 hp4.2.1) (ob_969 hp4.1 hp4.2.1) (ob_0 f3 zc_0) (ob_146) (ob_969 hp4.1 hp4.2.1) hP hD hS (lv_sub hl [2, 1, 0] rfl) (mlt (ob_970 hp4.1 hp4.2.1))
set_option maxHeartbeats 4000000 in
set_option maxRecDepth 100000 in
theorem kX9_fault (l : Launch) (dC : Nat → ClassId) (dI : Nat → Nat → Nat) (r : Nat → Nat) (ct : Nat → ClassId) (i_taped i_size i_faultKind i_at i_end i_token i_number i_bank i_rb i_codes i_within i_piled i_unitsInRule i_askHouse i_askTune i_acts i_undone i_laid i_knowns i_time : Int32) (f_text f_tunes f_houses f_hums f_told f_many f_ruleFrom f_ruleTo f_code f_eWhat f_eSign f_all f_kept f_was f_sTune f_boxAll : Nat → Int32) (J : Nat → Nat → Int32) (L : Nat → Nat → Int64) (p0 : Int32) (sz : Nat) (hI : (IM i_taped i_size i_faultKind i_at i_end i_bank i_rb i_acts i_undone i_laid i_knowns i_time f_tunes f_houses f_hums f_told f_many f_ruleFrom f_ruleTo f_code f_all f_kept f_was f_sTune f_boxAll)) : Met l yX9_fault (.code yX9_fault cX9_fault 2 (some .int) :: GW) { frames := 2, cells := 0, slots := 0, locals := 100 } (va_Pc [.ref (r 0), .int p0] (pR (dC, dI) (WM r ct i_taped i_size i_faultKind i_at i_end i_token i_number i_bank i_rb i_codes i_within i_piled i_unitsInRule i_askHouse i_askTune i_acts i_undone i_laid i_knowns i_time f_text f_tunes f_houses f_hums f_told f_many f_ruleFrom f_ruleTo f_code f_eWhat f_eSign f_all f_kept f_was f_sTune f_boxAll J L) (TM ct) sz)) (va_Qi (fun (r0 : Int32) (u : Int32) => r0 = u) (fun (u : Int32) (t : State) => True) (fun q => sz ≤ q)) 0 0 (fun q => sz ≤ q) := by
  refine Met.ofW (cc := cX9_fault) (maxL := 2) (ret := (some .int)) (by decide) rfl ?_
  intro p e s m args below meth c0 s₁ B hml hv
  obtain ⟨rfl, hsz, hP, hK⟩ := hv
  have hx := B.exec
  have hb := B.bytes
  have hr := B.returns
  have hts := atoms_spec (ws := .code yX9_fault cX9_fault 2 (some .int) :: GW) B.pre
  have hG : ∀ w ∈ GW, w.before _ s = true := fun w h => hts w (List.mem_cons_of_mem _ h)
  have hown : s.vm.findClass RX9 = some m.cls := findClass_of_methodNamed B.named
  subst hsz
  have hS : va_S (fun q => s.heap.size ≤ q) s.heap s.heap [] := va_S.rf
  have hP : va_P (dC, dI) vwCl (WM r ct i_taped i_size i_faultKind i_at i_end i_token i_number i_bank i_rb i_codes i_within i_piled i_unitsInRule i_askHouse i_askTune i_acts i_undone i_laid i_knowns i_time f_text f_tunes f_houses f_hums f_told f_many f_ruleFrom f_ruleTo f_code f_eWhat f_eSign f_all f_kept f_was f_sTune f_boxAll J L) s.heap := hP
  have hl := lv_entry ([.ref (r 0), .int p0]) (n := 2) (Nat.le_of_ble_eq_true rfl)
  rw [lg_entry_eq]
  generalize (lg_sl ([.ref (r 0), .int p0]) ++ List.replicate (2 - (lg_sl ([.ref (r 0), .int p0])).length) Slot.unset).toArray = ls at hl ⊢
  have hl : lv_has ls 2 [(0, .ref (r 0)), (1, .int p0)] := hl
  refine nameQ (fun Q hQ => ?_)
  obtain ⟨ie0, ie1, ie2, ie3, ie4, ie5, ie6, ie7, ie8, ie9, ie10, ie11, ie12, ie13, ie14, ie15, ie16, ie17, ie18, ie19, ie20, ie21, ie22, ie23, ie24, ie25, ie26, ie27, ie28, ie29, ie30, ie31, ie32⟩ := id hI
  have f1 : 0 ≤ (f_tunes (i_bank.toInt).toNat).toInt ∧ (f_tunes (i_bank.toInt).toNat).toInt ≤ 5 := ie21 (i_bank.toInt)
  have f2 : 0 ≤ (f_houses (i_bank.toInt).toNat).toInt ∧ (f_houses (i_bank.toInt).toNat).toInt ≤ 4 := ie22 (i_bank.toInt)
  refine lv_iload_n hx hb dX9_fault_0 rfl (lv_at hl 1 rfl) ?_
  refine lv_if_ne (tgt := 11) hx hb dX9_fault_1 (by decide) (fun c_3 => ?_) (fun c_3 => ?_)
  · skip
    have f4 : p0.toInt ≠ 0 := qi_ne c_3 rfl zc_0
    refine lv_iload_n hx hb dX9_fault_11 rfl (lv_at hl 1 rfl) ?_
    refine lv_iconst (v := 1) hx hb dX9_fault_12 (by decide) ?_
    refine lv_icmp_ne (tgt := 23) hx hb dX9_fault_13 (by decide) (fun c_5 => ?_) (fun c_5 => ?_)
    · skip
      have f6 : p0.toInt ≠ 1 := qi_ne c_5 rfl zc_1
      refine lv_iconst (v := (-1)) hx hb dX9_fault_23 (by decide) ?_
      rw [hQ]
      exact W.iret (v := (-1)) hx hb hr (fun t ht hW => ⟨⟨(-1), (-1), rfl, rfl, trivial⟩, hS.F ht⟩) hS.2.2 dX9_fault_24
    · skip
      have f7 : p0.toInt = 1 := qi_eq c_5 rfl zc_1
      have f8 : (1 : Int) ≤ p0.toInt := (ob_218 f7)
      refine lv_aload_n hx hb dX9_fault_16 rfl (lv_at hl 0 rfl) ?_
      refine gM_X9_16_0 hx hb hG hown hK hP dX9_fault_17 (fun x9 => ?_)
      refine lv_goto (tgt := 24) hx hb dX9_fault_20 (by decide) ?_
      rw [hQ]
      exact W.iret (v := x9) hx hb hr (fun t ht hW => ⟨⟨x9, x9, rfl, rfl, trivial⟩, hS.F ht⟩) hS.2.2 dX9_fault_24
  · skip
    have f10 : p0.toInt = 0 := qi_eq c_3 rfl zc_0
    refine lv_aload_n hx hb dX9_fault_4 rfl (lv_at hl 0 rfl) ?_
    refine gM_X9_140_0 hx hb hG hown hK hP dX9_fault_5 ?_
    refine lv_goto (tgt := 24) hx hb dX9_fault_8 (by decide) ?_
    rw [hQ]
    exact W.iret (v := i_faultKind) hx hb hr (fun t ht hW => ⟨⟨i_faultKind, i_faultKind, rfl, rfl, trivial⟩, hS.F ht⟩) hS.2.2 dX9_fault_24
set_option maxHeartbeats 4000000 in
set_option maxRecDepth 100000 in
theorem kX9_isIn (l : Launch) (dC : Nat → ClassId) (dI : Nat → Nat → Nat) (p0 p1 p2 : Int32) (sz : Nat) : Met l yX9_isIn (.code yX9_isIn cX9_isIn 3 (some .boolean) :: GW) { frames := 2, cells := 0, slots := 0, locals := 100 } (va_Pc [.int p0, .int p1, .int p2] (pR (dC, dI) [] [] sz)) (va_Qi (fun (r0 : Int32) (u : Int32) => r0 = u) (fun (u : Int32) (t : State) => (((p0.toInt + 1 ≤ p1.toInt) ∧ (u.toInt = (0 : Int))) ∨ ((p1.toInt ≤ p0.toInt) ∧ (p2.toInt + 1 ≤ p0.toInt) ∧ (u.toInt = (0 : Int))) ∨ ((p1.toInt ≤ p0.toInt) ∧ (p0.toInt ≤ p2.toInt) ∧ (u.toInt = (1 : Int)))) ∧ ((0 : Int) ≤ u.toInt) ∧ (u.toInt ≤ (1 : Int))) (fun q => sz ≤ q)) 0 0 (fun q => sz ≤ q) := by
  refine Met.ofW (cc := cX9_isIn) (maxL := 3) (ret := (some .boolean)) (by decide) rfl ?_
  intro p e s m args below meth c0 s₁ B hml hv
  obtain ⟨rfl, hsz, hP, hK⟩ := hv
  have hx := B.exec
  have hb := B.bytes
  have hr := B.returns
  have hts := atoms_spec (ws := .code yX9_isIn cX9_isIn 3 (some .boolean) :: GW) B.pre
  have hG : ∀ w ∈ GW, w.before _ s = true := fun w h => hts w (List.mem_cons_of_mem _ h)
  have hown : s.vm.findClass RX9 = some m.cls := findClass_of_methodNamed B.named
  subst hsz
  have hS : va_S (fun q => s.heap.size ≤ q) s.heap s.heap [] := va_S.rf
  have hP : va_P (dC, dI) vwCl [] s.heap := hP
  have hl := lv_entry ([.int p0, .int p1, .int p2]) (n := 3) (Nat.le_of_ble_eq_true rfl)
  rw [lg_entry_eq]
  generalize (lg_sl ([.int p0, .int p1, .int p2]) ++ List.replicate (3 - (lg_sl ([.int p0, .int p1, .int p2])).length) Slot.unset).toArray = ls at hl ⊢
  have hl : lv_has ls 3 [(0, .int p0), (1, .int p1), (2, .int p2)] := hl
  refine nameQ (fun Q hQ => ?_)
  refine lv_iload_n hx hb dX9_isIn_0 rfl (lv_at hl 0 rfl) ?_
  refine lv_iload_n hx hb dX9_isIn_1 rfl (lv_at hl 1 rfl) ?_
  refine lv_icmp_lt (tgt := 14) hx hb dX9_isIn_2 (by decide) (fun c_1 => ?_) (fun c_1 => ?_)
  · skip
    have f2 : p0.toInt < p1.toInt := qi_lt c_1 rfl rfl
    refine lv_iconst (v := 0) hx hb dX9_isIn_14 (by decide) ?_
    rw [hQ]
    exact W.zret (v := 0) hx hb hr (by decide) (fun t ht hW => ⟨⟨0, 0, rfl, rfl, ⟨(ob_971 f2 zc_0), (ob_1 zc_0), (ob_11 zc_0)⟩⟩, hS.F ht⟩) hS.2.2 dX9_isIn_15
  · skip
    have f3 : p1.toInt ≤ p0.toInt := qi_nlt c_1 rfl rfl
    refine lv_iload_n hx hb dX9_isIn_5 rfl (lv_at hl 0 rfl) ?_
    refine lv_iload_n hx hb dX9_isIn_6 rfl (lv_at hl 2 rfl) ?_
    refine lv_icmp_gt (tgt := 14) hx hb dX9_isIn_7 (by decide) (fun c_4 => ?_) (fun c_4 => ?_)
    · skip
      have f5 : p2.toInt < p0.toInt := qi_lt c_4 rfl rfl
      refine lv_iconst (v := 0) hx hb dX9_isIn_14 (by decide) ?_
      rw [hQ]
      exact W.zret (v := 0) hx hb hr (by decide) (fun t ht hW => ⟨⟨0, 0, rfl, rfl, ⟨(ob_972 f3 f5 zc_0), (ob_1 zc_0), (ob_11 zc_0)⟩⟩, hS.F ht⟩) hS.2.2 dX9_isIn_15
    · skip
      have f6 : p0.toInt ≤ p2.toInt := qi_nlt c_4 rfl rfl
      refine lv_iconst (v := 1) hx hb dX9_isIn_10 (by decide) ?_
      refine lv_goto (tgt := 15) hx hb dX9_isIn_11 (by decide) ?_
      rw [hQ]
      exact W.zret (v := 1) hx hb hr (by decide) (fun t ht hW => ⟨⟨1, 1, rfl, rfl, ⟨(ob_973 f3 f6 zc_1), (ob_14 zc_1), (ob_15 zc_1)⟩⟩, hS.F ht⟩) hS.2.2 dX9_isIn_15
set_option maxHeartbeats 4000000 in
set_option maxRecDepth 100000 in
theorem kX9_absolute (l : Launch) (dC : Nat → ClassId) (dI : Nat → Nat → Nat) (p0 : Int32) (sz : Nat) : Met l yX9_absolute (.code yX9_absolute cX9_absolute 1 (some .int) :: GW) { frames := 2, cells := 0, slots := 0, locals := 100 } (va_Pc [.int p0] (pR (dC, dI) [] [] sz)) (va_Qi (fun (r0 : Int32) (u : Int32) => r0 = u) (fun (u : Int32) (t : State) => ((((0 : Int) ≤ p0.toInt) ∧ (u.toInt = p0.toInt)) ∨ ((p0.toInt + 1 ≤ (0 : Int))))) (fun q => sz ≤ q)) 0 0 (fun q => sz ≤ q) := by
  refine Met.ofW (cc := cX9_absolute) (maxL := 1) (ret := (some .int)) (by decide) rfl ?_
  intro p e s m args below meth c0 s₁ B hml hv
  obtain ⟨rfl, hsz, hP, hK⟩ := hv
  have hx := B.exec
  have hb := B.bytes
  have hr := B.returns
  have hts := atoms_spec (ws := .code yX9_absolute cX9_absolute 1 (some .int) :: GW) B.pre
  have hG : ∀ w ∈ GW, w.before _ s = true := fun w h => hts w (List.mem_cons_of_mem _ h)
  have hown : s.vm.findClass RX9 = some m.cls := findClass_of_methodNamed B.named
  subst hsz
  have hS : va_S (fun q => s.heap.size ≤ q) s.heap s.heap [] := va_S.rf
  have hP : va_P (dC, dI) vwCl [] s.heap := hP
  have hl := lv_entry ([.int p0]) (n := 1) (Nat.le_of_ble_eq_true rfl)
  rw [lg_entry_eq]
  generalize (lg_sl ([.int p0]) ++ List.replicate (1 - (lg_sl ([.int p0])).length) Slot.unset).toArray = ls at hl ⊢
  have hl : lv_has ls 1 [(0, .int p0)] := hl
  refine nameQ (fun Q hQ => ?_)
  refine lv_iload_n hx hb dX9_absolute_0 rfl (lv_at hl 0 rfl) ?_
  refine lv_if_ge (tgt := 9) hx hb dX9_absolute_1 (by decide) (fun c_1 => ?_) (fun c_1 => ?_)
  · skip
    have f2 : 0 ≤ p0.toInt := qi_le c_1 zc_0 rfl
    refine lv_iload_n hx hb dX9_absolute_9 rfl (lv_at hl 0 rfl) ?_
    rw [hQ]
    exact W.iret (v := p0) hx hb hr (fun t ht hW => ⟨⟨p0, p0, rfl, rfl, (ob_974 f2)⟩, hS.F ht⟩) hS.2.2 dX9_absolute_10
  · skip
    have f3 : p0.toInt < 0 := qi_nle c_1 zc_0 rfl
    refine lv_iload_n hx hb dX9_absolute_4 rfl (lv_at hl 0 rfl) ?_
    refine lv_ineg hx hb dX9_absolute_5 ?_
    refine lv_topi (fun x4 ex4 => ?_)
    refine lv_goto (tgt := 10) hx hb dX9_absolute_6 (by decide) ?_
    rw [hQ]
    exact W.iret (v := x4) hx hb hr (fun t ht hW => ⟨⟨x4, x4, rfl, rfl, (ob_975 f3)⟩, hS.F ht⟩) hS.2.2 dX9_absolute_10
set_option maxHeartbeats 4000000 in
set_option maxRecDepth 100000 in
theorem kX9_bitsOf (l : Launch) (dC : Nat → ClassId) (dI : Nat → Nat → Nat) (p0 : Int32) (sz : Nat) : Met l yX9_bitsOf (.code yX9_bitsOf cX9_bitsOf 3 (some .int) :: GW) { frames := 2, cells := 0, slots := 0, locals := 100 } (va_Pc [.int p0] (pR (dC, dI) [] [] sz)) (va_Qi (fun (r0 : Int32) (u : Int32) => r0 = u) (fun (u : Int32) (t : State) => True) (fun q => sz ≤ q)) 0 0 (fun q => sz ≤ q) := by
  refine Met.ofW (cc := cX9_bitsOf) (maxL := 3) (ret := (some .int)) (by decide) rfl ?_
  intro p e s m args below meth c0 s₁ B hml hv
  obtain ⟨rfl, hsz, hP, hK⟩ := hv
  have hx := B.exec
  have hb := B.bytes
  have hr := B.returns
  have hts := atoms_spec (ws := .code yX9_bitsOf cX9_bitsOf 3 (some .int) :: GW) B.pre
  have hG : ∀ w ∈ GW, w.before _ s = true := fun w h => hts w (List.mem_cons_of_mem _ h)
  have hown : s.vm.findClass RX9 = some m.cls := findClass_of_methodNamed B.named
  subst hsz
  have hS : va_S (fun q => s.heap.size ≤ q) s.heap s.heap [] := va_S.rf
  have hP : va_P (dC, dI) vwCl [] s.heap := hP
  have hl := lv_entry ([.int p0]) (n := 3) (Nat.le_of_ble_eq_true rfl)
  rw [lg_entry_eq]
  generalize (lg_sl ([.int p0]) ++ List.replicate (3 - (lg_sl ([.int p0])).length) Slot.unset).toArray = ls at hl ⊢
  have hl : lv_has ls 3 [(0, .int p0)] := hl
  refine nameQ (fun Q hQ => ?_)
  refine lv_iconst (v := 0) hx hb dX9_bitsOf_0 (by decide) ?_
  refine lv_istore_n (lv' := [(1, .int 0), (0, .int p0)]) hx hb dX9_bitsOf_1 rfl hl (by decide) rfl (fun ls hl => ?_)
  refine lv_iload_n hx hb dX9_bitsOf_2 rfl (lv_at hl 1 rfl) ?_
  have f1 : 0 ≤ (p0.toUInt32.toNat : Int) := nn_nat _
  refine lv_istore_n (lv' := [(2, .int p0), (1, .int 0), (0, .int p0)]) hx hb dX9_bitsOf_3 rfl hl (by decide) rfl (fun ls hl => ?_)
  have L4 : ∀ (N4 : Nat) (y4_1 y4_2 : Int32) (H4 : Heap) (locs : List Loc) (ls : Array Slot) (g4_0 : (0 : Int) ≤ (y4_2.toUInt32.toNat : Int)) (hP : va_P (dC, dI) vwCl [] H4) (hS : va_S (fun q => s.heap.size ≤ q) s.heap H4 locs) (hl : lv_has ls 3 [(0, .int p0), (1, .int y4_1), (2, .int y4_2)]) (hM : (y4_2.toUInt32.toNat : Int) < (N4 : Int)), W p l e { frames := 2, cells := 0, slots := 0, locals := 100 } s m ([.int p0] : List Value).toArray below meth c0 H4 locs 0 0 Q (F0 m 4 ls []) := by
    intro N4
    induction N4 with
    | zero =>
      intro y4_1 y4_2 H4 locs ls g4_0 hP hS hl hM
      exact ((ob_478 hM g4_0)).elim
    | succ N4 ih4 =>
      intro y4_1 y4_2 H4 locs ls g4_0 hP hS hl hM
      have hM4 := msucc hM
      refine lv_iload_n hx hb dX9_bitsOf_4 rfl (lv_at hl 2 rfl) ?_
      refine lv_if_eq (tgt := 20) hx hb dX9_bitsOf_5 (by decide) (fun c_2 => ?_) (fun c_2 => ?_)
      · skip
        have f3 : y4_2.toInt = 0 := qi_eq c_2 rfl zc_0
        refine lv_iload_n hx hb dX9_bitsOf_20 rfl (lv_at hl 1 rfl) ?_
        rw [hQ]
        exact W.iret (v := y4_1) hx hb hr (fun t ht hW => ⟨⟨y4_1, y4_1, rfl, rfl, trivial⟩, hS.F ht⟩) hS.2.2 dX9_bitsOf_21
      · skip
        have f4 : y4_2.toInt ≠ 0 := qi_ne c_2 rfl zc_0
        obtain ⟨x5, ex5⟩ : ∃ y : Int32, y = y4_1 + Int32.ofInt 1 := ⟨_, rfl⟩
        have f6 : (-2147483648) ≤ y4_1.toInt ∧ y4_1.toInt ≤ 2147483647 := i32_rg _
        refine lv_iinc (v := x5) (lv' := [(1, .int x5), (0, .int p0), (2, .int y4_2)]) hx hb dX9_bitsOf_8 hl (k := 1) rfl ex5.symm (by decide) rfl (fun ls hl => ?_)
        refine lv_iload_n hx hb dX9_bitsOf_11 rfl (lv_at hl 2 rfl) ?_
        refine lv_iload_n hx hb dX9_bitsOf_12 rfl (lv_at hl 2 rfl) ?_
        refine lv_iconst (v := 1) hx hb dX9_bitsOf_13 (by decide) ?_
        refine lv_isub hx hb dX9_bitsOf_14 ?_
        refine lv_topi (fun x7 ex7 => ?_)
        refine lv_iand hx hb dX9_bitsOf_15 ?_
        refine lv_topi (fun x8 ex8 => ?_)
        have f9 : 0 ≤ (x8.toUInt32.toNat : Int) := nn_nat _
        have f10 : (x8.toUInt32.toNat : Int) < (y4_2.toUInt32.toNat : Int) := and_dec ex8 ex7 f4
        refine lv_istore_n (lv' := [(2, .int x8), (1, .int x5), (0, .int p0)]) hx hb dX9_bitsOf_16 rfl hl (by decide) rfl (fun ls hl => ?_)
        refine lv_goto (tgt := 4) hx hb dX9_bitsOf_17 (by decide) ?_
        exact ih4 x5 x8 H4 _ _ (ob_976 f9 f10) hP hS (lv_sub hl [2, 1, 0] rfl) (ob_977 hM4 f9 f10)
  exact L4 ((p0.toUInt32.toNat : Int) + 1).toNat 0 p0 s.heap _ _ (ob_978 f1) hP hS (lv_sub hl [2, 1, 0] rfl) (mlt (ob_979 f1))
set_option maxHeartbeats 4000000 in
set_option maxRecDepth 100000 in
theorem kX9_divisor (l : Launch) (dC : Nat → ClassId) (dI : Nat → Nat → Nat) (p0 p1 : Int32) (sz : Nat) (hp0 : (1 : Int) ≤ p0.toInt) (hp1 : (0 : Int) ≤ p1.toInt) : Met l yX9_divisor (.code yX9_divisor cX9_divisor 5 (some .int) :: GW) { frames := 2, cells := 0, slots := 0, locals := 100 } (va_Pc [.int p0, .int p1] (pR (dC, dI) [] [] sz)) (va_Qi (fun (r0 : Int32) (u : Int32) => r0 = u) (fun (u : Int32) (t : State) => ((1 : Int) ≤ u.toInt) ∧ ((1 : Int) ≤ u.toInt)) (fun q => sz ≤ q)) 0 0 (fun q => sz ≤ q) := by
  refine Met.ofW (cc := cX9_divisor) (maxL := 5) (ret := (some .int)) (by decide) rfl ?_
  intro p e s m args below meth c0 s₁ B hml hv
  obtain ⟨rfl, hsz, hP, hK⟩ := hv
  have hx := B.exec
  have hb := B.bytes
  have hr := B.returns
  have hts := atoms_spec (ws := .code yX9_divisor cX9_divisor 5 (some .int) :: GW) B.pre
  have hG : ∀ w ∈ GW, w.before _ s = true := fun w h => hts w (List.mem_cons_of_mem _ h)
  have hown : s.vm.findClass RX9 = some m.cls := findClass_of_methodNamed B.named
  subst hsz
  have hS : va_S (fun q => s.heap.size ≤ q) s.heap s.heap [] := va_S.rf
  have hP : va_P (dC, dI) vwCl [] s.heap := hP
  have hl := lv_entry ([.int p0, .int p1]) (n := 5) (Nat.le_of_ble_eq_true rfl)
  rw [lg_entry_eq]
  generalize (lg_sl ([.int p0, .int p1]) ++ List.replicate (5 - (lg_sl ([.int p0, .int p1])).length) Slot.unset).toArray = ls at hl ⊢
  have hl : lv_has ls 5 [(0, .int p0), (1, .int p1)] := hl
  refine nameQ (fun Q hQ => ?_)
  refine lv_iload_n hx hb dX9_divisor_0 rfl (lv_at hl 0 rfl) ?_
  refine lv_istore_n (lv' := [(2, .int p0), (0, .int p0), (1, .int p1)]) hx hb dX9_divisor_1 rfl hl (by decide) rfl (fun ls hl => ?_)
  refine lv_iload_n hx hb dX9_divisor_2 rfl (lv_at hl 2 rfl) ?_
  refine lv_istore_n (lv' := [(3, .int p1), (2, .int p0), (0, .int p0), (1, .int p1)]) hx hb dX9_divisor_3 rfl hl (by decide) rfl (fun ls hl => ?_)
  have L4 : ∀ (N4 : Nat) (y4_2 y4_3 : Int32) (H4 : Heap) (locs : List Loc) (ls : Array Slot) (g4_0 : (1 : Int) ≤ y4_2.toInt) (g4_1 : (0 : Int) ≤ y4_3.toInt) (hP : va_P (dC, dI) vwCl [] H4) (hS : va_S (fun q => s.heap.size ≤ q) s.heap H4 locs) (hl : lv_has ls 5 [(0, .int p0), (1, .int p1), (2, .int y4_2), (3, .int y4_3)]) (hM : y4_3.toInt < (N4 : Int)), W p l e { frames := 2, cells := 0, slots := 0, locals := 100 } s m ([.int p0, .int p1] : List Value).toArray below meth c0 H4 locs 0 0 Q (F0 m 4 ls []) := by
    intro N4
    induction N4 with
    | zero =>
      intro y4_2 y4_3 H4 locs ls g4_0 g4_1 hP hS hl hM
      exact ((ob_478 hM g4_1)).elim
    | succ N4 ih4 =>
      intro y4_2 y4_3 H4 locs ls g4_0 g4_1 hP hS hl hM
      have hM4 := msucc hM
      refine lv_iload_n hx hb dX9_divisor_4 rfl (lv_at hl 3 rfl) ?_
      refine lv_if_le (tgt := 21) hx hb dX9_divisor_5 (by decide) (fun c_1 => ?_) (fun c_1 => ?_)
      · skip
        have f2 : y4_3.toInt ≤ 0 := qi_le c_1 rfl zc_0
        refine lv_iload_n hx hb dX9_divisor_21 rfl (lv_at hl 2 rfl) ?_
        rw [hQ]
        exact W.iret (v := y4_2) hx hb hr (fun t ht hW => ⟨⟨y4_2, y4_2, rfl, rfl, ⟨(ob_19 g4_0), (ob_19 g4_0)⟩⟩, hS.F ht⟩) hS.2.2 dX9_divisor_22
      · skip
        have f3 : 0 < y4_3.toInt := qi_nle c_1 rfl zc_0
        refine lv_iload_n hx hb dX9_divisor_8 rfl (lv_at hl 2 rfl) ?_
        refine lv_iload_n hx hb dX9_divisor_9 rfl (lv_at hl 3 rfl) ?_
        refine lv_irem hx hb dX9_divisor_10 (qi_nz (ob_980 g4_1 hM4 f3)) ?_
        refine lv_topi (fun x4 ex4 => ?_)
        have f5 : 0 ≤ x4.toInt ∧ x4.toInt < y4_3.toInt ∧ x4.toInt ≤ y4_2.toInt := qi_rem ex4 rfl rfl (ob_981 g4_0) (ob_980 g4_1 hM4 f3)
        have f6 : x4.toInt = (y4_2.toInt % y4_3.toInt) := remnn ex4 rfl rfl (ob_982 g4_0 f5) (ob_614 f3)
        refine lv_istore (lv' := [(4, .int x4), (0, .int p0), (1, .int p1), (2, .int y4_2), (3, .int y4_3)]) hx hb dX9_divisor_11 hl (by decide) rfl (fun ls hl => ?_)
        refine lv_iload_n hx hb dX9_divisor_13 rfl (lv_at hl 4 rfl) ?_
        refine lv_istore_n (lv' := [(2, .int y4_3), (4, .int x4), (0, .int p0), (1, .int p1), (3, .int y4_3)]) hx hb dX9_divisor_14 rfl hl (by decide) rfl (fun ls hl => ?_)
        refine lv_iload hx hb dX9_divisor_15 (lv_at hl 1 rfl) ?_
        refine lv_istore_n (lv' := [(3, .int x4), (2, .int y4_3), (4, .int x4), (0, .int p0), (1, .int p1)]) hx hb dX9_divisor_17 rfl hl (by decide) rfl (fun ls hl => ?_)
        refine lv_goto (tgt := 4) hx hb dX9_divisor_18 (by decide) ?_
        exact ih4 y4_3 x4 H4 _ _ (ob_604 f3) (ob_983 f5 f6) hP hS (lv_sub hl [3, 4, 1, 0] rfl) (ob_984 hM4 f5 f6)
  exact L4 (p1.toInt + 1).toNat p0 p1 s.heap _ _ (ob_19 hp0) (ob_139 hp1) hP hS (lv_sub hl [2, 3, 1, 0] rfl) (mlt (ob_350 hp1))
set_option maxHeartbeats 4000000 in
set_option maxRecDepth 100000 in
theorem kX9_power (l : Launch) (dC : Nat → ClassId) (dI : Nat → Nat → Nat) (p0 p1 : Int32) (sz : Nat) (hp0 : (0 : Int) ≤ p0.toInt) (hp1 : p0.toInt ≤ (100 : Int)) (hp2 : (0 : Int) ≤ p1.toInt) (hp3 : p1.toInt ≤ (4 : Int)) : Met l yX9_power (.code yX9_power cX9_power 4 (some .int) :: GW) { frames := 2, cells := 0, slots := 0, locals := 100 } (va_Pc [.int p0, .int p1] (pR (dC, dI) [] [] sz)) (va_Qi (fun (r0 : Int32) (u : Int32) => r0 = u) (fun (u : Int32) (t : State) => (u.toInt = (pw p0.toInt (p1.toInt).toNat)) ∧ ((0 : Int) ≤ (pw p0.toInt (p1.toInt).toNat)) ∧ ((pw p0.toInt (p1.toInt).toNat) ≤ (100000000 : Int))) (fun q => sz ≤ q)) 0 0 (fun q => sz ≤ q) := by
  refine Met.ofW (cc := cX9_power) (maxL := 4) (ret := (some .int)) (by decide) rfl ?_
  intro p e s m args below meth c0 s₁ B hml hv
  obtain ⟨rfl, hsz, hP, hK⟩ := hv
  have hx := B.exec
  have hb := B.bytes
  have hr := B.returns
  have hts := atoms_spec (ws := .code yX9_power cX9_power 4 (some .int) :: GW) B.pre
  have hG : ∀ w ∈ GW, w.before _ s = true := fun w h => hts w (List.mem_cons_of_mem _ h)
  have hown : s.vm.findClass RX9 = some m.cls := findClass_of_methodNamed B.named
  subst hsz
  have hS : va_S (fun q => s.heap.size ≤ q) s.heap s.heap [] := va_S.rf
  have hP : va_P (dC, dI) vwCl [] s.heap := hP
  have hl := lv_entry ([.int p0, .int p1]) (n := 4) (Nat.le_of_ble_eq_true rfl)
  rw [lg_entry_eq]
  generalize (lg_sl ([.int p0, .int p1]) ++ List.replicate (4 - (lg_sl ([.int p0, .int p1])).length) Slot.unset).toArray = ls at hl ⊢
  have hl : lv_has ls 4 [(0, .int p0), (1, .int p1)] := hl
  refine nameQ (fun Q hQ => ?_)
  refine lv_iconst (v := 1) hx hb dX9_power_0 (by decide) ?_
  refine lv_istore_n (lv' := [(2, .int 1), (0, .int p0), (1, .int p1)]) hx hb dX9_power_1 rfl hl (by decide) rfl (fun ls hl => ?_)
  refine lv_iconst (v := 0) hx hb dX9_power_2 (by decide) ?_
  refine lv_istore_n (lv' := [(3, .int 0), (2, .int 1), (0, .int p0), (1, .int p1)]) hx hb dX9_power_3 rfl hl (by decide) rfl (fun ls hl => ?_)
  refine lv_iload_n hx hb dX9_power_4 rfl (lv_at hl 0 rfl) ?_
  refine lv_iload_n hx hb dX9_power_5 rfl (lv_at hl 3 rfl) ?_
  refine lv_icmp_ge (tgt := 19) hx hb dX9_power_6 (by decide) (fun c_1 => ?_) (fun c_1 => ?_)
  · skip
    have f2 : p1.toInt ≤ 0 := qi_le c_1 rfl zc_0
    refine lv_iload_n hx hb dX9_power_19 rfl (lv_at hl 1 rfl) ?_
    have f3 : (pw p0.toInt (p1.toInt).toNat) = 1 := pw_0 (ob_985 hp2 hp3 f2)
    rw [hQ]
    exact W.iret (v := 1) hx hb hr (fun t ht hW => ⟨⟨1, 1, rfl, rfl, ⟨(ob_986 f3 zc_1), (ob_14 f3), (ob_987 f3)⟩⟩, hS.F ht⟩) hS.2.2 dX9_power_20
  · skip
    have f4 : 0 < p1.toInt := qi_nle c_1 rfl zc_0
    refine lv_iload_n hx hb dX9_power_9 rfl (lv_at hl 1 rfl) ?_
    refine lv_iload_n hx hb dX9_power_10 rfl (lv_at hl 2 rfl) ?_
    refine lv_imul hx hb dX9_power_11 ?_
    refine lv_topi (fun x5 ex5 => ?_)
    have f6 : x5.toInt = p0.toInt := (ob_990 (qi_mul ex5 zc_1 rfl (ob_988 hp0 hp1) (ob_989 hp0 hp1)))
    refine lv_istore_n (lv' := [(2, .int x5), (3, .int 0), (0, .int p0), (1, .int p1)]) hx hb dX9_power_12 rfl hl (by decide) rfl (fun ls hl => ?_)
    refine lv_iinc (v := 1) (lv' := [(3, .int 1), (2, .int x5), (0, .int p0), (1, .int p1)]) hx hb dX9_power_13 hl (k := 1) rfl (by decide) (by decide) rfl (fun ls hl => ?_)
    refine lv_goto (tgt := 4) hx hb dX9_power_16 (by decide) ?_
    refine lv_iload_n hx hb dX9_power_4 rfl (lv_at hl 0 rfl) ?_
    refine lv_iload_n hx hb dX9_power_5 rfl (lv_at hl 3 rfl) ?_
    refine lv_icmp_ge (tgt := 19) hx hb dX9_power_6 (by decide) (fun c_7 => ?_) (fun c_7 => ?_)
    · skip
      have f8 : p1.toInt ≤ 1 := qi_le c_7 rfl zc_1
      refine lv_iload_n hx hb dX9_power_19 rfl (lv_at hl 1 rfl) ?_
      have f9 : (pw p0.toInt (p1.toInt).toNat) = p0.toInt := pw_1 (ob_991 f4 f8)
      rw [hQ]
      exact W.iret (v := x5) hx hb hr (fun t ht hW => ⟨⟨x5, x5, rfl, rfl, ⟨(ob_992 hp0 hp1 f9 f6), (ob_993 hp0 hp1 f9), (ob_994 hp0 hp1 f9)⟩⟩, hS.F ht⟩) hS.2.2 dX9_power_20
    · skip
      have f10 : 1 < p1.toInt := qi_nle c_7 rfl zc_1
      refine lv_iload_n hx hb dX9_power_9 rfl (lv_at hl 1 rfl) ?_
      refine lv_iload_n hx hb dX9_power_10 rfl (lv_at hl 2 rfl) ?_
      refine lv_imul hx hb dX9_power_11 ?_
      refine lv_topi (fun x11 ex11 => ?_)
      have f12 : 0 * 0 ≤ x11.toInt ∧ x11.toInt ≤ 100 * 100 := qi_mulb ex11 (ob_995 hp0 hp1 f6) (ob_996 hp0 hp1 f6) (ob_997 hp0 hp1) (ob_998 hp0 hp1) (by decide) (by decide) (by decide)
      have f13 : x11.toInt = (p0.toInt * p0.toInt) := qi_mulx ex11 f6 rfl (ob_995 hp0 hp1 f6) (ob_996 hp0 hp1 f6) (ob_997 hp0 hp1) (ob_998 hp0 hp1) (by decide) (by decide) (by decide)
      refine lv_istore_n (lv' := [(2, .int x11), (3, .int 1), (0, .int p0), (1, .int p1)]) hx hb dX9_power_12 rfl hl (by decide) rfl (fun ls hl => ?_)
      refine lv_iinc (v := 2) (lv' := [(3, .int 2), (2, .int x11), (0, .int p0), (1, .int p1)]) hx hb dX9_power_13 hl (k := 1) rfl (by decide) (by decide) rfl (fun ls hl => ?_)
      refine lv_goto (tgt := 4) hx hb dX9_power_16 (by decide) ?_
      refine lv_iload_n hx hb dX9_power_4 rfl (lv_at hl 0 rfl) ?_
      refine lv_iload_n hx hb dX9_power_5 rfl (lv_at hl 3 rfl) ?_
      refine lv_icmp_ge (tgt := 19) hx hb dX9_power_6 (by decide) (fun c_14 => ?_) (fun c_14 => ?_)
      · skip
        have f15 : p1.toInt ≤ 2 := qi_le c_14 rfl zc_2
        refine lv_iload_n hx hb dX9_power_19 rfl (lv_at hl 1 rfl) ?_
        have f16 : (pw p0.toInt (p1.toInt).toNat) = (p0.toInt * p0.toInt) := pw_2 (ob_999 f10 f15)
        rw [hQ]
        exact W.iret (v := x11) hx hb hr (fun t ht hW => ⟨⟨x11, x11, rfl, rfl, ⟨(ob_1000 f12 f16 f13), (ob_1001 f12 f16 f13), (ob_1002 f12 f16 f13)⟩⟩, hS.F ht⟩) hS.2.2 dX9_power_20
      · skip
        have f17 : 2 < p1.toInt := qi_nle c_14 rfl zc_2
        refine lv_iload_n hx hb dX9_power_9 rfl (lv_at hl 1 rfl) ?_
        refine lv_iload_n hx hb dX9_power_10 rfl (lv_at hl 2 rfl) ?_
        refine lv_imul hx hb dX9_power_11 ?_
        refine lv_topi (fun x18 ex18 => ?_)
        have f19 : 0 * 0 ≤ x18.toInt ∧ x18.toInt ≤ 10000 * 100 := qi_mulb ex18 (ob_1003 f12 f13) (ob_1004 f12 f13) (ob_997 hp0 hp1) (ob_998 hp0 hp1) (by decide) (by decide) (by decide)
        have f20 : x18.toInt = ((p0.toInt * p0.toInt) * p0.toInt) := qi_mulx ex18 f13 rfl (ob_1003 f12 f13) (ob_1004 f12 f13) (ob_997 hp0 hp1) (ob_998 hp0 hp1) (by decide) (by decide) (by decide)
        refine lv_istore_n (lv' := [(2, .int x18), (3, .int 2), (0, .int p0), (1, .int p1)]) hx hb dX9_power_12 rfl hl (by decide) rfl (fun ls hl => ?_)
        refine lv_iinc (v := 3) (lv' := [(3, .int 3), (2, .int x18), (0, .int p0), (1, .int p1)]) hx hb dX9_power_13 hl (k := 1) rfl (by decide) (by decide) rfl (fun ls hl => ?_)
        refine lv_goto (tgt := 4) hx hb dX9_power_16 (by decide) ?_
        refine lv_iload_n hx hb dX9_power_4 rfl (lv_at hl 0 rfl) ?_
        refine lv_iload_n hx hb dX9_power_5 rfl (lv_at hl 3 rfl) ?_
        refine lv_icmp_ge (tgt := 19) hx hb dX9_power_6 (by decide) (fun c_21 => ?_) (fun c_21 => ?_)
        · skip
          have f22 : p1.toInt ≤ 3 := qi_le c_21 rfl zc_3
          refine lv_iload_n hx hb dX9_power_19 rfl (lv_at hl 1 rfl) ?_
          have f23 : (pw p0.toInt (p1.toInt).toNat) = ((p0.toInt * p0.toInt) * p0.toInt) := pw_3 (ob_1005 f17 f22)
          rw [hQ]
          exact W.iret (v := x18) hx hb hr (fun t ht hW => ⟨⟨x18, x18, rfl, rfl, ⟨(ob_1006 f19 f23 f20), (ob_1007 f19 f23 f20), (ob_1008 f19 f23 f20)⟩⟩, hS.F ht⟩) hS.2.2 dX9_power_20
        · skip
          have f24 : 3 < p1.toInt := qi_nle c_21 rfl zc_3
          refine lv_iload_n hx hb dX9_power_9 rfl (lv_at hl 1 rfl) ?_
          refine lv_iload_n hx hb dX9_power_10 rfl (lv_at hl 2 rfl) ?_
          refine lv_imul hx hb dX9_power_11 ?_
          refine lv_topi (fun x25 ex25 => ?_)
          have f26 : 0 * 0 ≤ x25.toInt ∧ x25.toInt ≤ 1000000 * 100 := qi_mulb ex25 (ob_1009 f19 f20) (ob_1010 f19 f20) (ob_997 hp0 hp1) (ob_998 hp0 hp1) (by decide) (by decide) (by decide)
          have f27 : x25.toInt = (((p0.toInt * p0.toInt) * p0.toInt) * p0.toInt) := qi_mulx ex25 f20 rfl (ob_1009 f19 f20) (ob_1010 f19 f20) (ob_997 hp0 hp1) (ob_998 hp0 hp1) (by decide) (by decide) (by decide)
          refine lv_istore_n (lv' := [(2, .int x25), (3, .int 3), (0, .int p0), (1, .int p1)]) hx hb dX9_power_12 rfl hl (by decide) rfl (fun ls hl => ?_)
          refine lv_iinc (v := 4) (lv' := [(3, .int 4), (2, .int x25), (0, .int p0), (1, .int p1)]) hx hb dX9_power_13 hl (k := 1) rfl (by decide) (by decide) rfl (fun ls hl => ?_)
          refine lv_goto (tgt := 4) hx hb dX9_power_16 (by decide) ?_
          refine lv_iload_n hx hb dX9_power_4 rfl (lv_at hl 0 rfl) ?_
          refine lv_iload_n hx hb dX9_power_5 rfl (lv_at hl 3 rfl) ?_
          refine lv_icmp_ge (tgt := 19) hx hb dX9_power_6 (by decide) (fun c_28 => ?_) (fun c_28 => ((ob_1011 (qi_nle c_28 rfl zc_4) hp3)).elim)
          have f29 : p1.toInt ≤ 4 := qi_le c_28 rfl zc_4
          refine lv_iload_n hx hb dX9_power_19 rfl (lv_at hl 1 rfl) ?_
          have f30 : (pw p0.toInt (p1.toInt).toNat) = (((p0.toInt * p0.toInt) * p0.toInt) * p0.toInt) := pw_4 (ob_1012 hp3 f24)
          rw [hQ]
          exact W.iret (v := x25) hx hb hr (fun t ht hW => ⟨⟨x25, x25, rfl, rfl, ⟨(ob_1013 f26 f30 f27), (ob_1014 f26 f30 f27), (ob_1015 f26 f30 f27)⟩⟩, hS.F ht⟩) hS.2.2 dX9_power_20
set_option maxHeartbeats 4000000 in
set_option maxRecDepth 100000 in
theorem kX9_songs (l : Launch) (dC : Nat → ClassId) (dI : Nat → Nat → Nat) (r : Nat → Nat) (ct : Nat → ClassId) (i_taped i_size i_faultKind i_at i_end i_token i_number i_bank i_rb i_codes i_within i_piled i_unitsInRule i_askHouse i_askTune i_acts i_undone i_laid i_knowns i_time : Int32) (f_text f_tunes f_houses f_hums f_told f_many f_ruleFrom f_ruleTo f_code f_eWhat f_eSign f_all f_kept f_was f_sTune f_boxAll : Nat → Int32) (J : Nat → Nat → Int32) (L : Nat → Nat → Int64) (sz : Nat) (hI : (IM i_taped i_size i_faultKind i_at i_end i_bank i_rb i_acts i_undone i_laid i_knowns i_time f_tunes f_houses f_hums f_told f_many f_ruleFrom f_ruleTo f_code f_all f_kept f_was f_sTune f_boxAll)) : Met l yX9_songs (.code yX9_songs cX9_songs 1 (some .int) :: GW) { frames := 2, cells := 0, slots := 0, locals := 100 } (va_Pc [.ref (r 0)] (pR (dC, dI) (WM r ct i_taped i_size i_faultKind i_at i_end i_token i_number i_bank i_rb i_codes i_within i_piled i_unitsInRule i_askHouse i_askTune i_acts i_undone i_laid i_knowns i_time f_text f_tunes f_houses f_hums f_told f_many f_ruleFrom f_ruleTo f_code f_eWhat f_eSign f_all f_kept f_was f_sTune f_boxAll J L) (TM ct) sz)) (va_Qi (fun (r0 : Int32) (u : Int32) => r0 = u) (fun (u : Int32) (t : State) => (u.toInt = (f_tunes (i_bank.toInt).toNat).toInt)) (fun q => sz ≤ q)) 0 0 (fun q => sz ≤ q) := by
  refine Met.ofW (cc := cX9_songs) (maxL := 1) (ret := (some .int)) (by decide) rfl ?_
  intro p e s m args below meth c0 s₁ B hml hv
  obtain ⟨rfl, hsz, hP, hK⟩ := hv
  have hx := B.exec
  have hb := B.bytes
  have hr := B.returns
  have hts := atoms_spec (ws := .code yX9_songs cX9_songs 1 (some .int) :: GW) B.pre
  have hG : ∀ w ∈ GW, w.before _ s = true := fun w h => hts w (List.mem_cons_of_mem _ h)
  have hown : s.vm.findClass RX9 = some m.cls := findClass_of_methodNamed B.named
  subst hsz
  have hS : va_S (fun q => s.heap.size ≤ q) s.heap s.heap [] := va_S.rf
  have hP : va_P (dC, dI) vwCl (WM r ct i_taped i_size i_faultKind i_at i_end i_token i_number i_bank i_rb i_codes i_within i_piled i_unitsInRule i_askHouse i_askTune i_acts i_undone i_laid i_knowns i_time f_text f_tunes f_houses f_hums f_told f_many f_ruleFrom f_ruleTo f_code f_eWhat f_eSign f_all f_kept f_was f_sTune f_boxAll J L) s.heap := hP
  have hl := lv_entry ([.ref (r 0)]) (n := 1) (Nat.le_of_ble_eq_true rfl)
  rw [lg_entry_eq]
  generalize (lg_sl ([.ref (r 0)]) ++ List.replicate (1 - (lg_sl ([.ref (r 0)])).length) Slot.unset).toArray = ls at hl ⊢
  have hl : lv_has ls 1 [(0, .ref (r 0))] := hl
  refine nameQ (fun Q hQ => ?_)
  obtain ⟨ie0, ie1, ie2, ie3, ie4, ie5, ie6, ie7, ie8, ie9, ie10, ie11, ie12, ie13, ie14, ie15, ie16, ie17, ie18, ie19, ie20, ie21, ie22, ie23, ie24, ie25, ie26, ie27, ie28, ie29, ie30, ie31, ie32⟩ := id hI
  have f1 : 0 ≤ (f_tunes (i_bank.toInt).toNat).toInt ∧ (f_tunes (i_bank.toInt).toNat).toInt ≤ 5 := ie21 (i_bank.toInt)
  have f2 : 0 ≤ (f_houses (i_bank.toInt).toNat).toInt ∧ (f_houses (i_bank.toInt).toNat).toInt ≤ 4 := ie22 (i_bank.toInt)
  refine lv_aload_n hx hb dX9_songs_0 rfl (lv_at hl 0 rfl) ?_
  refine gM_X9_24_0 hx hb hG hown hK hP dX9_songs_1 ?_
  refine lv_aload_n hx hb dX9_songs_4 rfl (lv_at hl 0 rfl) ?_
  refine gM_X9_249_0 hx hb hG hown hK hP dX9_songs_5 ?_
  refine ldM_4 (mm := i_bank.toInt) hx hb hK hP rfl (ob_263 ie4 ie5) (ob_264 ie4 ie5) dX9_songs_8 ?_
  rw [hQ]
  exact W.iret (v := (f_tunes (i_bank.toInt).toNat)) hx hb hr (fun t ht hW => ⟨⟨(f_tunes (i_bank.toInt).toNat), (f_tunes (i_bank.toInt).toNat), rfl, rfl, (ob_775)⟩, hS.F ht⟩) hS.2.2 dX9_songs_9
set_option maxHeartbeats 4000000 in
set_option maxRecDepth 100000 in
theorem kX9_isTune (l : Launch) (dC : Nat → ClassId) (dI : Nat → Nat → Nat) (r : Nat → Nat) (ct : Nat → ClassId) (i_taped i_size i_faultKind i_at i_end i_token i_number i_bank i_rb i_codes i_within i_piled i_unitsInRule i_askHouse i_askTune i_acts i_undone i_laid i_knowns i_time : Int32) (f_text f_tunes f_houses f_hums f_told f_many f_ruleFrom f_ruleTo f_code f_eWhat f_eSign f_all f_kept f_was f_sTune f_boxAll : Nat → Int32) (J : Nat → Nat → Int32) (L : Nat → Nat → Int64) (p0 : Int32) (sz : Nat) (hI : (IM i_taped i_size i_faultKind i_at i_end i_bank i_rb i_acts i_undone i_laid i_knowns i_time f_tunes f_houses f_hums f_told f_many f_ruleFrom f_ruleTo f_code f_all f_kept f_was f_sTune f_boxAll)) : Met l yX9_isTune (.code yX9_isTune cX9_isTune 2 (some .boolean) :: GW) { frames := 4, cells := 0, slots := 0, locals := 162 } (va_Pc [.ref (r 0), .int p0] (pR (dC, dI) (WM r ct i_taped i_size i_faultKind i_at i_end i_token i_number i_bank i_rb i_codes i_within i_piled i_unitsInRule i_askHouse i_askTune i_acts i_undone i_laid i_knowns i_time f_text f_tunes f_houses f_hums f_told f_many f_ruleFrom f_ruleTo f_code f_eWhat f_eSign f_all f_kept f_was f_sTune f_boxAll J L) (TM ct) sz)) (va_Qi (fun (r0 : Int32) (u : Int32) => r0 = u) (fun (u : Int32) (t : State) => (((p0.toInt + 1 ≤ (0 : Int)) ∧ (u.toInt = (0 : Int))) ∨ (((0 : Int) ≤ p0.toInt) ∧ ((f_tunes (i_bank.toInt).toNat).toInt ≤ p0.toInt) ∧ (u.toInt = (0 : Int))) ∨ (((0 : Int) ≤ p0.toInt) ∧ (p0.toInt + 1 ≤ (f_tunes (i_bank.toInt).toNat).toInt) ∧ (u.toInt = (1 : Int)))) ∧ ((0 : Int) ≤ u.toInt) ∧ (u.toInt ≤ (1 : Int)) ∧ ((0 : Int) ≤ u.toInt) ∧ (u.toInt ≤ (1 : Int))) (fun q => sz ≤ q)) 0 0 (fun q => sz ≤ q) := by
  refine Met.ofW (cc := cX9_isTune) (maxL := 2) (ret := (some .boolean)) (by decide) rfl ?_
  intro p e s m args below meth c0 s₁ B hml hv
  obtain ⟨rfl, hsz, hP, hK⟩ := hv
  have hx := B.exec
  have hb := B.bytes
  have hr := B.returns
  have hts := atoms_spec (ws := .code yX9_isTune cX9_isTune 2 (some .boolean) :: GW) B.pre
  have hG : ∀ w ∈ GW, w.before _ s = true := fun w h => hts w (List.mem_cons_of_mem _ h)
  have hown : s.vm.findClass RX9 = some m.cls := findClass_of_methodNamed B.named
  subst hsz
  have hS : va_S (fun q => s.heap.size ≤ q) s.heap s.heap [] := va_S.rf
  have hP : va_P (dC, dI) vwCl (WM r ct i_taped i_size i_faultKind i_at i_end i_token i_number i_bank i_rb i_codes i_within i_piled i_unitsInRule i_askHouse i_askTune i_acts i_undone i_laid i_knowns i_time f_text f_tunes f_houses f_hums f_told f_many f_ruleFrom f_ruleTo f_code f_eWhat f_eSign f_all f_kept f_was f_sTune f_boxAll J L) s.heap := hP
  have hl := lv_entry ([.ref (r 0), .int p0]) (n := 2) (Nat.le_of_ble_eq_true rfl)
  rw [lg_entry_eq]
  generalize (lg_sl ([.ref (r 0), .int p0]) ++ List.replicate (2 - (lg_sl ([.ref (r 0), .int p0])).length) Slot.unset).toArray = ls at hl ⊢
  have hl : lv_has ls 2 [(0, .ref (r 0)), (1, .int p0)] := hl
  refine nameQ (fun Q hQ => ?_)
  obtain ⟨ie0, ie1, ie2, ie3, ie4, ie5, ie6, ie7, ie8, ie9, ie10, ie11, ie12, ie13, ie14, ie15, ie16, ie17, ie18, ie19, ie20, ie21, ie22, ie23, ie24, ie25, ie26, ie27, ie28, ie29, ie30, ie31, ie32⟩ := id hI
  have f1 : 0 ≤ (f_tunes (i_bank.toInt).toNat).toInt ∧ (f_tunes (i_bank.toInt).toNat).toInt ≤ 5 := ie21 (i_bank.toInt)
  have f2 : 0 ≤ (f_houses (i_bank.toInt).toNat).toInt ∧ (f_houses (i_bank.toInt).toNat).toInt ≤ 4 := ie22 (i_bank.toInt)
  refine lv_iload_n hx hb dX9_isTune_0 rfl (lv_at hl 1 rfl) ?_
  refine lv_iconst (v := 0) hx hb dX9_isTune_1 (by decide) ?_
  refine lv_aload_n hx hb dX9_isTune_2 rfl (lv_at hl 0 rfl) ?_
  refine va_calli (va_runV (As := []) (rest := [.int 0, .int p0]) ⟨hx, hb, hml, hown, hG⟩ (kX9_songs l dC dI r ct i_taped i_size i_faultKind i_at i_end i_token i_number i_bank i_rb i_codes i_within i_piled i_unitsInRule i_askHouse i_askTune i_acts i_undone i_laid i_knowns i_time f_text f_tunes f_houses f_hums f_told f_many f_ruleFrom f_ruleTo f_code f_eWhat f_eSign f_all f_kept f_was f_sTune f_boxAll J L s.heap.size hI) (cwV 0 hG (goodV gw1512 gw1514 gw86 gw138 gw1515) rfl rfl rfl hd_X9_songs ⟨(Nat.le_of_ble_eq_true rfl), (Nat.le_of_ble_eq_true rfl)⟩) ⟨fbR, va_recv hK hP (ci := 8) (q0 := 0) rfl rfl, pR_in hP hK⟩ rfl rfl hl.1 rfl (lv_room (Nat.le_of_ble_eq_true rfl)) dX9_isTune_3 ⟨(Nat.le_of_ble_eq_true rfl), (Nat.le_of_ble_eq_true rfl)⟩) hS (fun q hq h => absurd hq (Nat.not_lt.mpr h)) (fun q h => Nat.le_trans hS.1 h) (fun r_4 u_ t_ H3 locs ht hvm hw hB hz1 hk1 hS => ?_)
  subst hw
  have hP := wk hP hk1
  have f5 := hB
  have f6 : r_4.toInt = (f_tunes (i_bank.toInt).toNat).toInt := (ob_6 f5)
  refine lv_iconst (v := 1) hx hb dX9_isTune_6 (by decide) ?_
  refine lv_isub hx hb dX9_isTune_7 ?_
  refine lv_topi (fun x7 ex7 => ?_)
  have f8 : x7.toInt = (f_tunes (i_bank.toInt).toNat).toInt + (-1) := (ob_1018 (qi_sub ex7 rfl zc_1 (ob_1016 f1 f6) (ob_1017 f1 f6)) f6)
  refine va_calli (va_runS (As := [.int p0, .int 0, .int x7]) (rest := []) ⟨hx, hb, hml, hown, hG⟩ (kX9_isIn l dC dI p0 0 x7 H3.size) (va_cwS 3 hG (goodS gw1516 gw1517 gw138 gw1518) rfl rfl rfl hd_X9_isIn ⟨(Nat.le_of_ble_eq_true rfl), (Nat.le_of_ble_eq_true rfl)⟩) ⟨fbR, pR_in emptyP (emptyK hK)⟩ rfl rfl hl.1 rfl (lv_room (Nat.le_of_ble_eq_true rfl)) dX9_isTune_8 ⟨(Nat.le_of_ble_eq_true rfl), (Nat.le_of_ble_eq_true rfl)⟩) hS (fun q hq h => absurd hq (Nat.not_lt.mpr h)) (fun q h => Nat.le_trans hS.1 h) (fun r_10 u_ t_ H9 locs ht hvm hw hB hz1 hk1 hS => ?_)
  subst hw
  have hP := wk hP hk1
  obtain ⟨f11, f12, f13⟩ := hB
  rw [hQ]
  exact W.zret (v := r_10) hx hb hr (zn (ob_263 f12 f13) (ob_276 f12 f13)) (fun t ht hW => ⟨⟨r_10, r_10, rfl, rfl, ⟨(ob_1019 f11 f8 zc_0), (ob_272 f12 f13), (ob_273 f12 f13), (ob_272 f12 f13), (ob_273 f12 f13)⟩⟩, hS.F ht⟩) hS.2.2 dX9_isTune_11
set_option maxHeartbeats 4000000 in
set_option maxRecDepth 100000 in
theorem kX9_isHouse (l : Launch) (dC : Nat → ClassId) (dI : Nat → Nat → Nat) (r : Nat → Nat) (ct : Nat → ClassId) (i_taped i_size i_faultKind i_at i_end i_token i_number i_bank i_rb i_codes i_within i_piled i_unitsInRule i_askHouse i_askTune i_acts i_undone i_laid i_knowns i_time : Int32) (f_text f_tunes f_houses f_hums f_told f_many f_ruleFrom f_ruleTo f_code f_eWhat f_eSign f_all f_kept f_was f_sTune f_boxAll : Nat → Int32) (J : Nat → Nat → Int32) (L : Nat → Nat → Int64) (p0 : Int32) (sz : Nat) (hI : (IM i_taped i_size i_faultKind i_at i_end i_bank i_rb i_acts i_undone i_laid i_knowns i_time f_tunes f_houses f_hums f_told f_many f_ruleFrom f_ruleTo f_code f_all f_kept f_was f_sTune f_boxAll)) : Met l yX9_isHouse (.code yX9_isHouse cX9_isHouse 2 (some .boolean) :: GW) { frames := 4, cells := 0, slots := 0, locals := 162 } (va_Pc [.ref (r 0), .int p0] (pR (dC, dI) (WM r ct i_taped i_size i_faultKind i_at i_end i_token i_number i_bank i_rb i_codes i_within i_piled i_unitsInRule i_askHouse i_askTune i_acts i_undone i_laid i_knowns i_time f_text f_tunes f_houses f_hums f_told f_many f_ruleFrom f_ruleTo f_code f_eWhat f_eSign f_all f_kept f_was f_sTune f_boxAll J L) (TM ct) sz)) (va_Qi (fun (r0 : Int32) (u : Int32) => r0 = u) (fun (u : Int32) (t : State) => (((p0.toInt + 1 ≤ (0 : Int)) ∧ (u.toInt = (0 : Int))) ∨ (((0 : Int) ≤ p0.toInt) ∧ ((f_houses (i_bank.toInt).toNat).toInt ≤ p0.toInt) ∧ (u.toInt = (0 : Int))) ∨ (((0 : Int) ≤ p0.toInt) ∧ (p0.toInt + 1 ≤ (f_houses (i_bank.toInt).toNat).toInt) ∧ (u.toInt = (1 : Int)))) ∧ ((0 : Int) ≤ u.toInt) ∧ (u.toInt ≤ (1 : Int)) ∧ ((0 : Int) ≤ u.toInt) ∧ (u.toInt ≤ (1 : Int))) (fun q => sz ≤ q)) 0 0 (fun q => sz ≤ q) := by
  refine Met.ofW (cc := cX9_isHouse) (maxL := 2) (ret := (some .boolean)) (by decide) rfl ?_
  intro p e s m args below meth c0 s₁ B hml hv
  obtain ⟨rfl, hsz, hP, hK⟩ := hv
  have hx := B.exec
  have hb := B.bytes
  have hr := B.returns
  have hts := atoms_spec (ws := .code yX9_isHouse cX9_isHouse 2 (some .boolean) :: GW) B.pre
  have hG : ∀ w ∈ GW, w.before _ s = true := fun w h => hts w (List.mem_cons_of_mem _ h)
  have hown : s.vm.findClass RX9 = some m.cls := findClass_of_methodNamed B.named
  subst hsz
  have hS : va_S (fun q => s.heap.size ≤ q) s.heap s.heap [] := va_S.rf
  have hP : va_P (dC, dI) vwCl (WM r ct i_taped i_size i_faultKind i_at i_end i_token i_number i_bank i_rb i_codes i_within i_piled i_unitsInRule i_askHouse i_askTune i_acts i_undone i_laid i_knowns i_time f_text f_tunes f_houses f_hums f_told f_many f_ruleFrom f_ruleTo f_code f_eWhat f_eSign f_all f_kept f_was f_sTune f_boxAll J L) s.heap := hP
  have hl := lv_entry ([.ref (r 0), .int p0]) (n := 2) (Nat.le_of_ble_eq_true rfl)
  rw [lg_entry_eq]
  generalize (lg_sl ([.ref (r 0), .int p0]) ++ List.replicate (2 - (lg_sl ([.ref (r 0), .int p0])).length) Slot.unset).toArray = ls at hl ⊢
  have hl : lv_has ls 2 [(0, .ref (r 0)), (1, .int p0)] := hl
  refine nameQ (fun Q hQ => ?_)
  obtain ⟨ie0, ie1, ie2, ie3, ie4, ie5, ie6, ie7, ie8, ie9, ie10, ie11, ie12, ie13, ie14, ie15, ie16, ie17, ie18, ie19, ie20, ie21, ie22, ie23, ie24, ie25, ie26, ie27, ie28, ie29, ie30, ie31, ie32⟩ := id hI
  have f1 : 0 ≤ (f_tunes (i_bank.toInt).toNat).toInt ∧ (f_tunes (i_bank.toInt).toNat).toInt ≤ 5 := ie21 (i_bank.toInt)
  have f2 : 0 ≤ (f_houses (i_bank.toInt).toNat).toInt ∧ (f_houses (i_bank.toInt).toNat).toInt ≤ 4 := ie22 (i_bank.toInt)
  refine lv_iload_n hx hb dX9_isHouse_0 rfl (lv_at hl 1 rfl) ?_
  refine lv_iconst (v := 0) hx hb dX9_isHouse_1 (by decide) ?_
  refine lv_aload_n hx hb dX9_isHouse_2 rfl (lv_at hl 0 rfl) ?_
  refine va_calli (va_runV (As := []) (rest := [.int 0, .int p0]) ⟨hx, hb, hml, hown, hG⟩ (kX9_homes l dC dI r ct i_taped i_size i_faultKind i_at i_end i_token i_number i_bank i_rb i_codes i_within i_piled i_unitsInRule i_askHouse i_askTune i_acts i_undone i_laid i_knowns i_time f_text f_tunes f_houses f_hums f_told f_many f_ruleFrom f_ruleTo f_code f_eWhat f_eSign f_all f_kept f_was f_sTune f_boxAll J L s.heap.size hI) (cwV 0 hG (goodV gw1167 gw1169 gw58 gw138 gw1170) rfl rfl rfl hd_X9_homes ⟨(Nat.le_of_ble_eq_true rfl), (Nat.le_of_ble_eq_true rfl)⟩) ⟨fbR, va_recv hK hP (ci := 8) (q0 := 0) rfl rfl, pR_in hP hK⟩ rfl rfl hl.1 rfl (lv_room (Nat.le_of_ble_eq_true rfl)) dX9_isHouse_3 ⟨(Nat.le_of_ble_eq_true rfl), (Nat.le_of_ble_eq_true rfl)⟩) hS (fun q hq h => absurd hq (Nat.not_lt.mpr h)) (fun q h => Nat.le_trans hS.1 h) (fun r_4 u_ t_ H3 locs ht hvm hw hB hz1 hk1 hS => ?_)
  subst hw
  have hP := wk hP hk1
  have f5 := hB
  have f6 : r_4.toInt = (f_houses (i_bank.toInt).toNat).toInt := (ob_6 f5)
  refine lv_iconst (v := 1) hx hb dX9_isHouse_6 (by decide) ?_
  refine lv_isub hx hb dX9_isHouse_7 ?_
  refine lv_topi (fun x7 ex7 => ?_)
  have f8 : x7.toInt = (f_houses (i_bank.toInt).toNat).toInt + (-1) := (ob_1018 (qi_sub ex7 rfl zc_1 (ob_1020 f2 f6) (ob_1021 f2 f6)) f6)
  refine va_calli (va_runS (As := [.int p0, .int 0, .int x7]) (rest := []) ⟨hx, hb, hml, hown, hG⟩ (kX9_isIn l dC dI p0 0 x7 H3.size) (va_cwS 3 hG (goodS gw1516 gw1517 gw138 gw1518) rfl rfl rfl hd_X9_isIn ⟨(Nat.le_of_ble_eq_true rfl), (Nat.le_of_ble_eq_true rfl)⟩) ⟨fbR, pR_in emptyP (emptyK hK)⟩ rfl rfl hl.1 rfl (lv_room (Nat.le_of_ble_eq_true rfl)) dX9_isHouse_8 ⟨(Nat.le_of_ble_eq_true rfl), (Nat.le_of_ble_eq_true rfl)⟩) hS (fun q hq h => absurd hq (Nat.not_lt.mpr h)) (fun q h => Nat.le_trans hS.1 h) (fun r_10 u_ t_ H9 locs ht hvm hw hB hz1 hk1 hS => ?_)
  subst hw
  have hP := wk hP hk1
  obtain ⟨f11, f12, f13⟩ := hB
  rw [hQ]
  exact W.zret (v := r_10) hx hb hr (zn (ob_263 f12 f13) (ob_276 f12 f13)) (fun t ht hW => ⟨⟨r_10, r_10, rfl, rfl, ⟨(ob_1019 f11 f8 zc_0), (ob_272 f12 f13), (ob_273 f12 f13), (ob_272 f12 f13), (ob_273 f12 f13)⟩⟩, hS.F ht⟩) hS.2.2 dX9_isHouse_11
set_option maxHeartbeats 4000000 in
set_option maxRecDepth 100000 in
theorem kX9_isNote (l : Launch) (dC : Nat → ClassId) (dI : Nat → Nat → Nat) (p0 : Int32) (sz : Nat) : Met l yX9_isNote (.code yX9_isNote cX9_isNote 1 (some .boolean) :: GW) { frames := 2, cells := 0, slots := 0, locals := 100 } (va_Pc [.int p0] (pR (dC, dI) [] [] sz)) (va_Qi (fun (r0 : Int32) (u : Int32) => r0 = u) (fun (u : Int32) (t : State) => (((p0.toInt + 1 ≤ (0 : Int)) ∧ (u.toInt = (0 : Int))) ∨ (((0 : Int) ≤ p0.toInt) ∧ ((7 : Int) ≤ p0.toInt) ∧ (u.toInt = (0 : Int))) ∨ (((0 : Int) ≤ p0.toInt) ∧ (p0.toInt ≤ (6 : Int)) ∧ (u.toInt = (1 : Int)))) ∧ ((0 : Int) ≤ u.toInt) ∧ (u.toInt ≤ (1 : Int))) (fun q => sz ≤ q)) 0 0 (fun q => sz ≤ q) := by
  refine Met.ofW (cc := cX9_isNote) (maxL := 1) (ret := (some .boolean)) (by decide) rfl ?_
  intro p e s m args below meth c0 s₁ B hml hv
  obtain ⟨rfl, hsz, hP, hK⟩ := hv
  have hx := B.exec
  have hb := B.bytes
  have hr := B.returns
  have hts := atoms_spec (ws := .code yX9_isNote cX9_isNote 1 (some .boolean) :: GW) B.pre
  have hG : ∀ w ∈ GW, w.before _ s = true := fun w h => hts w (List.mem_cons_of_mem _ h)
  have hown : s.vm.findClass RX9 = some m.cls := findClass_of_methodNamed B.named
  subst hsz
  have hS : va_S (fun q => s.heap.size ≤ q) s.heap s.heap [] := va_S.rf
  have hP : va_P (dC, dI) vwCl [] s.heap := hP
  have hl := lv_entry ([.int p0]) (n := 1) (Nat.le_of_ble_eq_true rfl)
  rw [lg_entry_eq]
  generalize (lg_sl ([.int p0]) ++ List.replicate (1 - (lg_sl ([.int p0])).length) Slot.unset).toArray = ls at hl ⊢
  have hl : lv_has ls 1 [(0, .int p0)] := hl
  refine nameQ (fun Q hQ => ?_)
  refine lv_iload_n hx hb dX9_isNote_0 rfl (lv_at hl 0 rfl) ?_
  refine lv_if_lt (tgt := 14) hx hb dX9_isNote_1 (by decide) (fun c_1 => ?_) (fun c_1 => ?_)
  · skip
    have f2 : p0.toInt < 0 := qi_lt c_1 rfl zc_0
    refine lv_iconst (v := 0) hx hb dX9_isNote_14 (by decide) ?_
    rw [hQ]
    exact W.zret (v := 0) hx hb hr (by decide) (fun t ht hW => ⟨⟨0, 0, rfl, rfl, ⟨(ob_1022 f2 zc_0), (ob_1 zc_0), (ob_11 zc_0)⟩⟩, hS.F ht⟩) hS.2.2 dX9_isNote_15
  · skip
    have f3 : 0 ≤ p0.toInt := qi_nlt c_1 rfl zc_0
    refine lv_iload_n hx hb dX9_isNote_4 rfl (lv_at hl 0 rfl) ?_
    refine lv_bipush (v := 7) hx hb dX9_isNote_5 (by decide) ?_
    refine lv_icmp_ge (tgt := 14) hx hb dX9_isNote_7 (by decide) (fun c_4 => ?_) (fun c_4 => ?_)
    · skip
      have f5 : 7 ≤ p0.toInt := qi_le c_4 zc_7 rfl
      refine lv_iconst (v := 0) hx hb dX9_isNote_14 (by decide) ?_
      rw [hQ]
      exact W.zret (v := 0) hx hb hr (by decide) (fun t ht hW => ⟨⟨0, 0, rfl, rfl, ⟨(ob_1023 f3 f5 zc_0), (ob_1 zc_0), (ob_11 zc_0)⟩⟩, hS.F ht⟩) hS.2.2 dX9_isNote_15
    · skip
      have f6 : p0.toInt < 7 := qi_nle c_4 zc_7 rfl
      refine lv_iconst (v := 1) hx hb dX9_isNote_10 (by decide) ?_
      refine lv_goto (tgt := 15) hx hb dX9_isNote_11 (by decide) ?_
      rw [hQ]
      exact W.zret (v := 1) hx hb hr (by decide) (fun t ht hW => ⟨⟨1, 1, rfl, rfl, ⟨(ob_1024 f3 f6 zc_1), (ob_14 zc_1), (ob_15 zc_1)⟩⟩, hS.F ht⟩) hS.2.2 dX9_isNote_15
set_option maxHeartbeats 4000000 in
set_option maxRecDepth 100000 in
theorem kX9_placeOf (l : Launch) (dC : Nat → ClassId) (dI : Nat → Nat → Nat) (r : Nat → Nat) (ct : Nat → ClassId) (i_taped i_size i_faultKind i_at i_end i_token i_number i_bank i_rb i_codes i_within i_piled i_unitsInRule i_askHouse i_askTune i_acts i_undone i_laid i_knowns i_time : Int32) (f_text f_tunes f_houses f_hums f_told f_many f_ruleFrom f_ruleTo f_code f_eWhat f_eSign f_all f_kept f_was f_sTune f_boxAll : Nat → Int32) (J : Nat → Nat → Int32) (L : Nat → Nat → Int64) (p0 : Int32) (sz : Nat) (hI : (IM i_taped i_size i_faultKind i_at i_end i_bank i_rb i_acts i_undone i_laid i_knowns i_time f_tunes f_houses f_hums f_told f_many f_ruleFrom f_ruleTo f_code f_all f_kept f_was f_sTune f_boxAll)) (hp0 : (0 : Int) ≤ p0.toInt) (hp1 : p0.toInt + 1 ≤ (f_houses (i_bank.toInt).toNat).toInt) : Met l yX9_placeOf (.code yX9_placeOf cX9_placeOf 2 (some .int) :: GW) { frames := 2, cells := 0, slots := 0, locals := 100 } (va_Pc [.ref (r 0), .int p0] (pR (dC, dI) (WM r ct i_taped i_size i_faultKind i_at i_end i_token i_number i_bank i_rb i_codes i_within i_piled i_unitsInRule i_askHouse i_askTune i_acts i_undone i_laid i_knowns i_time f_text f_tunes f_houses f_hums f_told f_many f_ruleFrom f_ruleTo f_code f_eWhat f_eSign f_all f_kept f_was f_sTune f_boxAll J L) (TM ct) sz)) (va_Qi (fun (r0 : Int32) (u : Int32) => r0 = u) (fun (u : Int32) (t : State) => True) (fun q => sz ≤ q)) 0 0 (fun q => sz ≤ q) := by
  refine Met.ofW (cc := cX9_placeOf) (maxL := 2) (ret := (some .int)) (by decide) rfl ?_
  intro p e s m args below meth c0 s₁ B hml hv
  obtain ⟨rfl, hsz, hP, hK⟩ := hv
  have hx := B.exec
  have hb := B.bytes
  have hr := B.returns
  have hts := atoms_spec (ws := .code yX9_placeOf cX9_placeOf 2 (some .int) :: GW) B.pre
  have hG : ∀ w ∈ GW, w.before _ s = true := fun w h => hts w (List.mem_cons_of_mem _ h)
  have hown : s.vm.findClass RX9 = some m.cls := findClass_of_methodNamed B.named
  subst hsz
  have hS : va_S (fun q => s.heap.size ≤ q) s.heap s.heap [] := va_S.rf
  have hP : va_P (dC, dI) vwCl (WM r ct i_taped i_size i_faultKind i_at i_end i_token i_number i_bank i_rb i_codes i_within i_piled i_unitsInRule i_askHouse i_askTune i_acts i_undone i_laid i_knowns i_time f_text f_tunes f_houses f_hums f_told f_many f_ruleFrom f_ruleTo f_code f_eWhat f_eSign f_all f_kept f_was f_sTune f_boxAll J L) s.heap := hP
  have hl := lv_entry ([.ref (r 0), .int p0]) (n := 2) (Nat.le_of_ble_eq_true rfl)
  rw [lg_entry_eq]
  generalize (lg_sl ([.ref (r 0), .int p0]) ++ List.replicate (2 - (lg_sl ([.ref (r 0), .int p0])).length) Slot.unset).toArray = ls at hl ⊢
  have hl : lv_has ls 2 [(0, .ref (r 0)), (1, .int p0)] := hl
  refine nameQ (fun Q hQ => ?_)
  obtain ⟨ie0, ie1, ie2, ie3, ie4, ie5, ie6, ie7, ie8, ie9, ie10, ie11, ie12, ie13, ie14, ie15, ie16, ie17, ie18, ie19, ie20, ie21, ie22, ie23, ie24, ie25, ie26, ie27, ie28, ie29, ie30, ie31, ie32⟩ := id hI
  have f1 : 0 ≤ (f_tunes (i_bank.toInt).toNat).toInt ∧ (f_tunes (i_bank.toInt).toNat).toInt ≤ 5 := ie21 (i_bank.toInt)
  have f2 : 0 ≤ (f_houses (i_bank.toInt).toNat).toInt ∧ (f_houses (i_bank.toInt).toNat).toInt ≤ 4 := ie22 (i_bank.toInt)
  refine lv_aload_n hx hb dX9_placeOf_0 rfl (lv_at hl 0 rfl) ?_
  refine gM_X9_51_0 hx hb hG hown hK hP dX9_placeOf_1 ?_
  refine lv_iconst (v := 4) hx hb dX9_placeOf_4 (by decide) ?_
  refine lv_aload_n hx hb dX9_placeOf_5 rfl (lv_at hl 0 rfl) ?_
  refine gM_X9_249_0 hx hb hG hown hK hP dX9_placeOf_6 ?_
  refine lv_imul hx hb dX9_placeOf_9 ?_
  refine lv_topi (fun x3 ex3 => ?_)
  have f4 : x3.toInt = 4 * i_bank.toInt := (ob_655 (qi_mul ex3 zc_4 rfl (ob_785 ie4 ie5) (ob_786 ie4 ie5)))
  refine lv_iload_n hx hb dX9_placeOf_10 rfl (lv_at hl 1 rfl) ?_
  refine lv_iadd hx hb dX9_placeOf_11 ?_
  refine lv_topi (fun x5 ex5 => ?_)
  have f6 : x5.toInt = p0.toInt + 4 * i_bank.toInt := (ob_658 (qi_add ex5 rfl rfl (ob_787 ie4 hp0 f4) (ob_890 ie5 f2 hp1 f4)) f4)
  refine ldM_13 (mm := p0.toInt + 4 * i_bank.toInt) hx hb hK hP f6 (ob_789 ie4 hp0) (ob_1025 ie5 f2 hp1) dX9_placeOf_12 (fun x7 => ?_)
  rw [hQ]
  exact W.iret (v := x7) hx hb hr (fun t ht hW => ⟨⟨x7, x7, rfl, rfl, trivial⟩, hS.F ht⟩) hS.2.2 dX9_placeOf_13
set_option maxHeartbeats 4000000 in
set_option maxRecDepth 100000 in
theorem kX9_keepNow (l : Launch) (dC : Nat → ClassId) (dI : Nat → Nat → Nat) (r : Nat → Nat) (ct : Nat → ClassId) (i_taped i_size i_faultKind i_at i_end i_token i_number i_bank i_rb i_codes i_within i_piled i_unitsInRule i_askHouse i_askTune i_acts i_undone i_laid i_knowns i_time : Int32) (f_text f_tunes f_houses f_hums f_told f_many f_ruleFrom f_ruleTo f_code f_eWhat f_eSign f_all f_kept f_was f_sTune f_boxAll : Nat → Int32) (J : Nat → Nat → Int32) (L : Nat → Nat → Int64) (sz : Nat) (hI : (IM i_taped i_size i_faultKind i_at i_end i_bank i_rb i_acts i_undone i_laid i_knowns i_time f_tunes f_houses f_hums f_told f_many f_ruleFrom f_ruleTo f_code f_all f_kept f_was f_sTune f_boxAll)) : Met l yX9_keepNow (.code yX9_keepNow cX9_keepNow 2 none :: GW) { frames := 2, cells := 0, slots := 0, locals := 100 } (va_Pc [.ref (r 0)] (pW (dC, dI) (WM r ct i_taped i_size i_faultKind i_at i_end i_token i_number i_bank i_rb i_codes i_within i_piled i_unitsInRule i_askHouse i_askTune i_acts i_undone i_laid i_knowns i_time f_text f_tunes f_houses f_hums f_told f_many f_ruleFrom f_ruleTo f_code f_eWhat f_eSign f_all f_kept f_was f_sTune f_boxAll J L) (TM ct) sz)) (va_Qv (fun _ : Unit => True) (fun (_ : Unit) (t : State) => ∃ (n_f_kept : Nat → Int32), va_P (dC, dI) vwCl (WM r ct i_taped i_size i_faultKind i_at i_end i_token i_number i_bank i_rb i_codes i_within i_piled i_unitsInRule i_askHouse i_askTune i_acts i_undone i_laid i_knowns i_time f_text f_tunes f_houses f_hums f_told f_many f_ruleFrom f_ruleTo f_code f_eWhat f_eSign f_all n_f_kept f_was f_sTune f_boxAll J L) t.heap ∧ va_D (va_A (WM r ct i_taped i_size i_faultKind i_at i_end i_token i_number i_bank i_rb i_codes i_within i_piled i_unitsInRule i_askHouse i_askTune i_acts i_undone i_laid i_knowns i_time f_text f_tunes f_houses f_hums f_told f_many f_ruleFrom f_ruleTo f_code f_eWhat f_eSign f_all f_kept f_was f_sTune f_boxAll J L) sz) (WM r ct i_taped i_size i_faultKind i_at i_end i_token i_number i_bank i_rb i_codes i_within i_piled i_unitsInRule i_askHouse i_askTune i_acts i_undone i_laid i_knowns i_time f_text f_tunes f_houses f_hums f_told f_many f_ruleFrom f_ruleTo f_code f_eWhat f_eSign f_all n_f_kept f_was f_sTune f_boxAll J L) ∧ (IM i_taped i_size i_faultKind i_at i_end i_bank i_rb i_acts i_undone i_laid i_knowns i_time f_tunes f_houses f_hums f_told f_many f_ruleFrom f_ruleTo f_code f_all n_f_kept f_was f_sTune f_boxAll)) (va_A (WM r ct i_taped i_size i_faultKind i_at i_end i_token i_number i_bank i_rb i_codes i_within i_piled i_unitsInRule i_askHouse i_askTune i_acts i_undone i_laid i_knowns i_time f_text f_tunes f_houses f_hums f_told f_many f_ruleFrom f_ruleTo f_code f_eWhat f_eSign f_all f_kept f_was f_sTune f_boxAll J L) sz)) 0 0 (va_A (WM r ct i_taped i_size i_faultKind i_at i_end i_token i_number i_bank i_rb i_codes i_within i_piled i_unitsInRule i_askHouse i_askTune i_acts i_undone i_laid i_knowns i_time f_text f_tunes f_houses f_hums f_told f_many f_ruleFrom f_ruleTo f_code f_eWhat f_eSign f_all f_kept f_was f_sTune f_boxAll J L) sz) := by
  refine Met.ofW (cc := cX9_keepNow) (maxL := 2) (ret := none) (by decide) rfl ?_
  intro p e s m args below meth c0 s₁ B hml hv
  obtain ⟨rfl, hsz, hP, hK, hD0⟩ := hv
  have hx := B.exec
  have hb := B.bytes
  have hr := B.returns
  have hts := atoms_spec (ws := .code yX9_keepNow cX9_keepNow 2 none :: GW) B.pre
  have hG : ∀ w ∈ GW, w.before _ s = true := fun w h => hts w (List.mem_cons_of_mem _ h)
  have hown : s.vm.findClass RX9 = some m.cls := findClass_of_methodNamed B.named
  subst hsz
  have hD := hD0.self (sz := s.heap.size)
  generalize hAe : va_A (WM r ct i_taped i_size i_faultKind i_at i_end i_token i_number i_bank i_rb i_codes i_within i_piled i_unitsInRule i_askHouse i_askTune i_acts i_undone i_laid i_knowns i_time f_text f_tunes f_houses f_hums f_told f_many f_ruleFrom f_ruleTo f_code f_eWhat f_eSign f_all f_kept f_was f_sTune f_boxAll J L) s.heap.size = A at hD ⊢
  have hA : ∀ q : Nat, s.heap.size ≤ q → A q := fun q h => by rw [← hAe]; exact Or.inr h
  have hS : va_S A s.heap s.heap [] := va_S.rf
  have hP : va_P (dC, dI) vwCl (WM r ct i_taped i_size i_faultKind i_at i_end i_token i_number i_bank i_rb i_codes i_within i_piled i_unitsInRule i_askHouse i_askTune i_acts i_undone i_laid i_knowns i_time f_text f_tunes f_houses f_hums f_told f_many f_ruleFrom f_ruleTo f_code f_eWhat f_eSign f_all f_kept f_was f_sTune f_boxAll J L) s.heap := hP
  have hl := lv_entry ([.ref (r 0)]) (n := 2) (Nat.le_of_ble_eq_true rfl)
  rw [lg_entry_eq]
  generalize (lg_sl ([.ref (r 0)]) ++ List.replicate (2 - (lg_sl ([.ref (r 0)])).length) Slot.unset).toArray = ls at hl ⊢
  have hl : lv_has ls 2 [(0, .ref (r 0))] := hl
  refine nameQ (fun Q hQ => ?_)
  obtain ⟨ie0, ie1, ie2, ie3, ie4, ie5, ie6, ie7, ie8, ie9, ie10, ie11, ie12, ie13, ie14, ie15, ie16, ie17, ie18, ie19, ie20, ie21, ie22, ie23, ie24, ie25, ie26, ie27, ie28, ie29, ie30, ie31, ie32⟩ := id hI
  have f1 : 0 ≤ (f_tunes (i_bank.toInt).toNat).toInt ∧ (f_tunes (i_bank.toInt).toNat).toInt ≤ 5 := ie21 (i_bank.toInt)
  have f2 : 0 ≤ (f_houses (i_bank.toInt).toNat).toInt ∧ (f_houses (i_bank.toInt).toNat).toInt ≤ 4 := ie22 (i_bank.toInt)
  refine lv_iconst (v := 0) hx hb dX9_keepNow_0 (by decide) ?_
  refine lv_istore_n (lv' := [(1, .int 0), (0, .ref (r 0))]) hx hb dX9_keepNow_1 rfl hl (by decide) rfl (fun ls hl => ?_)
  have L2 : ∀ (N2 : Nat) (y2_1 : Int32) (m2_f_kept : Nat → Int32) (H2 : Heap) (locs : List Loc) (ls : Array Slot) (g2_0 : (0 : Int) ≤ y2_1.toInt) (g2_1 : y2_1.toInt ≤ (26 : Int)) (gi2_kept_p : EW m2_f_kept) (hP : va_P (dC, dI) vwCl (WM r ct i_taped i_size i_faultKind i_at i_end i_token i_number i_bank i_rb i_codes i_within i_piled i_unitsInRule i_askHouse i_askTune i_acts i_undone i_laid i_knowns i_time f_text f_tunes f_houses f_hums f_told f_many f_ruleFrom f_ruleTo f_code f_eWhat f_eSign f_all m2_f_kept f_was f_sTune f_boxAll J L) H2) (hD : va_D A (WM r ct i_taped i_size i_faultKind i_at i_end i_token i_number i_bank i_rb i_codes i_within i_piled i_unitsInRule i_askHouse i_askTune i_acts i_undone i_laid i_knowns i_time f_text f_tunes f_houses f_hums f_told f_many f_ruleFrom f_ruleTo f_code f_eWhat f_eSign f_all m2_f_kept f_was f_sTune f_boxAll J L)) (hS : va_S A s.heap H2 locs) (hl : lv_has ls 2 [(0, .ref (r 0)), (1, .int y2_1)]) (hM : -1 * y2_1.toInt + 26 < (N2 : Int)), W p l e { frames := 2, cells := 0, slots := 0, locals := 100 } s m ([.ref (r 0)] : List Value).toArray below meth c0 H2 locs 0 0 Q (F0 m 2 ls []) := by
    intro N2
    induction N2 with
    | zero =>
      intro y2_1 m2_f_kept H2 locs ls g2_0 g2_1 gi2_kept_p hP hD hS hl hM
      exact ((ob_776 hM g2_0 g2_1)).elim
    | succ N2 ih2 =>
      intro y2_1 m2_f_kept H2 locs ls g2_0 g2_1 gi2_kept_p hP hD hS hl hM
      have hM2 := msucc hM
      refine lv_iload_n hx hb dX9_keepNow_2 rfl (lv_at hl 1 rfl) ?_
      refine lv_bipush (v := 26) hx hb dX9_keepNow_3 (by decide) ?_
      refine lv_icmp_ge (tgt := 26) hx hb dX9_keepNow_5 (by decide) (fun c_3 => ?_) (fun c_3 => ?_)
      · skip
        have f4 : 26 ≤ y2_1.toInt := qi_le c_3 zc_26 rfl
        rw [hQ]
        exact W.vret hx hb hr (fun t ht hW => ⟨⟨(), rfl, trivial, ⟨m2_f_kept, by rw [ht]; exact hP, hD, ⟨ie0, ie1, ie2, ie3, ie4, ie5, ie6, ie7, ie8, ie9, ie10, ie11, ie12, ie13, ie14, ie15, ie16, ie17, ie18, ie19, ie20, ie21, ie22, ie23, ie24, ie25, ie26, ie27, gi2_kept_p, ie29, ie30, ie31, ie32⟩⟩⟩, hS.F ht⟩) hS.2.2 dX9_keepNow_26
      · skip
        have f5 : y2_1.toInt < 26 := qi_nle c_3 zc_26 rfl
        refine lv_aload_n hx hb dX9_keepNow_8 rfl (lv_at hl 0 rfl) ?_
        refine gM_X9_91_0 hx hb hG hown hK hP dX9_keepNow_9 ?_
        refine lv_iload_n hx hb dX9_keepNow_12 rfl (lv_at hl 1 rfl) ?_
        refine lv_aload_n hx hb dX9_keepNow_13 rfl (lv_at hl 0 rfl) ?_
        refine gM_X9_88_0 hx hb hG hown hK hP dX9_keepNow_14 ?_
        refine lv_iload_n hx hb dX9_keepNow_17 rfl (lv_at hl 1 rfl) ?_
        refine ldM_25 (mm := y2_1.toInt) hx hb hK hP rfl (ob_350 g2_0) (ob_809 f5) dX9_keepNow_18 ?_
        refine stM_26 (mm := y2_1.toInt) hx hb hK hP hD hS rfl (ob_350 g2_0) (ob_809 f5) dX9_keepNow_19 (fun z7 H6 locs ez7 hP hD hS => ?_)
        have g8 : EW z7 := ez7 ▸ EW.updc gi2_kept_p ie27 (ob_350 g2_0) (ob_350 g2_0) (ob_1026)
        obtain ⟨x9, ex9⟩ : ∃ y : Int32, y = y2_1 + Int32.ofInt 1 := ⟨_, rfl⟩
        have f10 : x9.toInt = y2_1.toInt + 1 := (ob_142 (qi_add ex9 rfl (by decide) (ob_140 g2_0) (ob_810 g2_1)))
        refine lv_iinc (v := x9) (lv' := [(1, .int x9), (0, .ref (r 0))]) hx hb dX9_keepNow_20 hl (k := 1) rfl ex9.symm (by decide) rfl (fun ls hl => ?_)
        refine lv_goto (tgt := 2) hx hb dX9_keepNow_23 (by decide) ?_
        exact ih2 x9 z7 H6 _ _ (ob_149 g2_0 f10) (ob_811 f5 f10) g8 hP hD hS (lv_sub hl [1, 0] rfl) (ob_812 hM2 f10)
  exact L2 (-1 * (0 : Int32).toInt + 26 + 1).toNat 0 f_kept s.heap _ _ (ob_1 zc_0) (ob_813 zc_0) ie28 hP hD hS (lv_sub hl [1, 0] rfl) (mlt (ob_814 zc_0))
set_option maxHeartbeats 4000000 in
set_option maxRecDepth 100000 in
theorem kX9_bringBack (l : Launch) (dC : Nat → ClassId) (dI : Nat → Nat → Nat) (r : Nat → Nat) (ct : Nat → ClassId) (i_taped i_size i_faultKind i_at i_end i_token i_number i_bank i_rb i_codes i_within i_piled i_unitsInRule i_askHouse i_askTune i_acts i_undone i_laid i_knowns i_time : Int32) (f_text f_tunes f_houses f_hums f_told f_many f_ruleFrom f_ruleTo f_code f_eWhat f_eSign f_all f_kept f_was f_sTune f_boxAll : Nat → Int32) (J : Nat → Nat → Int32) (L : Nat → Nat → Int64) (sz : Nat) (hI : (IM i_taped i_size i_faultKind i_at i_end i_bank i_rb i_acts i_undone i_laid i_knowns i_time f_tunes f_houses f_hums f_told f_many f_ruleFrom f_ruleTo f_code f_all f_kept f_was f_sTune f_boxAll)) : Met l yX9_bringBack (.code yX9_bringBack cX9_bringBack 2 none :: GW) { frames := 2, cells := 0, slots := 0, locals := 100 } (va_Pc [.ref (r 0)] (pW (dC, dI) (WM r ct i_taped i_size i_faultKind i_at i_end i_token i_number i_bank i_rb i_codes i_within i_piled i_unitsInRule i_askHouse i_askTune i_acts i_undone i_laid i_knowns i_time f_text f_tunes f_houses f_hums f_told f_many f_ruleFrom f_ruleTo f_code f_eWhat f_eSign f_all f_kept f_was f_sTune f_boxAll J L) (TM ct) sz)) (va_Qv (fun _ : Unit => True) (fun (_ : Unit) (t : State) => ∃ (n_f_all : Nat → Int32), va_P (dC, dI) vwCl (WM r ct i_taped i_size i_faultKind i_at i_end i_token i_number i_bank i_rb i_codes i_within i_piled i_unitsInRule i_askHouse i_askTune i_acts i_undone i_laid i_knowns i_time f_text f_tunes f_houses f_hums f_told f_many f_ruleFrom f_ruleTo f_code f_eWhat f_eSign n_f_all f_kept f_was f_sTune f_boxAll J L) t.heap ∧ va_D (va_A (WM r ct i_taped i_size i_faultKind i_at i_end i_token i_number i_bank i_rb i_codes i_within i_piled i_unitsInRule i_askHouse i_askTune i_acts i_undone i_laid i_knowns i_time f_text f_tunes f_houses f_hums f_told f_many f_ruleFrom f_ruleTo f_code f_eWhat f_eSign f_all f_kept f_was f_sTune f_boxAll J L) sz) (WM r ct i_taped i_size i_faultKind i_at i_end i_token i_number i_bank i_rb i_codes i_within i_piled i_unitsInRule i_askHouse i_askTune i_acts i_undone i_laid i_knowns i_time f_text f_tunes f_houses f_hums f_told f_many f_ruleFrom f_ruleTo f_code f_eWhat f_eSign n_f_all f_kept f_was f_sTune f_boxAll J L) ∧ (IM i_taped i_size i_faultKind i_at i_end i_bank i_rb i_acts i_undone i_laid i_knowns i_time f_tunes f_houses f_hums f_told f_many f_ruleFrom f_ruleTo f_code n_f_all f_kept f_was f_sTune f_boxAll)) (va_A (WM r ct i_taped i_size i_faultKind i_at i_end i_token i_number i_bank i_rb i_codes i_within i_piled i_unitsInRule i_askHouse i_askTune i_acts i_undone i_laid i_knowns i_time f_text f_tunes f_houses f_hums f_told f_many f_ruleFrom f_ruleTo f_code f_eWhat f_eSign f_all f_kept f_was f_sTune f_boxAll J L) sz)) 0 0 (va_A (WM r ct i_taped i_size i_faultKind i_at i_end i_token i_number i_bank i_rb i_codes i_within i_piled i_unitsInRule i_askHouse i_askTune i_acts i_undone i_laid i_knowns i_time f_text f_tunes f_houses f_hums f_told f_many f_ruleFrom f_ruleTo f_code f_eWhat f_eSign f_all f_kept f_was f_sTune f_boxAll J L) sz) := by
  refine Met.ofW (cc := cX9_bringBack) (maxL := 2) (ret := none) (by decide) rfl ?_
  intro p e s m args below meth c0 s₁ B hml hv
  obtain ⟨rfl, hsz, hP, hK, hD0⟩ := hv
  have hx := B.exec
  have hb := B.bytes
  have hr := B.returns
  have hts := atoms_spec (ws := .code yX9_bringBack cX9_bringBack 2 none :: GW) B.pre
  have hG : ∀ w ∈ GW, w.before _ s = true := fun w h => hts w (List.mem_cons_of_mem _ h)
  have hown : s.vm.findClass RX9 = some m.cls := findClass_of_methodNamed B.named
  subst hsz
  have hD := hD0.self (sz := s.heap.size)
  generalize hAe : va_A (WM r ct i_taped i_size i_faultKind i_at i_end i_token i_number i_bank i_rb i_codes i_within i_piled i_unitsInRule i_askHouse i_askTune i_acts i_undone i_laid i_knowns i_time f_text f_tunes f_houses f_hums f_told f_many f_ruleFrom f_ruleTo f_code f_eWhat f_eSign f_all f_kept f_was f_sTune f_boxAll J L) s.heap.size = A at hD ⊢
  have hA : ∀ q : Nat, s.heap.size ≤ q → A q := fun q h => by rw [← hAe]; exact Or.inr h
  have hS : va_S A s.heap s.heap [] := va_S.rf
  have hP : va_P (dC, dI) vwCl (WM r ct i_taped i_size i_faultKind i_at i_end i_token i_number i_bank i_rb i_codes i_within i_piled i_unitsInRule i_askHouse i_askTune i_acts i_undone i_laid i_knowns i_time f_text f_tunes f_houses f_hums f_told f_many f_ruleFrom f_ruleTo f_code f_eWhat f_eSign f_all f_kept f_was f_sTune f_boxAll J L) s.heap := hP
  have hl := lv_entry ([.ref (r 0)]) (n := 2) (Nat.le_of_ble_eq_true rfl)
  rw [lg_entry_eq]
  generalize (lg_sl ([.ref (r 0)]) ++ List.replicate (2 - (lg_sl ([.ref (r 0)])).length) Slot.unset).toArray = ls at hl ⊢
  have hl : lv_has ls 2 [(0, .ref (r 0))] := hl
  refine nameQ (fun Q hQ => ?_)
  obtain ⟨ie0, ie1, ie2, ie3, ie4, ie5, ie6, ie7, ie8, ie9, ie10, ie11, ie12, ie13, ie14, ie15, ie16, ie17, ie18, ie19, ie20, ie21, ie22, ie23, ie24, ie25, ie26, ie27, ie28, ie29, ie30, ie31, ie32⟩ := id hI
  have f1 : 0 ≤ (f_tunes (i_bank.toInt).toNat).toInt ∧ (f_tunes (i_bank.toInt).toNat).toInt ≤ 5 := ie21 (i_bank.toInt)
  have f2 : 0 ≤ (f_houses (i_bank.toInt).toNat).toInt ∧ (f_houses (i_bank.toInt).toNat).toInt ≤ 4 := ie22 (i_bank.toInt)
  refine lv_iconst (v := 0) hx hb dX9_bringBack_0 (by decide) ?_
  refine lv_istore_n (lv' := [(1, .int 0), (0, .ref (r 0))]) hx hb dX9_bringBack_1 rfl hl (by decide) rfl (fun ls hl => ?_)
  have L2 : ∀ (N2 : Nat) (y2_1 : Int32) (m2_f_all : Nat → Int32) (H2 : Heap) (locs : List Loc) (ls : Array Slot) (g2_0 : (0 : Int) ≤ y2_1.toInt) (g2_1 : y2_1.toInt ≤ (26 : Int)) (gi2_all_p : EW m2_f_all) (hP : va_P (dC, dI) vwCl (WM r ct i_taped i_size i_faultKind i_at i_end i_token i_number i_bank i_rb i_codes i_within i_piled i_unitsInRule i_askHouse i_askTune i_acts i_undone i_laid i_knowns i_time f_text f_tunes f_houses f_hums f_told f_many f_ruleFrom f_ruleTo f_code f_eWhat f_eSign m2_f_all f_kept f_was f_sTune f_boxAll J L) H2) (hD : va_D A (WM r ct i_taped i_size i_faultKind i_at i_end i_token i_number i_bank i_rb i_codes i_within i_piled i_unitsInRule i_askHouse i_askTune i_acts i_undone i_laid i_knowns i_time f_text f_tunes f_houses f_hums f_told f_many f_ruleFrom f_ruleTo f_code f_eWhat f_eSign m2_f_all f_kept f_was f_sTune f_boxAll J L)) (hS : va_S A s.heap H2 locs) (hl : lv_has ls 2 [(0, .ref (r 0)), (1, .int y2_1)]) (hM : -1 * y2_1.toInt + 26 < (N2 : Int)), W p l e { frames := 2, cells := 0, slots := 0, locals := 100 } s m ([.ref (r 0)] : List Value).toArray below meth c0 H2 locs 0 0 Q (F0 m 2 ls []) := by
    intro N2
    induction N2 with
    | zero =>
      intro y2_1 m2_f_all H2 locs ls g2_0 g2_1 gi2_all_p hP hD hS hl hM
      exact ((ob_776 hM g2_0 g2_1)).elim
    | succ N2 ih2 =>
      intro y2_1 m2_f_all H2 locs ls g2_0 g2_1 gi2_all_p hP hD hS hl hM
      have hM2 := msucc hM
      refine lv_iload_n hx hb dX9_bringBack_2 rfl (lv_at hl 1 rfl) ?_
      refine lv_bipush (v := 26) hx hb dX9_bringBack_3 (by decide) ?_
      refine lv_icmp_ge (tgt := 26) hx hb dX9_bringBack_5 (by decide) (fun c_3 => ?_) (fun c_3 => ?_)
      · skip
        have f4 : 26 ≤ y2_1.toInt := qi_le c_3 zc_26 rfl
        rw [hQ]
        exact W.vret hx hb hr (fun t ht hW => ⟨⟨(), rfl, trivial, ⟨m2_f_all, by rw [ht]; exact hP, hD, ⟨ie0, ie1, ie2, ie3, ie4, ie5, ie6, ie7, ie8, ie9, ie10, ie11, ie12, ie13, ie14, ie15, ie16, ie17, ie18, ie19, ie20, ie21, ie22, ie23, ie24, ie25, ie26, gi2_all_p, ie28, ie29, ie30, ie31, ie32⟩⟩⟩, hS.F ht⟩) hS.2.2 dX9_bringBack_26
      · skip
        have f5 : y2_1.toInt < 26 := qi_nle c_3 zc_26 rfl
        refine lv_aload_n hx hb dX9_bringBack_8 rfl (lv_at hl 0 rfl) ?_
        refine gM_X9_88_0 hx hb hG hown hK hP dX9_bringBack_9 ?_
        refine lv_iload_n hx hb dX9_bringBack_12 rfl (lv_at hl 1 rfl) ?_
        refine lv_aload_n hx hb dX9_bringBack_13 rfl (lv_at hl 0 rfl) ?_
        refine gM_X9_91_0 hx hb hG hown hK hP dX9_bringBack_14 ?_
        refine lv_iload_n hx hb dX9_bringBack_17 rfl (lv_at hl 1 rfl) ?_
        refine ldM_26 (mm := y2_1.toInt) hx hb hK hP rfl (ob_350 g2_0) (ob_809 f5) dX9_bringBack_18 ?_
        refine stM_25 (mm := y2_1.toInt) hx hb hK hP hD hS rfl (ob_350 g2_0) (ob_809 f5) dX9_bringBack_19 (fun z7 H6 locs ez7 hP hD hS => ?_)
        have g8 : EW z7 := ez7 ▸ EW.updc gi2_all_p ie28 (ob_350 g2_0) (ob_350 g2_0) (ob_1026)
        obtain ⟨x9, ex9⟩ : ∃ y : Int32, y = y2_1 + Int32.ofInt 1 := ⟨_, rfl⟩
        have f10 : x9.toInt = y2_1.toInt + 1 := (ob_142 (qi_add ex9 rfl (by decide) (ob_140 g2_0) (ob_810 g2_1)))
        refine lv_iinc (v := x9) (lv' := [(1, .int x9), (0, .ref (r 0))]) hx hb dX9_bringBack_20 hl (k := 1) rfl ex9.symm (by decide) rfl (fun ls hl => ?_)
        refine lv_goto (tgt := 2) hx hb dX9_bringBack_23 (by decide) ?_
        exact ih2 x9 z7 H6 _ _ (ob_149 g2_0 f10) (ob_811 f5 f10) g8 hP hD hS (lv_sub hl [1, 0] rfl) (ob_812 hM2 f10)
  exact L2 (-1 * (0 : Int32).toInt + 26 + 1).toNat 0 f_all s.heap _ _ (ob_1 zc_0) (ob_813 zc_0) ie27 hP hD hS (lv_sub hl [1, 0] rfl) (mlt (ob_814 zc_0))
set_option maxHeartbeats 4000000 in
set_option maxRecDepth 100000 in
theorem kX9_isOnCart (l : Launch) (dC : Nat → ClassId) (dI : Nat → Nat → Nat) (r : Nat → Nat) (ct : Nat → ClassId) (i_taped i_size i_faultKind i_at i_end i_token i_number i_bank i_rb i_codes i_within i_piled i_unitsInRule i_askHouse i_askTune i_acts i_undone i_laid i_knowns i_time : Int32) (f_text f_tunes f_houses f_hums f_told f_many f_ruleFrom f_ruleTo f_code f_eWhat f_eSign f_all f_kept f_was f_sTune f_boxAll : Nat → Int32) (J : Nat → Nat → Int32) (L : Nat → Nat → Int64) (p0 : Int32) (sz : Nat) (hI : (IM i_taped i_size i_faultKind i_at i_end i_bank i_rb i_acts i_undone i_laid i_knowns i_time f_tunes f_houses f_hums f_told f_many f_ruleFrom f_ruleTo f_code f_all f_kept f_was f_sTune f_boxAll)) (hp0 : (0 : Int) ≤ p0.toInt) (hp1 : p0.toInt + 1 ≤ (f_tunes (i_bank.toInt).toNat).toInt) : Met l yX9_isOnCart (.code yX9_isOnCart cX9_isOnCart 2 (some .boolean) :: GW) { frames := 2, cells := 0, slots := 0, locals := 100 } (va_Pc [.ref (r 0), .int p0] (pR (dC, dI) (WM r ct i_taped i_size i_faultKind i_at i_end i_token i_number i_bank i_rb i_codes i_within i_piled i_unitsInRule i_askHouse i_askTune i_acts i_undone i_laid i_knowns i_time f_text f_tunes f_houses f_hums f_told f_many f_ruleFrom f_ruleTo f_code f_eWhat f_eSign f_all f_kept f_was f_sTune f_boxAll J L) (TM ct) sz)) (va_Qi (fun (r0 : Int32) (u : Int32) => r0 = u) (fun (u : Int32) (t : State) => ((((f_all (p0.toInt).toNat).toInt + 1 ≠ (0 : Int)) ∧ (u.toInt = (0 : Int))) ∨ (((f_all (p0.toInt).toNat).toInt + 1 = (0 : Int)) ∧ (u.toInt = (1 : Int)))) ∧ ((0 : Int) ≤ u.toInt) ∧ (u.toInt ≤ (1 : Int))) (fun q => sz ≤ q)) 0 0 (fun q => sz ≤ q) := by
  refine Met.ofW (cc := cX9_isOnCart) (maxL := 2) (ret := (some .boolean)) (by decide) rfl ?_
  intro p e s m args below meth c0 s₁ B hml hv
  obtain ⟨rfl, hsz, hP, hK⟩ := hv
  have hx := B.exec
  have hb := B.bytes
  have hr := B.returns
  have hts := atoms_spec (ws := .code yX9_isOnCart cX9_isOnCart 2 (some .boolean) :: GW) B.pre
  have hG : ∀ w ∈ GW, w.before _ s = true := fun w h => hts w (List.mem_cons_of_mem _ h)
  have hown : s.vm.findClass RX9 = some m.cls := findClass_of_methodNamed B.named
  subst hsz
  have hS : va_S (fun q => s.heap.size ≤ q) s.heap s.heap [] := va_S.rf
  have hP : va_P (dC, dI) vwCl (WM r ct i_taped i_size i_faultKind i_at i_end i_token i_number i_bank i_rb i_codes i_within i_piled i_unitsInRule i_askHouse i_askTune i_acts i_undone i_laid i_knowns i_time f_text f_tunes f_houses f_hums f_told f_many f_ruleFrom f_ruleTo f_code f_eWhat f_eSign f_all f_kept f_was f_sTune f_boxAll J L) s.heap := hP
  have hl := lv_entry ([.ref (r 0), .int p0]) (n := 2) (Nat.le_of_ble_eq_true rfl)
  rw [lg_entry_eq]
  generalize (lg_sl ([.ref (r 0), .int p0]) ++ List.replicate (2 - (lg_sl ([.ref (r 0), .int p0])).length) Slot.unset).toArray = ls at hl ⊢
  have hl : lv_has ls 2 [(0, .ref (r 0)), (1, .int p0)] := hl
  refine nameQ (fun Q hQ => ?_)
  obtain ⟨ie0, ie1, ie2, ie3, ie4, ie5, ie6, ie7, ie8, ie9, ie10, ie11, ie12, ie13, ie14, ie15, ie16, ie17, ie18, ie19, ie20, ie21, ie22, ie23, ie24, ie25, ie26, ie27, ie28, ie29, ie30, ie31, ie32⟩ := id hI
  have f1 : 0 ≤ (f_tunes (i_bank.toInt).toNat).toInt ∧ (f_tunes (i_bank.toInt).toNat).toInt ≤ 5 := ie21 (i_bank.toInt)
  have f2 : 0 ≤ (f_houses (i_bank.toInt).toNat).toInt ∧ (f_houses (i_bank.toInt).toNat).toInt ≤ 4 := ie22 (i_bank.toInt)
  refine lv_aload_n hx hb dX9_isOnCart_0 rfl (lv_at hl 0 rfl) ?_
  refine gM_X9_88_0 hx hb hG hown hK hP dX9_isOnCart_1 ?_
  refine lv_iconst (v := 0) hx hb dX9_isOnCart_4 (by decide) ?_
  refine lv_iload_n hx hb dX9_isOnCart_5 rfl (lv_at hl 1 rfl) ?_
  refine lv_iadd hx hb dX9_isOnCart_6 ?_
  refine lv_topi (fun x3 ex3 => ?_)
  have f4 : x3.toInt = p0.toInt := (ob_801 (qi_add ex3 zc_0 rfl (ob_1027 hp0 hp1) (ob_1028 f1 hp0 hp1)))
  refine ldM_25 (mm := p0.toInt) hx hb hK hP f4 (ob_1029 hp0 hp1) (ob_1030 f1 hp0 hp1) dX9_isOnCart_7 ?_
  refine lv_iconst (v := (-1)) hx hb dX9_isOnCart_8 (by decide) ?_
  refine lv_icmp_ne (tgt := 16) hx hb dX9_isOnCart_9 (by decide) (fun c_5 => ?_) (fun c_5 => ?_)
  · skip
    have f6 : (f_all (p0.toInt).toNat).toInt ≠ (-1) := qi_ne c_5 rfl zc_m1
    refine lv_iconst (v := 0) hx hb dX9_isOnCart_16 (by decide) ?_
    rw [hQ]
    exact W.zret (v := 0) hx hb hr (by decide) (fun t ht hW => ⟨⟨0, 0, rfl, rfl, ⟨(ob_1031 f6 zc_0), (ob_1 zc_0), (ob_11 zc_0)⟩⟩, hS.F ht⟩) hS.2.2 dX9_isOnCart_17
  · skip
    have f7 : (f_all (p0.toInt).toNat).toInt = (-1) := qi_eq c_5 rfl zc_m1
    refine lv_iconst (v := 1) hx hb dX9_isOnCart_12 (by decide) ?_
    refine lv_goto (tgt := 17) hx hb dX9_isOnCart_13 (by decide) ?_
    rw [hQ]
    exact W.zret (v := 1) hx hb hr (by decide) (fun t ht hW => ⟨⟨1, 1, rfl, rfl, ⟨(ob_1032 f7 zc_1), (ob_14 zc_1), (ob_15 zc_1)⟩⟩, hS.F ht⟩) hS.2.2 dX9_isOnCart_17
set_option maxHeartbeats 4000000 in
set_option maxRecDepth 100000 in
theorem kX9_isTried (l : Launch) (dC : Nat → ClassId) (dI : Nat → Nat → Nat) (r : Nat → Nat) (ct : Nat → ClassId) (i_taped i_size i_faultKind i_at i_end i_token i_number i_bank i_rb i_codes i_within i_piled i_unitsInRule i_askHouse i_askTune i_acts i_undone i_laid i_knowns i_time : Int32) (f_text f_tunes f_houses f_hums f_told f_many f_ruleFrom f_ruleTo f_code f_eWhat f_eSign f_all f_kept f_was f_sTune f_boxAll : Nat → Int32) (J : Nat → Nat → Int32) (L : Nat → Nat → Int64) (p0 : Int32) (sz : Nat) (hI : (IM i_taped i_size i_faultKind i_at i_end i_bank i_rb i_acts i_undone i_laid i_knowns i_time f_tunes f_houses f_hums f_told f_many f_ruleFrom f_ruleTo f_code f_all f_kept f_was f_sTune f_boxAll)) (hp0 : (0 : Int) ≤ p0.toInt) (hp1 : p0.toInt + 1 ≤ (f_tunes (i_bank.toInt).toNat).toInt) : Met l yX9_isTried (.code yX9_isTried cX9_isTried 2 (some .boolean) :: GW) { frames := 2, cells := 0, slots := 0, locals := 100 } (va_Pc [.ref (r 0), .int p0] (pR (dC, dI) (WM r ct i_taped i_size i_faultKind i_at i_end i_token i_number i_bank i_rb i_codes i_within i_piled i_unitsInRule i_askHouse i_askTune i_acts i_undone i_laid i_knowns i_time f_text f_tunes f_houses f_hums f_told f_many f_ruleFrom f_ruleTo f_code f_eWhat f_eSign f_all f_kept f_was f_sTune f_boxAll J L) (TM ct) sz)) (va_Qi (fun (r0 : Int32) (u : Int32) => r0 = u) (fun (u : Int32) (t : State) => ((((f_all (p0.toInt).toNat).toInt + 1 ≤ (0 : Int)) ∧ (u.toInt = (0 : Int))) ∨ (((0 : Int) ≤ (f_all (p0.toInt).toNat).toInt) ∧ ((f_all (p0.toInt + 5).toNat).toInt ≠ (0 : Int)) ∧ (u.toInt = (0 : Int))) ∨ (((0 : Int) ≤ (f_all (p0.toInt).toNat).toInt) ∧ ((f_all (p0.toInt + 5).toNat).toInt = (0 : Int)) ∧ (u.toInt = (1 : Int)))) ∧ ((0 : Int) ≤ u.toInt) ∧ (u.toInt ≤ (1 : Int))) (fun q => sz ≤ q)) 0 0 (fun q => sz ≤ q) := by
  refine Met.ofW (cc := cX9_isTried) (maxL := 2) (ret := (some .boolean)) (by decide) rfl ?_
  intro p e s m args below meth c0 s₁ B hml hv
  obtain ⟨rfl, hsz, hP, hK⟩ := hv
  have hx := B.exec
  have hb := B.bytes
  have hr := B.returns
  have hts := atoms_spec (ws := .code yX9_isTried cX9_isTried 2 (some .boolean) :: GW) B.pre
  have hG : ∀ w ∈ GW, w.before _ s = true := fun w h => hts w (List.mem_cons_of_mem _ h)
  have hown : s.vm.findClass RX9 = some m.cls := findClass_of_methodNamed B.named
  subst hsz
  have hS : va_S (fun q => s.heap.size ≤ q) s.heap s.heap [] := va_S.rf
  have hP : va_P (dC, dI) vwCl (WM r ct i_taped i_size i_faultKind i_at i_end i_token i_number i_bank i_rb i_codes i_within i_piled i_unitsInRule i_askHouse i_askTune i_acts i_undone i_laid i_knowns i_time f_text f_tunes f_houses f_hums f_told f_many f_ruleFrom f_ruleTo f_code f_eWhat f_eSign f_all f_kept f_was f_sTune f_boxAll J L) s.heap := hP
  have hl := lv_entry ([.ref (r 0), .int p0]) (n := 2) (Nat.le_of_ble_eq_true rfl)
  rw [lg_entry_eq]
  generalize (lg_sl ([.ref (r 0), .int p0]) ++ List.replicate (2 - (lg_sl ([.ref (r 0), .int p0])).length) Slot.unset).toArray = ls at hl ⊢
  have hl : lv_has ls 2 [(0, .ref (r 0)), (1, .int p0)] := hl
  refine nameQ (fun Q hQ => ?_)
  obtain ⟨ie0, ie1, ie2, ie3, ie4, ie5, ie6, ie7, ie8, ie9, ie10, ie11, ie12, ie13, ie14, ie15, ie16, ie17, ie18, ie19, ie20, ie21, ie22, ie23, ie24, ie25, ie26, ie27, ie28, ie29, ie30, ie31, ie32⟩ := id hI
  have f1 : 0 ≤ (f_tunes (i_bank.toInt).toNat).toInt ∧ (f_tunes (i_bank.toInt).toNat).toInt ≤ 5 := ie21 (i_bank.toInt)
  have f2 : 0 ≤ (f_houses (i_bank.toInt).toNat).toInt ∧ (f_houses (i_bank.toInt).toNat).toInt ≤ 4 := ie22 (i_bank.toInt)
  refine lv_aload_n hx hb dX9_isTried_0 rfl (lv_at hl 0 rfl) ?_
  refine gM_X9_88_0 hx hb hG hown hK hP dX9_isTried_1 ?_
  refine lv_iconst (v := 0) hx hb dX9_isTried_4 (by decide) ?_
  refine lv_iload_n hx hb dX9_isTried_5 rfl (lv_at hl 1 rfl) ?_
  refine lv_iadd hx hb dX9_isTried_6 ?_
  refine lv_topi (fun x3 ex3 => ?_)
  have f4 : x3.toInt = p0.toInt := (ob_801 (qi_add ex3 zc_0 rfl (ob_1027 hp0 hp1) (ob_1028 f1 hp0 hp1)))
  refine ldM_25 (mm := p0.toInt) hx hb hK hP f4 (ob_1029 hp0 hp1) (ob_1030 f1 hp0 hp1) dX9_isTried_7 ?_
  refine lv_if_lt (tgt := 26) hx hb dX9_isTried_8 (by decide) (fun c_5 => ?_) (fun c_5 => ?_)
  · skip
    have f6 : (f_all (p0.toInt).toNat).toInt < 0 := qi_lt c_5 rfl zc_0
    refine lv_iconst (v := 0) hx hb dX9_isTried_26 (by decide) ?_
    rw [hQ]
    exact W.zret (v := 0) hx hb hr (by decide) (fun t ht hW => ⟨⟨0, 0, rfl, rfl, ⟨(ob_1033 f6 zc_0), (ob_1 zc_0), (ob_11 zc_0)⟩⟩, hS.F ht⟩) hS.2.2 dX9_isTried_27
  · skip
    have f7 : 0 ≤ (f_all (p0.toInt).toNat).toInt := qi_nlt c_5 rfl zc_0
    refine lv_aload_n hx hb dX9_isTried_11 rfl (lv_at hl 0 rfl) ?_
    refine gM_X9_88_0 hx hb hG hown hK hP dX9_isTried_12 ?_
    refine lv_iconst (v := 5) hx hb dX9_isTried_15 (by decide) ?_
    refine lv_iload_n hx hb dX9_isTried_16 rfl (lv_at hl 1 rfl) ?_
    refine lv_iadd hx hb dX9_isTried_17 ?_
    refine lv_topi (fun x8 ex8 => ?_)
    have f9 : x8.toInt = p0.toInt + 5 := (ob_1036 (qi_add ex8 zc_5 rfl (ob_1034 hp0 hp1) (ob_1035 f1 hp0 hp1)))
    refine ldM_25 (mm := p0.toInt + 5) hx hb hK hP f9 (ob_1037 hp0 hp1) (ob_1038 f1 hp0 hp1) dX9_isTried_18 ?_
    refine lv_if_ne (tgt := 26) hx hb dX9_isTried_19 (by decide) (fun c_10 => ?_) (fun c_10 => ?_)
    · skip
      have f11 : (f_all (p0.toInt + 5).toNat).toInt ≠ 0 := qi_ne c_10 rfl zc_0
      refine lv_iconst (v := 0) hx hb dX9_isTried_26 (by decide) ?_
      rw [hQ]
      exact W.zret (v := 0) hx hb hr (by decide) (fun t ht hW => ⟨⟨0, 0, rfl, rfl, ⟨(ob_1039 f7 f11 zc_0), (ob_1 zc_0), (ob_11 zc_0)⟩⟩, hS.F ht⟩) hS.2.2 dX9_isTried_27
    · skip
      have f12 : (f_all (p0.toInt + 5).toNat).toInt = 0 := qi_eq c_10 rfl zc_0
      refine lv_iconst (v := 1) hx hb dX9_isTried_22 (by decide) ?_
      refine lv_goto (tgt := 27) hx hb dX9_isTried_23 (by decide) ?_
      rw [hQ]
      exact W.zret (v := 1) hx hb hr (by decide) (fun t ht hW => ⟨⟨1, 1, rfl, rfl, ⟨(ob_1040 f7 f12 zc_1), (ob_14 zc_1), (ob_15 zc_1)⟩⟩, hS.F ht⟩) hS.2.2 dX9_isTried_27
set_option maxHeartbeats 4000000 in
set_option maxRecDepth 100000 in
theorem kX9_triedBy (l : Launch) (dC : Nat → ClassId) (dI : Nat → Nat → Nat) (r : Nat → Nat) (ct : Nat → ClassId) (i_taped i_size i_faultKind i_at i_end i_token i_number i_bank i_rb i_codes i_within i_piled i_unitsInRule i_askHouse i_askTune i_acts i_undone i_laid i_knowns i_time : Int32) (f_text f_tunes f_houses f_hums f_told f_many f_ruleFrom f_ruleTo f_code f_eWhat f_eSign f_all f_kept f_was f_sTune f_boxAll : Nat → Int32) (J : Nat → Nat → Int32) (L : Nat → Nat → Int64) (p0 : Int32) (sz : Nat) (hI : (IM i_taped i_size i_faultKind i_at i_end i_bank i_rb i_acts i_undone i_laid i_knowns i_time f_tunes f_houses f_hums f_told f_many f_ruleFrom f_ruleTo f_code f_all f_kept f_was f_sTune f_boxAll)) : Met l yX9_triedBy (.code yX9_triedBy cX9_triedBy 3 (some .int) :: GW) { frames := 4, cells := 0, slots := 0, locals := 160 } (va_Pc [.ref (r 0), .int p0] (pR (dC, dI) (WM r ct i_taped i_size i_faultKind i_at i_end i_token i_number i_bank i_rb i_codes i_within i_piled i_unitsInRule i_askHouse i_askTune i_acts i_undone i_laid i_knowns i_time f_text f_tunes f_houses f_hums f_told f_many f_ruleFrom f_ruleTo f_code f_eWhat f_eSign f_all f_kept f_was f_sTune f_boxAll J L) (TM ct) sz)) (va_Qi (fun (r0 : Int32) (u : Int32) => r0 = u) (fun (u : Int32) (t : State) => ((0 : Int) ≤ u.toInt + 1) ∧ (u.toInt + 1 ≤ (f_tunes (i_bank.toInt).toNat).toInt) ∧ (u.toInt = (trb f_all p0.toInt (f_tunes (i_bank.toInt).toNat).toInt (6 - ((0 : Int32).toInt)).toNat ((0 : Int32).toInt)))) (fun q => sz ≤ q)) 0 0 (fun q => sz ≤ q) := by
  refine Met.ofW (cc := cX9_triedBy) (maxL := 3) (ret := (some .int)) (by decide) rfl ?_
  intro p e s m args below meth c0 s₁ B hml hv
  obtain ⟨rfl, hsz, hP, hK⟩ := hv
  have hx := B.exec
  have hb := B.bytes
  have hr := B.returns
  have hts := atoms_spec (ws := .code yX9_triedBy cX9_triedBy 3 (some .int) :: GW) B.pre
  have hG : ∀ w ∈ GW, w.before _ s = true := fun w h => hts w (List.mem_cons_of_mem _ h)
  have hown : s.vm.findClass RX9 = some m.cls := findClass_of_methodNamed B.named
  subst hsz
  have hS : va_S (fun q => s.heap.size ≤ q) s.heap s.heap [] := va_S.rf
  have hP : va_P (dC, dI) vwCl (WM r ct i_taped i_size i_faultKind i_at i_end i_token i_number i_bank i_rb i_codes i_within i_piled i_unitsInRule i_askHouse i_askTune i_acts i_undone i_laid i_knowns i_time f_text f_tunes f_houses f_hums f_told f_many f_ruleFrom f_ruleTo f_code f_eWhat f_eSign f_all f_kept f_was f_sTune f_boxAll J L) s.heap := hP
  have hl := lv_entry ([.ref (r 0), .int p0]) (n := 3) (Nat.le_of_ble_eq_true rfl)
  rw [lg_entry_eq]
  generalize (lg_sl ([.ref (r 0), .int p0]) ++ List.replicate (3 - (lg_sl ([.ref (r 0), .int p0])).length) Slot.unset).toArray = ls at hl ⊢
  have hl : lv_has ls 3 [(0, .ref (r 0)), (1, .int p0)] := hl
  refine nameQ (fun Q hQ => ?_)
  obtain ⟨ie0, ie1, ie2, ie3, ie4, ie5, ie6, ie7, ie8, ie9, ie10, ie11, ie12, ie13, ie14, ie15, ie16, ie17, ie18, ie19, ie20, ie21, ie22, ie23, ie24, ie25, ie26, ie27, ie28, ie29, ie30, ie31, ie32⟩ := id hI
  have f1 : 0 ≤ (f_tunes (i_bank.toInt).toNat).toInt ∧ (f_tunes (i_bank.toInt).toNat).toInt ≤ 5 := ie21 (i_bank.toInt)
  have f2 : 0 ≤ (f_houses (i_bank.toInt).toNat).toInt ∧ (f_houses (i_bank.toInt).toNat).toInt ≤ 4 := ie22 (i_bank.toInt)
  refine lv_iconst (v := 0) hx hb dX9_triedBy_0 (by decide) ?_
  refine lv_istore_n (lv' := [(2, .int 0), (0, .ref (r 0)), (1, .int p0)]) hx hb dX9_triedBy_1 rfl hl (by decide) rfl (fun ls hl => ?_)
  have L2 : ∀ (N2 : Nat) (y2_2 : Int32) (H2 : Heap) (locs : List Loc) (ls : Array Slot) (g2_0 : (0 : Int) ≤ y2_2.toInt) (g2_1 : y2_2.toInt ≤ (5 : Int)) (g2_2 : (trb f_all p0.toInt (f_tunes (i_bank.toInt).toNat).toInt (6 - ((0 : Int32).toInt)).toNat ((0 : Int32).toInt)) = (trb f_all p0.toInt (f_tunes (i_bank.toInt).toNat).toInt (6 - (y2_2.toInt)).toNat (y2_2.toInt))) (hP : va_P (dC, dI) vwCl (WM r ct i_taped i_size i_faultKind i_at i_end i_token i_number i_bank i_rb i_codes i_within i_piled i_unitsInRule i_askHouse i_askTune i_acts i_undone i_laid i_knowns i_time f_text f_tunes f_houses f_hums f_told f_many f_ruleFrom f_ruleTo f_code f_eWhat f_eSign f_all f_kept f_was f_sTune f_boxAll J L) H2) (hS : va_S (fun q => s.heap.size ≤ q) s.heap H2 locs) (hl : lv_has ls 3 [(0, .ref (r 0)), (1, .int p0), (2, .int y2_2)]) (hM : -1 * y2_2.toInt + 5 < (N2 : Int)), W p l e { frames := 4, cells := 0, slots := 0, locals := 160 } s m ([.ref (r 0), .int p0] : List Value).toArray below meth c0 H2 locs 0 0 Q (F0 m 2 ls []) := by
    intro N2
    induction N2 with
    | zero =>
      intro y2_2 H2 locs ls g2_0 g2_1 g2_2 hP hS hl hM
      exact ((ob_777 hM g2_0 g2_1)).elim
    | succ N2 ih2 =>
      intro y2_2 H2 locs ls g2_0 g2_1 g2_2 hP hS hl hM
      have hM2 := msucc hM
      refine lv_iload_n hx hb dX9_triedBy_2 rfl (lv_at hl 2 rfl) ?_
      refine lv_aload_n hx hb dX9_triedBy_3 rfl (lv_at hl 0 rfl) ?_
      refine va_calli (va_runV (As := []) (rest := [.int y2_2]) ⟨hx, hb, hml, hown, hG⟩ (kX9_songs l dC dI r ct i_taped i_size i_faultKind i_at i_end i_token i_number i_bank i_rb i_codes i_within i_piled i_unitsInRule i_askHouse i_askTune i_acts i_undone i_laid i_knowns i_time f_text f_tunes f_houses f_hums f_told f_many f_ruleFrom f_ruleTo f_code f_eWhat f_eSign f_all f_kept f_was f_sTune f_boxAll J L H2.size hI) (cwV 0 hG (goodV gw1512 gw1514 gw86 gw138 gw1515) rfl rfl rfl hd_X9_songs ⟨(Nat.le_of_ble_eq_true rfl), (Nat.le_of_ble_eq_true rfl)⟩) ⟨fbR, va_recv hK hP (ci := 8) (q0 := 0) rfl rfl, pR_in hP hK⟩ rfl rfl hl.1 rfl (lv_room (Nat.le_of_ble_eq_true rfl)) dX9_triedBy_4 ⟨(Nat.le_of_ble_eq_true rfl), (Nat.le_of_ble_eq_true rfl)⟩) hS (fun q hq h => absurd hq (Nat.not_lt.mpr h)) (fun q h => Nat.le_trans hS.1 h) (fun r_4 u_ t_ H3 locs ht hvm hw hB hz1 hk1 hS => ?_)
      subst hw
      have hP := wk hP hk1
      have f5 := hB
      have f6 : r_4.toInt = (f_tunes (i_bank.toInt).toNat).toInt := (ob_6 f5)
      refine lv_icmp_ge (tgt := 41) hx hb dX9_triedBy_7 (by decide) (fun c_7 => ?_) (fun c_7 => ?_)
      · skip
        have f8 : r_4.toInt ≤ y2_2.toInt := qi_le c_7 rfl rfl
        have f9 : (trb f_all p0.toInt (f_tunes (i_bank.toInt).toNat).toInt (6 - (y2_2.toInt)).toNat (y2_2.toInt)) = -1 := trb_end (ob_1041 f8 f6)
        refine lv_iconst (v := (-1)) hx hb dX9_triedBy_41 (by decide) ?_
        rw [hQ]
        exact W.iret (v := (-1)) hx hb hr (fun t ht hW => ⟨⟨(-1), (-1), rfl, rfl, ⟨(ob_1042 zc_m1), (ob_1043 f1 f8 f6 zc_m1), (ob_1044 g2_2 f9 zc_m1)⟩⟩, hS.F ht⟩) hS.2.2 dX9_triedBy_42
      · skip
        have f10 : y2_2.toInt < r_4.toInt := qi_nle c_7 rfl rfl
        refine lv_aload_n hx hb dX9_triedBy_10 rfl (lv_at hl 0 rfl) ?_
        refine gM_X9_88_0 hx hb hG hown hK hP dX9_triedBy_11 ?_
        refine lv_iconst (v := 0) hx hb dX9_triedBy_14 (by decide) ?_
        refine lv_iload_n hx hb dX9_triedBy_15 rfl (lv_at hl 2 rfl) ?_
        refine lv_iadd hx hb dX9_triedBy_16 ?_
        refine lv_topi (fun x11 ex11 => ?_)
        have f12 : x11.toInt = y2_2.toInt := (ob_801 (qi_add ex11 zc_0 rfl (ob_799 g2_0) (ob_800 g2_1)))
        refine ldM_25 (mm := y2_2.toInt) hx hb hK hP f12 (ob_350 g2_0) (ob_802 g2_1) dX9_triedBy_17 ?_
        refine lv_iload_n hx hb dX9_triedBy_18 rfl (lv_at hl 1 rfl) ?_
        refine lv_icmp_ne (tgt := 35) hx hb dX9_triedBy_19 (by decide) (fun c_13 => ?_) (fun c_13 => ?_)
        · skip
          have f14 : (f_all (y2_2.toInt).toNat).toInt ≠ p0.toInt := qi_ne c_13 rfl rfl
          have f15 : (trb f_all p0.toInt (f_tunes (i_bank.toInt).toNat).toInt (6 - (y2_2.toInt)).toNat (y2_2.toInt)) = (trb f_all p0.toInt (f_tunes (i_bank.toInt).toNat).toInt (6 - (y2_2.toInt + 1)).toNat (y2_2.toInt + 1)) := trb_m1 (ob_350 g2_0) (ob_1045 g2_1) (ob_1046 f10 f6) f14
          obtain ⟨x16, ex16⟩ : ∃ y : Int32, y = y2_2 + Int32.ofInt 1 := ⟨_, rfl⟩
          have f17 : x16.toInt = y2_2.toInt + 1 := (ob_142 (qi_add ex16 rfl (by decide) (ob_140 g2_0) (ob_804 g2_1)))
          refine lv_iinc (v := x16) (lv' := [(2, .int x16), (0, .ref (r 0)), (1, .int p0)]) hx hb dX9_triedBy_35 hl (k := 2) rfl ex16.symm (by decide) rfl (fun ls hl => ?_)
          have f18 : (trb f_all p0.toInt (f_tunes (i_bank.toInt).toNat).toInt (6 - (x16.toInt)).toNat (x16.toInt)) = (trb f_all p0.toInt (f_tunes (i_bank.toInt).toNat).toInt (6 - (y2_2.toInt + 1)).toNat (y2_2.toInt + 1)) := by rw [f17]
          refine lv_goto (tgt := 2) hx hb dX9_triedBy_38 (by decide) ?_
          exact ih2 x16 H3 _ _ (ob_149 g2_0 f17) (ob_1047 f1 f10 f6 f17) (ob_1048 g2_2 f15 f18) hP hS (lv_sub hl [1, 2, 0] rfl) (ob_806 hM2 f17)
        · skip
          have f19 : (f_all (y2_2.toInt).toNat).toInt = p0.toInt := qi_eq c_13 rfl rfl
          refine lv_aload_n hx hb dX9_triedBy_22 rfl (lv_at hl 0 rfl) ?_
          refine gM_X9_88_0 hx hb hG hown hK hP dX9_triedBy_23 ?_
          refine lv_iconst (v := 5) hx hb dX9_triedBy_26 (by decide) ?_
          refine lv_iload_n hx hb dX9_triedBy_27 rfl (lv_at hl 2 rfl) ?_
          refine lv_iadd hx hb dX9_triedBy_28 ?_
          refine lv_topi (fun x20 ex20 => ?_)
          have f21 : x20.toInt = y2_2.toInt + 5 := (ob_1036 (qi_add ex20 zc_5 rfl (ob_1049 g2_0) (ob_1050 g2_1)))
          refine ldM_25 (mm := y2_2.toInt + 5) hx hb hK hP f21 (ob_1051 g2_0) (ob_1052 g2_1) dX9_triedBy_29 ?_
          refine lv_if_ne (tgt := 35) hx hb dX9_triedBy_30 (by decide) (fun c_22 => ?_) (fun c_22 => ?_)
          · skip
            have f23 : (f_all (y2_2.toInt + 5).toNat).toInt ≠ 0 := qi_ne c_22 rfl zc_0
            have f24 : (trb f_all p0.toInt (f_tunes (i_bank.toInt).toNat).toInt (6 - (y2_2.toInt)).toNat (y2_2.toInt)) = (trb f_all p0.toInt (f_tunes (i_bank.toInt).toNat).toInt (6 - (y2_2.toInt + 1)).toNat (y2_2.toInt + 1)) := trb_m2 (ob_350 g2_0) (ob_1045 g2_1) (ob_1046 f10 f6) f23
            obtain ⟨x25, ex25⟩ : ∃ y : Int32, y = y2_2 + Int32.ofInt 1 := ⟨_, rfl⟩
            have f26 : x25.toInt = y2_2.toInt + 1 := (ob_142 (qi_add ex25 rfl (by decide) (ob_140 g2_0) (ob_804 g2_1)))
            refine lv_iinc (v := x25) (lv' := [(2, .int x25), (0, .ref (r 0)), (1, .int p0)]) hx hb dX9_triedBy_35 hl (k := 2) rfl ex25.symm (by decide) rfl (fun ls hl => ?_)
            have f27 : (trb f_all p0.toInt (f_tunes (i_bank.toInt).toNat).toInt (6 - (x25.toInt)).toNat (x25.toInt)) = (trb f_all p0.toInt (f_tunes (i_bank.toInt).toNat).toInt (6 - (y2_2.toInt + 1)).toNat (y2_2.toInt + 1)) := by rw [f26]
            refine lv_goto (tgt := 2) hx hb dX9_triedBy_38 (by decide) ?_
            exact ih2 x25 H3 _ _ (ob_149 g2_0 f26) (ob_1047 f1 f10 f6 f26) (ob_1048 g2_2 f24 f27) hP hS (lv_sub hl [1, 2, 0] rfl) (ob_806 hM2 f26)
          · skip
            have f28 : (f_all (y2_2.toInt + 5).toNat).toInt = 0 := qi_eq c_22 rfl zc_0
            have f29 : (trb f_all p0.toInt (f_tunes (i_bank.toInt).toNat).toInt (6 - (y2_2.toInt)).toNat (y2_2.toInt)) = y2_2.toInt := trb_hit (ob_350 g2_0) (ob_1045 g2_1) (ob_1046 f10 f6) f19 f28
            refine lv_iload_n hx hb dX9_triedBy_33 rfl (lv_at hl 2 rfl) ?_
            rw [hQ]
            exact W.iret (v := y2_2) hx hb hr (fun t ht hW => ⟨⟨y2_2, y2_2, rfl, rfl, ⟨(ob_1053 g2_0), (ob_1054 f10 f6), (ob_1055 g2_2 f29)⟩⟩, hS.F ht⟩) hS.2.2 dX9_triedBy_34
  exact L2 (-1 * (0 : Int32).toInt + 5 + 1).toNat 0 s.heap _ _ (ob_1 zc_0) (ob_807 zc_0) (ob_775) hP hS (lv_sub hl [1, 2, 0] rfl) (mlt (ob_808 zc_0))
set_option maxHeartbeats 4000000 in
set_option maxRecDepth 100000 in
theorem kX9_gladBy (l : Launch) (dC : Nat → ClassId) (dI : Nat → Nat → Nat) (r : Nat → Nat) (ct : Nat → ClassId) (i_taped i_size i_faultKind i_at i_end i_token i_number i_bank i_rb i_codes i_within i_piled i_unitsInRule i_askHouse i_askTune i_acts i_undone i_laid i_knowns i_time : Int32) (f_text f_tunes f_houses f_hums f_told f_many f_ruleFrom f_ruleTo f_code f_eWhat f_eSign f_all f_kept f_was f_sTune f_boxAll : Nat → Int32) (J : Nat → Nat → Int32) (L : Nat → Nat → Int64) (p0 p1 p2 : Int32) (sz : Nat) (hI : (IM i_taped i_size i_faultKind i_at i_end i_bank i_rb i_acts i_undone i_laid i_knowns i_time f_tunes f_houses f_hums f_told f_many f_ruleFrom f_ruleTo f_code f_all f_kept f_was f_sTune f_boxAll)) (hp0 : (0 : Int) ≤ p0.toInt) (hp1 : p0.toInt + 1 ≤ (f_houses (i_bank.toInt).toNat).toInt) (hp2 : (0 : Int) ≤ p1.toInt) (hp3 : p1.toInt + 1 ≤ (f_tunes (i_bank.toInt).toNat).toInt) : Met l yX9_gladBy (.code yX9_gladBy cX9_gladBy 5 (some .int) :: GW) { frames := 18, cells := 0, slots := 0, locals := 603 } (va_Pc [.ref (r 0), .int p0, .int p1, .int p2] (pW (dC, dI) (WM r ct i_taped i_size i_faultKind i_at i_end i_token i_number i_bank i_rb i_codes i_within i_piled i_unitsInRule i_askHouse i_askTune i_acts i_undone i_laid i_knowns i_time f_text f_tunes f_houses f_hums f_told f_many f_ruleFrom f_ruleTo f_code f_eWhat f_eSign f_all f_kept f_was f_sTune f_boxAll J L) (TM ct) sz)) (va_Qi (fun (r0 : Int32) (u : Int32) => r0 = u) (fun (u : Int32) (t : State) => ∃ (n_i_askHouse n_i_askTune : Int32) (n_J : Nat → Nat → Int32), va_P (dC, dI) vwCl (WM r ct i_taped i_size i_faultKind i_at i_end i_token i_number i_bank i_rb i_codes i_within i_piled i_unitsInRule n_i_askHouse n_i_askTune i_acts i_undone i_laid i_knowns i_time f_text f_tunes f_houses f_hums f_told f_many f_ruleFrom f_ruleTo f_code f_eWhat f_eSign f_all f_kept f_was f_sTune f_boxAll n_J L) t.heap ∧ va_D (va_A (WM r ct i_taped i_size i_faultKind i_at i_end i_token i_number i_bank i_rb i_codes i_within i_piled i_unitsInRule i_askHouse i_askTune i_acts i_undone i_laid i_knowns i_time f_text f_tunes f_houses f_hums f_told f_many f_ruleFrom f_ruleTo f_code f_eWhat f_eSign f_all f_kept f_was f_sTune f_boxAll J L) sz) (WM r ct i_taped i_size i_faultKind i_at i_end i_token i_number i_bank i_rb i_codes i_within i_piled i_unitsInRule n_i_askHouse n_i_askTune i_acts i_undone i_laid i_knowns i_time f_text f_tunes f_houses f_hums f_told f_many f_ruleFrom f_ruleTo f_code f_eWhat f_eSign f_all f_kept f_was f_sTune f_boxAll n_J L) ∧ (IM i_taped i_size i_faultKind i_at i_end i_bank i_rb i_acts i_undone i_laid i_knowns i_time f_tunes f_houses f_hums f_told f_many f_ruleFrom f_ruleTo f_code f_all f_kept f_was f_sTune f_boxAll)) (va_A (WM r ct i_taped i_size i_faultKind i_at i_end i_token i_number i_bank i_rb i_codes i_within i_piled i_unitsInRule i_askHouse i_askTune i_acts i_undone i_laid i_knowns i_time f_text f_tunes f_houses f_hums f_told f_many f_ruleFrom f_ruleTo f_code f_eWhat f_eSign f_all f_kept f_was f_sTune f_boxAll J L) sz)) 0 0 (va_A (WM r ct i_taped i_size i_faultKind i_at i_end i_token i_number i_bank i_rb i_codes i_within i_piled i_unitsInRule i_askHouse i_askTune i_acts i_undone i_laid i_knowns i_time f_text f_tunes f_houses f_hums f_told f_many f_ruleFrom f_ruleTo f_code f_eWhat f_eSign f_all f_kept f_was f_sTune f_boxAll J L) sz) := by
  refine Met.ofW (cc := cX9_gladBy) (maxL := 5) (ret := (some .int)) (by decide) rfl ?_
  intro p e s m args below meth c0 s₁ B hml hv
  obtain ⟨rfl, hsz, hP, hK, hD0⟩ := hv
  have hx := B.exec
  have hb := B.bytes
  have hr := B.returns
  have hts := atoms_spec (ws := .code yX9_gladBy cX9_gladBy 5 (some .int) :: GW) B.pre
  have hG : ∀ w ∈ GW, w.before _ s = true := fun w h => hts w (List.mem_cons_of_mem _ h)
  have hown : s.vm.findClass RX9 = some m.cls := findClass_of_methodNamed B.named
  subst hsz
  have hD := hD0.self (sz := s.heap.size)
  generalize hAe : va_A (WM r ct i_taped i_size i_faultKind i_at i_end i_token i_number i_bank i_rb i_codes i_within i_piled i_unitsInRule i_askHouse i_askTune i_acts i_undone i_laid i_knowns i_time f_text f_tunes f_houses f_hums f_told f_many f_ruleFrom f_ruleTo f_code f_eWhat f_eSign f_all f_kept f_was f_sTune f_boxAll J L) s.heap.size = A at hD ⊢
  have hA : ∀ q : Nat, s.heap.size ≤ q → A q := fun q h => by rw [← hAe]; exact Or.inr h
  have hS : va_S A s.heap s.heap [] := va_S.rf
  have hP : va_P (dC, dI) vwCl (WM r ct i_taped i_size i_faultKind i_at i_end i_token i_number i_bank i_rb i_codes i_within i_piled i_unitsInRule i_askHouse i_askTune i_acts i_undone i_laid i_knowns i_time f_text f_tunes f_houses f_hums f_told f_many f_ruleFrom f_ruleTo f_code f_eWhat f_eSign f_all f_kept f_was f_sTune f_boxAll J L) s.heap := hP
  have hl := lv_entry ([.ref (r 0), .int p0, .int p1, .int p2]) (n := 5) (Nat.le_of_ble_eq_true rfl)
  rw [lg_entry_eq]
  generalize (lg_sl ([.ref (r 0), .int p0, .int p1, .int p2]) ++ List.replicate (5 - (lg_sl ([.ref (r 0), .int p0, .int p1, .int p2])).length) Slot.unset).toArray = ls at hl ⊢
  have hl : lv_has ls 5 [(0, .ref (r 0)), (1, .int p0), (2, .int p1), (3, .int p2)] := hl
  refine nameQ (fun Q hQ => ?_)
  obtain ⟨ie0, ie1, ie2, ie3, ie4, ie5, ie6, ie7, ie8, ie9, ie10, ie11, ie12, ie13, ie14, ie15, ie16, ie17, ie18, ie19, ie20, ie21, ie22, ie23, ie24, ie25, ie26, ie27, ie28, ie29, ie30, ie31, ie32⟩ := id hI
  have f1 : 0 ≤ (f_tunes (i_bank.toInt).toNat).toInt ∧ (f_tunes (i_bank.toInt).toNat).toInt ≤ 5 := ie21 (i_bank.toInt)
  have f2 : 0 ≤ (f_houses (i_bank.toInt).toNat).toInt ∧ (f_houses (i_bank.toInt).toNat).toInt ≤ 4 := ie22 (i_bank.toInt)
  refine lv_aload_n hx hb dX9_gladBy_0 rfl (lv_at hl 0 rfl) ?_
  refine lv_iload_n hx hb dX9_gladBy_1 rfl (lv_at hl 1 rfl) ?_
  refine pM_X9_324_0 hx hb hG hown hK hP hD hS dX9_gladBy_2 (fun H3 locs hP hD hS => ?_)
  refine lv_aload_n hx hb dX9_gladBy_5 rfl (lv_at hl 0 rfl) ?_
  refine lv_iload_n hx hb dX9_gladBy_6 rfl (lv_at hl 2 rfl) ?_
  refine pM_X9_327_0 hx hb hG hown hK hP hD hS dX9_gladBy_7 (fun H4 locs hP hD hS => ?_)
  refine lv_aload_n hx hb dX9_gladBy_10 rfl (lv_at hl 0 rfl) ?_
  refine lv_iload_n hx hb dX9_gladBy_11 rfl (lv_at hl 3 rfl) ?_
  refine pM_X9_339_0 hx hb hG hown hK hP hD hS dX9_gladBy_12 (fun J6 H5 locs hP hD hS => ?_)
  refine lv_aload_n hx hb dX9_gladBy_15 rfl (lv_at hl 0 rfl) ?_
  refine gM_X9_39_0 hx hb hG hown hK hP dX9_gladBy_16 ?_
  refine lv_aload_n hx hb dX9_gladBy_19 rfl (lv_at hl 0 rfl) ?_
  refine gM_X9_249_0 hx hb hG hown hK hP dX9_gladBy_20 ?_
  refine ldM_9 (mm := i_bank.toInt) hx hb hK hP rfl (ob_263 ie4 ie5) (ob_264 ie4 ie5) dX9_gladBy_23 ?_
  have f7 : 0 ≤ (f_told (i_bank.toInt).toNat).toInt ∧ (f_told (i_bank.toInt).toNat).toInt ≤ 15 := ie25 (i_bank.toInt)
  refine lv_iconst (v := 1) hx hb dX9_gladBy_24 (by decide) ?_
  refine va_calli (va_runS (As := [.int (f_told (i_bank.toInt).toNat), .int 1]) (rest := []) ⟨hx, hb, hml, hown, hG⟩ (kX9_bit l dC dI (f_told (i_bank.toInt).toNat) 1 H5.size) (va_cwS 2 hG (goodS gw1417 gw1418 gw138 gw1419) rfl rfl rfl hd_X9_bit ⟨(Nat.le_of_ble_eq_true rfl), (Nat.le_of_ble_eq_true rfl)⟩) ⟨fbR, pR_in emptyP (emptyK hK)⟩ rfl rfl hl.1 rfl (lv_room (Nat.le_of_ble_eq_true rfl)) dX9_gladBy_25 ⟨(Nat.le_of_ble_eq_true rfl), (Nat.le_of_ble_eq_true rfl)⟩) hS (fun q hq h => absurd hq (Nat.not_lt.mpr h)) (fun q h => hA q (Nat.le_trans hS.1 h)) (fun r_9 u_ t_ H8 locs ht hvm hw hB hz1 hk1 hS => ?_)
  subst hw
  have hP := wk hP hk1
  obtain ⟨f10, f11, f12, f13⟩ := hB
  refine lv_if_eq (tgt := 38) hx hb dX9_gladBy_28 (by decide) (fun c_14 => ?_) (fun c_14 => ?_)
  · skip
    have f15 : r_9.toInt = 0 := qi_eq c_14 rfl zc_0
    refine lv_aload_n hx hb dX9_gladBy_38 rfl (lv_at hl 0 rfl) ?_
    refine lv_iload_n hx hb dX9_gladBy_39 rfl (lv_at hl 1 rfl) ?_
    refine lv_iload_n hx hb dX9_gladBy_40 rfl (lv_at hl 2 rfl) ?_
    refine va_calli (va_runV (As := [.int p0, .int p1]) (rest := []) ⟨hx, hb, hml, hown, hG⟩ (kX9_sameOf l dC dI r ct i_taped i_size i_faultKind i_at i_end i_token i_number i_bank i_rb i_codes i_within i_piled i_unitsInRule p0 p1 i_acts i_undone i_laid i_knowns i_time f_text f_tunes f_houses f_hums f_told f_many f_ruleFrom f_ruleTo f_code f_eWhat f_eSign f_all f_kept f_was f_sTune f_boxAll J6 L p0 p1 H8.size hI (ob_880 hp0 hp1) (ob_898 f2 hp0 hp1) (ob_880 hp2 hp3) (ob_881 f1 hp2 hp3)) (cwV 2 hG (goodV gw1578 gw1580 gw98 gw138 gw1581) rfl rfl rfl hd_X9_sameOf ⟨(Nat.le_of_ble_eq_true rfl), (Nat.le_of_ble_eq_true rfl)⟩) ⟨fbR, va_recv hK hP (ci := 8) (q0 := 0) rfl rfl, pR_in hP hK⟩ rfl rfl hl.1 rfl (lv_room (Nat.le_of_ble_eq_true rfl)) dX9_gladBy_41 ⟨(Nat.le_of_ble_eq_true rfl), (Nat.le_of_ble_eq_true rfl)⟩) hS (fun q hq h => absurd hq (Nat.not_lt.mpr h)) (fun q h => hA q (Nat.le_trans hS.1 h)) (fun r_17 u_ t_ H16 locs ht hvm hw hB hz1 hk1 hS => ?_)
    subst hw
    have hP := wk hP hk1
    refine lv_aload_n hx hb dX9_gladBy_44 rfl (lv_at hl 0 rfl) ?_
    refine lv_iload_n hx hb dX9_gladBy_45 rfl (lv_at hl 1 rfl) ?_
    refine lv_iload_n hx hb dX9_gladBy_46 rfl (lv_at hl 2 rfl) ?_
    refine va_calli (va_runV (As := [.int p0, .int p1]) (rest := [.int r_17]) ⟨hx, hb, hml, hown, hG⟩ (kX9_turnOf l dC dI r ct i_taped i_size i_faultKind i_at i_end i_token i_number i_bank i_rb i_codes i_within i_piled i_unitsInRule p0 p1 i_acts i_undone i_laid i_knowns i_time f_text f_tunes f_houses f_hums f_told f_many f_ruleFrom f_ruleTo f_code f_eWhat f_eSign f_all f_kept f_was f_sTune f_boxAll J6 L p0 p1 H16.size hI (ob_880 hp0 hp1) (ob_898 f2 hp0 hp1) (ob_880 hp2 hp3) (ob_881 f1 hp2 hp3)) (cwV 2 hG (goodV gw1586 gw1588 gw100 gw138 gw1589) rfl rfl rfl hd_X9_turnOf ⟨(Nat.le_of_ble_eq_true rfl), (Nat.le_of_ble_eq_true rfl)⟩) ⟨fbR, va_recv hK hP (ci := 8) (q0 := 0) rfl rfl, pR_in hP hK⟩ rfl rfl hl.1 rfl (lv_room (Nat.le_of_ble_eq_true rfl)) dX9_gladBy_47 ⟨(Nat.le_of_ble_eq_true rfl), (Nat.le_of_ble_eq_true rfl)⟩) hS (fun q hq h => absurd hq (Nat.not_lt.mpr h)) (fun q h => hA q (Nat.le_trans hS.1 h)) (fun r_19 u_ t_ H18 locs ht hvm hw hB hz1 hk1 hS => ?_)
    subst hw
    have hP := wk hP hk1
    obtain ⟨f20, f21, f22⟩ := hB
    refine lv_iconst (v := 3) hx hb dX9_gladBy_50 (by decide) ?_
    refine lv_imul hx hb dX9_gladBy_51 ?_
    refine lv_topi (fun x23 ex23 => ?_)
    have f24 : x23.toInt = 3 * r_19.toInt := (ob_1058 (qi_mul ex23 rfl zc_3 (ob_1056 f21 f22) (ob_1057 f21 f22)))
    refine lv_iadd hx hb dX9_gladBy_52 ?_
    refine lv_topi (fun x25 ex25 => ?_)
    refine lv_aload_n hx hb dX9_gladBy_53 rfl (lv_at hl 0 rfl) ?_
    refine gM_X9_88_0 hx hb hG hown hK hP dX9_gladBy_54 ?_
    refine lv_bipush (v := 10) hx hb dX9_gladBy_57 (by decide) ?_
    refine lv_iload_n hx hb dX9_gladBy_59 rfl (lv_at hl 2 rfl) ?_
    refine lv_iadd hx hb dX9_gladBy_60 ?_
    refine lv_topi (fun x26 ex26 => ?_)
    have f27 : x26.toInt = p1.toInt + 10 := (ob_861 (qi_add ex26 zc_10 rfl (ob_859 hp2 hp3) (ob_917 f1 hp2 hp3)))
    refine ldM_25 (mm := p1.toInt + 10) hx hb hK hP f27 (ob_862 hp2 hp3) (ob_918 f1 hp2 hp3) dX9_gladBy_61 ?_
    have f28 : 0 ≤ (f_all (p1.toInt + 10).toNat).toInt ∧ (f_all (p1.toInt + 10).toNat).toInt ≤ 99 := ie27 (p1.toInt + 10) (ob_862 hp2 hp3) (ob_919 f1 hp2 hp3) (ob_920 f1 hp2 hp3)
    refine lv_isub hx hb dX9_gladBy_62 ?_
    refine lv_topi (fun x29 ex29 => ?_)
    refine lv_istore (lv' := [(4, .int x29), (0, .ref (r 0)), (1, .int p0), (2, .int p1), (3, .int p2)]) hx hb dX9_gladBy_63 hl (by decide) rfl (fun ls hl => ?_)
    refine lv_iload hx hb dX9_gladBy_65 (lv_at hl 0 rfl) ?_
    refine lv_sipush (v := (-9999)) hx hb dX9_gladBy_67 (by decide) ?_
    refine lv_sipush (v := 9999) hx hb dX9_gladBy_70 (by decide) ?_
    refine va_calli (va_runS (As := [.int x29, .int (-9999), .int 9999]) (rest := []) ⟨hx, hb, hml, hown, hG⟩ (kX9_held l dC dI x29 (-9999) 9999 H18.size) (va_cwS 3 hG (goodS gw1527 gw1528 gw138 gw1529) rfl rfl rfl hd_X9_held ⟨(Nat.le_of_ble_eq_true rfl), (Nat.le_of_ble_eq_true rfl)⟩) ⟨fbR, pR_in emptyP (emptyK hK)⟩ rfl rfl hl.1 rfl (lv_room (Nat.le_of_ble_eq_true rfl)) dX9_gladBy_73 ⟨(Nat.le_of_ble_eq_true rfl), (Nat.le_of_ble_eq_true rfl)⟩) hS (fun q hq h => absurd hq (Nat.not_lt.mpr h)) (fun q h => hA q (Nat.le_trans hS.1 h)) (fun r_31 u_ t_ H30 locs ht hvm hw hB hz1 hk1 hS => ?_)
    subst hw
    have hP := wk hP hk1
    have f32 := hB
    rw [hQ]
    exact W.iret (v := r_31) hx hb hr (fun t ht hW => ⟨⟨r_31, r_31, rfl, rfl, ⟨p0, p1, J6, by rw [ht]; exact hP, hD, hI⟩⟩, hS.F ht⟩) hS.2.2 dX9_gladBy_76
  · skip
    have f33 : r_9.toInt ≠ 0 := qi_ne c_14 rfl zc_0
    have f34 : (1 : Int) ≤ r_9.toInt := (ob_157 f10 f11 f33)
    refine lv_aload_n hx hb dX9_gladBy_31 rfl (lv_at hl 0 rfl) ?_
    have hFc := frA hD hS hA
    refine va_calli (va_runV (As := []) (rest := []) ⟨hx, hb, hml, hown, hG⟩ (kX9_comes l dC dI r ct i_taped i_size i_faultKind i_at i_end i_token i_number i_bank i_rb i_codes i_within i_piled i_unitsInRule p0 p1 i_acts i_undone i_laid i_knowns i_time f_text f_tunes f_houses f_hums f_told f_many f_ruleFrom f_ruleTo f_code f_eWhat f_eSign f_all f_kept f_was f_sTune f_boxAll J6 L H8.size hI (ob_880 hp0 hp1) (ob_898 f2 hp0 hp1) (ob_880 hp2 hp3) (ob_881 f1 hp2 hp3) (ie32 (f12 (ob_1059 f10 f11 f34))).2.2) (cwV 0 hG (goodV gw1570 gw1572 gw96 gw138 gw1573) rfl rfl rfl hd_X9_comes ⟨(Nat.le_of_ble_eq_true rfl), (Nat.le_of_ble_eq_true rfl)⟩) ⟨fbW, va_recv hK hP (ci := 8) (q0 := 0) rfl rfl, pW_in hP hK hD⟩ rfl rfl hl.1 rfl (lv_room (Nat.le_of_ble_eq_true rfl)) dX9_gladBy_32 ⟨(Nat.le_of_ble_eq_true rfl), (Nat.le_of_ble_eq_true rfl)⟩) hS (fun q _ h => hFc q h) hFc (fun r_36 u_ t_ H35 locs ht hvm hw hB hz1 hk1 hS => ?_)
    subst hw
    obtain ⟨J37, hP1, hD1, hI38⟩ := hB
    rw [ht] at hP1
    have hP := hP1
    have hD := dW hFc hD1
    obtain ⟨im39, im40, im41, im42, im43, im44, im45, im46, im47, im48, im49, im50, im51, im52, im53, im54, im55, im56, im57, im58, im59, im60, im61, im62, im63, im64, im65, im66, im67, im68, im69, im70, im71⟩ := id hI38
    refine lv_goto (tgt := 63) hx hb dX9_gladBy_35 (by decide) ?_
    refine lv_istore (lv' := [(4, .int r_36), (0, .ref (r 0)), (1, .int p0), (2, .int p1), (3, .int p2)]) hx hb dX9_gladBy_63 hl (by decide) rfl (fun ls hl => ?_)
    refine lv_iload hx hb dX9_gladBy_65 (lv_at hl 0 rfl) ?_
    refine lv_sipush (v := (-9999)) hx hb dX9_gladBy_67 (by decide) ?_
    refine lv_sipush (v := 9999) hx hb dX9_gladBy_70 (by decide) ?_
    refine va_calli (va_runS (As := [.int r_36, .int (-9999), .int 9999]) (rest := []) ⟨hx, hb, hml, hown, hG⟩ (kX9_held l dC dI r_36 (-9999) 9999 H35.size) (va_cwS 3 hG (goodS gw1527 gw1528 gw138 gw1529) rfl rfl rfl hd_X9_held ⟨(Nat.le_of_ble_eq_true rfl), (Nat.le_of_ble_eq_true rfl)⟩) ⟨fbR, pR_in emptyP (emptyK hK)⟩ rfl rfl hl.1 rfl (lv_room (Nat.le_of_ble_eq_true rfl)) dX9_gladBy_73 ⟨(Nat.le_of_ble_eq_true rfl), (Nat.le_of_ble_eq_true rfl)⟩) hS (fun q hq h => absurd hq (Nat.not_lt.mpr h)) (fun q h => hA q (Nat.le_trans hS.1 h)) (fun r_73 u_ t_ H72 locs ht hvm hw hB hz1 hk1 hS => ?_)
    subst hw
    have hP := wk hP hk1
    have f74 := hB
    rw [hQ]
    exact W.iret (v := r_73) hx hb hr (fun t ht hW => ⟨⟨r_73, r_73, rfl, rfl, ⟨p0, p1, J37, by rw [ht]; exact hP, hD, hI38⟩⟩, hS.F ht⟩) hS.2.2 dX9_gladBy_76
set_option maxHeartbeats 4000000 in
set_option maxRecDepth 100000 in
theorem kX9_gladNow (l : Launch) (dC : Nat → ClassId) (dI : Nat → Nat → Nat) (r : Nat → Nat) (ct : Nat → ClassId) (i_taped i_size i_faultKind i_at i_end i_token i_number i_bank i_rb i_codes i_within i_piled i_unitsInRule i_askHouse i_askTune i_acts i_undone i_laid i_knowns i_time : Int32) (f_text f_tunes f_houses f_hums f_told f_many f_ruleFrom f_ruleTo f_code f_eWhat f_eSign f_all f_kept f_was f_sTune f_boxAll : Nat → Int32) (J : Nat → Nat → Int32) (L : Nat → Nat → Int64) (p0 p1 : Int32) (sz : Nat) (hI : (IM i_taped i_size i_faultKind i_at i_end i_bank i_rb i_acts i_undone i_laid i_knowns i_time f_tunes f_houses f_hums f_told f_many f_ruleFrom f_ruleTo f_code f_all f_kept f_was f_sTune f_boxAll)) (hp0 : (0 : Int) ≤ p0.toInt) (hp1 : p0.toInt + 1 ≤ (f_houses (i_bank.toInt).toNat).toInt) (hp2 : (0 : Int) ≤ p1.toInt) (hp3 : p1.toInt + 1 ≤ (f_tunes (i_bank.toInt).toNat).toInt) : Met l yX9_gladNow (.code yX9_gladNow cX9_gladNow 3 (some .int) :: GW) { frames := 20, cells := 0, slots := 0, locals := 667 } (va_Pc [.ref (r 0), .int p0, .int p1] (pW (dC, dI) (WM r ct i_taped i_size i_faultKind i_at i_end i_token i_number i_bank i_rb i_codes i_within i_piled i_unitsInRule i_askHouse i_askTune i_acts i_undone i_laid i_knowns i_time f_text f_tunes f_houses f_hums f_told f_many f_ruleFrom f_ruleTo f_code f_eWhat f_eSign f_all f_kept f_was f_sTune f_boxAll J L) (TM ct) sz)) (va_Qi (fun (r0 : Int32) (u : Int32) => r0 = u) (fun (u : Int32) (t : State) => ∃ (n_i_askHouse n_i_askTune : Int32) (n_J : Nat → Nat → Int32), va_P (dC, dI) vwCl (WM r ct i_taped i_size i_faultKind i_at i_end i_token i_number i_bank i_rb i_codes i_within i_piled i_unitsInRule n_i_askHouse n_i_askTune i_acts i_undone i_laid i_knowns i_time f_text f_tunes f_houses f_hums f_told f_many f_ruleFrom f_ruleTo f_code f_eWhat f_eSign f_all f_kept f_was f_sTune f_boxAll n_J L) t.heap ∧ va_D (va_A (WM r ct i_taped i_size i_faultKind i_at i_end i_token i_number i_bank i_rb i_codes i_within i_piled i_unitsInRule i_askHouse i_askTune i_acts i_undone i_laid i_knowns i_time f_text f_tunes f_houses f_hums f_told f_many f_ruleFrom f_ruleTo f_code f_eWhat f_eSign f_all f_kept f_was f_sTune f_boxAll J L) sz) (WM r ct i_taped i_size i_faultKind i_at i_end i_token i_number i_bank i_rb i_codes i_within i_piled i_unitsInRule n_i_askHouse n_i_askTune i_acts i_undone i_laid i_knowns i_time f_text f_tunes f_houses f_hums f_told f_many f_ruleFrom f_ruleTo f_code f_eWhat f_eSign f_all f_kept f_was f_sTune f_boxAll n_J L) ∧ (IM i_taped i_size i_faultKind i_at i_end i_bank i_rb i_acts i_undone i_laid i_knowns i_time f_tunes f_houses f_hums f_told f_many f_ruleFrom f_ruleTo f_code f_all f_kept f_was f_sTune f_boxAll)) (va_A (WM r ct i_taped i_size i_faultKind i_at i_end i_token i_number i_bank i_rb i_codes i_within i_piled i_unitsInRule i_askHouse i_askTune i_acts i_undone i_laid i_knowns i_time f_text f_tunes f_houses f_hums f_told f_many f_ruleFrom f_ruleTo f_code f_eWhat f_eSign f_all f_kept f_was f_sTune f_boxAll J L) sz)) 0 0 (va_A (WM r ct i_taped i_size i_faultKind i_at i_end i_token i_number i_bank i_rb i_codes i_within i_piled i_unitsInRule i_askHouse i_askTune i_acts i_undone i_laid i_knowns i_time f_text f_tunes f_houses f_hums f_told f_many f_ruleFrom f_ruleTo f_code f_eWhat f_eSign f_all f_kept f_was f_sTune f_boxAll J L) sz) := by
  refine Met.ofW (cc := cX9_gladNow) (maxL := 3) (ret := (some .int)) (by decide) rfl ?_
  intro p e s m args below meth c0 s₁ B hml hv
  obtain ⟨rfl, hsz, hP, hK, hD0⟩ := hv
  have hx := B.exec
  have hb := B.bytes
  have hr := B.returns
  have hts := atoms_spec (ws := .code yX9_gladNow cX9_gladNow 3 (some .int) :: GW) B.pre
  have hG : ∀ w ∈ GW, w.before _ s = true := fun w h => hts w (List.mem_cons_of_mem _ h)
  have hown : s.vm.findClass RX9 = some m.cls := findClass_of_methodNamed B.named
  subst hsz
  have hD := hD0.self (sz := s.heap.size)
  generalize hAe : va_A (WM r ct i_taped i_size i_faultKind i_at i_end i_token i_number i_bank i_rb i_codes i_within i_piled i_unitsInRule i_askHouse i_askTune i_acts i_undone i_laid i_knowns i_time f_text f_tunes f_houses f_hums f_told f_many f_ruleFrom f_ruleTo f_code f_eWhat f_eSign f_all f_kept f_was f_sTune f_boxAll J L) s.heap.size = A at hD ⊢
  have hA : ∀ q : Nat, s.heap.size ≤ q → A q := fun q h => by rw [← hAe]; exact Or.inr h
  have hS : va_S A s.heap s.heap [] := va_S.rf
  have hP : va_P (dC, dI) vwCl (WM r ct i_taped i_size i_faultKind i_at i_end i_token i_number i_bank i_rb i_codes i_within i_piled i_unitsInRule i_askHouse i_askTune i_acts i_undone i_laid i_knowns i_time f_text f_tunes f_houses f_hums f_told f_many f_ruleFrom f_ruleTo f_code f_eWhat f_eSign f_all f_kept f_was f_sTune f_boxAll J L) s.heap := hP
  have hl := lv_entry ([.ref (r 0), .int p0, .int p1]) (n := 3) (Nat.le_of_ble_eq_true rfl)
  rw [lg_entry_eq]
  generalize (lg_sl ([.ref (r 0), .int p0, .int p1]) ++ List.replicate (3 - (lg_sl ([.ref (r 0), .int p0, .int p1])).length) Slot.unset).toArray = ls at hl ⊢
  have hl : lv_has ls 3 [(0, .ref (r 0)), (1, .int p0), (2, .int p1)] := hl
  refine nameQ (fun Q hQ => ?_)
  obtain ⟨ie0, ie1, ie2, ie3, ie4, ie5, ie6, ie7, ie8, ie9, ie10, ie11, ie12, ie13, ie14, ie15, ie16, ie17, ie18, ie19, ie20, ie21, ie22, ie23, ie24, ie25, ie26, ie27, ie28, ie29, ie30, ie31, ie32⟩ := id hI
  have f1 : 0 ≤ (f_tunes (i_bank.toInt).toNat).toInt ∧ (f_tunes (i_bank.toInt).toNat).toInt ≤ 5 := ie21 (i_bank.toInt)
  have f2 : 0 ≤ (f_houses (i_bank.toInt).toNat).toInt ∧ (f_houses (i_bank.toInt).toNat).toInt ≤ 4 := ie22 (i_bank.toInt)
  refine lv_aload_n hx hb dX9_gladNow_0 rfl (lv_at hl 0 rfl) ?_
  refine lv_iload_n hx hb dX9_gladNow_1 rfl (lv_at hl 1 rfl) ?_
  refine lv_iload_n hx hb dX9_gladNow_2 rfl (lv_at hl 2 rfl) ?_
  refine lv_aload_n hx hb dX9_gladNow_3 rfl (lv_at hl 0 rfl) ?_
  refine lv_iload_n hx hb dX9_gladNow_4 rfl (lv_at hl 1 rfl) ?_
  refine va_calli (va_runV (As := [.int p0]) (rest := [.int p1, .int p0, .ref (r 0)]) ⟨hx, hb, hml, hown, hG⟩ (kX9_triedBy l dC dI r ct i_taped i_size i_faultKind i_at i_end i_token i_number i_bank i_rb i_codes i_within i_piled i_unitsInRule i_askHouse i_askTune i_acts i_undone i_laid i_knowns i_time f_text f_tunes f_houses f_hums f_told f_many f_ruleFrom f_ruleTo f_code f_eWhat f_eSign f_all f_kept f_was f_sTune f_boxAll J L p0 s.heap.size hI) (cwV 1 hG (goodV gw1550 gw1552 gw92 gw138 gw1553) rfl rfl rfl hd_X9_triedBy ⟨(Nat.le_of_ble_eq_true rfl), (Nat.le_of_ble_eq_true rfl)⟩) ⟨fbR, va_recv hK hP (ci := 8) (q0 := 0) rfl rfl, pR_in hP hK⟩ rfl rfl hl.1 rfl (lv_room (Nat.le_of_ble_eq_true rfl)) dX9_gladNow_5 ⟨(Nat.le_of_ble_eq_true rfl), (Nat.le_of_ble_eq_true rfl)⟩) hS (fun q hq h => absurd hq (Nat.not_lt.mpr h)) (fun q h => hA q (Nat.le_trans hS.1 h)) (fun r_4 u_ t_ H3 locs ht hvm hw hB hz1 hk1 hS => ?_)
  subst hw
  have hP := wk hP hk1
  obtain ⟨f5, f6, f7⟩ := hB
  have f8 : r_4.toInt = (trb f_all p0.toInt (f_tunes (i_bank.toInt).toNat).toInt (6 - ((0 : Int32).toInt)).toNat ((0 : Int32).toInt)) := (ob_6 f7)
  refine lv_iload_n hx hb dX9_gladNow_8 rfl (lv_at hl 2 rfl) ?_
  refine lv_icmp_ne (tgt := 24) hx hb dX9_gladNow_9 (by decide) (fun c_9 => ?_) (fun c_9 => ?_)
  · skip
    have f10 : r_4.toInt ≠ p1.toInt := qi_ne c_9 rfl rfl
    refine lv_iconst (v := 0) hx hb dX9_gladNow_24 (by decide) ?_
    have hFc := frA hD hS hA
    refine va_calli (va_runV (As := [.int p0, .int p1, .int 0]) (rest := []) ⟨hx, hb, hml, hown, hG⟩ (kX9_gladBy l dC dI r ct i_taped i_size i_faultKind i_at i_end i_token i_number i_bank i_rb i_codes i_within i_piled i_unitsInRule i_askHouse i_askTune i_acts i_undone i_laid i_knowns i_time f_text f_tunes f_houses f_hums f_told f_many f_ruleFrom f_ruleTo f_code f_eWhat f_eSign f_all f_kept f_was f_sTune f_boxAll J L p0 p1 0 H3.size hI (ob_880 hp0 hp1) (ob_898 f2 hp0 hp1) (ob_880 hp2 hp3) (ob_1060 hp3)) (cwV 3 hG (goodV gw1566 gw1568 gw95 gw138 gw1569) rfl rfl rfl hd_X9_gladBy ⟨(Nat.le_of_ble_eq_true rfl), (Nat.le_of_ble_eq_true rfl)⟩) ⟨fbW, va_recv hK hP (ci := 8) (q0 := 0) rfl rfl, pW_in hP hK hD⟩ rfl rfl hl.1 rfl (lv_room (Nat.le_of_ble_eq_true rfl)) dX9_gladNow_25 ⟨(Nat.le_of_ble_eq_true rfl), (Nat.le_of_ble_eq_true rfl)⟩) hS (fun q _ h => hFc q h) hFc (fun r_12 u_ t_ H11 locs ht hvm hw hB hz1 hk1 hS => ?_)
    subst hw
    obtain ⟨x13, x14, J15, hP1, hD1, hI16⟩ := hB
    rw [ht] at hP1
    have hP := hP1
    have hD := dW hFc hD1
    obtain ⟨im17, im18, im19, im20, im21, im22, im23, im24, im25, im26, im27, im28, im29, im30, im31, im32, im33, im34, im35, im36, im37, im38, im39, im40, im41, im42, im43, im44, im45, im46, im47, im48, im49⟩ := id hI16
    rw [hQ]
    exact W.iret (v := r_12) hx hb hr (fun t ht hW => ⟨⟨r_12, r_12, rfl, rfl, ⟨x13, x14, J15, by rw [ht]; exact hP, hD, hI16⟩⟩, hS.F ht⟩) hS.2.2 dX9_gladNow_28
  · skip
    have f50 : r_4.toInt = p1.toInt := qi_eq c_9 rfl rfl
    refine lv_aload_n hx hb dX9_gladNow_12 rfl (lv_at hl 0 rfl) ?_
    refine gM_X9_88_0 hx hb hG hown hK hP dX9_gladNow_13 ?_
    refine lv_bipush (v := 15) hx hb dX9_gladNow_16 (by decide) ?_
    refine lv_iload_n hx hb dX9_gladNow_18 rfl (lv_at hl 2 rfl) ?_
    refine lv_iadd hx hb dX9_gladNow_19 ?_
    refine lv_topi (fun x51 ex51 => ?_)
    have f52 : x51.toInt = p1.toInt + 15 := (ob_1063 (qi_add ex51 zc_15 rfl (ob_1061 hp2 hp3 f50 f8) (ob_1062 f1 hp3)))
    refine ldM_25 (mm := p1.toInt + 15) hx hb hK hP f52 (ob_1064 hp2 hp3 f50 f8) (ob_1065 f1 hp3) dX9_gladNow_20 ?_
    refine lv_goto (tgt := 25) hx hb dX9_gladNow_21 (by decide) ?_
    have hFc := frA hD hS hA
    refine va_calli (va_runV (As := [.int p0, .int p1, .int (f_all (p1.toInt + 15).toNat)]) (rest := []) ⟨hx, hb, hml, hown, hG⟩ (kX9_gladBy l dC dI r ct i_taped i_size i_faultKind i_at i_end i_token i_number i_bank i_rb i_codes i_within i_piled i_unitsInRule i_askHouse i_askTune i_acts i_undone i_laid i_knowns i_time f_text f_tunes f_houses f_hums f_told f_many f_ruleFrom f_ruleTo f_code f_eWhat f_eSign f_all f_kept f_was f_sTune f_boxAll J L p0 p1 (f_all (p1.toInt + 15).toNat) H3.size hI (ob_880 hp0 hp1) (ob_898 f2 hp0 hp1) (ob_1066 hp2 hp3 f50 f8) (ob_1060 hp3)) (cwV 3 hG (goodV gw1566 gw1568 gw95 gw138 gw1569) rfl rfl rfl hd_X9_gladBy ⟨(Nat.le_of_ble_eq_true rfl), (Nat.le_of_ble_eq_true rfl)⟩) ⟨fbW, va_recv hK hP (ci := 8) (q0 := 0) rfl rfl, pW_in hP hK hD⟩ rfl rfl hl.1 rfl (lv_room (Nat.le_of_ble_eq_true rfl)) dX9_gladNow_25 ⟨(Nat.le_of_ble_eq_true rfl), (Nat.le_of_ble_eq_true rfl)⟩) hS (fun q _ h => hFc q h) hFc (fun r_54 u_ t_ H53 locs ht hvm hw hB hz1 hk1 hS => ?_)
    subst hw
    obtain ⟨x55, x56, J57, hP1, hD1, hI58⟩ := hB
    rw [ht] at hP1
    have hP := hP1
    have hD := dW hFc hD1
    obtain ⟨im59, im60, im61, im62, im63, im64, im65, im66, im67, im68, im69, im70, im71, im72, im73, im74, im75, im76, im77, im78, im79, im80, im81, im82, im83, im84, im85, im86, im87, im88, im89, im90, im91⟩ := id hI58
    rw [hQ]
    exact W.iret (v := r_54) hx hb hr (fun t ht hW => ⟨⟨r_54, r_54, rfl, rfl, ⟨x55, x56, J57, by rw [ht]; exact hP, hD, hI58⟩⟩, hS.F ht⟩) hS.2.2 dX9_gladNow_28
