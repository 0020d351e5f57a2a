set_option maxHeartbeats 4000000 in
set_option maxRecDepth 100000 in
theorem kX3_noteOf (l : Launch) (dC : Nat → ClassId) (dI : Nat → Nat → Nat) (p0 p1 : Int32) (sz : Nat) (hp0 : (0 : Int) ≤ p0.toInt) (hp1 : p0.toInt ≤ (342 : Int)) : Met l yX3_noteOf (.code yX3_noteOf cX3_noteOf 2 (some .int) :: GW) { frames := 2, cells := 0, slots := 0, locals := 100 } (va_Pc [.int p0, .int p1] (pR (dC, dI) [] [] sz)) (va_Qi (fun (r0 : Int32) (u : Int32) => r0 = u) (fun (u : Int32) (t : State) => ((0 : Int) ≤ u.toInt) ∧ (u.toInt ≤ (6 : Int))) (fun q => sz ≤ q)) 0 0 (fun q => sz ≤ q) := by
  refine Met.ofW (cc := cX3_noteOf) (maxL := 2) (ret := (some .int)) (by decide) rfl ?_
  intro p e s m args below meth c0 s₁ B hml hv
  obtain ⟨rfl, hsz, hP, hK⟩ := hv
  have hx := B.exec
  have hb := B.bytes
  have hr := B.returns
  have hts := atoms_spec (ws := .code yX3_noteOf cX3_noteOf 2 (some .int) :: GW) B.pre
  have hG : ∀ w ∈ GW, w.before _ s = true := fun w h => hts w (List.mem_cons_of_mem _ h)
  have hown : s.vm.findClass RX3 = some m.cls := findClass_of_methodNamed B.named
  subst hsz
  have hS : va_S (fun q => s.heap.size ≤ q) s.heap s.heap [] := va_S.rf
  have hP : va_P (dC, dI) vwCl [] s.heap := hP
  have hl := lv_entry ([.int p0, .int p1]) (n := 2) (Nat.le_of_ble_eq_true rfl)
  rw [lg_entry_eq]
  generalize (lg_sl ([.int p0, .int p1]) ++ List.replicate (2 - (lg_sl ([.int p0, .int p1])).length) Slot.unset).toArray = ls at hl ⊢
  have hl : lv_has ls 2 [(0, .int p0), (1, .int p1)] := hl
  refine nameQ (fun Q hQ => ?_)
  refine lv_iload_n hx hb dX3_noteOf_0 rfl (lv_at hl 1 rfl) ?_
  rcases ls_0_1 p1 with hs1 | hs1 | hs1
  · skip
    refine lv_lookup (off := 27) (tgt := 28) hx hb dX3_noteOf_1 (by decide) (by rw [hs1]; decide) (by decide) ?_
    have f2 : p1.toInt = 0 := qi_eq hs1 rfl zc_0
    refine lv_iload_n hx hb dX3_noteOf_28 rfl (lv_at hl 0 rfl) ?_
    refine lv_bipush (v := 49) hx hb dX3_noteOf_29 (by decide) ?_
    refine lv_idiv hx hb dX3_noteOf_31 (by decide) ?_
    refine lv_topi (fun x3 ex3 => ?_)
    have f4 : 0 ≤ x3.toInt ∧ x3.toInt ≤ p0.toInt := qi_div ex3 rfl zc_49 (ox_591 hp0 hp1) (by decide)
    have f5 : 49 * x3.toInt ≤ p0.toInt ∧ p0.toInt < 49 * x3.toInt + 49 := qi_divc ex3 rfl zc_49 (ox_591 hp0 hp1) (by decide)
    refine lv_bipush (v := 7) hx hb dX3_noteOf_32 (by decide) ?_
    refine lv_irem hx hb dX3_noteOf_34 (by decide) ?_
    refine lv_topi (fun x6 ex6 => ?_)
    have f7 : 0 ≤ x6.toInt ∧ x6.toInt < 7 ∧ x6.toInt ≤ x3.toInt := qi_rem ex6 rfl zc_7 (ox_592 f4 f5) (by decide)
    have f8 : x3.toInt = 7 * (x3.toInt / 7) + x6.toInt := qi_remq ex6 rfl zc_7 (ox_592 f4 f5) (by decide)
    rw [hQ]
    exact W.iret (v := x6) hx hb hr (fun t ht hW => ⟨⟨x6, x6, rfl, rfl, ⟨(ox_593 f7 f8), (ox_594 f7 f8)⟩⟩, hS.F ht⟩) hS.2.2 dX3_noteOf_35
  · skip
    refine lv_lookup (off := 35) (tgt := 36) hx hb dX3_noteOf_1 (by decide) (by rw [hs1]; decide) (by decide) ?_
    have f9 : p1.toInt = 1 := qi_eq hs1 rfl zc_1
    refine lv_iload_n hx hb dX3_noteOf_36 rfl (lv_at hl 0 rfl) ?_
    refine lv_bipush (v := 7) hx hb dX3_noteOf_37 (by decide) ?_
    refine lv_idiv hx hb dX3_noteOf_39 (by decide) ?_
    refine lv_topi (fun x10 ex10 => ?_)
    have f11 : 0 ≤ x10.toInt ∧ x10.toInt ≤ p0.toInt := qi_div ex10 rfl zc_7 (ox_591 hp0 hp1) (by decide)
    have f12 : 7 * x10.toInt ≤ p0.toInt ∧ p0.toInt < 7 * x10.toInt + 7 := qi_divc ex10 rfl zc_7 (ox_591 hp0 hp1) (by decide)
    refine lv_bipush (v := 7) hx hb dX3_noteOf_40 (by decide) ?_
    refine lv_irem hx hb dX3_noteOf_42 (by decide) ?_
    refine lv_topi (fun x13 ex13 => ?_)
    have f14 : 0 ≤ x13.toInt ∧ x13.toInt < 7 ∧ x13.toInt ≤ x10.toInt := qi_rem ex13 rfl zc_7 (ox_595 f11 f12) (by decide)
    have f15 : x10.toInt = 7 * (x10.toInt / 7) + x13.toInt := qi_remq ex13 rfl zc_7 (ox_595 f11 f12) (by decide)
    rw [hQ]
    exact W.iret (v := x13) hx hb hr (fun t ht hW => ⟨⟨x13, x13, rfl, rfl, ⟨(ox_593 f14 f15), (ox_594 f14 f15)⟩⟩, hS.F ht⟩) hS.2.2 dX3_noteOf_43
  · skip
    refine lv_lookup (off := 43) (tgt := 44) hx hb dX3_noteOf_1 (by decide) (show Op.lookupswitch.offset [(0, 27), (1, 35)] 43 _ = 43 from ((lv_osw hs1.1 (by decide)).trans ((lv_osw hs1.2 (by decide)).trans rfl))) (by decide) ?_
    have f16 : p1.toInt ≠ 0 := qi_ne hs1.1 rfl zc_0
    have f17 : p1.toInt ≠ 1 := qi_ne hs1.2 rfl zc_1
    refine lv_iload_n hx hb dX3_noteOf_44 rfl (lv_at hl 0 rfl) ?_
    refine lv_bipush (v := 7) hx hb dX3_noteOf_45 (by decide) ?_
    refine lv_irem hx hb dX3_noteOf_47 (by decide) ?_
    refine lv_topi (fun x18 ex18 => ?_)
    have f19 : 0 ≤ x18.toInt ∧ x18.toInt < 7 ∧ x18.toInt ≤ p0.toInt := qi_rem ex18 rfl zc_7 (ox_591 hp0 hp1) (by decide)
    have f20 : p0.toInt = 7 * (p0.toInt / 7) + x18.toInt := qi_remq ex18 rfl zc_7 (ox_591 hp0 hp1) (by decide)
    rw [hQ]
    exact W.iret (v := x18) hx hb hr (fun t ht hW => ⟨⟨x18, x18, rfl, rfl, ⟨(ox_593 f19 f20), (ox_594 f19 f20)⟩⟩, hS.F ht⟩) hS.2.2 dX3_noteOf_48
set_option maxHeartbeats 4000000 in
set_option maxRecDepth 100000 in
theorem kX3_sameBy (l : Launch) (dC : Nat → ClassId) (dI : Nat → Nat → Nat) (r : Nat → Nat) (ct : Nat → ClassId) (i_tapeLength i_time i_lyingCount i_rd_fault i_rd_token i_rd_kind i_sc_count i_sc_at i_A_tunes i_A_houses i_fA_length i_B_tunes i_B_houses i_fB_length i_acts_done i_acts_undone i_kn_count : Int32) (f_boxes f_boxKept f_trial f_offers f_A_noteCounts f_A_notes f_B_noteCounts f_B_notes f_now_where f_now_worn f_ahead_where f_ahead_worn f_acts_rows f_kn_tunes f_kn_noteTimes : Nat → Int32) (J : Nat → Nat → Int32) (L : Nat → Nat → Int64) (p0 : Int32) (sz : Nat) (hI : (IX i_tapeLength i_time i_lyingCount i_rd_token i_sc_count i_sc_at i_A_tunes i_A_houses i_fA_length i_B_tunes i_B_houses i_fB_length i_acts_done i_acts_undone i_kn_count f_boxes f_A_noteCounts f_A_notes f_B_noteCounts f_B_notes f_now_worn f_ahead_worn f_acts_rows f_kn_tunes)) (hp0 : (0 : Int) ≤ p0.toInt) (hp1 : p0.toInt ≤ (342 : Int)) (hp2 : NT f_kn_noteTimes) : Met l yX3_sameBy (.code yX3_sameBy cX3_sameBy 6 (some .int) :: GW) { frames := 4, cells := 0, slots := 0, locals := 161 } (va_Pc [.ref (r 10), .int p0] (pR (dC, dI) (WX r ct i_tapeLength i_time i_lyingCount i_rd_fault i_rd_token i_rd_kind i_sc_count i_sc_at i_A_tunes i_A_houses i_fA_length i_B_tunes i_B_houses i_fB_length i_acts_done i_acts_undone i_kn_count f_boxes f_boxKept f_trial f_offers f_A_noteCounts f_A_notes f_B_noteCounts f_B_notes f_now_where f_now_worn f_ahead_where f_ahead_worn f_acts_rows f_kn_tunes f_kn_noteTimes J L) (TX ct) sz)) (va_Qi (fun (r0 : Int32) (u : Int32) => r0 = u) (fun (u : Int32) (t : State) => ((0 : Int) ≤ u.toInt) ∧ (u.toInt ≤ (8 : Int))) (fun q => sz ≤ q)) 0 0 (fun q => sz ≤ q) := by
  refine Met.ofW (cc := cX3_sameBy) (maxL := 6) (ret := (some .int)) (by decide) rfl ?_
  intro p e s m args below meth c0 s₁ B hml hv
  obtain ⟨rfl, hsz, hP, hK⟩ := hv
  have hx := B.exec
  have hb := B.bytes
  have hr := B.returns
  have hts := atoms_spec (ws := .code yX3_sameBy cX3_sameBy 6 (some .int) :: GW) B.pre
  have hG : ∀ w ∈ GW, w.before _ s = true := fun w h => hts w (List.mem_cons_of_mem _ h)
  have hown : s.vm.findClass RX3 = some m.cls := findClass_of_methodNamed B.named
  subst hsz
  have hS : va_S (fun q => s.heap.size ≤ q) s.heap s.heap [] := va_S.rf
  have hP : va_P (dC, dI) vwCl (WX r ct i_tapeLength i_time i_lyingCount i_rd_fault i_rd_token i_rd_kind i_sc_count i_sc_at i_A_tunes i_A_houses i_fA_length i_B_tunes i_B_houses i_fB_length i_acts_done i_acts_undone i_kn_count f_boxes f_boxKept f_trial f_offers f_A_noteCounts f_A_notes f_B_noteCounts f_B_notes f_now_where f_now_worn f_ahead_where f_ahead_worn f_acts_rows f_kn_tunes f_kn_noteTimes J L) s.heap := hP
  have hl := lv_entry ([.ref (r 10), .int p0]) (n := 6) (Nat.le_of_ble_eq_true rfl)
  rw [lg_entry_eq]
  generalize (lg_sl ([.ref (r 10), .int p0]) ++ List.replicate (6 - (lg_sl ([.ref (r 10), .int p0])).length) Slot.unset).toArray = ls at hl ⊢
  have hl : lv_has ls 6 [(0, .ref (r 10)), (1, .int p0)] := hl
  refine nameQ (fun Q hQ => ?_)
  obtain ⟨ie0, ie1, ie2, ie3, ie4, ie5, ie6, ie7, ie8, ie9, ie10, ie11, ie12, ie13, ie14, ie15, ie16, ie17, ie18, ie19, ie20, ie21, ie22, ie23, ie24, ie25, ie26, ie27, ie28, ie29, ie30, ie31, ie32, ie33, ie34, ie35, ie36, ie37, ie38, ie39⟩ := id hI
  refine lv_iload_n hx hb dX3_sameBy_0 rfl (lv_at hl 1 rfl) ?_
  refine lv_iconst (v := 0) hx hb dX3_sameBy_1 (by decide) ?_
  refine va_calli (va_runS (As := [.int p0, .int 0]) (rest := []) ⟨hx, hb, hml, hown, hG⟩ (kX3_noteOf l dC dI p0 0 s.heap.size (ox_596 hp0 hp1) (ox_597 hp0 hp1)) (va_cwS 2 hG (goodS gw1100 gw1101 gw136 gw1102) rfl rfl rfl hd_X3_noteOf ⟨(Nat.le_of_ble_eq_true rfl), (Nat.le_of_ble_eq_true rfl)⟩) ⟨fbR, pR_in emptyP (emptyK hK)⟩ rfl rfl hl.1 rfl (lv_room (Nat.le_of_ble_eq_true rfl)) dX3_sameBy_2 ⟨(Nat.le_of_ble_eq_true rfl), (Nat.le_of_ble_eq_true rfl)⟩) hS (fun q hq h => absurd hq (Nat.not_lt.mpr h)) (fun q h => Nat.le_trans hS.1 h) (fun r_2 u_ t_ H1 locs ht hvm hw hB hz1 hk1 hS => ?_)
  subst hw
  have hP := wk hP hk1
  obtain ⟨f3, f4⟩ := hB
  refine lv_istore_n (lv' := [(2, .int r_2), (0, .ref (r 10)), (1, .int p0)]) hx hb dX3_sameBy_5 rfl hl (by decide) rfl (fun ls hl => ?_)
  refine lv_iload_n hx hb dX3_sameBy_6 rfl (lv_at hl 2 rfl) ?_
  refine lv_iconst (v := 1) hx hb dX3_sameBy_7 (by decide) ?_
  refine va_calli (va_runS (As := [.int p0, .int 1]) (rest := []) ⟨hx, hb, hml, hown, hG⟩ (kX3_noteOf l dC dI p0 1 H1.size (ox_596 hp0 hp1) (ox_597 hp0 hp1)) (va_cwS 2 hG (goodS gw1100 gw1101 gw136 gw1102) rfl rfl rfl hd_X3_noteOf ⟨(Nat.le_of_ble_eq_true rfl), (Nat.le_of_ble_eq_true rfl)⟩) ⟨fbR, pR_in emptyP (emptyK hK)⟩ rfl rfl hl.1 rfl (lv_room (Nat.le_of_ble_eq_true rfl)) dX3_sameBy_8 ⟨(Nat.le_of_ble_eq_true rfl), (Nat.le_of_ble_eq_true rfl)⟩) hS (fun q hq h => absurd hq (Nat.not_lt.mpr h)) (fun q h => Nat.le_trans hS.1 h) (fun r_6 u_ t_ H5 locs ht hvm hw hB hz1 hk1 hS => ?_)
  subst hw
  have hP := wk hP hk1
  obtain ⟨f7, f8⟩ := hB
  refine lv_istore_n (lv' := [(3, .int r_6), (2, .int r_2), (0, .ref (r 10)), (1, .int p0)]) hx hb dX3_sameBy_11 rfl hl (by decide) rfl (fun ls hl => ?_)
  refine lv_iload_n hx hb dX3_sameBy_12 rfl (lv_at hl 3 rfl) ?_
  refine lv_iconst (v := 2) hx hb dX3_sameBy_13 (by decide) ?_
  refine va_calli (va_runS (As := [.int p0, .int 2]) (rest := []) ⟨hx, hb, hml, hown, hG⟩ (kX3_noteOf l dC dI p0 2 H5.size (ox_596 hp0 hp1) (ox_597 hp0 hp1)) (va_cwS 2 hG (goodS gw1100 gw1101 gw136 gw1102) rfl rfl rfl hd_X3_noteOf ⟨(Nat.le_of_ble_eq_true rfl), (Nat.le_of_ble_eq_true rfl)⟩) ⟨fbR, pR_in emptyP (emptyK hK)⟩ rfl rfl hl.1 rfl (lv_room (Nat.le_of_ble_eq_true rfl)) dX3_sameBy_14 ⟨(Nat.le_of_ble_eq_true rfl), (Nat.le_of_ble_eq_true rfl)⟩) hS (fun q hq h => absurd hq (Nat.not_lt.mpr h)) (fun q h => Nat.le_trans hS.1 h) (fun r_10 u_ t_ H9 locs ht hvm hw hB hz1 hk1 hS => ?_)
  subst hw
  have hP := wk hP hk1
  obtain ⟨f11, f12⟩ := hB
  refine lv_istore (lv' := [(4, .int r_10), (3, .int r_6), (2, .int r_2), (0, .ref (r 10)), (1, .int p0)]) hx hb dX3_sameBy_17 hl (by decide) rfl (fun ls hl => ?_)
  have nt13 := NT_3 hp2 (ox_584 f3 f4) (ox_585 f3 f4) (ox_584 f7 f8) (ox_585 f7 f8) (ox_584 f11 f12) (ox_585 f11 f12)
  refine lv_aload_n hx hb dX3_sameBy_19 rfl (lv_at hl 3 rfl) ?_
  refine gX_X3_34_10 hx hb hG hown hK hP dX3_sameBy_20 ?_
  refine lv_iload_n hx hb dX3_sameBy_23 rfl (lv_at hl 2 rfl) ?_
  refine ldX_59 (mm := r_2.toInt) hx hb hK hP rfl (ox_584 f3 f4) (ox_585 f3 f4) dX3_sameBy_24 ?_
  refine lv_istore (lv' := [(5, .int (f_kn_noteTimes (r_2.toInt).toNat)), (4, .int r_10), (3, .int r_6), (2, .int r_2), (0, .ref (r 10)), (1, .int p0)]) hx hb dX3_sameBy_25 hl (by decide) rfl (fun ls hl => ?_)
  refine lv_iload_n hx hb dX3_sameBy_27 rfl (lv_at hl 2 rfl) ?_
  refine lv_iload_n hx hb dX3_sameBy_28 rfl (lv_at hl 3 rfl) ?_
  refine lv_icmp_eq (tgt := 43) hx hb dX3_sameBy_29 (by decide) (fun c_14 => ?_) (fun c_14 => ?_)
  · skip
    have f15 : r_6.toInt = r_2.toInt := qi_eq c_14 rfl rfl
    refine lv_iload hx hb dX3_sameBy_43 (lv_at hl 1 rfl) ?_
    refine lv_iload_n hx hb dX3_sameBy_45 rfl (lv_at hl 3 rfl) ?_
    refine lv_icmp_eq (tgt := 67) hx hb dX3_sameBy_46 (by decide) (fun c_16 => ?_) (fun c_16 => ?_)
    · skip
      have f17 : r_10.toInt = r_2.toInt := qi_eq c_16 rfl rfl
      refine lv_iload hx hb dX3_sameBy_67 (lv_at hl 0 rfl) ?_
      rw [hQ]
      exact W.iret (v := (f_kn_noteTimes (r_2.toInt).toNat)) hx hb hr (fun t ht hW => ⟨⟨(f_kn_noteTimes (r_2.toInt).toNat), (f_kn_noteTimes (r_2.toInt).toNat), rfl, rfl, ⟨(ox_598 nt13.1 nt13.2.2.2.1), (ox_599 nt13.1 nt13.2.2.2.1)⟩⟩, hS.F ht⟩) hS.2.2 dX3_sameBy_69
    · skip
      have f18 : r_10.toInt ≠ r_2.toInt := qi_ne c_16 rfl rfl
      have f19 : (f_kn_noteTimes (r_2.toInt).toNat).toInt + (f_kn_noteTimes (r_10.toInt).toNat).toInt ≤ (8 : Int) := (ox_600 nt13.2.2.2.2.2.2.2.1 f18)
      refine lv_iload hx hb dX3_sameBy_49 (lv_at hl 1 rfl) ?_
      refine lv_iload_n hx hb dX3_sameBy_51 rfl (lv_at hl 2 rfl) ?_
      refine lv_icmp_eq (tgt := 67) hx hb dX3_sameBy_52 (by decide) (fun c_20 => ((ox_601 (qi_eq c_20 rfl rfl) f15 f18)).elim) (fun c_20 => ?_)
      have f21 : r_10.toInt ≠ r_6.toInt := qi_ne c_20 rfl rfl
      refine lv_iload hx hb dX3_sameBy_55 (lv_at hl 0 rfl) ?_
      refine lv_aload_n hx hb dX3_sameBy_57 rfl (lv_at hl 4 rfl) ?_
      refine gX_X3_34_10 hx hb hG hown hK hP dX3_sameBy_58 ?_
      refine lv_iload hx hb dX3_sameBy_61 (lv_at hl 1 rfl) ?_
      refine ldX_59 (mm := r_10.toInt) hx hb hK hP rfl (ox_584 f11 f12) (ox_585 f11 f12) dX3_sameBy_63 ?_
      refine lv_iadd hx hb dX3_sameBy_64 ?_
      refine lv_topi (fun x22 ex22 => ?_)
      have f23 : x22.toInt = (f_kn_noteTimes (r_10.toInt).toNat).toInt + (f_kn_noteTimes (r_2.toInt).toNat).toInt := (ox_604 (qi_add ex22 rfl rfl (ox_602 nt13.1 nt13.2.2.1) (ox_603 nt13.2.2.2.1 nt13.2.2.2.2.2.1)))
      refine lv_istore (lv' := [(5, .int x22), (4, .int r_10), (3, .int r_6), (2, .int r_2), (0, .ref (r 10)), (1, .int p0)]) hx hb dX3_sameBy_65 hl (by decide) rfl (fun ls hl => ?_)
      refine lv_iload hx hb dX3_sameBy_67 (lv_at hl 0 rfl) ?_
      rw [hQ]
      exact W.iret (v := x22) hx hb hr (fun t ht hW => ⟨⟨x22, x22, rfl, rfl, ⟨(ox_605 nt13.1 nt13.2.2.1 f23), (ox_606 f19 f23)⟩⟩, hS.F ht⟩) hS.2.2 dX3_sameBy_69
  · skip
    have f24 : r_6.toInt ≠ r_2.toInt := qi_ne c_14 rfl rfl
    have f25 : (f_kn_noteTimes (r_2.toInt).toNat).toInt + (f_kn_noteTimes (r_6.toInt).toNat).toInt ≤ (8 : Int) := (ox_600 nt13.2.2.2.2.2.2.1 f24)
    have f26 : (r_2.toInt ≠ r_10.toInt) → ((r_6.toInt ≠ r_10.toInt) → ((f_kn_noteTimes (r_2.toInt).toNat).toInt + (f_kn_noteTimes (r_6.toInt).toNat).toInt + (f_kn_noteTimes (r_10.toInt).toNat).toInt ≤ (8 : Int))) := (ox_607 nt13.2.2.2.2.2.2.2.2 f24)
    refine lv_iload hx hb dX3_sameBy_32 (lv_at hl 0 rfl) ?_
    refine lv_aload_n hx hb dX3_sameBy_34 rfl (lv_at hl 4 rfl) ?_
    refine gX_X3_34_10 hx hb hG hown hK hP dX3_sameBy_35 ?_
    refine lv_iload_n hx hb dX3_sameBy_38 rfl (lv_at hl 2 rfl) ?_
    refine ldX_59 (mm := r_6.toInt) hx hb hK hP rfl (ox_584 f7 f8) (ox_585 f7 f8) dX3_sameBy_39 ?_
    refine lv_iadd hx hb dX3_sameBy_40 ?_
    refine lv_topi (fun x27 ex27 => ?_)
    have f28 : x27.toInt = (f_kn_noteTimes (r_2.toInt).toNat).toInt + (f_kn_noteTimes (r_6.toInt).toNat).toInt := (ox_608 (qi_add ex27 rfl rfl (ox_602 nt13.1 nt13.2.1) (ox_603 nt13.2.2.2.1 nt13.2.2.2.2.1)))
    refine lv_istore (lv' := [(5, .int x27), (4, .int r_10), (3, .int r_6), (2, .int r_2), (0, .ref (r 10)), (1, .int p0)]) hx hb dX3_sameBy_41 hl (by decide) rfl (fun ls hl => ?_)
    refine lv_iload hx hb dX3_sameBy_43 (lv_at hl 1 rfl) ?_
    refine lv_iload_n hx hb dX3_sameBy_45 rfl (lv_at hl 3 rfl) ?_
    refine lv_icmp_eq (tgt := 67) hx hb dX3_sameBy_46 (by decide) (fun c_29 => ?_) (fun c_29 => ?_)
    · skip
      have f30 : r_10.toInt = r_2.toInt := qi_eq c_29 rfl rfl
      refine lv_iload hx hb dX3_sameBy_67 (lv_at hl 0 rfl) ?_
      rw [hQ]
      exact W.iret (v := x27) hx hb hr (fun t ht hW => ⟨⟨x27, x27, rfl, rfl, ⟨(ox_609 nt13.1 nt13.2.1 f28), (ox_610 f25 f28)⟩⟩, hS.F ht⟩) hS.2.2 dX3_sameBy_69
    · skip
      have f31 : r_10.toInt ≠ r_2.toInt := qi_ne c_29 rfl rfl
      have f32 : (f_kn_noteTimes (r_2.toInt).toNat).toInt + (f_kn_noteTimes (r_10.toInt).toNat).toInt ≤ (8 : Int) := (ox_600 nt13.2.2.2.2.2.2.2.1 f31)
      have f33 : (r_6.toInt ≠ r_10.toInt) → ((f_kn_noteTimes (r_2.toInt).toNat).toInt + (f_kn_noteTimes (r_6.toInt).toNat).toInt + (f_kn_noteTimes (r_10.toInt).toNat).toInt ≤ (8 : Int)) := (ox_611 nt13.2.2.2.2.2.2.2.2 f24 f31)
      refine lv_iload hx hb dX3_sameBy_49 (lv_at hl 1 rfl) ?_
      refine lv_iload_n hx hb dX3_sameBy_51 rfl (lv_at hl 2 rfl) ?_
      refine lv_icmp_eq (tgt := 67) hx hb dX3_sameBy_52 (by decide) (fun c_34 => ?_) (fun c_34 => ?_)
      · skip
        have f35 : r_10.toInt = r_6.toInt := qi_eq c_34 rfl rfl
        refine lv_iload hx hb dX3_sameBy_67 (lv_at hl 0 rfl) ?_
        rw [hQ]
        exact W.iret (v := x27) hx hb hr (fun t ht hW => ⟨⟨x27, x27, rfl, rfl, ⟨(ox_609 nt13.1 nt13.2.1 f28), (ox_610 f25 f28)⟩⟩, hS.F ht⟩) hS.2.2 dX3_sameBy_69
      · skip
        have f36 : r_10.toInt ≠ r_6.toInt := qi_ne c_34 rfl rfl
        have f37 : (f_kn_noteTimes (r_2.toInt).toNat).toInt + (f_kn_noteTimes (r_6.toInt).toNat).toInt + (f_kn_noteTimes (r_10.toInt).toNat).toInt ≤ (8 : Int) := (ox_612 nt13.2.2.2.2.2.2.2.2 f24 f31 f36)
        refine lv_iload hx hb dX3_sameBy_55 (lv_at hl 0 rfl) ?_
        refine lv_aload_n hx hb dX3_sameBy_57 rfl (lv_at hl 4 rfl) ?_
        refine gX_X3_34_10 hx hb hG hown hK hP dX3_sameBy_58 ?_
        refine lv_iload hx hb dX3_sameBy_61 (lv_at hl 1 rfl) ?_
        refine ldX_59 (mm := r_10.toInt) hx hb hK hP rfl (ox_584 f11 f12) (ox_585 f11 f12) dX3_sameBy_63 ?_
        refine lv_iadd hx hb dX3_sameBy_64 ?_
        refine lv_topi (fun x38 ex38 => ?_)
        have f39 : x38.toInt = (f_kn_noteTimes (r_10.toInt).toNat).toInt + (f_kn_noteTimes (r_2.toInt).toNat).toInt + (f_kn_noteTimes (r_6.toInt).toNat).toInt := (ox_615 (qi_add ex38 rfl rfl (ox_613 nt13.1 nt13.2.1 nt13.2.2.1 f28) (ox_614 nt13.2.2.2.1 nt13.2.2.2.2.1 nt13.2.2.2.2.2.1 f28)) f28)
        refine lv_istore (lv' := [(5, .int x38), (4, .int r_10), (3, .int r_6), (2, .int r_2), (0, .ref (r 10)), (1, .int p0)]) hx hb dX3_sameBy_65 hl (by decide) rfl (fun ls hl => ?_)
        refine lv_iload hx hb dX3_sameBy_67 (lv_at hl 0 rfl) ?_
        rw [hQ]
        exact W.iret (v := x38) hx hb hr (fun t ht hW => ⟨⟨x38, x38, rfl, rfl, ⟨(ox_616 nt13.1 nt13.2.1 nt13.2.2.1 f39), (ox_617 f37 f39)⟩⟩, hS.F ht⟩) hS.2.2 dX3_sameBy_69
set_option maxHeartbeats 4000000 in
set_option maxRecDepth 100000 in
theorem kX3_rowAt (l : Launch) (dC : Nat → ClassId) (dI : Nat → Nat → Nat) (r : Nat → Nat) (ct : Nat → ClassId) (i_tapeLength i_time i_lyingCount i_rd_fault i_rd_token i_rd_kind i_sc_count i_sc_at i_A_tunes i_A_houses i_fA_length i_B_tunes i_B_houses i_fB_length i_acts_done i_acts_undone i_kn_count : Int32) (f_boxes f_boxKept f_trial f_offers f_A_noteCounts f_A_notes f_B_noteCounts f_B_notes f_now_where f_now_worn f_ahead_where f_ahead_worn f_acts_rows f_kn_tunes f_kn_noteTimes : Nat → Int32) (J : Nat → Nat → Int32) (L : Nat → Nat → Int64) (p1 p2 : Int32) (sz : Nat) (hI : (IX i_tapeLength i_time i_lyingCount i_rd_token i_sc_count i_sc_at i_A_tunes i_A_houses i_fA_length i_B_tunes i_B_houses i_fB_length i_acts_done i_acts_undone i_kn_count f_boxes f_A_noteCounts f_A_notes f_B_noteCounts f_B_notes f_now_worn f_ahead_worn f_acts_rows f_kn_tunes)) (hp0 : (0 : Int) ≤ p1.toInt) (hp1 : p1.toInt + 1 ≤ i_A_tunes.toInt) (hp2 : (0 : Int) ≤ p2.toInt) (hp3 : p2.toInt + 3 ≤ (f_A_noteCounts (p1.toInt).toNat).toInt) : Met l yX3_rowAt (.code yX3_rowAt cX3_rowAt 5 (some .int) :: GW) { frames := 6, cells := 0, slots := 0, locals := 227 } (va_Pc [.ref (r 3), .int p1, .int p2] (pR (dC, dI) (WX r ct i_tapeLength i_time i_lyingCount i_rd_fault i_rd_token i_rd_kind i_sc_count i_sc_at i_A_tunes i_A_houses i_fA_length i_B_tunes i_B_houses i_fB_length i_acts_done i_acts_undone i_kn_count f_boxes f_boxKept f_trial f_offers f_A_noteCounts f_A_notes f_B_noteCounts f_B_notes f_now_where f_now_worn f_ahead_where f_ahead_worn f_acts_rows f_kn_tunes f_kn_noteTimes J L) (TX ct) sz)) (va_Qi (fun (r0 : Int32) (u : Int32) => r0 = u) (fun (u : Int32) (t : State) => ((0 : Int) ≤ u.toInt) ∧ (u.toInt ≤ (342 : Int))) (fun q => sz ≤ q)) 0 0 (fun q => sz ≤ q) := by
  refine Met.ofW (cc := cX3_rowAt) (maxL := 5) (ret := (some .int)) (by decide) rfl ?_
  intro p e s m args below meth c0 s₁ B hml hv
  obtain ⟨rfl, hsz, hP, hK⟩ := hv
  have hx := B.exec
  have hb := B.bytes
  have hr := B.returns
  have hts := atoms_spec (ws := .code yX3_rowAt cX3_rowAt 5 (some .int) :: GW) B.pre
  have hG : ∀ w ∈ GW, w.before _ s = true := fun w h => hts w (List.mem_cons_of_mem _ h)
  have hown : s.vm.findClass RX3 = some m.cls := findClass_of_methodNamed B.named
  subst hsz
  have hS : va_S (fun q => s.heap.size ≤ q) s.heap s.heap [] := va_S.rf
  have hP : va_P (dC, dI) vwCl (WX r ct i_tapeLength i_time i_lyingCount i_rd_fault i_rd_token i_rd_kind i_sc_count i_sc_at i_A_tunes i_A_houses i_fA_length i_B_tunes i_B_houses i_fB_length i_acts_done i_acts_undone i_kn_count f_boxes f_boxKept f_trial f_offers f_A_noteCounts f_A_notes f_B_noteCounts f_B_notes f_now_where f_now_worn f_ahead_where f_ahead_worn f_acts_rows f_kn_tunes f_kn_noteTimes J L) s.heap := hP
  have hl := lv_entry ([.ref (r 3), .int p1, .int p2]) (n := 5) (Nat.le_of_ble_eq_true rfl)
  rw [lg_entry_eq]
  generalize (lg_sl ([.ref (r 3), .int p1, .int p2]) ++ List.replicate (5 - (lg_sl ([.ref (r 3), .int p1, .int p2])).length) Slot.unset).toArray = ls at hl ⊢
  have hl : lv_has ls 5 [(0, .ref (r 3)), (1, .int p1), (2, .int p2)] := hl
  refine nameQ (fun Q hQ => ?_)
  obtain ⟨ie0, ie1, ie2, ie3, ie4, ie5, ie6, ie7, ie8, ie9, ie10, ie11, ie12, ie13, ie14, ie15, ie16, ie17, ie18, ie19, ie20, ie21, ie22, ie23, ie24, ie25, ie26, ie27, ie28, ie29, ie30, ie31, ie32, ie33, ie34, ie35, ie36, ie37, ie38, ie39⟩ := id hI
  have f1 : 0 ≤ (f_A_noteCounts (p1.toInt).toNat).toInt ∧ (f_A_noteCounts (p1.toInt).toNat).toInt ≤ 8 := ie32 (p1.toInt)
  have f2 : 0 ≤ p1.toInt → p1.toInt < i_A_tunes.toInt → 3 ≤ (f_A_noteCounts (p1.toInt).toNat).toInt := ie38 (p1.toInt)
  have f3 : (p1.toInt + 1 ≤ i_A_tunes.toInt) → ((3 : Int) ≤ (f_A_noteCounts (p1.toInt).toNat).toInt) := (ox_35 hp0 f2)
  have f4 : (3 : Int) ≤ (f_A_noteCounts (p1.toInt).toNat).toInt := (ox_618 hp2 hp3)
  refine lv_aload_n hx hb dX3_rowAt_0 rfl (lv_at hl 0 rfl) ?_
  refine lv_iload_n hx hb dX3_rowAt_1 rfl (lv_at hl 1 rfl) ?_
  refine lv_iconst (v := 0) hx hb dX3_rowAt_2 (by decide) ?_
  refine lv_iload_n hx hb dX3_rowAt_3 rfl (lv_at hl 2 rfl) ?_
  refine va_calli (va_runV (As := [.int p1, .int 0, .int p2]) (rest := []) ⟨hx, hb, hml, hown, hG⟩ (kX4_noteLeft l dC dI r ct i_tapeLength i_time i_lyingCount i_rd_fault i_rd_token i_rd_kind i_sc_count i_sc_at i_A_tunes i_A_houses i_fA_length i_B_tunes i_B_houses i_fB_length i_acts_done i_acts_undone i_kn_count f_boxes f_boxKept f_trial f_offers f_A_noteCounts f_A_notes f_B_noteCounts f_B_notes f_now_where f_now_worn f_ahead_where f_ahead_worn f_acts_rows f_kn_tunes f_kn_noteTimes J L p1 0 p2 s.heap.size hI (ox_54 hp0 hp1) (ox_55 hp1) (ox_27 zc_0) (ox_582 zc_0) (ox_619 hp2 hp3) (ox_620 hp3 zc_0)) (cwV 3 hG (goodV gw1094 gw708 gw709 gw132 gw710) rfl rfl rfl hd_X4_noteLeft ⟨(Nat.le_of_ble_eq_true rfl), (Nat.le_of_ble_eq_true rfl)⟩) ⟨fbR, va_recv hK hP (ci := 3) (q0 := 3) rfl rfl, pR_in hP hK⟩ rfl rfl hl.1 rfl (lv_room (Nat.le_of_ble_eq_true rfl)) dX3_rowAt_4 ⟨(Nat.le_of_ble_eq_true rfl), (Nat.le_of_ble_eq_true rfl)⟩) hS (fun q hq h => absurd hq (Nat.not_lt.mpr h)) (fun q h => Nat.le_trans hS.1 h) (fun r_6 u_ t_ H5 locs ht hvm hw hB hz1 hk1 hS => ?_)
  subst hw
  have hP := wk hP hk1
  obtain ⟨f7, f8⟩ := hB
  refine lv_istore_n (lv' := [(3, .int r_6), (0, .ref (r 3)), (1, .int p1), (2, .int p2)]) hx hb dX3_rowAt_7 rfl hl (by decide) rfl (fun ls hl => ?_)
  refine lv_aload_n hx hb dX3_rowAt_8 rfl (lv_at hl 1 rfl) ?_
  refine lv_iload_n hx hb dX3_rowAt_9 rfl (lv_at hl 2 rfl) ?_
  refine lv_iconst (v := 0) hx hb dX3_rowAt_10 (by decide) ?_
  refine lv_iload_n hx hb dX3_rowAt_11 rfl (lv_at hl 3 rfl) ?_
  refine lv_iconst (v := 1) hx hb dX3_rowAt_12 (by decide) ?_
  refine lv_iadd hx hb dX3_rowAt_13 ?_
  refine lv_topi (fun x9 ex9 => ?_)
  have f10 : x9.toInt = p2.toInt + 1 := (ox_13 (qi_add ex9 rfl zc_1 (ox_621 hp2 hp3) (ox_622 hp3 f1)))
  refine va_calli (va_runV (As := [.int p1, .int 0, .int x9]) (rest := []) ⟨hx, hb, hml, hown, hG⟩ (kX4_noteLeft l dC dI r ct i_tapeLength i_time i_lyingCount i_rd_fault i_rd_token i_rd_kind i_sc_count i_sc_at i_A_tunes i_A_houses i_fA_length i_B_tunes i_B_houses i_fB_length i_acts_done i_acts_undone i_kn_count f_boxes f_boxKept f_trial f_offers f_A_noteCounts f_A_notes f_B_noteCounts f_B_notes f_now_where f_now_worn f_ahead_where f_ahead_worn f_acts_rows f_kn_tunes f_kn_noteTimes J L p1 0 x9 H5.size hI (ox_54 hp0 hp1) (ox_55 hp1) (ox_27 zc_0) (ox_582 zc_0) (ox_623 hp2 hp3 f10) (ox_624 hp3 zc_0 f10)) (cwV 3 hG (goodV gw1094 gw708 gw709 gw132 gw710) rfl rfl rfl hd_X4_noteLeft ⟨(Nat.le_of_ble_eq_true rfl), (Nat.le_of_ble_eq_true rfl)⟩) ⟨fbR, va_recv hK hP (ci := 3) (q0 := 3) rfl rfl, pR_in hP hK⟩ rfl rfl hl.1 rfl (lv_room (Nat.le_of_ble_eq_true rfl)) dX3_rowAt_14 ⟨(Nat.le_of_ble_eq_true rfl), (Nat.le_of_ble_eq_true rfl)⟩) hS (fun q hq h => absurd hq (Nat.not_lt.mpr h)) (fun q h => Nat.le_trans hS.1 h) (fun r_12 u_ t_ H11 locs ht hvm hw hB hz1 hk1 hS => ?_)
  subst hw
  have hP := wk hP hk1
  obtain ⟨f13, f14⟩ := hB
  refine lv_istore (lv' := [(4, .int r_12), (3, .int r_6), (0, .ref (r 3)), (1, .int p1), (2, .int p2)]) hx hb dX3_rowAt_17 hl (by decide) rfl (fun ls hl => ?_)
  refine lv_iload_n hx hb dX3_rowAt_19 rfl (lv_at hl 1 rfl) ?_
  refine lv_bipush (v := 7) hx hb dX3_rowAt_20 (by decide) ?_
  refine lv_imul hx hb dX3_rowAt_22 ?_
  refine lv_topi (fun x15 ex15 => ?_)
  have f16 : x15.toInt = 7 * r_6.toInt := (ox_627 (qi_mul ex15 rfl zc_7 (ox_625 f7 f8) (ox_626 f7 f8)))
  refine lv_iload hx hb dX3_rowAt_23 (lv_at hl 0 rfl) ?_
  refine lv_iadd hx hb dX3_rowAt_25 ?_
  refine lv_topi (fun x17 ex17 => ?_)
  have f18 : x17.toInt = r_12.toInt + 7 * r_6.toInt := (ox_630 (qi_add ex17 rfl rfl (ox_628 f7 f13 f16) (ox_629 f8 f14 f16)) f16)
  refine lv_bipush (v := 7) hx hb dX3_rowAt_26 (by decide) ?_
  refine lv_imul hx hb dX3_rowAt_28 ?_
  refine lv_topi (fun x19 ex19 => ?_)
  have f20 : x19.toInt = 7 * r_12.toInt + 49 * r_6.toInt := (ox_633 (qi_mul ex19 rfl zc_7 (ox_631 f7 f13 f18) (ox_632 f8 f14 f18)) f18)
  refine lv_aload_n hx hb dX3_rowAt_29 rfl (lv_at hl 2 rfl) ?_
  refine lv_iload_n hx hb dX3_rowAt_30 rfl (lv_at hl 3 rfl) ?_
  refine lv_iconst (v := 0) hx hb dX3_rowAt_31 (by decide) ?_
  refine lv_iload_n hx hb dX3_rowAt_32 rfl (lv_at hl 4 rfl) ?_
  refine lv_iconst (v := 2) hx hb dX3_rowAt_33 (by decide) ?_
  refine lv_iadd hx hb dX3_rowAt_34 ?_
  refine lv_topi (fun x21 ex21 => ?_)
  have f22 : x21.toInt = p2.toInt + 2 := (ox_128 (qi_add ex21 rfl zc_2 (ox_634 hp2 hp3) (ox_635 hp3 f1)))
  refine va_calli (va_runV (As := [.int p1, .int 0, .int x21]) (rest := [.int x19]) ⟨hx, hb, hml, hown, hG⟩ (kX4_noteLeft l dC dI r ct i_tapeLength i_time i_lyingCount i_rd_fault i_rd_token i_rd_kind i_sc_count i_sc_at i_A_tunes i_A_houses i_fA_length i_B_tunes i_B_houses i_fB_length i_acts_done i_acts_undone i_kn_count f_boxes f_boxKept f_trial f_offers f_A_noteCounts f_A_notes f_B_noteCounts f_B_notes f_now_where f_now_worn f_ahead_where f_ahead_worn f_acts_rows f_kn_tunes f_kn_noteTimes J L p1 0 x21 H11.size hI (ox_54 hp0 hp1) (ox_55 hp1) (ox_27 zc_0) (ox_582 zc_0) (ox_636 hp2 hp3 f22) (ox_637 hp3 zc_0 f22)) (cwV 3 hG (goodV gw1094 gw708 gw709 gw132 gw710) rfl rfl rfl hd_X4_noteLeft ⟨(Nat.le_of_ble_eq_true rfl), (Nat.le_of_ble_eq_true rfl)⟩) ⟨fbR, va_recv hK hP (ci := 3) (q0 := 3) rfl rfl, pR_in hP hK⟩ rfl rfl hl.1 rfl (lv_room (Nat.le_of_ble_eq_true rfl)) dX3_rowAt_35 ⟨(Nat.le_of_ble_eq_true rfl), (Nat.le_of_ble_eq_true rfl)⟩) hS (fun q hq h => absurd hq (Nat.not_lt.mpr h)) (fun q h => Nat.le_trans hS.1 h) (fun r_24 u_ t_ H23 locs ht hvm hw hB hz1 hk1 hS => ?_)
  subst hw
  have hP := wk hP hk1
  obtain ⟨f25, f26⟩ := hB
  refine lv_iadd hx hb dX3_rowAt_38 ?_
  refine lv_topi (fun x27 ex27 => ?_)
  have f28 : x27.toInt = r_24.toInt + 7 * r_12.toInt + 49 * r_6.toInt := (ox_640 (qi_add ex27 rfl rfl (ox_638 f7 f13 f25 f20) (ox_639 f8 f14 f26 f20)) f20)
  rw [hQ]
  exact W.iret (v := x27) hx hb hr (fun t ht hW => ⟨⟨x27, x27, rfl, rfl, ⟨(ox_641 f7 f13 f25 f28), (ox_642 f8 f14 f26 f28)⟩⟩, hS.F ht⟩) hS.2.2 dX3_rowAt_39
set_option maxHeartbeats 4000000 in
set_option maxRecDepth 100000 in
theorem kX3_weighTune (l : Launch) (dC : Nat → ClassId) (dI : Nat → Nat → Nat) (r : Nat → Nat) (ct : Nat → ClassId) (i_tapeLength i_time i_lyingCount i_rd_fault i_rd_token i_rd_kind i_sc_count i_sc_at i_A_tunes i_A_houses i_fA_length i_B_tunes i_B_houses i_fB_length i_acts_done i_acts_undone i_kn_count : Int32) (f_boxes f_boxKept f_trial f_offers f_A_noteCounts f_A_notes f_B_noteCounts f_B_notes f_now_where f_now_worn f_ahead_where f_ahead_worn f_acts_rows f_kn_tunes f_kn_noteTimes : Nat → Int32) (J : Nat → Nat → Int32) (L : Nat → Nat → Int64) (p1 : Int32) (sz : Nat) (hI : (IX i_tapeLength i_time i_lyingCount i_rd_token i_sc_count i_sc_at i_A_tunes i_A_houses i_fA_length i_B_tunes i_B_houses i_fB_length i_acts_done i_acts_undone i_kn_count f_boxes f_A_noteCounts f_A_notes f_B_noteCounts f_B_notes f_now_worn f_ahead_worn f_acts_rows f_kn_tunes)) (hp0 : (0 : Int) ≤ p1.toInt) (hp1 : p1.toInt + 1 ≤ i_A_tunes.toInt) (hp2 : (1 : Int) ≤ i_A_houses.toInt) : Met l yX3_weighTune (.code yX3_weighTune cX3_weighTune 7 none :: GW) { frames := 8, cells := 0, slots := 0, locals := 294 } (va_Pc [.ref (r 10), .ref (r 3), .int p1] (pW (dC, dI) (WX r ct i_tapeLength i_time i_lyingCount i_rd_fault i_rd_token i_rd_kind i_sc_count i_sc_at i_A_tunes i_A_houses i_fA_length i_B_tunes i_B_houses i_fB_length i_acts_done i_acts_undone i_kn_count f_boxes f_boxKept f_trial f_offers f_A_noteCounts f_A_notes f_B_noteCounts f_B_notes f_now_where f_now_worn f_ahead_where f_ahead_worn f_acts_rows f_kn_tunes f_kn_noteTimes J L) (TX ct) sz)) (va_Qv (fun _ : Unit => True) (fun (_ : Unit) (t : State) => ∃ (n_f_kn_noteTimes : Nat → Int32) (n_J : Nat → Nat → Int32), va_P (dC, dI) vwCl (WX r ct i_tapeLength i_time i_lyingCount i_rd_fault i_rd_token i_rd_kind i_sc_count i_sc_at i_A_tunes i_A_houses i_fA_length i_B_tunes i_B_houses i_fB_length i_acts_done i_acts_undone i_kn_count f_boxes f_boxKept f_trial f_offers f_A_noteCounts f_A_notes f_B_noteCounts f_B_notes f_now_where f_now_worn f_ahead_where f_ahead_worn f_acts_rows f_kn_tunes n_f_kn_noteTimes n_J L) t.heap ∧ va_D (va_A (WX r ct i_tapeLength i_time i_lyingCount i_rd_fault i_rd_token i_rd_kind i_sc_count i_sc_at i_A_tunes i_A_houses i_fA_length i_B_tunes i_B_houses i_fB_length i_acts_done i_acts_undone i_kn_count f_boxes f_boxKept f_trial f_offers f_A_noteCounts f_A_notes f_B_noteCounts f_B_notes f_now_where f_now_worn f_ahead_where f_ahead_worn f_acts_rows f_kn_tunes f_kn_noteTimes J L) sz) (WX r ct i_tapeLength i_time i_lyingCount i_rd_fault i_rd_token i_rd_kind i_sc_count i_sc_at i_A_tunes i_A_houses i_fA_length i_B_tunes i_B_houses i_fB_length i_acts_done i_acts_undone i_kn_count f_boxes f_boxKept f_trial f_offers f_A_noteCounts f_A_notes f_B_noteCounts f_B_notes f_now_where f_now_worn f_ahead_where f_ahead_worn f_acts_rows f_kn_tunes n_f_kn_noteTimes n_J L) ∧ (IX i_tapeLength i_time i_lyingCount i_rd_token i_sc_count i_sc_at i_A_tunes i_A_houses i_fA_length i_B_tunes i_B_houses i_fB_length i_acts_done i_acts_undone i_kn_count f_boxes f_A_noteCounts f_A_notes f_B_noteCounts f_B_notes f_now_worn f_ahead_worn f_acts_rows f_kn_tunes)) (va_A (WX r ct i_tapeLength i_time i_lyingCount i_rd_fault i_rd_token i_rd_kind i_sc_count i_sc_at i_A_tunes i_A_houses i_fA_length i_B_tunes i_B_houses i_fB_length i_acts_done i_acts_undone i_kn_count f_boxes f_boxKept f_trial f_offers f_A_noteCounts f_A_notes f_B_noteCounts f_B_notes f_now_where f_now_worn f_ahead_where f_ahead_worn f_acts_rows f_kn_tunes f_kn_noteTimes J L) sz)) 0 0 (va_A (WX r ct i_tapeLength i_time i_lyingCount i_rd_fault i_rd_token i_rd_kind i_sc_count i_sc_at i_A_tunes i_A_houses i_fA_length i_B_tunes i_B_houses i_fB_length i_acts_done i_acts_undone i_kn_count f_boxes f_boxKept f_trial f_offers f_A_noteCounts f_A_notes f_B_noteCounts f_B_notes f_now_where f_now_worn f_ahead_where f_ahead_worn f_acts_rows f_kn_tunes f_kn_noteTimes J L) sz) := by
  refine Met.ofW (cc := cX3_weighTune) (maxL := 7) (ret := none) (by decide) rfl ?_
  intro p e s m args below meth c0 s₁ B hml hv
  obtain ⟨rfl, hsz, hP, hK, hD0⟩ := hv
  have hx := B.exec
  have hb := B.bytes
  have hr := B.returns
  have hts := atoms_spec (ws := .code yX3_weighTune cX3_weighTune 7 none :: GW) B.pre
  have hG : ∀ w ∈ GW, w.before _ s = true := fun w h => hts w (List.mem_cons_of_mem _ h)
  have hown : s.vm.findClass RX3 = some m.cls := findClass_of_methodNamed B.named
  subst hsz
  have hD := hD0.self (sz := s.heap.size)
  generalize hAe : va_A (WX r ct i_tapeLength i_time i_lyingCount i_rd_fault i_rd_token i_rd_kind i_sc_count i_sc_at i_A_tunes i_A_houses i_fA_length i_B_tunes i_B_houses i_fB_length i_acts_done i_acts_undone i_kn_count f_boxes f_boxKept f_trial f_offers f_A_noteCounts f_A_notes f_B_noteCounts f_B_notes f_now_where f_now_worn f_ahead_where f_ahead_worn f_acts_rows f_kn_tunes f_kn_noteTimes J L) s.heap.size = A at hD ⊢
  have hA : ∀ q : Nat, s.heap.size ≤ q → A q := fun q h => by rw [← hAe]; exact Or.inr h
  have hS : va_S A s.heap s.heap [] := va_S.rf
  have hP : va_P (dC, dI) vwCl (WX r ct i_tapeLength i_time i_lyingCount i_rd_fault i_rd_token i_rd_kind i_sc_count i_sc_at i_A_tunes i_A_houses i_fA_length i_B_tunes i_B_houses i_fB_length i_acts_done i_acts_undone i_kn_count f_boxes f_boxKept f_trial f_offers f_A_noteCounts f_A_notes f_B_noteCounts f_B_notes f_now_where f_now_worn f_ahead_where f_ahead_worn f_acts_rows f_kn_tunes f_kn_noteTimes J L) s.heap := hP
  have hl := lv_entry ([.ref (r 10), .ref (r 3), .int p1]) (n := 7) (Nat.le_of_ble_eq_true rfl)
  rw [lg_entry_eq]
  generalize (lg_sl ([.ref (r 10), .ref (r 3), .int p1]) ++ List.replicate (7 - (lg_sl ([.ref (r 10), .ref (r 3), .int p1])).length) Slot.unset).toArray = ls at hl ⊢
  have hl : lv_has ls 7 [(0, .ref (r 10)), (1, .ref (r 3)), (2, .int p1)] := hl
  refine nameQ (fun Q hQ => ?_)
  obtain ⟨ie0, ie1, ie2, ie3, ie4, ie5, ie6, ie7, ie8, ie9, ie10, ie11, ie12, ie13, ie14, ie15, ie16, ie17, ie18, ie19, ie20, ie21, ie22, ie23, ie24, ie25, ie26, ie27, ie28, ie29, ie30, ie31, ie32, ie33, ie34, ie35, ie36, ie37, ie38, ie39⟩ := id hI
  refine lv_aload_n hx hb dX3_weighTune_0 rfl (lv_at hl 1 rfl) ?_
  refine gX_X3_80_3 hx hb hG hown hK hP dX3_weighTune_1 ?_
  refine lv_aload_n hx hb dX3_weighTune_4 rfl (lv_at hl 1 rfl) ?_
  refine gX_X3_57_3 hx hb hG hown hK hP dX3_weighTune_5 ?_
  refine lv_iconst (v := 1) hx hb dX3_weighTune_8 (by decide) ?_
  refine lv_isub hx hb dX3_weighTune_9 ?_
  refine lv_topi (fun x1 ex1 => ?_)
  have f2 : x1.toInt = i_A_houses.toInt + (-1) := (ox_167 (qi_sub ex1 rfl zc_1 (ox_643 ie14 ie15 hp2) (ox_644 ie14 ie15 hp2)))
  refine ldX_27 (mm := i_A_houses.toInt + (-1)) hx hb hK hP f2 (ox_645 ie14 ie15 hp2) (ox_646 ie14 ie15 hp2) dX3_weighTune_10 (fun x3 => ?_)
  refine lv_istore_n (lv' := [(3, .int x3), (0, .ref (r 10)), (1, .ref (r 3)), (2, .int p1)]) hx hb dX3_weighTune_11 rfl hl (by decide) rfl (fun ls hl => ?_)
  refine lv_aload_n hx hb dX3_weighTune_12 rfl (lv_at hl 2 rfl) ?_
  refine gX_X3_83_3 hx hb hG hown hK hP dX3_weighTune_13 ?_
  refine lv_iload_n hx hb dX3_weighTune_16 rfl (lv_at hl 3 rfl) ?_
  refine ldX_24 (mm := p1.toInt) hx hb hK hP rfl (ox_33 hp0 hp1) (ox_34 ie13 hp1) dX3_weighTune_17 ?_
  have f4 : 0 ≤ (f_A_noteCounts (p1.toInt).toNat).toInt ∧ (f_A_noteCounts (p1.toInt).toNat).toInt ≤ 8 := ie32 (p1.toInt)
  have f5 : 0 ≤ p1.toInt → p1.toInt < i_A_tunes.toInt → 3 ≤ (f_A_noteCounts (p1.toInt).toNat).toInt := ie38 (p1.toInt)
  have f6 : (p1.toInt + 1 ≤ i_A_tunes.toInt) → ((3 : Int) ≤ (f_A_noteCounts (p1.toInt).toNat).toInt) := (ox_35 hp0 f5)
  have f7 : (3 : Int) ≤ (f_A_noteCounts (p1.toInt).toNat).toInt := (ox_36 hp0 hp1 f5)
  refine lv_istore (lv' := [(4, .int (f_A_noteCounts (p1.toInt).toNat)), (3, .int x3), (0, .ref (r 10)), (1, .ref (r 3)), (2, .int p1)]) hx hb dX3_weighTune_18 hl (by decide) rfl (fun ls hl => ?_)
  refine lv_aload_n hx hb dX3_weighTune_20 rfl (lv_at hl 2 rfl) ?_
  refine lv_aload_n hx hb dX3_weighTune_21 rfl (lv_at hl 3 rfl) ?_
  refine lv_iload_n hx hb dX3_weighTune_22 rfl (lv_at hl 4 rfl) ?_
  have hFc := frA hD hS hA
  refine va_callv (va_runV (As := [.ref (r 3), .int p1]) (rest := []) ⟨hx, hb, hml, hown, hG⟩ (kX3_countNotes l dC dI r ct i_tapeLength i_time i_lyingCount i_rd_fault i_rd_token i_rd_kind i_sc_count i_sc_at i_A_tunes i_A_houses i_fA_length i_B_tunes i_B_houses i_fB_length i_acts_done i_acts_undone i_kn_count f_boxes f_boxKept f_trial f_offers f_A_noteCounts f_A_notes f_B_noteCounts f_B_notes f_now_where f_now_worn f_ahead_where f_ahead_worn f_acts_rows f_kn_tunes f_kn_noteTimes J L p1 s.heap.size hI (ox_54 hp0 hp1) (ox_55 hp1)) (cwV 2 hG (goodV gw1090 gw1092 gw50 gw136 gw1093) rfl rfl rfl hd_X3_countNotes ⟨(Nat.le_of_ble_eq_true rfl), (Nat.le_of_ble_eq_true rfl)⟩) ⟨fbW, va_recv hK hP (ci := 2) (q0 := 10) rfl rfl, pW_in hP hK hD⟩ rfl rfl hl.1 rfl (lv_room (Nat.le_of_ble_eq_true rfl)) dX3_weighTune_23 ⟨(Nat.le_of_ble_eq_true rfl), (Nat.le_of_ble_eq_true rfl)⟩) hS (fun q _ h => hFc q h) hFc (fun _ t_ H8 locs ht hvm hw hB hz1 hk1 hS => ?_)
  obtain ⟨z10, hP1, hD1, hI12, f11⟩ := hB
  rw [ht] at hP1
  have hP := hP1
  have hD := dW hFc hD1
  obtain ⟨im13, im14, im15, im16, im17, im18, im19, im20, im21, im22, im23, im24, im25, im26, im27, im28, im29, im30, im31, im32, im33, im34, im35, im36, im37, im38, im39, im40, im41, im42, im43, im44, im45, im46, im47, im48, im49, im50, im51, im52⟩ := id hI12
  refine lv_iconst (v := 0) hx hb dX3_weighTune_26 (by decide) ?_
  refine lv_istore (lv' := [(5, .int 0), (4, .int (f_A_noteCounts (p1.toInt).toNat)), (3, .int x3), (0, .ref (r 10)), (1, .ref (r 3)), (2, .int p1)]) hx hb dX3_weighTune_27 hl (by decide) rfl (fun ls hl => ?_)
  have L29 : ∀ (N29 : Nat) (y29_5 : Int32) (m29_J : Nat → Nat → Int32) (H29 : Heap) (locs : List Loc) (ls : Array Slot) (g29_0 : (0 : Int) ≤ y29_5.toInt) (g29_1 : y29_5.toInt ≤ (9 : Int)) (hP : va_P (dC, dI) vwCl (WX r ct i_tapeLength i_time i_lyingCount i_rd_fault i_rd_token i_rd_kind i_sc_count i_sc_at i_A_tunes i_A_houses i_fA_length i_B_tunes i_B_houses i_fB_length i_acts_done i_acts_undone i_kn_count f_boxes f_boxKept f_trial f_offers f_A_noteCounts f_A_notes f_B_noteCounts f_B_notes f_now_where f_now_worn f_ahead_where f_ahead_worn f_acts_rows f_kn_tunes z10 m29_J L) H29) (hD : va_D A (WX r ct i_tapeLength i_time i_lyingCount i_rd_fault i_rd_token i_rd_kind i_sc_count i_sc_at i_A_tunes i_A_houses i_fA_length i_B_tunes i_B_houses i_fB_length i_acts_done i_acts_undone i_kn_count f_boxes f_boxKept f_trial f_offers f_A_noteCounts f_A_notes f_B_noteCounts f_B_notes f_now_where f_now_worn f_ahead_where f_ahead_worn f_acts_rows f_kn_tunes z10 m29_J L)) (hS : va_S A s.heap H29 locs) (hl : lv_has ls 7 [(0, .ref (r 10)), (1, .ref (r 3)), (2, .int p1), (3, .int x3), (4, .int (f_A_noteCounts (p1.toInt).toNat)), (5, .int y29_5)]) (hM : -1 * y29_5.toInt + 9 < (N29 : Int)), W p l e { frames := 8, cells := 0, slots := 0, locals := 294 } s m ([.ref (r 10), .ref (r 3), .int p1] : List Value).toArray below meth c0 H29 locs 0 0 Q (F0 m 29 ls []) := by
    intro N29
    induction N29 with
    | zero =>
      intro y29_5 m29_J H29 locs ls g29_0 g29_1 hP hD hS hl hM
      exact ((ox_647 hM g29_0 g29_1)).elim
    | succ N29 ih29 =>
      intro y29_5 m29_J H29 locs ls g29_0 g29_1 hP hD hS hl hM
      have hM29 := msucc hM
      refine lv_iload hx hb dX3_weighTune_29 (lv_at hl 5 rfl) ?_
      refine lv_iload hx hb dX3_weighTune_31 (lv_at hl 4 rfl) ?_
      refine lv_icmp_gt (tgt := 78) hx hb dX3_weighTune_33 (by decide) (fun c_53 => ?_) (fun c_53 => ?_)
      · skip
        have f54 : (f_A_noteCounts (p1.toInt).toNat).toInt < y29_5.toInt := qi_lt c_53 rfl rfl
        refine lv_iconst (v := 0) hx hb dX3_weighTune_78 (by decide) ?_
        refine lv_istore (lv' := [(5, .int 0), (0, .ref (r 10)), (1, .ref (r 3)), (2, .int p1), (3, .int x3), (4, .int (f_A_noteCounts (p1.toInt).toNat))]) hx hb dX3_weighTune_79 hl (by decide) rfl (fun ls hl => ?_)
        have L81 : ∀ (N81 : Nat) (y81_5 : Int32) (m81_J : Nat → Nat → Int32) (H81 : Heap) (locs : List Loc) (ls : Array Slot) (g81_0 : (0 : Int) ≤ y81_5.toInt) (g81_1 : y81_5.toInt ≤ (343 : Int)) (hP : va_P (dC, dI) vwCl (WX r ct i_tapeLength i_time i_lyingCount i_rd_fault i_rd_token i_rd_kind i_sc_count i_sc_at i_A_tunes i_A_houses i_fA_length i_B_tunes i_B_houses i_fB_length i_acts_done i_acts_undone i_kn_count f_boxes f_boxKept f_trial f_offers f_A_noteCounts f_A_notes f_B_noteCounts f_B_notes f_now_where f_now_worn f_ahead_where f_ahead_worn f_acts_rows f_kn_tunes z10 m81_J L) H81) (hD : va_D A (WX r ct i_tapeLength i_time i_lyingCount i_rd_fault i_rd_token i_rd_kind i_sc_count i_sc_at i_A_tunes i_A_houses i_fA_length i_B_tunes i_B_houses i_fB_length i_acts_done i_acts_undone i_kn_count f_boxes f_boxKept f_trial f_offers f_A_noteCounts f_A_notes f_B_noteCounts f_B_notes f_now_where f_now_worn f_ahead_where f_ahead_worn f_acts_rows f_kn_tunes z10 m81_J L)) (hS : va_S A s.heap H81 locs) (hl : lv_has ls 7 [(0, .ref (r 10)), (1, .ref (r 3)), (2, .int p1), (3, .int x3), (4, .int (f_A_noteCounts (p1.toInt).toNat)), (5, .int y81_5)]) (hM : -1 * y81_5.toInt + 343 < (N81 : Int)), W p l e { frames := 8, cells := 0, slots := 0, locals := 294 } s m ([.ref (r 10), .ref (r 3), .int p1] : List Value).toArray below meth c0 H81 locs 0 0 Q (F0 m 81 ls []) := by
          intro N81
          induction N81 with
          | zero =>
            intro y81_5 m81_J H81 locs ls g81_0 g81_1 hP hD hS hl hM
            exact ((ox_569 hM g81_0 g81_1)).elim
          | succ N81 ih81 =>
            intro y81_5 m81_J H81 locs ls g81_0 g81_1 hP hD hS hl hM
            have hM81 := msucc hM
            refine lv_iload hx hb dX3_weighTune_81 (lv_at hl 5 rfl) ?_
            refine lv_sipush (v := 343) hx hb dX3_weighTune_83 (by decide) ?_
            refine lv_icmp_ge (tgt := 119) hx hb dX3_weighTune_86 (by decide) (fun c_55 => ?_) (fun c_55 => ?_)
            · skip
              have f56 : 343 ≤ y81_5.toInt := qi_le c_55 zc_343 rfl
              refine lv_iconst (v := 0) hx hb dX3_weighTune_119 (by decide) ?_
              refine lv_istore (lv' := [(5, .int 0), (0, .ref (r 10)), (1, .ref (r 3)), (2, .int p1), (3, .int x3), (4, .int (f_A_noteCounts (p1.toInt).toNat))]) hx hb dX3_weighTune_120 hl (by decide) rfl (fun ls hl => ?_)
              have L122 : ∀ (N122 : Nat) (y122_5 : Int32) (m122_J : Nat → Nat → Int32) (H122 : Heap) (locs : List Loc) (ls : Array Slot) (g122_0 : (0 : Int) ≤ y122_5.toInt) (g122_1 : y122_5.toInt ≤ (6 : Int)) (hP : va_P (dC, dI) vwCl (WX r ct i_tapeLength i_time i_lyingCount i_rd_fault i_rd_token i_rd_kind i_sc_count i_sc_at i_A_tunes i_A_houses i_fA_length i_B_tunes i_B_houses i_fB_length i_acts_done i_acts_undone i_kn_count f_boxes f_boxKept f_trial f_offers f_A_noteCounts f_A_notes f_B_noteCounts f_B_notes f_now_where f_now_worn f_ahead_where f_ahead_worn f_acts_rows f_kn_tunes z10 m122_J L) H122) (hD : va_D A (WX r ct i_tapeLength i_time i_lyingCount i_rd_fault i_rd_token i_rd_kind i_sc_count i_sc_at i_A_tunes i_A_houses i_fA_length i_B_tunes i_B_houses i_fB_length i_acts_done i_acts_undone i_kn_count f_boxes f_boxKept f_trial f_offers f_A_noteCounts f_A_notes f_B_noteCounts f_B_notes f_now_where f_now_worn f_ahead_where f_ahead_worn f_acts_rows f_kn_tunes z10 m122_J L)) (hS : va_S A s.heap H122 locs) (hl : lv_has ls 7 [(0, .ref (r 10)), (1, .ref (r 3)), (2, .int p1), (3, .int x3), (4, .int (f_A_noteCounts (p1.toInt).toNat)), (5, .int y122_5)]) (hM : -1 * y122_5.toInt + 6 < (N122 : Int)), W p l e { frames := 8, cells := 0, slots := 0, locals := 294 } s m ([.ref (r 10), .ref (r 3), .int p1] : List Value).toArray below meth c0 H122 locs 0 0 Q (F0 m 122 ls []) := by
                intro N122
                induction N122 with
                | zero =>
                  intro y122_5 m122_J H122 locs ls g122_0 g122_1 hP hD hS hl hM
                  exact ((ox_648 hM g122_0 g122_1)).elim
                | succ N122 ih122 =>
                  intro y122_5 m122_J H122 locs ls g122_0 g122_1 hP hD hS hl hM
                  have hM122 := msucc hM
                  refine lv_iload hx hb dX3_weighTune_122 (lv_at hl 5 rfl) ?_
                  refine lv_iconst (v := 2) hx hb dX3_weighTune_124 (by decide) ?_
                  refine lv_iadd hx hb dX3_weighTune_125 ?_
                  refine lv_topi (fun x57 ex57 => ?_)
                  have f58 : x57.toInt = y122_5.toInt + 2 := (ox_128 (qi_add ex57 rfl zc_2 (ox_649 g122_0 g122_1 hM122) (ox_650 g122_0 g122_1 hM122)))
                  refine lv_iload hx hb dX3_weighTune_126 (lv_at hl 4 rfl) ?_
                  refine lv_icmp_ge (tgt := 170) hx hb dX3_weighTune_128 (by decide) (fun c_59 => ?_) (fun c_59 => ?_)
                  · skip
                    have f60 : (f_A_noteCounts (p1.toInt).toNat).toInt ≤ x57.toInt := qi_le c_59 rfl rfl
                    rw [hQ]
                    exact W.vret hx hb hr (fun t ht hW => ⟨⟨(), rfl, trivial, ⟨z10, m122_J, by rw [ht]; exact hP, hD, hI12⟩⟩, hS.F ht⟩) hS.2.2 dX3_weighTune_170
                  · skip
                    have f61 : x57.toInt < (f_A_noteCounts (p1.toInt).toNat).toInt := qi_nle c_59 rfl rfl
                    refine lv_aload_n hx hb dX3_weighTune_131 rfl (lv_at hl 1 rfl) ?_
                    refine lv_iload_n hx hb dX3_weighTune_132 rfl (lv_at hl 2 rfl) ?_
                    refine lv_iload hx hb dX3_weighTune_133 (lv_at hl 5 rfl) ?_
                    refine va_calli (va_runS (As := [.ref (r 3), .int p1, .int y122_5]) (rest := []) ⟨hx, hb, hml, hown, hG⟩ (kX3_rowAt l dC dI r ct i_tapeLength i_time i_lyingCount i_rd_fault i_rd_token i_rd_kind i_sc_count i_sc_at i_A_tunes i_A_houses i_fA_length i_B_tunes i_B_houses i_fB_length i_acts_done i_acts_undone i_kn_count f_boxes f_boxKept f_trial f_offers f_A_noteCounts f_A_notes f_B_noteCounts f_B_notes f_now_where f_now_worn f_ahead_where f_ahead_worn f_acts_rows f_kn_tunes z10 m122_J L p1 y122_5 H122.size hI12 (ox_54 hp0 hp1) (ox_55 hp1) (ox_6 g122_0) (ox_651 f61 f58)) (va_cwS 3 hG (goodS gw1103 gw1104 gw136 gw1105) rfl rfl rfl hd_X3_rowAt ⟨(Nat.le_of_ble_eq_true rfl), (Nat.le_of_ble_eq_true rfl)⟩) ⟨fbR, pR_in hP hK⟩ rfl rfl hl.1 rfl (lv_room (Nat.le_of_ble_eq_true rfl)) dX3_weighTune_135 ⟨(Nat.le_of_ble_eq_true rfl), (Nat.le_of_ble_eq_true rfl)⟩) hS (fun q hq h => absurd hq (Nat.not_lt.mpr h)) (fun q h => hA q (Nat.le_trans hS.1 h)) (fun r_63 u_ t_ H62 locs ht hvm hw hB hz1 hk1 hS => ?_)
                    subst hw
                    have hP := wk hP hk1
                    obtain ⟨f64, f65⟩ := hB
                    refine lv_istore (lv' := [(6, .int r_63), (0, .ref (r 10)), (1, .ref (r 3)), (2, .int p1), (3, .int x3), (4, .int (f_A_noteCounts (p1.toInt).toNat)), (5, .int y122_5)]) hx hb dX3_weighTune_138 hl (by decide) rfl (fun ls hl => ?_)
                    refine lv_aload_n hx hb dX3_weighTune_140 rfl (lv_at hl 1 rfl) ?_
                    refine gX_X3_28_10 hx hb hG hown hK hP dX3_weighTune_141 ?_
                    refine lv_iload_n hx hb dX3_weighTune_144 rfl (lv_at hl 3 rfl) ?_
                    refine lv_sipush (v := 343) hx hb dX3_weighTune_145 (by decide) ?_
                    refine lv_imul hx hb dX3_weighTune_148 ?_
                    refine lv_topi (fun x66 ex66 => ?_)
                    have f67 : x66.toInt = 343 * p1.toInt := (ox_568 (qi_mul ex66 rfl zc_343 (ox_652 hp0 hp1) (ox_653 ie13 hp1)))
                    refine lv_iload hx hb dX3_weighTune_149 (lv_at hl 0 rfl) ?_
                    refine lv_iadd hx hb dX3_weighTune_151 ?_
                    refine lv_topi (fun x68 ex68 => ?_)
                    have f69 : x68.toInt = r_63.toInt + 343 * p1.toInt := (ox_572 (qi_add ex68 rfl rfl (ox_654 hp0 f64 f67) (ox_655 ie13 hp1 f65 f67)) f67)
                    refine lv_aload_n hx hb dX3_weighTune_152 rfl (lv_at hl 1 rfl) ?_
                    refine gX_X3_40_10 hx hb hG hown hK hP dX3_weighTune_153 ?_
                    refine lv_aload_n hx hb dX3_weighTune_156 rfl (lv_at hl 1 rfl) ?_
                    refine lv_iload hx hb dX3_weighTune_157 (lv_at hl 0 rfl) ?_
                    refine va_calli (va_runV (As := [.int r_63]) (rest := [.ref (r 61), .int x68, .ref (r 57)]) ⟨hx, hb, hml, hown, hG⟩ (kX3_sameBy l dC dI r ct i_tapeLength i_time i_lyingCount i_rd_fault i_rd_token i_rd_kind i_sc_count i_sc_at i_A_tunes i_A_houses i_fA_length i_B_tunes i_B_houses i_fB_length i_acts_done i_acts_undone i_kn_count f_boxes f_boxKept f_trial f_offers f_A_noteCounts f_A_notes f_B_noteCounts f_B_notes f_now_where f_now_worn f_ahead_where f_ahead_worn f_acts_rows f_kn_tunes z10 m122_J L r_63 H62.size hI12 (ox_596 f64 f65) (ox_597 f64 f65) f11) (cwV 1 hG (goodV gw1096 gw1098 gw51 gw136 gw1099) rfl rfl rfl hd_X3_sameBy ⟨(Nat.le_of_ble_eq_true rfl), (Nat.le_of_ble_eq_true rfl)⟩) ⟨fbR, va_recv hK hP (ci := 2) (q0 := 10) rfl rfl, pR_in hP hK⟩ rfl rfl hl.1 rfl (lv_room (Nat.le_of_ble_eq_true rfl)) dX3_weighTune_159 ⟨(Nat.le_of_ble_eq_true rfl), (Nat.le_of_ble_eq_true rfl)⟩) hS (fun q hq h => absurd hq (Nat.not_lt.mpr h)) (fun q h => hA q (Nat.le_trans hS.1 h)) (fun r_71 u_ t_ H70 locs ht hvm hw hB hz1 hk1 hS => ?_)
                    subst hw
                    have hP := wk hP hk1
                    obtain ⟨f72, f73⟩ := hB
                    refine ldX_61 (mm := r_71.toInt) hx hb hK hP rfl (ox_656 f72 f73) (ox_657 f72 f73) dX3_weighTune_162 (fun x74 => ?_)
                    refine stX_57 (mm := r_63.toInt + 343 * p1.toInt) hx hb hK hP hD hS f69 (ox_658 hp0 f64) (ox_659 ie13 hp1 f65) dX3_weighTune_163 (fun J76 H75 locs hP hD hS => ?_)
                    obtain ⟨x77, ex77⟩ : ∃ y : Int32, y = y122_5 + Int32.ofInt 1 := ⟨_, rfl⟩
                    have f78 : x77.toInt = y122_5.toInt + 1 := (ox_13 (qi_add ex77 rfl (by decide) (ox_11 g122_0) (ox_660 g122_1)))
                    refine lv_iinc (v := x77) (lv' := [(5, .int x77), (6, .int r_63), (0, .ref (r 10)), (1, .ref (r 3)), (2, .int p1), (3, .int x3), (4, .int (f_A_noteCounts (p1.toInt).toNat))]) hx hb dX3_weighTune_164 hl (k := 6) rfl ex77.symm (by decide) rfl (fun ls hl => ?_)
                    refine lv_goto (tgt := 122) hx hb dX3_weighTune_167 (by decide) ?_
                    exact ih122 x77 J76 H75 _ _ (ox_14 g122_0 f78) (ox_661 f4 f61 f58 f78) hP hD hS (lv_sub hl [2, 3, 4, 5, 6, 0] rfl) (ox_662 hM122 f78)
              exact L122 (-1 * (0 : Int32).toInt + 6 + 1).toNat 0 m81_J H81 _ _ (ox_27 zc_0) (ox_663 zc_0) hP hD hS (lv_sub hl [1, 2, 3, 4, 5, 0] rfl) (mlt (ox_664 zc_0))
            · skip
              have f79 : y81_5.toInt < 343 := qi_nle c_55 zc_343 rfl
              refine lv_aload_n hx hb dX3_weighTune_89 rfl (lv_at hl 0 rfl) ?_
              refine gX_X3_28_10 hx hb hG hown hK hP dX3_weighTune_90 ?_
              refine lv_iload_n hx hb dX3_weighTune_93 rfl (lv_at hl 2 rfl) ?_
              refine lv_sipush (v := 343) hx hb dX3_weighTune_94 (by decide) ?_
              refine lv_imul hx hb dX3_weighTune_97 ?_
              refine lv_topi (fun x80 ex80 => ?_)
              have f81 : x80.toInt = 343 * p1.toInt := (ox_568 (qi_mul ex80 rfl zc_343 (ox_652 hp0 hp1) (ox_653 ie13 hp1)))
              refine lv_iload hx hb dX3_weighTune_98 (lv_at hl 5 rfl) ?_
              refine lv_iadd hx hb dX3_weighTune_100 ?_
              refine lv_topi (fun x82 ex82 => ?_)
              have f83 : x82.toInt = y81_5.toInt + 343 * p1.toInt := (ox_572 (qi_add ex82 rfl rfl (ox_654 hp0 g81_0 f81) (ox_665 ie13 hp1 g81_1 f81)) f81)
              refine lv_aload_n hx hb dX3_weighTune_101 rfl (lv_at hl 0 rfl) ?_
              refine gX_X3_37_10 hx hb hG hown hK hP dX3_weighTune_102 ?_
              refine lv_aload_n hx hb dX3_weighTune_105 rfl (lv_at hl 0 rfl) ?_
              refine lv_iload hx hb dX3_weighTune_106 (lv_at hl 5 rfl) ?_
              refine va_calli (va_runV (As := [.int y81_5]) (rest := [.ref (r 60), .int x82, .ref (r 57)]) ⟨hx, hb, hml, hown, hG⟩ (kX3_sameBy l dC dI r ct i_tapeLength i_time i_lyingCount i_rd_fault i_rd_token i_rd_kind i_sc_count i_sc_at i_A_tunes i_A_houses i_fA_length i_B_tunes i_B_houses i_fB_length i_acts_done i_acts_undone i_kn_count f_boxes f_boxKept f_trial f_offers f_A_noteCounts f_A_notes f_B_noteCounts f_B_notes f_now_where f_now_worn f_ahead_where f_ahead_worn f_acts_rows f_kn_tunes z10 m81_J L y81_5 H81.size hI12 (ox_6 g81_0) (ox_666 f79) f11) (cwV 1 hG (goodV gw1096 gw1098 gw51 gw136 gw1099) rfl rfl rfl hd_X3_sameBy ⟨(Nat.le_of_ble_eq_true rfl), (Nat.le_of_ble_eq_true rfl)⟩) ⟨fbR, va_recv hK hP (ci := 2) (q0 := 10) rfl rfl, pR_in hP hK⟩ rfl rfl hl.1 rfl (lv_room (Nat.le_of_ble_eq_true rfl)) dX3_weighTune_108 ⟨(Nat.le_of_ble_eq_true rfl), (Nat.le_of_ble_eq_true rfl)⟩) hS (fun q hq h => absurd hq (Nat.not_lt.mpr h)) (fun q h => hA q (Nat.le_trans hS.1 h)) (fun r_85 u_ t_ H84 locs ht hvm hw hB hz1 hk1 hS => ?_)
              subst hw
              have hP := wk hP hk1
              obtain ⟨f86, f87⟩ := hB
              refine ldX_60 (mm := r_85.toInt) hx hb hK hP rfl (ox_656 f86 f87) (ox_657 f86 f87) dX3_weighTune_111 (fun x88 => ?_)
              refine stX_57 (mm := y81_5.toInt + 343 * p1.toInt) hx hb hK hP hD hS f83 (ox_658 hp0 g81_0) (ox_667 ie13 hp1 f79) dX3_weighTune_112 (fun J90 H89 locs hP hD hS => ?_)
              obtain ⟨x91, ex91⟩ : ∃ y : Int32, y = y81_5 + Int32.ofInt 1 := ⟨_, rfl⟩
              have f92 : x91.toInt = y81_5.toInt + 1 := (ox_13 (qi_add ex91 rfl (by decide) (ox_11 g81_0) (ox_575 g81_1)))
              refine lv_iinc (v := x91) (lv' := [(5, .int x91), (0, .ref (r 10)), (1, .ref (r 3)), (2, .int p1), (3, .int x3), (4, .int (f_A_noteCounts (p1.toInt).toNat))]) hx hb dX3_weighTune_113 hl (k := 5) rfl ex91.symm (by decide) rfl (fun ls hl => ?_)
              refine lv_goto (tgt := 81) hx hb dX3_weighTune_116 (by decide) ?_
              exact ih81 x91 J90 H89 _ _ (ox_14 g81_0 f92) (ox_576 f79 f92) hP hD hS (lv_sub hl [1, 2, 3, 4, 5, 0] rfl) (ox_577 hM81 f92)
        exact L81 (-1 * (0 : Int32).toInt + 343 + 1).toNat 0 m29_J H29 _ _ (ox_27 zc_0) (ox_579 zc_0) hP hD hS (lv_sub hl [1, 2, 3, 4, 5, 0] rfl) (mlt (ox_580 zc_0))
      · skip
        have f93 : y29_5.toInt ≤ (f_A_noteCounts (p1.toInt).toNat).toInt := qi_nlt c_53 rfl rfl
        refine lv_aload_n hx hb dX3_weighTune_36 rfl (lv_at hl 0 rfl) ?_
        refine gX_X3_37_10 hx hb hG hown hK hP dX3_weighTune_37 ?_
        refine lv_iload hx hb dX3_weighTune_40 (lv_at hl 5 rfl) ?_
        refine lv_aload_n hx hb dX3_weighTune_42 rfl (lv_at hl 1 rfl) ?_
        refine lv_iload hx hb dX3_weighTune_43 (lv_at hl 5 rfl) ?_
        refine lv_iconst (v := 0) hx hb dX3_weighTune_45 (by decide) ?_
        refine lv_iload_n hx hb dX3_weighTune_46 rfl (lv_at hl 2 rfl) ?_
        refine lv_iconst (v := 0) hx hb dX3_weighTune_47 (by decide) ?_
        refine lv_iconst (v := 0) hx hb dX3_weighTune_48 (by decide) ?_
        refine lv_iload_n hx hb dX3_weighTune_49 rfl (lv_at hl 3 rfl) ?_
        have hFc := frA hD hS hA
        refine va_calli (va_runV (As := [.int y29_5, .int 0, .int p1, .int 0, .int 0, .int x3]) (rest := [.int y29_5, .ref (r 60)]) ⟨hx, hb, hml, hown, hG⟩ (kX4_gladnessBy l dC dI r ct i_tapeLength i_time i_lyingCount i_rd_fault i_rd_token i_rd_kind i_sc_count i_sc_at i_A_tunes i_A_houses i_fA_length i_B_tunes i_B_houses i_fB_length i_acts_done i_acts_undone i_kn_count f_boxes f_boxKept f_trial f_offers f_A_noteCounts f_A_notes f_B_noteCounts f_B_notes f_now_where f_now_worn f_ahead_where f_ahead_worn f_acts_rows f_kn_tunes z10 m29_J L y29_5 0 p1 0 0 x3 H29.size hI12 (ox_54 hp0 hp1) (ox_55 hp1) (ox_27 zc_0) (ox_582 zc_0) (ox_472 zc_0)) (cwV 6 hG (goodV gw1095 gw763 gw764 gw132 gw765) rfl rfl rfl hd_X4_gladnessBy ⟨(Nat.le_of_ble_eq_true rfl), (Nat.le_of_ble_eq_true rfl)⟩) ⟨fbW, va_recv hK hP (ci := 3) (q0 := 3) rfl rfl, pW_in hP hK hD⟩ rfl rfl hl.1 rfl (lv_room (Nat.le_of_ble_eq_true rfl)) dX3_weighTune_50 ⟨(Nat.le_of_ble_eq_true rfl), (Nat.le_of_ble_eq_true rfl)⟩) hS (fun q _ h => hFc q h) hFc (fun r_95 u_ t_ H94 locs ht hvm hw hB hz1 hk1 hS => ?_)
        subst hw
        obtain ⟨J96, hP1, hD1, hI98, f97⟩ := hB
        rw [ht] at hP1
        have hP := hP1
        have hD := dW hFc hD1
        obtain ⟨im99, im100, im101, im102, im103, im104, im105, im106, im107, im108, im109, im110, im111, im112, im113, im114, im115, im116, im117, im118, im119, im120, im121, im122, im123, im124, im125, im126, im127, im128, im129, im130, im131, im132, im133, im134, im135, im136, im137, im138⟩ := id hI98
        refine stX_60 (mm := y29_5.toInt) hx hb hK hP hD hS rfl (ox_9 g29_0) (ox_668 f4 f93) dX3_weighTune_53 (fun J140 H139 locs hP hD hS => ?_)
        refine lv_aload_n hx hb dX3_weighTune_54 rfl (lv_at hl 0 rfl) ?_
        refine gX_X3_40_10 hx hb hG hown hK hP dX3_weighTune_55 ?_
        refine lv_iload hx hb dX3_weighTune_58 (lv_at hl 5 rfl) ?_
        refine lv_aload_n hx hb dX3_weighTune_60 rfl (lv_at hl 1 rfl) ?_
        refine lv_iload hx hb dX3_weighTune_61 (lv_at hl 5 rfl) ?_
        refine lv_iconst (v := 1) hx hb dX3_weighTune_63 (by decide) ?_
        refine lv_iload_n hx hb dX3_weighTune_64 rfl (lv_at hl 2 rfl) ?_
        refine lv_iconst (v := 0) hx hb dX3_weighTune_65 (by decide) ?_
        refine lv_iconst (v := 0) hx hb dX3_weighTune_66 (by decide) ?_
        refine lv_iload_n hx hb dX3_weighTune_67 rfl (lv_at hl 3 rfl) ?_
        have hFc := frA hD hS hA
        refine va_calli (va_runV (As := [.int y29_5, .int 1, .int p1, .int 0, .int 0, .int x3]) (rest := [.int y29_5, .ref (r 61)]) ⟨hx, hb, hml, hown, hG⟩ (kX4_gladnessBy l dC dI r ct i_tapeLength i_time i_lyingCount i_rd_fault i_rd_token i_rd_kind i_sc_count i_sc_at i_A_tunes i_A_houses i_fA_length i_B_tunes i_B_houses i_fB_length i_acts_done i_acts_undone i_kn_count f_boxes f_boxKept f_trial f_offers f_A_noteCounts f_A_notes f_B_noteCounts f_B_notes f_now_where f_now_worn f_ahead_where f_ahead_worn f_acts_rows f_kn_tunes z10 J140 L y29_5 1 p1 0 0 x3 H139.size hI98 (ox_54 hp0 hp1) (ox_55 hp1) (ox_27 zc_0) (ox_582 zc_0) (ox_473 zc_1)) (cwV 6 hG (goodV gw1095 gw763 gw764 gw132 gw765) rfl rfl rfl hd_X4_gladnessBy ⟨(Nat.le_of_ble_eq_true rfl), (Nat.le_of_ble_eq_true rfl)⟩) ⟨fbW, va_recv hK hP (ci := 3) (q0 := 3) rfl rfl, pW_in hP hK hD⟩ rfl rfl hl.1 rfl (lv_room (Nat.le_of_ble_eq_true rfl)) dX3_weighTune_68 ⟨(Nat.le_of_ble_eq_true rfl), (Nat.le_of_ble_eq_true rfl)⟩) hS (fun q _ h => hFc q h) hFc (fun r_142 u_ t_ H141 locs ht hvm hw hB hz1 hk1 hS => ?_)
        subst hw
        obtain ⟨J143, hP1, hD1, hI145, f144⟩ := hB
        rw [ht] at hP1
        have hP := hP1
        have hD := dW hFc hD1
        obtain ⟨im146, im147, im148, im149, im150, im151, im152, im153, im154, im155, im156, im157, im158, im159, im160, im161, im162, im163, im164, im165, im166, im167, im168, im169, im170, im171, im172, im173, im174, im175, im176, im177, im178, im179, im180, im181, im182, im183, im184, im185⟩ := id hI145
        refine stX_61 (mm := y29_5.toInt) hx hb hK hP hD hS rfl (ox_9 g29_0) (ox_668 f4 f93) dX3_weighTune_71 (fun J187 H186 locs hP hD hS => ?_)
        obtain ⟨x188, ex188⟩ : ∃ y : Int32, y = y29_5 + Int32.ofInt 1 := ⟨_, rfl⟩
        have f189 : x188.toInt = y29_5.toInt + 1 := (ox_13 (qi_add ex188 rfl (by decide) (ox_11 g29_0) (ox_525 g29_1)))
        refine lv_iinc (v := x188) (lv' := [(5, .int x188), (0, .ref (r 10)), (1, .ref (r 3)), (2, .int p1), (3, .int x3), (4, .int (f_A_noteCounts (p1.toInt).toNat))]) hx hb dX3_weighTune_72 hl (k := 5) rfl ex188.symm (by decide) rfl (fun ls hl => ?_)
        refine lv_goto (tgt := 29) hx hb dX3_weighTune_75 (by decide) ?_
        exact ih29 x188 J187 H186 _ _ (ox_14 g29_0 f189) (ox_669 f4 f93 f189) hP hD hS (lv_sub hl [1, 2, 3, 4, 5, 0] rfl) (ox_528 hM29 f189)
  exact L29 (-1 * (0 : Int32).toInt + 9 + 1).toNat 0 J H8 _ _ (ox_27 zc_0) (ox_670 zc_0) hP hD hS (lv_sub hl [3, 4, 5, 2, 1, 0] rfl) (mlt (ox_671 zc_0))
set_option maxHeartbeats 4000000 in
set_option maxRecDepth 100000 in
theorem kX3_weigh (l : Launch) (dC : Nat → ClassId) (dI : Nat → Nat → Nat) (r : Nat → Nat) (ct : Nat → ClassId) (i_tapeLength i_time i_lyingCount i_rd_fault i_rd_token i_rd_kind i_sc_count i_sc_at i_A_tunes i_A_houses i_fA_length i_B_tunes i_B_houses i_fB_length i_acts_done i_acts_undone i_kn_count : Int32) (f_boxes f_boxKept f_trial f_offers f_A_noteCounts f_A_notes f_B_noteCounts f_B_notes f_now_where f_now_worn f_ahead_where f_ahead_worn f_acts_rows f_kn_tunes f_kn_noteTimes : Nat → Int32) (J : Nat → Nat → Int32) (L : Nat → Nat → Int64) (sz : Nat) (hI : (IX i_tapeLength i_time i_lyingCount i_rd_token i_sc_count i_sc_at i_A_tunes i_A_houses i_fA_length i_B_tunes i_B_houses i_fB_length i_acts_done i_acts_undone i_kn_count f_boxes f_A_noteCounts f_A_notes f_B_noteCounts f_B_notes f_now_worn f_ahead_worn f_acts_rows f_kn_tunes)) (hp0 : (1 : Int) ≤ i_A_houses.toInt) : Met l yX3_weigh (.code yX3_weigh cX3_weigh 3 none :: GW) { frames := 10, cells := 0, slots := 0, locals := 360 } (va_Pc [.ref (r 10), .ref (r 3)] (pW (dC, dI) (WX r ct i_tapeLength i_time i_lyingCount i_rd_fault i_rd_token i_rd_kind i_sc_count i_sc_at i_A_tunes i_A_houses i_fA_length i_B_tunes i_B_houses i_fB_length i_acts_done i_acts_undone i_kn_count f_boxes f_boxKept f_trial f_offers f_A_noteCounts f_A_notes f_B_noteCounts f_B_notes f_now_where f_now_worn f_ahead_where f_ahead_worn f_acts_rows f_kn_tunes f_kn_noteTimes J L) (TX ct) sz)) (va_Qv (fun _ : Unit => True) (fun (_ : Unit) (t : State) => ∃ (n_f_kn_noteTimes : Nat → Int32) (n_J : Nat → Nat → Int32), va_P (dC, dI) vwCl (WX r ct i_tapeLength i_time i_lyingCount i_rd_fault i_rd_token i_rd_kind i_sc_count i_sc_at i_A_tunes i_A_houses i_fA_length i_B_tunes i_B_houses i_fB_length i_acts_done i_acts_undone i_kn_count f_boxes f_boxKept f_trial f_offers f_A_noteCounts f_A_notes f_B_noteCounts f_B_notes f_now_where f_now_worn f_ahead_where f_ahead_worn f_acts_rows f_kn_tunes n_f_kn_noteTimes n_J L) t.heap ∧ va_D (va_A (WX r ct i_tapeLength i_time i_lyingCount i_rd_fault i_rd_token i_rd_kind i_sc_count i_sc_at i_A_tunes i_A_houses i_fA_length i_B_tunes i_B_houses i_fB_length i_acts_done i_acts_undone i_kn_count f_boxes f_boxKept f_trial f_offers f_A_noteCounts f_A_notes f_B_noteCounts f_B_notes f_now_where f_now_worn f_ahead_where f_ahead_worn f_acts_rows f_kn_tunes f_kn_noteTimes J L) sz) (WX r ct i_tapeLength i_time i_lyingCount i_rd_fault i_rd_token i_rd_kind i_sc_count i_sc_at i_A_tunes i_A_houses i_fA_length i_B_tunes i_B_houses i_fB_length i_acts_done i_acts_undone i_kn_count f_boxes f_boxKept f_trial f_offers f_A_noteCounts f_A_notes f_B_noteCounts f_B_notes f_now_where f_now_worn f_ahead_where f_ahead_worn f_acts_rows f_kn_tunes n_f_kn_noteTimes n_J L) ∧ (IX i_tapeLength i_time i_lyingCount i_rd_token i_sc_count i_sc_at i_A_tunes i_A_houses i_fA_length i_B_tunes i_B_houses i_fB_length i_acts_done i_acts_undone i_kn_count f_boxes f_A_noteCounts f_A_notes f_B_noteCounts f_B_notes f_now_worn f_ahead_worn f_acts_rows f_kn_tunes)) (va_A (WX r ct i_tapeLength i_time i_lyingCount i_rd_fault i_rd_token i_rd_kind i_sc_count i_sc_at i_A_tunes i_A_houses i_fA_length i_B_tunes i_B_houses i_fB_length i_acts_done i_acts_undone i_kn_count f_boxes f_boxKept f_trial f_offers f_A_noteCounts f_A_notes f_B_noteCounts f_B_notes f_now_where f_now_worn f_ahead_where f_ahead_worn f_acts_rows f_kn_tunes f_kn_noteTimes J L) sz)) 0 0 (va_A (WX r ct i_tapeLength i_time i_lyingCount i_rd_fault i_rd_token i_rd_kind i_sc_count i_sc_at i_A_tunes i_A_houses i_fA_length i_B_tunes i_B_houses i_fB_length i_acts_done i_acts_undone i_kn_count f_boxes f_boxKept f_trial f_offers f_A_noteCounts f_A_notes f_B_noteCounts f_B_notes f_now_where f_now_worn f_ahead_where f_ahead_worn f_acts_rows f_kn_tunes f_kn_noteTimes J L) sz) := by
  refine Met.ofW (cc := cX3_weigh) (maxL := 3) (ret := none) (by decide) rfl ?_
  intro p e s m args below meth c0 s₁ B hml hv
  obtain ⟨rfl, hsz, hP, hK, hD0⟩ := hv
  have hx := B.exec
  have hb := B.bytes
  have hr := B.returns
  have hts := atoms_spec (ws := .code yX3_weigh cX3_weigh 3 none :: GW) B.pre
  have hG : ∀ w ∈ GW, w.before _ s = true := fun w h => hts w (List.mem_cons_of_mem _ h)
  have hown : s.vm.findClass RX3 = some m.cls := findClass_of_methodNamed B.named
  subst hsz
  have hD := hD0.self (sz := s.heap.size)
  generalize hAe : va_A (WX r ct i_tapeLength i_time i_lyingCount i_rd_fault i_rd_token i_rd_kind i_sc_count i_sc_at i_A_tunes i_A_houses i_fA_length i_B_tunes i_B_houses i_fB_length i_acts_done i_acts_undone i_kn_count f_boxes f_boxKept f_trial f_offers f_A_noteCounts f_A_notes f_B_noteCounts f_B_notes f_now_where f_now_worn f_ahead_where f_ahead_worn f_acts_rows f_kn_tunes f_kn_noteTimes J L) s.heap.size = A at hD ⊢
  have hA : ∀ q : Nat, s.heap.size ≤ q → A q := fun q h => by rw [← hAe]; exact Or.inr h
  have hS : va_S A s.heap s.heap [] := va_S.rf
  have hP : va_P (dC, dI) vwCl (WX r ct i_tapeLength i_time i_lyingCount i_rd_fault i_rd_token i_rd_kind i_sc_count i_sc_at i_A_tunes i_A_houses i_fA_length i_B_tunes i_B_houses i_fB_length i_acts_done i_acts_undone i_kn_count f_boxes f_boxKept f_trial f_offers f_A_noteCounts f_A_notes f_B_noteCounts f_B_notes f_now_where f_now_worn f_ahead_where f_ahead_worn f_acts_rows f_kn_tunes f_kn_noteTimes J L) s.heap := hP
  have hl := lv_entry ([.ref (r 10), .ref (r 3)]) (n := 3) (Nat.le_of_ble_eq_true rfl)
  rw [lg_entry_eq]
  generalize (lg_sl ([.ref (r 10), .ref (r 3)]) ++ List.replicate (3 - (lg_sl ([.ref (r 10), .ref (r 3)])).length) Slot.unset).toArray = ls at hl ⊢
  have hl : lv_has ls 3 [(0, .ref (r 10)), (1, .ref (r 3))] := hl
  refine nameQ (fun Q hQ => ?_)
  obtain ⟨ie0, ie1, ie2, ie3, ie4, ie5, ie6, ie7, ie8, ie9, ie10, ie11, ie12, ie13, ie14, ie15, ie16, ie17, ie18, ie19, ie20, ie21, ie22, ie23, ie24, ie25, ie26, ie27, ie28, ie29, ie30, ie31, ie32, ie33, ie34, ie35, ie36, ie37, ie38, ie39⟩ := id hI
  refine lv_iconst (v := 0) hx hb dX3_weigh_0 (by decide) ?_
  refine lv_istore_n (lv' := [(2, .int 0), (0, .ref (r 10)), (1, .ref (r 3))]) hx hb dX3_weigh_1 rfl hl (by decide) rfl (fun ls hl => ?_)
  have L2 : ∀ (N2 : Nat) (y2_2 : Int32) (m2_f_kn_noteTimes : Nat → Int32) (m2_J : Nat → Nat → Int32) (H2 : Heap) (locs : List Loc) (ls : Array Slot) (g2_0 : (0 : Int) ≤ y2_2.toInt) (g2_1 : y2_2.toInt ≤ (5 : Int)) (hP : va_P (dC, dI) vwCl (WX r ct i_tapeLength i_time i_lyingCount i_rd_fault i_rd_token i_rd_kind i_sc_count i_sc_at i_A_tunes i_A_houses i_fA_length i_B_tunes i_B_houses i_fB_length i_acts_done i_acts_undone i_kn_count f_boxes f_boxKept f_trial f_offers f_A_noteCounts f_A_notes f_B_noteCounts f_B_notes f_now_where f_now_worn f_ahead_where f_ahead_worn f_acts_rows f_kn_tunes m2_f_kn_noteTimes m2_J L) H2) (hD : va_D A (WX r ct i_tapeLength i_time i_lyingCount i_rd_fault i_rd_token i_rd_kind i_sc_count i_sc_at i_A_tunes i_A_houses i_fA_length i_B_tunes i_B_houses i_fB_length i_acts_done i_acts_undone i_kn_count f_boxes f_boxKept f_trial f_offers f_A_noteCounts f_A_notes f_B_noteCounts f_B_notes f_now_where f_now_worn f_ahead_where f_ahead_worn f_acts_rows f_kn_tunes m2_f_kn_noteTimes m2_J L)) (hS : va_S A s.heap H2 locs) (hl : lv_has ls 3 [(0, .ref (r 10)), (1, .ref (r 3)), (2, .int y2_2)]) (hM : -1 * y2_2.toInt + 5 < (N2 : Int)), W p l e { frames := 10, cells := 0, slots := 0, locals := 360 } s m ([.ref (r 10), .ref (r 3)] : List Value).toArray below meth c0 H2 locs 0 0 Q (F0 m 2 ls []) := by
    intro N2
    induction N2 with
    | zero =>
      intro y2_2 m2_f_kn_noteTimes m2_J H2 locs ls g2_0 g2_1 hP hD hS hl hM
      exact ((ox_82 hM g2_0 g2_1)).elim
    | succ N2 ih2 =>
      intro y2_2 m2_f_kn_noteTimes m2_J H2 locs ls g2_0 g2_1 hP hD hS hl hM
      have hM2 := msucc hM
      refine lv_iload_n hx hb dX3_weigh_2 rfl (lv_at hl 2 rfl) ?_
      refine lv_aload_n hx hb dX3_weigh_3 rfl (lv_at hl 1 rfl) ?_
      refine gX_X3_74_3 hx hb hG hown hK hP dX3_weigh_4 ?_
      refine lv_icmp_ge (tgt := 22) hx hb dX3_weigh_7 (by decide) (fun c_1 => ?_) (fun c_1 => ?_)
      · skip
        have f2 : i_A_tunes.toInt ≤ y2_2.toInt := qi_le c_1 rfl rfl
        rw [hQ]
        exact W.vret hx hb hr (fun t ht hW => ⟨⟨(), rfl, trivial, ⟨m2_f_kn_noteTimes, m2_J, by rw [ht]; exact hP, hD, hI⟩⟩, hS.F ht⟩) hS.2.2 dX3_weigh_22
      · skip
        have f3 : y2_2.toInt < i_A_tunes.toInt := qi_nle c_1 rfl rfl
        refine lv_aload_n hx hb dX3_weigh_10 rfl (lv_at hl 0 rfl) ?_
        refine lv_aload_n hx hb dX3_weigh_11 rfl (lv_at hl 1 rfl) ?_
        refine lv_iload_n hx hb dX3_weigh_12 rfl (lv_at hl 2 rfl) ?_
        have hFc := frA hD hS hA
        refine va_callv (va_runV (As := [.ref (r 3), .int y2_2]) (rest := []) ⟨hx, hb, hml, hown, hG⟩ (kX3_weighTune l dC dI r ct i_tapeLength i_time i_lyingCount i_rd_fault i_rd_token i_rd_kind i_sc_count i_sc_at i_A_tunes i_A_houses i_fA_length i_B_tunes i_B_houses i_fB_length i_acts_done i_acts_undone i_kn_count f_boxes f_boxKept f_trial f_offers f_A_noteCounts f_A_notes f_B_noteCounts f_B_notes f_now_where f_now_worn f_ahead_where f_ahead_worn f_acts_rows f_kn_tunes m2_f_kn_noteTimes m2_J L y2_2 H2.size hI (ox_6 g2_0) (ox_223 f3) (ox_672 ie14 ie15 hp0)) (cwV 2 hG (goodV gw1086 gw1088 gw49 gw136 gw1089) rfl rfl rfl hd_X3_weighTune ⟨(Nat.le_of_ble_eq_true rfl), (Nat.le_of_ble_eq_true rfl)⟩) ⟨fbW, va_recv hK hP (ci := 2) (q0 := 10) rfl rfl, pW_in hP hK hD⟩ rfl rfl hl.1 rfl (lv_room (Nat.le_of_ble_eq_true rfl)) dX3_weigh_13 ⟨(Nat.le_of_ble_eq_true rfl), (Nat.le_of_ble_eq_true rfl)⟩) hS (fun q _ h => hFc q h) hFc (fun _ t_ H4 locs ht hvm hw hB hz1 hk1 hS => ?_)
        obtain ⟨z6, J7, hP1, hD1, hI8⟩ := hB
        rw [ht] at hP1
        have hP := hP1
        have hD := dW hFc hD1
        obtain ⟨im9, im10, im11, im12, im13, im14, im15, im16, im17, im18, im19, im20, im21, im22, im23, im24, im25, im26, im27, im28, im29, im30, im31, im32, im33, im34, im35, im36, im37, im38, im39, im40, im41, im42, im43, im44, im45, im46, im47, im48⟩ := id hI8
        obtain ⟨x49, ex49⟩ : ∃ y : Int32, y = y2_2 + Int32.ofInt 1 := ⟨_, rfl⟩
        have f50 : x49.toInt = y2_2.toInt + 1 := (ox_13 (qi_add ex49 rfl (by decide) (ox_11 g2_0) (ox_87 g2_1)))
        refine lv_iinc (v := x49) (lv' := [(2, .int x49), (0, .ref (r 10)), (1, .ref (r 3))]) hx hb dX3_weigh_16 hl (k := 2) rfl ex49.symm (by decide) rfl (fun ls hl => ?_)
        refine lv_goto (tgt := 2) hx hb dX3_weigh_19 (by decide) ?_
        exact ih2 x49 z6 J7 H4 _ _ (ox_14 g2_0 f50) (ox_98 ie13 f3 f50) hP hD hS (lv_sub hl [1, 2, 0] rfl) (ox_89 hM2 f50)
  exact L2 (-1 * (0 : Int32).toInt + 5 + 1).toNat 0 f_kn_noteTimes J s.heap _ _ (ox_27 zc_0) (ox_95 zc_0) hP hD hS (lv_sub hl [1, 2, 0] rfl) (mlt (ox_96 zc_0))
set_option maxHeartbeats 4000000 in
set_option maxRecDepth 100000 in
theorem kX3_sift (l : Launch) (dC : Nat → ClassId) (dI : Nat → Nat → Nat) (r : Nat → Nat) (ct : Nat → ClassId) (i_tapeLength i_time i_lyingCount i_rd_fault i_rd_token i_rd_kind i_sc_count i_sc_at i_A_tunes i_A_houses i_fA_length i_B_tunes i_B_houses i_fB_length i_acts_done i_acts_undone i_kn_count : Int32) (f_boxes f_boxKept f_trial f_offers f_A_noteCounts f_A_notes f_B_noteCounts f_B_notes f_now_where f_now_worn f_ahead_where f_ahead_worn f_acts_rows f_kn_tunes f_kn_noteTimes : Nat → Int32) (J : Nat → Nat → Int32) (L : Nat → Nat → Int64) (p1 : Int32) (sz : Nat) (hI : (IX i_tapeLength i_time i_lyingCount i_rd_token i_sc_count i_sc_at i_A_tunes i_A_houses i_fA_length i_B_tunes i_B_houses i_fB_length i_acts_done i_acts_undone i_kn_count f_boxes f_A_noteCounts f_A_notes f_B_noteCounts f_B_notes f_now_worn f_ahead_worn f_acts_rows f_kn_tunes)) : Met l yX3_sift (.code yX3_sift cX3_sift 5 (some .int) :: GW) { frames := 12, cells := 0, slots := 0, locals := 422 } (va_Pc [.ref (r 10), .ref (r 3), .int p1] (pW (dC, dI) (WX r ct i_tapeLength i_time i_lyingCount i_rd_fault i_rd_token i_rd_kind i_sc_count i_sc_at i_A_tunes i_A_houses i_fA_length i_B_tunes i_B_houses i_fB_length i_acts_done i_acts_undone i_kn_count f_boxes f_boxKept f_trial f_offers f_A_noteCounts f_A_notes f_B_noteCounts f_B_notes f_now_where f_now_worn f_ahead_where f_ahead_worn f_acts_rows f_kn_tunes f_kn_noteTimes J L) (TX ct) sz)) (va_Qi (fun (r0 : Int32) (u : Int32) => r0 = u) (fun (u : Int32) (t : State) => ∃ (n_f_kn_noteTimes : Nat → Int32) (n_J : Nat → Nat → Int32), va_P (dC, dI) vwCl (WX r ct i_tapeLength i_time i_lyingCount i_rd_fault i_rd_token i_rd_kind i_sc_count i_sc_at i_A_tunes i_A_houses i_fA_length i_B_tunes i_B_houses i_fB_length i_acts_done i_acts_undone i_kn_count f_boxes f_boxKept f_trial f_offers f_A_noteCounts f_A_notes f_B_noteCounts f_B_notes f_now_where f_now_worn f_ahead_where f_ahead_worn f_acts_rows f_kn_tunes n_f_kn_noteTimes n_J L) t.heap ∧ va_D (va_A (WX r ct i_tapeLength i_time i_lyingCount i_rd_fault i_rd_token i_rd_kind i_sc_count i_sc_at i_A_tunes i_A_houses i_fA_length i_B_tunes i_B_houses i_fB_length i_acts_done i_acts_undone i_kn_count f_boxes f_boxKept f_trial f_offers f_A_noteCounts f_A_notes f_B_noteCounts f_B_notes f_now_where f_now_worn f_ahead_where f_ahead_worn f_acts_rows f_kn_tunes f_kn_noteTimes J L) sz) (WX r ct i_tapeLength i_time i_lyingCount i_rd_fault i_rd_token i_rd_kind i_sc_count i_sc_at i_A_tunes i_A_houses i_fA_length i_B_tunes i_B_houses i_fB_length i_acts_done i_acts_undone i_kn_count f_boxes f_boxKept f_trial f_offers f_A_noteCounts f_A_notes f_B_noteCounts f_B_notes f_now_where f_now_worn f_ahead_where f_ahead_worn f_acts_rows f_kn_tunes n_f_kn_noteTimes n_J L) ∧ (IX i_tapeLength i_time i_lyingCount i_rd_token i_sc_count i_sc_at i_A_tunes i_A_houses i_fA_length i_B_tunes i_B_houses i_fB_length i_acts_done i_acts_undone i_kn_count f_boxes f_A_noteCounts f_A_notes f_B_noteCounts f_B_notes f_now_worn f_ahead_worn f_acts_rows f_kn_tunes) ∧ (((i_A_houses.toInt ≠ (0 : Int)) ∧ ((1 : Int) ≤ i_A_houses.toInt)) ∨ ((i_A_houses.toInt = (0 : Int)) ∧ (u.toInt = (0 : Int))))) (va_A (WX r ct i_tapeLength i_time i_lyingCount i_rd_fault i_rd_token i_rd_kind i_sc_count i_sc_at i_A_tunes i_A_houses i_fA_length i_B_tunes i_B_houses i_fB_length i_acts_done i_acts_undone i_kn_count f_boxes f_boxKept f_trial f_offers f_A_noteCounts f_A_notes f_B_noteCounts f_B_notes f_now_where f_now_worn f_ahead_where f_ahead_worn f_acts_rows f_kn_tunes f_kn_noteTimes J L) sz)) 0 0 (va_A (WX r ct i_tapeLength i_time i_lyingCount i_rd_fault i_rd_token i_rd_kind i_sc_count i_sc_at i_A_tunes i_A_houses i_fA_length i_B_tunes i_B_houses i_fB_length i_acts_done i_acts_undone i_kn_count f_boxes f_boxKept f_trial f_offers f_A_noteCounts f_A_notes f_B_noteCounts f_B_notes f_now_where f_now_worn f_ahead_where f_ahead_worn f_acts_rows f_kn_tunes f_kn_noteTimes J L) sz) := by
  refine Met.ofW (cc := cX3_sift) (maxL := 5) (ret := (some .int)) (by decide) rfl ?_
  intro p e s m args below meth c0 s₁ B hml hv
  obtain ⟨rfl, hsz, hP, hK, hD0⟩ := hv
  have hx := B.exec
  have hb := B.bytes
  have hr := B.returns
  have hts := atoms_spec (ws := .code yX3_sift cX3_sift 5 (some .int) :: GW) B.pre
  have hG : ∀ w ∈ GW, w.before _ s = true := fun w h => hts w (List.mem_cons_of_mem _ h)
  have hown : s.vm.findClass RX3 = some m.cls := findClass_of_methodNamed B.named
  subst hsz
  have hD := hD0.self (sz := s.heap.size)
  generalize hAe : va_A (WX r ct i_tapeLength i_time i_lyingCount i_rd_fault i_rd_token i_rd_kind i_sc_count i_sc_at i_A_tunes i_A_houses i_fA_length i_B_tunes i_B_houses i_fB_length i_acts_done i_acts_undone i_kn_count f_boxes f_boxKept f_trial f_offers f_A_noteCounts f_A_notes f_B_noteCounts f_B_notes f_now_where f_now_worn f_ahead_where f_ahead_worn f_acts_rows f_kn_tunes f_kn_noteTimes J L) s.heap.size = A at hD ⊢
  have hA : ∀ q : Nat, s.heap.size ≤ q → A q := fun q h => by rw [← hAe]; exact Or.inr h
  have hS : va_S A s.heap s.heap [] := va_S.rf
  have hP : va_P (dC, dI) vwCl (WX r ct i_tapeLength i_time i_lyingCount i_rd_fault i_rd_token i_rd_kind i_sc_count i_sc_at i_A_tunes i_A_houses i_fA_length i_B_tunes i_B_houses i_fB_length i_acts_done i_acts_undone i_kn_count f_boxes f_boxKept f_trial f_offers f_A_noteCounts f_A_notes f_B_noteCounts f_B_notes f_now_where f_now_worn f_ahead_where f_ahead_worn f_acts_rows f_kn_tunes f_kn_noteTimes J L) s.heap := hP
  have hl := lv_entry ([.ref (r 10), .ref (r 3), .int p1]) (n := 5) (Nat.le_of_ble_eq_true rfl)
  rw [lg_entry_eq]
  generalize (lg_sl ([.ref (r 10), .ref (r 3), .int p1]) ++ List.replicate (5 - (lg_sl ([.ref (r 10), .ref (r 3), .int p1])).length) Slot.unset).toArray = ls at hl ⊢
  have hl : lv_has ls 5 [(0, .ref (r 10)), (1, .ref (r 3)), (2, .int p1)] := hl
  refine nameQ (fun Q hQ => ?_)
  obtain ⟨ie0, ie1, ie2, ie3, ie4, ie5, ie6, ie7, ie8, ie9, ie10, ie11, ie12, ie13, ie14, ie15, ie16, ie17, ie18, ie19, ie20, ie21, ie22, ie23, ie24, ie25, ie26, ie27, ie28, ie29, ie30, ie31, ie32, ie33, ie34, ie35, ie36, ie37, ie38, ie39⟩ := id hI
  refine lv_aload_n hx hb dX3_sift_0 rfl (lv_at hl 1 rfl) ?_
  refine gX_X3_57_3 hx hb hG hown hK hP dX3_sift_1 ?_
  refine lv_if_ne (tgt := 9) hx hb dX3_sift_4 (by decide) (fun c_1 => ?_) (fun c_1 => ?_)
  · skip
    have f2 : i_A_houses.toInt ≠ 0 := qi_ne c_1 rfl zc_0
    have f3 : (1 : Int) ≤ i_A_houses.toInt := (ox_474 ie14 ie15 f2)
    refine lv_aload_n hx hb dX3_sift_9 rfl (lv_at hl 0 rfl) ?_
    refine gX_X3_53_10 hx hb hG hown hK hP dX3_sift_10 (fun x4 => ?_)
    refine lv_if_ne (tgt := 26) hx hb dX3_sift_13 (by decide) (fun c_5 => ?_) (fun c_5 => ?_)
    · skip
      have f6 : x4.toInt ≠ 0 := qi_ne c_5 rfl zc_0
      refine lv_iconst (v := 0) hx hb dX3_sift_26 (by decide) ?_
      refine lv_istore_n (lv' := [(3, .int 0), (0, .ref (r 10)), (1, .ref (r 3)), (2, .int p1)]) hx hb dX3_sift_27 rfl hl (by decide) rfl (fun ls hl => ?_)
      have L28 : ∀ (N28 : Nat) (y28_3 : Int32) (m28_J : Nat → Nat → Int32) (H28 : Heap) (locs : List Loc) (ls : Array Slot) (g28_0 : (0 : Int) ≤ y28_3.toInt) (g28_1 : y28_3.toInt ≤ (343 : Int)) (hP : va_P (dC, dI) vwCl (WX r ct i_tapeLength i_time i_lyingCount i_rd_fault i_rd_token i_rd_kind i_sc_count i_sc_at i_A_tunes i_A_houses i_fA_length i_B_tunes i_B_houses i_fB_length i_acts_done i_acts_undone i_kn_count f_boxes f_boxKept f_trial f_offers f_A_noteCounts f_A_notes f_B_noteCounts f_B_notes f_now_where f_now_worn f_ahead_where f_ahead_worn f_acts_rows f_kn_tunes f_kn_noteTimes m28_J L) H28) (hD : va_D A (WX r ct i_tapeLength i_time i_lyingCount i_rd_fault i_rd_token i_rd_kind i_sc_count i_sc_at i_A_tunes i_A_houses i_fA_length i_B_tunes i_B_houses i_fB_length i_acts_done i_acts_undone i_kn_count f_boxes f_boxKept f_trial f_offers f_A_noteCounts f_A_notes f_B_noteCounts f_B_notes f_now_where f_now_worn f_ahead_where f_ahead_worn f_acts_rows f_kn_tunes f_kn_noteTimes m28_J L)) (hS : va_S A s.heap H28 locs) (hl : lv_has ls 5 [(0, .ref (r 10)), (1, .ref (r 3)), (2, .int p1), (3, .int y28_3)]) (hM : -1 * y28_3.toInt + 343 < (N28 : Int)), W p l e { frames := 12, cells := 0, slots := 0, locals := 422 } s m ([.ref (r 10), .ref (r 3), .int p1] : List Value).toArray below meth c0 H28 locs 0 0 Q (F0 m 28 ls []) := by
        intro N28
        induction N28 with
        | zero =>
          intro y28_3 m28_J H28 locs ls g28_0 g28_1 hP hD hS hl hM
          exact ((ox_569 hM g28_0 g28_1)).elim
        | succ N28 ih28 =>
          intro y28_3 m28_J H28 locs ls g28_0 g28_1 hP hD hS hl hM
          have hM28 := msucc hM
          refine lv_iload_n hx hb dX3_sift_28 rfl (lv_at hl 3 rfl) ?_
          refine lv_sipush (v := 343) hx hb dX3_sift_29 (by decide) ?_
          refine lv_icmp_ge (tgt := 48) hx hb dX3_sift_32 (by decide) (fun c_7 => ?_) (fun c_7 => ?_)
          · skip
            have f8 : 343 ≤ y28_3.toInt := qi_le c_7 zc_343 rfl
            refine lv_iconst (v := 0) hx hb dX3_sift_48 (by decide) ?_
            refine lv_istore_n (lv' := [(3, .int 0), (0, .ref (r 10)), (1, .ref (r 3)), (2, .int p1)]) hx hb dX3_sift_49 rfl hl (by decide) rfl (fun ls hl => ?_)
            have L50 : ∀ (N50 : Nat) (y50_3 : Int32) (m50_J : Nat → Nat → Int32) (H50 : Heap) (locs : List Loc) (ls : Array Slot) (g50_0 : (0 : Int) ≤ y50_3.toInt) (g50_1 : y50_3.toInt ≤ (30 : Int)) (hP : va_P (dC, dI) vwCl (WX r ct i_tapeLength i_time i_lyingCount i_rd_fault i_rd_token i_rd_kind i_sc_count i_sc_at i_A_tunes i_A_houses i_fA_length i_B_tunes i_B_houses i_fB_length i_acts_done i_acts_undone i_kn_count f_boxes f_boxKept f_trial f_offers f_A_noteCounts f_A_notes f_B_noteCounts f_B_notes f_now_where f_now_worn f_ahead_where f_ahead_worn f_acts_rows f_kn_tunes f_kn_noteTimes m50_J L) H50) (hD : va_D A (WX r ct i_tapeLength i_time i_lyingCount i_rd_fault i_rd_token i_rd_kind i_sc_count i_sc_at i_A_tunes i_A_houses i_fA_length i_B_tunes i_B_houses i_fB_length i_acts_done i_acts_undone i_kn_count f_boxes f_boxKept f_trial f_offers f_A_noteCounts f_A_notes f_B_noteCounts f_B_notes f_now_where f_now_worn f_ahead_where f_ahead_worn f_acts_rows f_kn_tunes f_kn_noteTimes m50_J L)) (hS : va_S A s.heap H50 locs) (hl : lv_has ls 5 [(0, .ref (r 10)), (1, .ref (r 3)), (2, .int p1), (3, .int y50_3)]) (hM : -1 * y50_3.toInt + 30 < (N50 : Int)), W p l e { frames := 12, cells := 0, slots := 0, locals := 422 } s m ([.ref (r 10), .ref (r 3), .int p1] : List Value).toArray below meth c0 H50 locs 0 0 Q (F0 m 50 ls []) := by
              intro N50
              induction N50 with
              | zero =>
                intro y50_3 m50_J H50 locs ls g50_0 g50_1 hP hD hS hl hM
                exact ((ox_673 hM g50_0 g50_1)).elim
              | succ N50 ih50 =>
                intro y50_3 m50_J H50 locs ls g50_0 g50_1 hP hD hS hl hM
                have hM50 := msucc hM
                refine lv_iload_n hx hb dX3_sift_50 rfl (lv_at hl 3 rfl) ?_
                refine lv_aload_n hx hb dX3_sift_51 rfl (lv_at hl 0 rfl) ?_
                refine gX_X3_49_10 hx hb hG hown hK hP dX3_sift_52 ?_
                refine lv_icmp_ge (tgt := 78) hx hb dX3_sift_55 (by decide) (fun c_9 => ?_) (fun c_9 => ?_)
                · skip
                  have f10 : i_kn_count.toInt ≤ y50_3.toInt := qi_le c_9 rfl rfl
                  refine lv_iconst (v := 0) hx hb dX3_sift_78 (by decide) ?_
                  refine lv_istore_n (lv' := [(3, .int 0), (0, .ref (r 10)), (1, .ref (r 3)), (2, .int p1)]) hx hb dX3_sift_79 rfl hl (by decide) rfl (fun ls hl => ?_)
                  refine lv_iconst (v := 0) hx hb dX3_sift_80 (by decide) ?_
                  refine lv_istore (lv' := [(4, .int 0), (3, .int 0), (0, .ref (r 10)), (1, .ref (r 3)), (2, .int p1)]) hx hb dX3_sift_81 hl (by decide) rfl (fun ls hl => ?_)
                  have L83 : ∀ (N83 : Nat) (y83_3 y83_4 : Int32) (H83 : Heap) (locs : List Loc) (ls : Array Slot) (g83_0 : (0 : Int) ≤ y83_4.toInt) (g83_1 : y83_4.toInt ≤ (343 : Int)) (hP : va_P (dC, dI) vwCl (WX r ct i_tapeLength i_time i_lyingCount i_rd_fault i_rd_token i_rd_kind i_sc_count i_sc_at i_A_tunes i_A_houses i_fA_length i_B_tunes i_B_houses i_fB_length i_acts_done i_acts_undone i_kn_count f_boxes f_boxKept f_trial f_offers f_A_noteCounts f_A_notes f_B_noteCounts f_B_notes f_now_where f_now_worn f_ahead_where f_ahead_worn f_acts_rows f_kn_tunes f_kn_noteTimes m50_J L) H83) (hD : va_D A (WX r ct i_tapeLength i_time i_lyingCount i_rd_fault i_rd_token i_rd_kind i_sc_count i_sc_at i_A_tunes i_A_houses i_fA_length i_B_tunes i_B_houses i_fB_length i_acts_done i_acts_undone i_kn_count f_boxes f_boxKept f_trial f_offers f_A_noteCounts f_A_notes f_B_noteCounts f_B_notes f_now_where f_now_worn f_ahead_where f_ahead_worn f_acts_rows f_kn_tunes f_kn_noteTimes m50_J L)) (hS : va_S A s.heap H83 locs) (hl : lv_has ls 5 [(0, .ref (r 10)), (1, .ref (r 3)), (2, .int p1), (3, .int y83_3), (4, .int y83_4)]) (hM : -1 * y83_4.toInt + 343 < (N83 : Int)), W p l e { frames := 12, cells := 0, slots := 0, locals := 422 } s m ([.ref (r 10), .ref (r 3), .int p1] : List Value).toArray below meth c0 H83 locs 0 0 Q (F0 m 83 ls []) := by
                    intro N83
                    induction N83 with
                    | zero =>
                      intro y83_3 y83_4 H83 locs ls g83_0 g83_1 hP hD hS hl hM
                      exact ((ox_569 hM g83_0 g83_1)).elim
                    | succ N83 ih83 =>
                      intro y83_3 y83_4 H83 locs ls g83_0 g83_1 hP hD hS hl hM
                      have hM83 := msucc hM
                      refine lv_iload hx hb dX3_sift_83 (lv_at hl 4 rfl) ?_
                      refine lv_sipush (v := 343) hx hb dX3_sift_85 (by decide) ?_
                      refine lv_icmp_ge (tgt := 110) hx hb dX3_sift_88 (by decide) (fun c_11 => ?_) (fun c_11 => ?_)
                      · skip
                        have f12 : 343 ≤ y83_4.toInt := qi_le c_11 zc_343 rfl
                        refine lv_iload_n hx hb dX3_sift_110 rfl (lv_at hl 3 rfl) ?_
                        rw [hQ]
                        exact W.iret (v := y83_3) hx hb hr (fun t ht hW => ⟨⟨y83_3, y83_3, rfl, rfl, ⟨f_kn_noteTimes, m50_J, by rw [ht]; exact hP, hD, hI, (ox_674 ie14 ie15 f3)⟩⟩, hS.F ht⟩) hS.2.2 dX3_sift_111
                      · skip
                        have f13 : y83_4.toInt < 343 := qi_nle c_11 zc_343 rfl
                        refine lv_aload_n hx hb dX3_sift_91 rfl (lv_at hl 0 rfl) ?_
                        refine gX_X3_31_10 hx hb hG hown hK hP dX3_sift_92 ?_
                        refine lv_iload hx hb dX3_sift_95 (lv_at hl 4 rfl) ?_
                        refine ldX_58 (mm := y83_4.toInt) hx hb hK hP rfl (ox_9 g83_0) (ox_578 f13) dX3_sift_97 (fun x14 => ?_)
                        refine lv_if_eq (tgt := 104) hx hb dX3_sift_98 (by decide) (fun c_15 => ?_) (fun c_15 => ?_)
                        · skip
                          have f16 : x14.toInt = 0 := qi_eq c_15 rfl zc_0
                          obtain ⟨x17, ex17⟩ : ∃ y : Int32, y = y83_4 + Int32.ofInt 1 := ⟨_, rfl⟩
                          have f18 : x17.toInt = y83_4.toInt + 1 := (ox_13 (qi_add ex17 rfl (by decide) (ox_11 g83_0) (ox_575 g83_1)))
                          refine lv_iinc (v := x17) (lv' := [(4, .int x17), (0, .ref (r 10)), (1, .ref (r 3)), (2, .int p1), (3, .int y83_3)]) hx hb dX3_sift_104 hl (k := 4) rfl ex17.symm (by decide) rfl (fun ls hl => ?_)
                          refine lv_goto (tgt := 83) hx hb dX3_sift_107 (by decide) ?_
                          exact ih83 y83_3 x17 H83 _ _ (ox_14 g83_0 f18) (ox_576 f13 f18) hP hD hS (lv_sub hl [1, 2, 3, 4, 0] rfl) (ox_577 hM83 f18)
                        · skip
                          have f19 : x14.toInt ≠ 0 := qi_ne c_15 rfl zc_0
                          obtain ⟨x20, ex20⟩ : ∃ y : Int32, y = y83_3 + Int32.ofInt 1 := ⟨_, rfl⟩
                          have f21 : (-2147483648) ≤ y83_3.toInt ∧ y83_3.toInt ≤ 2147483647 := i32_rg _
                          refine lv_iinc (v := x20) (lv' := [(3, .int x20), (0, .ref (r 10)), (1, .ref (r 3)), (2, .int p1), (4, .int y83_4)]) hx hb dX3_sift_101 hl (k := 3) rfl ex20.symm (by decide) rfl (fun ls hl => ?_)
                          obtain ⟨x22, ex22⟩ : ∃ y : Int32, y = y83_4 + Int32.ofInt 1 := ⟨_, rfl⟩
                          have f23 : x22.toInt = y83_4.toInt + 1 := (ox_13 (qi_add ex22 rfl (by decide) (ox_11 g83_0) (ox_575 g83_1)))
                          refine lv_iinc (v := x22) (lv' := [(4, .int x22), (3, .int x20), (0, .ref (r 10)), (1, .ref (r 3)), (2, .int p1)]) hx hb dX3_sift_104 hl (k := 4) rfl ex22.symm (by decide) rfl (fun ls hl => ?_)
                          refine lv_goto (tgt := 83) hx hb dX3_sift_107 (by decide) ?_
                          exact ih83 x20 x22 H83 _ _ (ox_14 g83_0 f23) (ox_576 f13 f23) hP hD hS (lv_sub hl [2, 3, 4, 1, 0] rfl) (ox_577 hM83 f23)
                  exact L83 (-1 * (0 : Int32).toInt + 343 + 1).toNat 0 0 H50 _ _ (ox_27 zc_0) (ox_579 zc_0) hP hD hS (lv_sub hl [2, 3, 4, 1, 0] rfl) (mlt (ox_580 zc_0))
                · skip
                  have f24 : y50_3.toInt < i_kn_count.toInt := qi_nle c_9 rfl rfl
                  refine lv_aload_n hx hb dX3_sift_58 rfl (lv_at hl 0 rfl) ?_
                  refine lv_iload_n hx hb dX3_sift_59 rfl (lv_at hl 3 rfl) ?_
                  refine lv_iload_n hx hb dX3_sift_60 rfl (lv_at hl 2 rfl) ?_
                  refine va_calli (va_runV (As := [.int y50_3, .int p1]) (rest := []) ⟨hx, hb, hml, hown, hG⟩ (kX3_countsAt l dC dI r ct i_tapeLength i_time i_lyingCount i_rd_fault i_rd_token i_rd_kind i_sc_count i_sc_at i_A_tunes i_A_houses i_fA_length i_B_tunes i_B_houses i_fB_length i_acts_done i_acts_undone i_kn_count f_boxes f_boxKept f_trial f_offers f_A_noteCounts f_A_notes f_B_noteCounts f_B_notes f_now_where f_now_worn f_ahead_where f_ahead_worn f_acts_rows f_kn_tunes f_kn_noteTimes m50_J L y50_3 p1 H50.size hI (ox_6 g50_0) (ox_675 ie25 f24)) (cwV 2 hG (goodV gw1106 gw1108 gw52 gw136 gw1109) rfl rfl rfl hd_X3_countsAt ⟨(Nat.le_of_ble_eq_true rfl), (Nat.le_of_ble_eq_true rfl)⟩) ⟨fbR, va_recv hK hP (ci := 2) (q0 := 10) rfl rfl, pR_in hP hK⟩ rfl rfl hl.1 rfl (lv_room (Nat.le_of_ble_eq_true rfl)) dX3_sift_61 ⟨(Nat.le_of_ble_eq_true rfl), (Nat.le_of_ble_eq_true rfl)⟩) hS (fun q hq h => absurd hq (Nat.not_lt.mpr h)) (fun q h => hA q (Nat.le_trans hS.1 h)) (fun r_26 u_ t_ H25 locs ht hvm hw hB hz1 hk1 hS => ?_)
                  subst hw
                  have hP := wk hP hk1
                  obtain ⟨f27, f28, f29⟩ := hB
                  refine lv_if_eq (tgt := 72) hx hb dX3_sift_64 (by decide) (fun c_30 => ?_) (fun c_30 => ?_)
                  · skip
                    have f31 : r_26.toInt = 0 := qi_eq c_30 rfl zc_0
                    have f32 : r_26.toInt = (0 : Int) := (ox_92 f28 f29 f31)
                    obtain ⟨x33, ex33⟩ : ∃ y : Int32, y = y50_3 + Int32.ofInt 1 := ⟨_, rfl⟩
                    have f34 : x33.toInt = y50_3.toInt + 1 := (ox_13 (qi_add ex33 rfl (by decide) (ox_11 g50_0) (ox_170 g50_1)))
                    refine lv_iinc (v := x33) (lv' := [(3, .int x33), (0, .ref (r 10)), (1, .ref (r 3)), (2, .int p1)]) hx hb dX3_sift_72 hl (k := 3) rfl ex33.symm (by decide) rfl (fun ls hl => ?_)
                    refine lv_goto (tgt := 50) hx hb dX3_sift_75 (by decide) ?_
                    exact ih50 x33 m50_J H25 _ _ (ox_14 g50_0 f34) (ox_676 ie25 f24 f34) hP hD hS (lv_sub hl [1, 2, 3, 0] rfl) (ox_677 hM50 f34)
                  · skip
                    have f35 : r_26.toInt ≠ 0 := qi_ne c_30 rfl zc_0
                    have f36 : r_26.toInt = (1 : Int) := (ox_91 f27 f35)
                    have f37 : (1 : Int) ≤ r_26.toInt := (ox_53 f28 f29 f36)
                    refine lv_aload_n hx hb dX3_sift_67 rfl (lv_at hl 0 rfl) ?_
                    refine lv_iload_n hx hb dX3_sift_68 rfl (lv_at hl 3 rfl) ?_
                    have hFc := frA hD hS hA
                    refine va_callv (va_runV (As := [.int y50_3]) (rest := []) ⟨hx, hb, hml, hown, hG⟩ (kX3_strike l dC dI r ct i_tapeLength i_time i_lyingCount i_rd_fault i_rd_token i_rd_kind i_sc_count i_sc_at i_A_tunes i_A_houses i_fA_length i_B_tunes i_B_houses i_fB_length i_acts_done i_acts_undone i_kn_count f_boxes f_boxKept f_trial f_offers f_A_noteCounts f_A_notes f_B_noteCounts f_B_notes f_now_where f_now_worn f_ahead_where f_ahead_worn f_acts_rows f_kn_tunes f_kn_noteTimes m50_J L y50_3 H25.size hI (ox_6 g50_0) (ox_675 ie25 f24)) (cwV 1 hG (goodV gw1110 gw1112 gw53 gw136 gw1113) rfl rfl rfl hd_X3_strike ⟨(Nat.le_of_ble_eq_true rfl), (Nat.le_of_ble_eq_true rfl)⟩) ⟨fbW, va_recv hK hP (ci := 2) (q0 := 10) rfl rfl, pW_in hP hK hD⟩ rfl rfl hl.1 rfl (lv_room (Nat.le_of_ble_eq_true rfl)) dX3_sift_69 ⟨(Nat.le_of_ble_eq_true rfl), (Nat.le_of_ble_eq_true rfl)⟩) hS (fun q _ h => hFc q h) hFc (fun _ t_ H38 locs ht hvm hw hB hz1 hk1 hS => ?_)
                    obtain ⟨J40, hP1, hD1, hI41⟩ := hB
                    rw [ht] at hP1
                    have hP := hP1
                    have hD := dW hFc hD1
                    obtain ⟨im42, im43, im44, im45, im46, im47, im48, im49, im50, im51, im52, im53, im54, im55, im56, im57, im58, im59, im60, im61, im62, im63, im64, im65, im66, im67, im68, im69, im70, im71, im72, im73, im74, im75, im76, im77, im78, im79, im80, im81⟩ := id hI41
                    obtain ⟨x82, ex82⟩ : ∃ y : Int32, y = y50_3 + Int32.ofInt 1 := ⟨_, rfl⟩
                    have f83 : x82.toInt = y50_3.toInt + 1 := (ox_13 (qi_add ex82 rfl (by decide) (ox_11 g50_0) (ox_170 g50_1)))
                    refine lv_iinc (v := x82) (lv' := [(3, .int x82), (0, .ref (r 10)), (1, .ref (r 3)), (2, .int p1)]) hx hb dX3_sift_72 hl (k := 3) rfl ex82.symm (by decide) rfl (fun ls hl => ?_)
                    refine lv_goto (tgt := 50) hx hb dX3_sift_75 (by decide) ?_
                    exact ih50 x82 J40 H38 _ _ (ox_14 g50_0 f83) (ox_676 ie25 f24 f83) hP hD hS (lv_sub hl [1, 2, 3, 0] rfl) (ox_677 hM50 f83)
            exact L50 (-1 * (0 : Int32).toInt + 30 + 1).toNat 0 m28_J H28 _ _ (ox_27 zc_0) (ox_174 zc_0) hP hD hS (lv_sub hl [1, 2, 3, 0] rfl) (mlt (ox_678 zc_0))
          · skip
            have f84 : y28_3.toInt < 343 := qi_nle c_7 zc_343 rfl
            refine lv_aload_n hx hb dX3_sift_35 rfl (lv_at hl 0 rfl) ?_
            refine gX_X3_31_10 hx hb hG hown hK hP dX3_sift_36 ?_
            refine lv_iload_n hx hb dX3_sift_39 rfl (lv_at hl 3 rfl) ?_
            refine lv_iconst (v := 1) hx hb dX3_sift_40 (by decide) ?_
            refine stX_58 (mm := y28_3.toInt) hx hb hK hP hD hS rfl (ox_9 g28_0) (ox_578 f84) dX3_sift_41 (fun J86 H85 locs hP hD hS => ?_)
            obtain ⟨x87, ex87⟩ : ∃ y : Int32, y = y28_3 + Int32.ofInt 1 := ⟨_, rfl⟩
            have f88 : x87.toInt = y28_3.toInt + 1 := (ox_13 (qi_add ex87 rfl (by decide) (ox_11 g28_0) (ox_575 g28_1)))
            refine lv_iinc (v := x87) (lv' := [(3, .int x87), (0, .ref (r 10)), (1, .ref (r 3)), (2, .int p1)]) hx hb dX3_sift_42 hl (k := 3) rfl ex87.symm (by decide) rfl (fun ls hl => ?_)
            refine lv_goto (tgt := 28) hx hb dX3_sift_45 (by decide) ?_
            exact ih28 x87 J86 H85 _ _ (ox_14 g28_0 f88) (ox_576 f84 f88) hP hD hS (lv_sub hl [1, 2, 3, 0] rfl) (ox_577 hM28 f88)
      exact L28 (-1 * (0 : Int32).toInt + 343 + 1).toNat 0 J s.heap _ _ (ox_27 zc_0) (ox_579 zc_0) hP hD hS (lv_sub hl [1, 2, 3, 0] rfl) (mlt (ox_580 zc_0))
    · skip
      have f89 : x4.toInt = 0 := qi_eq c_5 rfl zc_0
      refine lv_aload_n hx hb dX3_sift_16 rfl (lv_at hl 0 rfl) ?_
      refine lv_aload_n hx hb dX3_sift_17 rfl (lv_at hl 1 rfl) ?_
      have hFc := frA hD hS hA
      refine va_callv (va_runV (As := [.ref (r 3)]) (rest := []) ⟨hx, hb, hml, hown, hG⟩ (kX3_weigh l dC dI r ct i_tapeLength i_time i_lyingCount i_rd_fault i_rd_token i_rd_kind i_sc_count i_sc_at i_A_tunes i_A_houses i_fA_length i_B_tunes i_B_houses i_fB_length i_acts_done i_acts_undone i_kn_count f_boxes f_boxKept f_trial f_offers f_A_noteCounts f_A_notes f_B_noteCounts f_B_notes f_now_where f_now_worn f_ahead_where f_ahead_worn f_acts_rows f_kn_tunes f_kn_noteTimes J L s.heap.size hI (ox_672 ie14 ie15 f3)) (cwV 1 hG (goodV gw1082 gw1084 gw48 gw136 gw1085) rfl rfl rfl hd_X3_weigh ⟨(Nat.le_of_ble_eq_true rfl), (Nat.le_of_ble_eq_true rfl)⟩) ⟨fbW, va_recv hK hP (ci := 2) (q0 := 10) rfl rfl, pW_in hP hK hD⟩ rfl rfl hl.1 rfl (lv_room (Nat.le_of_ble_eq_true rfl)) dX3_sift_18 ⟨(Nat.le_of_ble_eq_true rfl), (Nat.le_of_ble_eq_true rfl)⟩) hS (fun q _ h => hFc q h) hFc (fun _ t_ H90 locs ht hvm hw hB hz1 hk1 hS => ?_)
      obtain ⟨z92, J93, hP1, hD1, hI94⟩ := hB
      rw [ht] at hP1
      have hP := hP1
      have hD := dW hFc hD1
      obtain ⟨im95, im96, im97, im98, im99, im100, im101, im102, im103, im104, im105, im106, im107, im108, im109, im110, im111, im112, im113, im114, im115, im116, im117, im118, im119, im120, im121, im122, im123, im124, im125, im126, im127, im128, im129, im130, im131, im132, im133, im134⟩ := id hI94
      refine lv_aload_n hx hb dX3_sift_21 rfl (lv_at hl 0 rfl) ?_
      refine lv_iconst (v := 1) hx hb dX3_sift_22 (by decide) ?_
      refine pX_X3_53_10 hx hb hG hown hK hP hD hS rfl rfl dX3_sift_23 (fun J136 H135 locs hP hD hS => ?_)
      refine lv_iconst (v := 0) hx hb dX3_sift_26 (by decide) ?_
      refine lv_istore_n (lv' := [(3, .int 0), (0, .ref (r 10)), (1, .ref (r 3)), (2, .int p1)]) hx hb dX3_sift_27 rfl hl (by decide) rfl (fun ls hl => ?_)
      have L28 : ∀ (N28 : Nat) (y28_3 : Int32) (m28_J : Nat → Nat → Int32) (H28 : Heap) (locs : List Loc) (ls : Array Slot) (g28_0 : (0 : Int) ≤ y28_3.toInt) (g28_1 : y28_3.toInt ≤ (343 : Int)) (hP : va_P (dC, dI) vwCl (WX r ct i_tapeLength i_time i_lyingCount i_rd_fault i_rd_token i_rd_kind i_sc_count i_sc_at i_A_tunes i_A_houses i_fA_length i_B_tunes i_B_houses i_fB_length i_acts_done i_acts_undone i_kn_count f_boxes f_boxKept f_trial f_offers f_A_noteCounts f_A_notes f_B_noteCounts f_B_notes f_now_where f_now_worn f_ahead_where f_ahead_worn f_acts_rows f_kn_tunes z92 m28_J L) H28) (hD : va_D A (WX r ct i_tapeLength i_time i_lyingCount i_rd_fault i_rd_token i_rd_kind i_sc_count i_sc_at i_A_tunes i_A_houses i_fA_length i_B_tunes i_B_houses i_fB_length i_acts_done i_acts_undone i_kn_count f_boxes f_boxKept f_trial f_offers f_A_noteCounts f_A_notes f_B_noteCounts f_B_notes f_now_where f_now_worn f_ahead_where f_ahead_worn f_acts_rows f_kn_tunes z92 m28_J L)) (hS : va_S A s.heap H28 locs) (hl : lv_has ls 5 [(0, .ref (r 10)), (1, .ref (r 3)), (2, .int p1), (3, .int y28_3)]) (hM : -1 * y28_3.toInt + 343 < (N28 : Int)), W p l e { frames := 12, cells := 0, slots := 0, locals := 422 } s m ([.ref (r 10), .ref (r 3), .int p1] : List Value).toArray below meth c0 H28 locs 0 0 Q (F0 m 28 ls []) := by
        intro N28
        induction N28 with
        | zero =>
          intro y28_3 m28_J H28 locs ls g28_0 g28_1 hP hD hS hl hM
          exact ((ox_569 hM g28_0 g28_1)).elim
        | succ N28 ih28 =>
          intro y28_3 m28_J H28 locs ls g28_0 g28_1 hP hD hS hl hM
          have hM28 := msucc hM
          refine lv_iload_n hx hb dX3_sift_28 rfl (lv_at hl 3 rfl) ?_
          refine lv_sipush (v := 343) hx hb dX3_sift_29 (by decide) ?_
          refine lv_icmp_ge (tgt := 48) hx hb dX3_sift_32 (by decide) (fun c_137 => ?_) (fun c_137 => ?_)
          · skip
            have f138 : 343 ≤ y28_3.toInt := qi_le c_137 zc_343 rfl
            refine lv_iconst (v := 0) hx hb dX3_sift_48 (by decide) ?_
            refine lv_istore_n (lv' := [(3, .int 0), (0, .ref (r 10)), (1, .ref (r 3)), (2, .int p1)]) hx hb dX3_sift_49 rfl hl (by decide) rfl (fun ls hl => ?_)
            have L50 : ∀ (N50 : Nat) (y50_3 : Int32) (m50_J : Nat → Nat → Int32) (H50 : Heap) (locs : List Loc) (ls : Array Slot) (g50_0 : (0 : Int) ≤ y50_3.toInt) (g50_1 : y50_3.toInt ≤ (30 : Int)) (hP : va_P (dC, dI) vwCl (WX r ct i_tapeLength i_time i_lyingCount i_rd_fault i_rd_token i_rd_kind i_sc_count i_sc_at i_A_tunes i_A_houses i_fA_length i_B_tunes i_B_houses i_fB_length i_acts_done i_acts_undone i_kn_count f_boxes f_boxKept f_trial f_offers f_A_noteCounts f_A_notes f_B_noteCounts f_B_notes f_now_where f_now_worn f_ahead_where f_ahead_worn f_acts_rows f_kn_tunes z92 m50_J L) H50) (hD : va_D A (WX r ct i_tapeLength i_time i_lyingCount i_rd_fault i_rd_token i_rd_kind i_sc_count i_sc_at i_A_tunes i_A_houses i_fA_length i_B_tunes i_B_houses i_fB_length i_acts_done i_acts_undone i_kn_count f_boxes f_boxKept f_trial f_offers f_A_noteCounts f_A_notes f_B_noteCounts f_B_notes f_now_where f_now_worn f_ahead_where f_ahead_worn f_acts_rows f_kn_tunes z92 m50_J L)) (hS : va_S A s.heap H50 locs) (hl : lv_has ls 5 [(0, .ref (r 10)), (1, .ref (r 3)), (2, .int p1), (3, .int y50_3)]) (hM : -1 * y50_3.toInt + 30 < (N50 : Int)), W p l e { frames := 12, cells := 0, slots := 0, locals := 422 } s m ([.ref (r 10), .ref (r 3), .int p1] : List Value).toArray below meth c0 H50 locs 0 0 Q (F0 m 50 ls []) := by
              intro N50
              induction N50 with
              | zero =>
                intro y50_3 m50_J H50 locs ls g50_0 g50_1 hP hD hS hl hM
                exact ((ox_673 hM g50_0 g50_1)).elim
              | succ N50 ih50 =>
                intro y50_3 m50_J H50 locs ls g50_0 g50_1 hP hD hS hl hM
                have hM50 := msucc hM
                refine lv_iload_n hx hb dX3_sift_50 rfl (lv_at hl 3 rfl) ?_
                refine lv_aload_n hx hb dX3_sift_51 rfl (lv_at hl 0 rfl) ?_
                refine gX_X3_49_10 hx hb hG hown hK hP dX3_sift_52 ?_
                refine lv_icmp_ge (tgt := 78) hx hb dX3_sift_55 (by decide) (fun c_139 => ?_) (fun c_139 => ?_)
                · skip
                  have f140 : i_kn_count.toInt ≤ y50_3.toInt := qi_le c_139 rfl rfl
                  refine lv_iconst (v := 0) hx hb dX3_sift_78 (by decide) ?_
                  refine lv_istore_n (lv' := [(3, .int 0), (0, .ref (r 10)), (1, .ref (r 3)), (2, .int p1)]) hx hb dX3_sift_79 rfl hl (by decide) rfl (fun ls hl => ?_)
                  refine lv_iconst (v := 0) hx hb dX3_sift_80 (by decide) ?_
                  refine lv_istore (lv' := [(4, .int 0), (3, .int 0), (0, .ref (r 10)), (1, .ref (r 3)), (2, .int p1)]) hx hb dX3_sift_81 hl (by decide) rfl (fun ls hl => ?_)
                  have L83 : ∀ (N83 : Nat) (y83_3 y83_4 : Int32) (H83 : Heap) (locs : List Loc) (ls : Array Slot) (g83_0 : (0 : Int) ≤ y83_4.toInt) (g83_1 : y83_4.toInt ≤ (343 : Int)) (hP : va_P (dC, dI) vwCl (WX r ct i_tapeLength i_time i_lyingCount i_rd_fault i_rd_token i_rd_kind i_sc_count i_sc_at i_A_tunes i_A_houses i_fA_length i_B_tunes i_B_houses i_fB_length i_acts_done i_acts_undone i_kn_count f_boxes f_boxKept f_trial f_offers f_A_noteCounts f_A_notes f_B_noteCounts f_B_notes f_now_where f_now_worn f_ahead_where f_ahead_worn f_acts_rows f_kn_tunes z92 m50_J L) H83) (hD : va_D A (WX r ct i_tapeLength i_time i_lyingCount i_rd_fault i_rd_token i_rd_kind i_sc_count i_sc_at i_A_tunes i_A_houses i_fA_length i_B_tunes i_B_houses i_fB_length i_acts_done i_acts_undone i_kn_count f_boxes f_boxKept f_trial f_offers f_A_noteCounts f_A_notes f_B_noteCounts f_B_notes f_now_where f_now_worn f_ahead_where f_ahead_worn f_acts_rows f_kn_tunes z92 m50_J L)) (hS : va_S A s.heap H83 locs) (hl : lv_has ls 5 [(0, .ref (r 10)), (1, .ref (r 3)), (2, .int p1), (3, .int y83_3), (4, .int y83_4)]) (hM : -1 * y83_4.toInt + 343 < (N83 : Int)), W p l e { frames := 12, cells := 0, slots := 0, locals := 422 } s m ([.ref (r 10), .ref (r 3), .int p1] : List Value).toArray below meth c0 H83 locs 0 0 Q (F0 m 83 ls []) := by
                    intro N83
                    induction N83 with
                    | zero =>
                      intro y83_3 y83_4 H83 locs ls g83_0 g83_1 hP hD hS hl hM
                      exact ((ox_569 hM g83_0 g83_1)).elim
                    | succ N83 ih83 =>
                      intro y83_3 y83_4 H83 locs ls g83_0 g83_1 hP hD hS hl hM
                      have hM83 := msucc hM
                      refine lv_iload hx hb dX3_sift_83 (lv_at hl 4 rfl) ?_
                      refine lv_sipush (v := 343) hx hb dX3_sift_85 (by decide) ?_
                      refine lv_icmp_ge (tgt := 110) hx hb dX3_sift_88 (by decide) (fun c_141 => ?_) (fun c_141 => ?_)
                      · skip
                        have f142 : 343 ≤ y83_4.toInt := qi_le c_141 zc_343 rfl
                        refine lv_iload_n hx hb dX3_sift_110 rfl (lv_at hl 3 rfl) ?_
                        rw [hQ]
                        exact W.iret (v := y83_3) hx hb hr (fun t ht hW => ⟨⟨y83_3, y83_3, rfl, rfl, ⟨z92, m50_J, by rw [ht]; exact hP, hD, hI94, (ox_674 ie14 ie15 f3)⟩⟩, hS.F ht⟩) hS.2.2 dX3_sift_111
                      · skip
                        have f143 : y83_4.toInt < 343 := qi_nle c_141 zc_343 rfl
                        refine lv_aload_n hx hb dX3_sift_91 rfl (lv_at hl 0 rfl) ?_
                        refine gX_X3_31_10 hx hb hG hown hK hP dX3_sift_92 ?_
                        refine lv_iload hx hb dX3_sift_95 (lv_at hl 4 rfl) ?_
                        refine ldX_58 (mm := y83_4.toInt) hx hb hK hP rfl (ox_9 g83_0) (ox_578 f143) dX3_sift_97 (fun x144 => ?_)
                        refine lv_if_eq (tgt := 104) hx hb dX3_sift_98 (by decide) (fun c_145 => ?_) (fun c_145 => ?_)
                        · skip
                          have f146 : x144.toInt = 0 := qi_eq c_145 rfl zc_0
                          obtain ⟨x147, ex147⟩ : ∃ y : Int32, y = y83_4 + Int32.ofInt 1 := ⟨_, rfl⟩
                          have f148 : x147.toInt = y83_4.toInt + 1 := (ox_13 (qi_add ex147 rfl (by decide) (ox_11 g83_0) (ox_575 g83_1)))
                          refine lv_iinc (v := x147) (lv' := [(4, .int x147), (0, .ref (r 10)), (1, .ref (r 3)), (2, .int p1), (3, .int y83_3)]) hx hb dX3_sift_104 hl (k := 4) rfl ex147.symm (by decide) rfl (fun ls hl => ?_)
                          refine lv_goto (tgt := 83) hx hb dX3_sift_107 (by decide) ?_
                          exact ih83 y83_3 x147 H83 _ _ (ox_14 g83_0 f148) (ox_576 f143 f148) hP hD hS (lv_sub hl [1, 2, 3, 4, 0] rfl) (ox_577 hM83 f148)
                        · skip
                          have f149 : x144.toInt ≠ 0 := qi_ne c_145 rfl zc_0
                          obtain ⟨x150, ex150⟩ : ∃ y : Int32, y = y83_3 + Int32.ofInt 1 := ⟨_, rfl⟩
                          have f151 : (-2147483648) ≤ y83_3.toInt ∧ y83_3.toInt ≤ 2147483647 := i32_rg _
                          refine lv_iinc (v := x150) (lv' := [(3, .int x150), (0, .ref (r 10)), (1, .ref (r 3)), (2, .int p1), (4, .int y83_4)]) hx hb dX3_sift_101 hl (k := 3) rfl ex150.symm (by decide) rfl (fun ls hl => ?_)
                          obtain ⟨x152, ex152⟩ : ∃ y : Int32, y = y83_4 + Int32.ofInt 1 := ⟨_, rfl⟩
                          have f153 : x152.toInt = y83_4.toInt + 1 := (ox_13 (qi_add ex152 rfl (by decide) (ox_11 g83_0) (ox_575 g83_1)))
                          refine lv_iinc (v := x152) (lv' := [(4, .int x152), (3, .int x150), (0, .ref (r 10)), (1, .ref (r 3)), (2, .int p1)]) hx hb dX3_sift_104 hl (k := 4) rfl ex152.symm (by decide) rfl (fun ls hl => ?_)
                          refine lv_goto (tgt := 83) hx hb dX3_sift_107 (by decide) ?_
                          exact ih83 x150 x152 H83 _ _ (ox_14 g83_0 f153) (ox_576 f143 f153) hP hD hS (lv_sub hl [2, 3, 4, 1, 0] rfl) (ox_577 hM83 f153)
                  exact L83 (-1 * (0 : Int32).toInt + 343 + 1).toNat 0 0 H50 _ _ (ox_27 zc_0) (ox_579 zc_0) hP hD hS (lv_sub hl [2, 3, 4, 1, 0] rfl) (mlt (ox_580 zc_0))
                · skip
                  have f154 : y50_3.toInt < i_kn_count.toInt := qi_nle c_139 rfl rfl
                  refine lv_aload_n hx hb dX3_sift_58 rfl (lv_at hl 0 rfl) ?_
                  refine lv_iload_n hx hb dX3_sift_59 rfl (lv_at hl 3 rfl) ?_
                  refine lv_iload_n hx hb dX3_sift_60 rfl (lv_at hl 2 rfl) ?_
                  refine va_calli (va_runV (As := [.int y50_3, .int p1]) (rest := []) ⟨hx, hb, hml, hown, hG⟩ (kX3_countsAt l dC dI r ct i_tapeLength i_time i_lyingCount i_rd_fault i_rd_token i_rd_kind i_sc_count i_sc_at i_A_tunes i_A_houses i_fA_length i_B_tunes i_B_houses i_fB_length i_acts_done i_acts_undone i_kn_count f_boxes f_boxKept f_trial f_offers f_A_noteCounts f_A_notes f_B_noteCounts f_B_notes f_now_where f_now_worn f_ahead_where f_ahead_worn f_acts_rows f_kn_tunes z92 m50_J L y50_3 p1 H50.size hI94 (ox_6 g50_0) (ox_675 ie25 f154)) (cwV 2 hG (goodV gw1106 gw1108 gw52 gw136 gw1109) rfl rfl rfl hd_X3_countsAt ⟨(Nat.le_of_ble_eq_true rfl), (Nat.le_of_ble_eq_true rfl)⟩) ⟨fbR, va_recv hK hP (ci := 2) (q0 := 10) rfl rfl, pR_in hP hK⟩ rfl rfl hl.1 rfl (lv_room (Nat.le_of_ble_eq_true rfl)) dX3_sift_61 ⟨(Nat.le_of_ble_eq_true rfl), (Nat.le_of_ble_eq_true rfl)⟩) hS (fun q hq h => absurd hq (Nat.not_lt.mpr h)) (fun q h => hA q (Nat.le_trans hS.1 h)) (fun r_156 u_ t_ H155 locs ht hvm hw hB hz1 hk1 hS => ?_)
                  subst hw
                  have hP := wk hP hk1
                  obtain ⟨f157, f158, f159⟩ := hB
                  refine lv_if_eq (tgt := 72) hx hb dX3_sift_64 (by decide) (fun c_160 => ?_) (fun c_160 => ?_)
                  · skip
                    have f161 : r_156.toInt = 0 := qi_eq c_160 rfl zc_0
                    have f162 : r_156.toInt = (0 : Int) := (ox_92 f158 f159 f161)
                    obtain ⟨x163, ex163⟩ : ∃ y : Int32, y = y50_3 + Int32.ofInt 1 := ⟨_, rfl⟩
                    have f164 : x163.toInt = y50_3.toInt + 1 := (ox_13 (qi_add ex163 rfl (by decide) (ox_11 g50_0) (ox_170 g50_1)))
                    refine lv_iinc (v := x163) (lv' := [(3, .int x163), (0, .ref (r 10)), (1, .ref (r 3)), (2, .int p1)]) hx hb dX3_sift_72 hl (k := 3) rfl ex163.symm (by decide) rfl (fun ls hl => ?_)
                    refine lv_goto (tgt := 50) hx hb dX3_sift_75 (by decide) ?_
                    exact ih50 x163 m50_J H155 _ _ (ox_14 g50_0 f164) (ox_676 ie25 f154 f164) hP hD hS (lv_sub hl [1, 2, 3, 0] rfl) (ox_677 hM50 f164)
                  · skip
                    have f165 : r_156.toInt ≠ 0 := qi_ne c_160 rfl zc_0
                    have f166 : r_156.toInt = (1 : Int) := (ox_91 f157 f165)
                    have f167 : (1 : Int) ≤ r_156.toInt := (ox_53 f158 f159 f166)
                    refine lv_aload_n hx hb dX3_sift_67 rfl (lv_at hl 0 rfl) ?_
                    refine lv_iload_n hx hb dX3_sift_68 rfl (lv_at hl 3 rfl) ?_
                    have hFc := frA hD hS hA
                    refine va_callv (va_runV (As := [.int y50_3]) (rest := []) ⟨hx, hb, hml, hown, hG⟩ (kX3_strike l dC dI r ct i_tapeLength i_time i_lyingCount i_rd_fault i_rd_token i_rd_kind i_sc_count i_sc_at i_A_tunes i_A_houses i_fA_length i_B_tunes i_B_houses i_fB_length i_acts_done i_acts_undone i_kn_count f_boxes f_boxKept f_trial f_offers f_A_noteCounts f_A_notes f_B_noteCounts f_B_notes f_now_where f_now_worn f_ahead_where f_ahead_worn f_acts_rows f_kn_tunes z92 m50_J L y50_3 H155.size hI94 (ox_6 g50_0) (ox_675 ie25 f154)) (cwV 1 hG (goodV gw1110 gw1112 gw53 gw136 gw1113) rfl rfl rfl hd_X3_strike ⟨(Nat.le_of_ble_eq_true rfl), (Nat.le_of_ble_eq_true rfl)⟩) ⟨fbW, va_recv hK hP (ci := 2) (q0 := 10) rfl rfl, pW_in hP hK hD⟩ rfl rfl hl.1 rfl (lv_room (Nat.le_of_ble_eq_true rfl)) dX3_sift_69 ⟨(Nat.le_of_ble_eq_true rfl), (Nat.le_of_ble_eq_true rfl)⟩) hS (fun q _ h => hFc q h) hFc (fun _ t_ H168 locs ht hvm hw hB hz1 hk1 hS => ?_)
                    obtain ⟨J170, hP1, hD1, hI171⟩ := hB
                    rw [ht] at hP1
                    have hP := hP1
                    have hD := dW hFc hD1
                    obtain ⟨im172, im173, im174, im175, im176, im177, im178, im179, im180, im181, im182, im183, im184, im185, im186, im187, im188, im189, im190, im191, im192, im193, im194, im195, im196, im197, im198, im199, im200, im201, im202, im203, im204, im205, im206, im207, im208, im209, im210, im211⟩ := id hI171
                    obtain ⟨x212, ex212⟩ : ∃ y : Int32, y = y50_3 + Int32.ofInt 1 := ⟨_, rfl⟩
                    have f213 : x212.toInt = y50_3.toInt + 1 := (ox_13 (qi_add ex212 rfl (by decide) (ox_11 g50_0) (ox_170 g50_1)))
                    refine lv_iinc (v := x212) (lv' := [(3, .int x212), (0, .ref (r 10)), (1, .ref (r 3)), (2, .int p1)]) hx hb dX3_sift_72 hl (k := 3) rfl ex212.symm (by decide) rfl (fun ls hl => ?_)
                    refine lv_goto (tgt := 50) hx hb dX3_sift_75 (by decide) ?_
                    exact ih50 x212 J170 H168 _ _ (ox_14 g50_0 f213) (ox_676 ie25 f154 f213) hP hD hS (lv_sub hl [1, 2, 3, 0] rfl) (ox_677 hM50 f213)
            exact L50 (-1 * (0 : Int32).toInt + 30 + 1).toNat 0 m28_J H28 _ _ (ox_27 zc_0) (ox_174 zc_0) hP hD hS (lv_sub hl [1, 2, 3, 0] rfl) (mlt (ox_678 zc_0))
          · skip
            have f214 : y28_3.toInt < 343 := qi_nle c_137 zc_343 rfl
            refine lv_aload_n hx hb dX3_sift_35 rfl (lv_at hl 0 rfl) ?_
            refine gX_X3_31_10 hx hb hG hown hK hP dX3_sift_36 ?_
            refine lv_iload_n hx hb dX3_sift_39 rfl (lv_at hl 3 rfl) ?_
            refine lv_iconst (v := 1) hx hb dX3_sift_40 (by decide) ?_
            refine stX_58 (mm := y28_3.toInt) hx hb hK hP hD hS rfl (ox_9 g28_0) (ox_578 f214) dX3_sift_41 (fun J216 H215 locs hP hD hS => ?_)
            obtain ⟨x217, ex217⟩ : ∃ y : Int32, y = y28_3 + Int32.ofInt 1 := ⟨_, rfl⟩
            have f218 : x217.toInt = y28_3.toInt + 1 := (ox_13 (qi_add ex217 rfl (by decide) (ox_11 g28_0) (ox_575 g28_1)))
            refine lv_iinc (v := x217) (lv' := [(3, .int x217), (0, .ref (r 10)), (1, .ref (r 3)), (2, .int p1)]) hx hb dX3_sift_42 hl (k := 3) rfl ex217.symm (by decide) rfl (fun ls hl => ?_)
            refine lv_goto (tgt := 28) hx hb dX3_sift_45 (by decide) ?_
            exact ih28 x217 J216 H215 _ _ (ox_14 g28_0 f218) (ox_576 f214 f218) hP hD hS (lv_sub hl [1, 2, 3, 0] rfl) (ox_577 hM28 f218)
      exact L28 (-1 * (0 : Int32).toInt + 343 + 1).toNat 0 J136 H135 _ _ (ox_27 zc_0) (ox_579 zc_0) hP hD hS (lv_sub hl [1, 2, 3, 0] rfl) (mlt (ox_580 zc_0))
  · skip
    have f219 : i_A_houses.toInt = 0 := qi_eq c_1 rfl zc_0
    refine lv_iconst (v := 0) hx hb dX3_sift_7 (by decide) ?_
    rw [hQ]
    exact W.iret (v := 0) hx hb hr (fun t ht hW => ⟨⟨0, 0, rfl, rfl, ⟨f_kn_noteTimes, J, by rw [ht]; exact hP, hD, hI, (ox_679 ie14 ie15 f219 zc_0)⟩⟩, hS.F ht⟩) hS.2.2 dX3_sift_8
set_option maxHeartbeats 4000000 in
set_option maxRecDepth 100000 in
theorem kX8_rows (l : Launch) (dC : Nat → ClassId) (dI : Nat → Nat → Nat) (r : Nat → Nat) (ct : Nat → ClassId) (i_tapeLength i_time i_lyingCount i_rd_fault i_rd_token i_rd_kind i_sc_count i_sc_at i_A_tunes i_A_houses i_fA_length i_B_tunes i_B_houses i_fB_length i_acts_done i_acts_undone i_kn_count : Int32) (f_boxes f_boxKept f_trial f_offers f_A_noteCounts f_A_notes f_B_noteCounts f_B_notes f_now_where f_now_worn f_ahead_where f_ahead_worn f_acts_rows f_kn_tunes f_kn_noteTimes : Nat → Int32) (J : Nat → Nat → Int32) (L : Nat → Nat → Int64) (p0 : Int32) (sz : Nat) (hI : (IX i_tapeLength i_time i_lyingCount i_rd_token i_sc_count i_sc_at i_A_tunes i_A_houses i_fA_length i_B_tunes i_B_houses i_fB_length i_acts_done i_acts_undone i_kn_count f_boxes f_A_noteCounts f_A_notes f_B_noteCounts f_B_notes f_now_worn f_ahead_worn f_acts_rows f_kn_tunes)) : Met l yX8_rows (.code yX8_rows cX8_rows 2 (some .int) :: GW) { frames := 14, cells := 0, slots := 0, locals := 486 } (va_Pc [.ref (r 0), .int p0] (pW (dC, dI) (WX r ct i_tapeLength i_time i_lyingCount i_rd_fault i_rd_token i_rd_kind i_sc_count i_sc_at i_A_tunes i_A_houses i_fA_length i_B_tunes i_B_houses i_fB_length i_acts_done i_acts_undone i_kn_count f_boxes f_boxKept f_trial f_offers f_A_noteCounts f_A_notes f_B_noteCounts f_B_notes f_now_where f_now_worn f_ahead_where f_ahead_worn f_acts_rows f_kn_tunes f_kn_noteTimes J L) (TX ct) sz)) (va_Qi (fun (r0 : Int32) (u : Int32) => r0 = u) (fun (u : Int32) (t : State) => ∃ (n_f_kn_noteTimes : Nat → Int32) (n_J : Nat → Nat → Int32), va_P (dC, dI) vwCl (WX r ct i_tapeLength i_time i_lyingCount i_rd_fault i_rd_token i_rd_kind i_sc_count i_sc_at i_A_tunes i_A_houses i_fA_length i_B_tunes i_B_houses i_fB_length i_acts_done i_acts_undone i_kn_count f_boxes f_boxKept f_trial f_offers f_A_noteCounts f_A_notes f_B_noteCounts f_B_notes f_now_where f_now_worn f_ahead_where f_ahead_worn f_acts_rows f_kn_tunes n_f_kn_noteTimes n_J L) t.heap ∧ va_D (va_A (WX r ct i_tapeLength i_time i_lyingCount i_rd_fault i_rd_token i_rd_kind i_sc_count i_sc_at i_A_tunes i_A_houses i_fA_length i_B_tunes i_B_houses i_fB_length i_acts_done i_acts_undone i_kn_count f_boxes f_boxKept f_trial f_offers f_A_noteCounts f_A_notes f_B_noteCounts f_B_notes f_now_where f_now_worn f_ahead_where f_ahead_worn f_acts_rows f_kn_tunes f_kn_noteTimes J L) sz) (WX r ct i_tapeLength i_time i_lyingCount i_rd_fault i_rd_token i_rd_kind i_sc_count i_sc_at i_A_tunes i_A_houses i_fA_length i_B_tunes i_B_houses i_fB_length i_acts_done i_acts_undone i_kn_count f_boxes f_boxKept f_trial f_offers f_A_noteCounts f_A_notes f_B_noteCounts f_B_notes f_now_where f_now_worn f_ahead_where f_ahead_worn f_acts_rows f_kn_tunes n_f_kn_noteTimes n_J L) ∧ (IX i_tapeLength i_time i_lyingCount i_rd_token i_sc_count i_sc_at i_A_tunes i_A_houses i_fA_length i_B_tunes i_B_houses i_fB_length i_acts_done i_acts_undone i_kn_count f_boxes f_A_noteCounts f_A_notes f_B_noteCounts f_B_notes f_now_worn f_ahead_worn f_acts_rows f_kn_tunes)) (va_A (WX r ct i_tapeLength i_time i_lyingCount i_rd_fault i_rd_token i_rd_kind i_sc_count i_sc_at i_A_tunes i_A_houses i_fA_length i_B_tunes i_B_houses i_fB_length i_acts_done i_acts_undone i_kn_count f_boxes f_boxKept f_trial f_offers f_A_noteCounts f_A_notes f_B_noteCounts f_B_notes f_now_where f_now_worn f_ahead_where f_ahead_worn f_acts_rows f_kn_tunes f_kn_noteTimes J L) sz)) 0 0 (va_A (WX r ct i_tapeLength i_time i_lyingCount i_rd_fault i_rd_token i_rd_kind i_sc_count i_sc_at i_A_tunes i_A_houses i_fA_length i_B_tunes i_B_houses i_fB_length i_acts_done i_acts_undone i_kn_count f_boxes f_boxKept f_trial f_offers f_A_noteCounts f_A_notes f_B_noteCounts f_B_notes f_now_where f_now_worn f_ahead_where f_ahead_worn f_acts_rows f_kn_tunes f_kn_noteTimes J L) sz) := by
  refine Met.ofW (cc := cX8_rows) (maxL := 2) (ret := (some .int)) (by decide) rfl ?_
  intro p e s m args below meth c0 s₁ B hml hv
  obtain ⟨rfl, hsz, hP, hK, hD0⟩ := hv
  have hx := B.exec
  have hb := B.bytes
  have hr := B.returns
  have hts := atoms_spec (ws := .code yX8_rows cX8_rows 2 (some .int) :: GW) B.pre
  have hG : ∀ w ∈ GW, w.before _ s = true := fun w h => hts w (List.mem_cons_of_mem _ h)
  have hown : s.vm.findClass RX8 = some m.cls := findClass_of_methodNamed B.named
  subst hsz
  have hD := hD0.self (sz := s.heap.size)
  generalize hAe : va_A (WX r ct i_tapeLength i_time i_lyingCount i_rd_fault i_rd_token i_rd_kind i_sc_count i_sc_at i_A_tunes i_A_houses i_fA_length i_B_tunes i_B_houses i_fB_length i_acts_done i_acts_undone i_kn_count f_boxes f_boxKept f_trial f_offers f_A_noteCounts f_A_notes f_B_noteCounts f_B_notes f_now_where f_now_worn f_ahead_where f_ahead_worn f_acts_rows f_kn_tunes f_kn_noteTimes J L) s.heap.size = A at hD ⊢
  have hA : ∀ q : Nat, s.heap.size ≤ q → A q := fun q h => by rw [← hAe]; exact Or.inr h
  have hS : va_S A s.heap s.heap [] := va_S.rf
  have hP : va_P (dC, dI) vwCl (WX r ct i_tapeLength i_time i_lyingCount i_rd_fault i_rd_token i_rd_kind i_sc_count i_sc_at i_A_tunes i_A_houses i_fA_length i_B_tunes i_B_houses i_fB_length i_acts_done i_acts_undone i_kn_count f_boxes f_boxKept f_trial f_offers f_A_noteCounts f_A_notes f_B_noteCounts f_B_notes f_now_where f_now_worn f_ahead_where f_ahead_worn f_acts_rows f_kn_tunes f_kn_noteTimes J L) s.heap := hP
  have hl := lv_entry ([.ref (r 0), .int p0]) (n := 2) (Nat.le_of_ble_eq_true rfl)
  rw [lg_entry_eq]
  generalize (lg_sl ([.ref (r 0), .int p0]) ++ List.replicate (2 - (lg_sl ([.ref (r 0), .int p0])).length) Slot.unset).toArray = ls at hl ⊢
  have hl : lv_has ls 2 [(0, .ref (r 0)), (1, .int p0)] := hl
  refine nameQ (fun Q hQ => ?_)
  obtain ⟨ie0, ie1, ie2, ie3, ie4, ie5, ie6, ie7, ie8, ie9, ie10, ie11, ie12, ie13, ie14, ie15, ie16, ie17, ie18, ie19, ie20, ie21, ie22, ie23, ie24, ie25, ie26, ie27, ie28, ie29, ie30, ie31, ie32, ie33, ie34, ie35, ie36, ie37, ie38, ie39⟩ := id hI
  refine lv_aload_n hx hb dX8_rows_0 rfl (lv_at hl 0 rfl) ?_
  refine gX_X8_55_0 hx hb hG hown hK hP dX8_rows_1 ?_
  refine lv_aload_n hx hb dX8_rows_4 rfl (lv_at hl 0 rfl) ?_
  refine gX_X8_23_0 hx hb hG hown hK hP dX8_rows_5 ?_
  refine lv_iload_n hx hb dX8_rows_8 rfl (lv_at hl 1 rfl) ?_
  have hFc := frA hD hS hA
  refine va_calli (va_runV (As := [.ref (r 3), .int p0]) (rest := []) ⟨hx, hb, hml, hown, hG⟩ (kX3_sift l dC dI r ct i_tapeLength i_time i_lyingCount i_rd_fault i_rd_token i_rd_kind i_sc_count i_sc_at i_A_tunes i_A_houses i_fA_length i_B_tunes i_B_houses i_fB_length i_acts_done i_acts_undone i_kn_count f_boxes f_boxKept f_trial f_offers f_A_noteCounts f_A_notes f_B_noteCounts f_B_notes f_now_where f_now_worn f_ahead_where f_ahead_worn f_acts_rows f_kn_tunes f_kn_noteTimes J L p0 s.heap.size hI) (cwV 2 hG (goodV gw1078 gw1079 gw1080 gw136 gw1081) rfl rfl rfl hd_X3_sift ⟨(Nat.le_of_ble_eq_true rfl), (Nat.le_of_ble_eq_true rfl)⟩) ⟨fbW, va_recv hK hP (ci := 2) (q0 := 10) rfl rfl, pW_in hP hK hD⟩ rfl rfl hl.1 rfl (lv_room (Nat.le_of_ble_eq_true rfl)) dX8_rows_9 ⟨(Nat.le_of_ble_eq_true rfl), (Nat.le_of_ble_eq_true rfl)⟩) hS (fun q _ h => hFc q h) hFc (fun r_2 u_ t_ H1 locs ht hvm hw hB hz1 hk1 hS => ?_)
  subst hw
  obtain ⟨z3, J4, hP1, hD1, hI6, f5⟩ := hB
  rw [ht] at hP1
  have hP := hP1
  have hD := dW hFc hD1
  obtain ⟨im7, im8, im9, im10, im11, im12, im13, im14, im15, im16, im17, im18, im19, im20, im21, im22, im23, im24, im25, im26, im27, im28, im29, im30, im31, im32, im33, im34, im35, im36, im37, im38, im39, im40, im41, im42, im43, im44, im45, im46⟩ := id hI6
  rw [hQ]
  exact W.iret (v := r_2) hx hb hr (fun t ht hW => ⟨⟨r_2, r_2, rfl, rfl, ⟨z3, J4, by rw [ht]; exact hP, hD, hI6⟩⟩, hS.F ht⟩) hS.2.2 dX8_rows_12
set_option maxHeartbeats 4000000 in
set_option maxRecDepth 100000 in
theorem kX3_commonNote (l : Launch) (dC : Nat → ClassId) (dI : Nat → Nat → Nat) (r : Nat → Nat) (ct : Nat → ClassId) (i_tapeLength i_time i_lyingCount i_rd_fault i_rd_token i_rd_kind i_sc_count i_sc_at i_A_tunes i_A_houses i_fA_length i_B_tunes i_B_houses i_fB_length i_acts_done i_acts_undone i_kn_count : Int32) (f_boxes f_boxKept f_trial f_offers f_A_noteCounts f_A_notes f_B_noteCounts f_B_notes f_now_where f_now_worn f_ahead_where f_ahead_worn f_acts_rows f_kn_tunes f_kn_noteTimes : Nat → Int32) (J : Nat → Nat → Int32) (L : Nat → Nat → Int64) (p0 : Int32) (sz : Nat) (hI : (IX i_tapeLength i_time i_lyingCount i_rd_token i_sc_count i_sc_at i_A_tunes i_A_houses i_fA_length i_B_tunes i_B_houses i_fB_length i_acts_done i_acts_undone i_kn_count f_boxes f_A_noteCounts f_A_notes f_B_noteCounts f_B_notes f_now_worn f_ahead_worn f_acts_rows f_kn_tunes)) : Met l yX3_commonNote (.code yX3_commonNote cX3_commonNote 5 (some .int) :: GW) { frames := 4, cells := 0, slots := 0, locals := 161 } (va_Pc [.ref (r 10), .int p0] (pR (dC, dI) (WX r ct i_tapeLength i_time i_lyingCount i_rd_fault i_rd_token i_rd_kind i_sc_count i_sc_at i_A_tunes i_A_houses i_fA_length i_B_tunes i_B_houses i_fB_length i_acts_done i_acts_undone i_kn_count f_boxes f_boxKept f_trial f_offers f_A_noteCounts f_A_notes f_B_noteCounts f_B_notes f_now_where f_now_worn f_ahead_where f_ahead_worn f_acts_rows f_kn_tunes f_kn_noteTimes J L) (TX ct) sz)) (va_Qi (fun (r0 : Int32) (u : Int32) => r0 = u) (fun (u : Int32) (t : State) => ((((0 : Int) ≤ u.toInt + 1) ∧ (u.toInt ≤ (1048576 : Int))) ∨ ((u.toInt + 2 = (0 : Int)))) ∧ ((0 : Int) ≤ u.toInt + 2) ∧ (u.toInt ≤ (1048576 : Int))) (fun q => sz ≤ q)) 0 0 (fun q => sz ≤ q) := by
  refine Met.ofW (cc := cX3_commonNote) (maxL := 5) (ret := (some .int)) (by decide) rfl ?_
  intro p e s m args below meth c0 s₁ B hml hv
  obtain ⟨rfl, hsz, hP, hK⟩ := hv
  have hx := B.exec
  have hb := B.bytes
  have hr := B.returns
  have hts := atoms_spec (ws := .code yX3_commonNote cX3_commonNote 5 (some .int) :: GW) B.pre
  have hG : ∀ w ∈ GW, w.before _ s = true := fun w h => hts w (List.mem_cons_of_mem _ h)
  have hown : s.vm.findClass RX3 = some m.cls := findClass_of_methodNamed B.named
  subst hsz
  have hS : va_S (fun q => s.heap.size ≤ q) s.heap s.heap [] := va_S.rf
  have hP : va_P (dC, dI) vwCl (WX r ct i_tapeLength i_time i_lyingCount i_rd_fault i_rd_token i_rd_kind i_sc_count i_sc_at i_A_tunes i_A_houses i_fA_length i_B_tunes i_B_houses i_fB_length i_acts_done i_acts_undone i_kn_count f_boxes f_boxKept f_trial f_offers f_A_noteCounts f_A_notes f_B_noteCounts f_B_notes f_now_where f_now_worn f_ahead_where f_ahead_worn f_acts_rows f_kn_tunes f_kn_noteTimes J L) s.heap := hP
  have hl := lv_entry ([.ref (r 10), .int p0]) (n := 5) (Nat.le_of_ble_eq_true rfl)
  rw [lg_entry_eq]
  generalize (lg_sl ([.ref (r 10), .int p0]) ++ List.replicate (5 - (lg_sl ([.ref (r 10), .int p0])).length) Slot.unset).toArray = ls at hl ⊢
  have hl : lv_has ls 5 [(0, .ref (r 10)), (1, .int p0)] := hl
  refine nameQ (fun Q hQ => ?_)
  obtain ⟨ie0, ie1, ie2, ie3, ie4, ie5, ie6, ie7, ie8, ie9, ie10, ie11, ie12, ie13, ie14, ie15, ie16, ie17, ie18, ie19, ie20, ie21, ie22, ie23, ie24, ie25, ie26, ie27, ie28, ie29, ie30, ie31, ie32, ie33, ie34, ie35, ie36, ie37, ie38, ie39⟩ := id hI
  refine lv_iconst (v := (-1)) hx hb dX3_commonNote_0 (by decide) ?_
  refine lv_istore_n (lv' := [(2, .int (-1)), (0, .ref (r 10)), (1, .int p0)]) hx hb dX3_commonNote_1 rfl hl (by decide) rfl (fun ls hl => ?_)
  refine lv_iconst (v := 0) hx hb dX3_commonNote_2 (by decide) ?_
  refine lv_istore_n (lv' := [(3, .int 0), (2, .int (-1)), (0, .ref (r 10)), (1, .int p0)]) hx hb dX3_commonNote_3 rfl hl (by decide) rfl (fun ls hl => ?_)
  have L4 : ∀ (N4 : Nat) (y4_2 y4_3 : Int32) (H4 : Heap) (locs : List Loc) (ls : Array Slot) (g4_0 : (0 : Int) ≤ y4_2.toInt + 1) (g4_1 : y4_2.toInt ≤ (1048576 : Int)) (g4_2 : (0 : Int) ≤ y4_3.toInt) (g4_3 : y4_3.toInt ≤ (343 : Int)) (hP : va_P (dC, dI) vwCl (WX r ct i_tapeLength i_time i_lyingCount i_rd_fault i_rd_token i_rd_kind i_sc_count i_sc_at i_A_tunes i_A_houses i_fA_length i_B_tunes i_B_houses i_fB_length i_acts_done i_acts_undone i_kn_count f_boxes f_boxKept f_trial f_offers f_A_noteCounts f_A_notes f_B_noteCounts f_B_notes f_now_where f_now_worn f_ahead_where f_ahead_worn f_acts_rows f_kn_tunes f_kn_noteTimes J L) H4) (hS : va_S (fun q => s.heap.size ≤ q) s.heap H4 locs) (hl : lv_has ls 5 [(0, .ref (r 10)), (1, .int p0), (2, .int y4_2), (3, .int y4_3)]) (hM : -1 * y4_3.toInt + 343 < (N4 : Int)), W p l e { frames := 4, cells := 0, slots := 0, locals := 161 } s m ([.ref (r 10), .int p0] : List Value).toArray below meth c0 H4 locs 0 0 Q (F0 m 4 ls []) := by
    intro N4
    induction N4 with
    | zero =>
      intro y4_2 y4_3 H4 locs ls g4_0 g4_1 g4_2 g4_3 hP hS hl hM
      exact ((ox_569 hM g4_2 g4_3)).elim
    | succ N4 ih4 =>
      intro y4_2 y4_3 H4 locs ls g4_0 g4_1 g4_2 g4_3 hP hS hl hM
      have hM4 := msucc hM
      refine lv_iload_n hx hb dX3_commonNote_4 rfl (lv_at hl 3 rfl) ?_
      refine lv_sipush (v := 343) hx hb dX3_commonNote_5 (by decide) ?_
      refine lv_icmp_ge (tgt := 50) hx hb dX3_commonNote_8 (by decide) (fun c_1 => ?_) (fun c_1 => ?_)
      · skip
        have f2 : 343 ≤ y4_3.toInt := qi_le c_1 zc_343 rfl
        refine lv_iload_n hx hb dX3_commonNote_50 rfl (lv_at hl 2 rfl) ?_
        rw [hQ]
        exact W.iret (v := y4_2) hx hb hr (fun t ht hW => ⟨⟨y4_2, y4_2, rfl, rfl, ⟨(ox_680 g4_0 g4_1), (ox_681 g4_0 g4_1), (ox_511 g4_0 g4_1)⟩⟩, hS.F ht⟩) hS.2.2 dX3_commonNote_51
      · skip
        have f3 : y4_3.toInt < 343 := qi_nle c_1 zc_343 rfl
        refine lv_aload_n hx hb dX3_commonNote_11 rfl (lv_at hl 0 rfl) ?_
        refine gX_X3_31_10 hx hb hG hown hK hP dX3_commonNote_12 ?_
        refine lv_iload_n hx hb dX3_commonNote_15 rfl (lv_at hl 3 rfl) ?_
        refine ldX_58 (mm := y4_3.toInt) hx hb hK hP rfl (ox_9 g4_2) (ox_578 f3) dX3_commonNote_16 (fun x4 => ?_)
        refine lv_if_eq (tgt := 44) hx hb dX3_commonNote_17 (by decide) (fun c_5 => ?_) (fun c_5 => ?_)
        · skip
          have f6 : x4.toInt = 0 := qi_eq c_5 rfl zc_0
          obtain ⟨x7, ex7⟩ : ∃ y : Int32, y = y4_3 + Int32.ofInt 1 := ⟨_, rfl⟩
          have f8 : x7.toInt = y4_3.toInt + 1 := (ox_13 (qi_add ex7 rfl (by decide) (ox_11 g4_2) (ox_575 g4_3)))
          refine lv_iinc (v := x7) (lv' := [(3, .int x7), (0, .ref (r 10)), (1, .int p0), (2, .int y4_2)]) hx hb dX3_commonNote_44 hl (k := 3) rfl ex7.symm (by decide) rfl (fun ls hl => ?_)
          refine lv_goto (tgt := 4) hx hb dX3_commonNote_47 (by decide) ?_
          exact ih4 y4_2 x7 H4 _ _ (ox_510 g4_0 g4_1) (ox_511 g4_0 g4_1) (ox_14 g4_2 f8) (ox_576 f3 f8) hP hS (lv_sub hl [1, 2, 3, 0] rfl) (ox_577 hM4 f8)
        · skip
          have f9 : x4.toInt ≠ 0 := qi_ne c_5 rfl zc_0
          refine lv_iload_n hx hb dX3_commonNote_20 rfl (lv_at hl 3 rfl) ?_
          refine lv_iload_n hx hb dX3_commonNote_21 rfl (lv_at hl 1 rfl) ?_
          refine va_calli (va_runS (As := [.int y4_3, .int p0]) (rest := []) ⟨hx, hb, hml, hown, hG⟩ (kX3_noteOf l dC dI y4_3 p0 H4.size (ox_6 g4_2) (ox_666 f3)) (va_cwS 2 hG (goodS gw1100 gw1101 gw136 gw1102) rfl rfl rfl hd_X3_noteOf ⟨(Nat.le_of_ble_eq_true rfl), (Nat.le_of_ble_eq_true rfl)⟩) ⟨fbR, pR_in emptyP (emptyK hK)⟩ rfl rfl hl.1 rfl (lv_room (Nat.le_of_ble_eq_true rfl)) dX3_commonNote_22 ⟨(Nat.le_of_ble_eq_true rfl), (Nat.le_of_ble_eq_true rfl)⟩) hS (fun q hq h => absurd hq (Nat.not_lt.mpr h)) (fun q h => Nat.le_trans hS.1 h) (fun r_11 u_ t_ H10 locs ht hvm hw hB hz1 hk1 hS => ?_)
          subst hw
          have hP := wk hP hk1
          obtain ⟨f12, f13⟩ := hB
          refine lv_istore (lv' := [(4, .int r_11), (0, .ref (r 10)), (1, .int p0), (2, .int y4_2), (3, .int y4_3)]) hx hb dX3_commonNote_25 hl (by decide) rfl (fun ls hl => ?_)
          refine lv_iload_n hx hb dX3_commonNote_27 rfl (lv_at hl 3 rfl) ?_
          refine lv_iconst (v := (-1)) hx hb dX3_commonNote_28 (by decide) ?_
          refine lv_icmp_eq (tgt := 41) hx hb dX3_commonNote_29 (by decide) (fun c_14 => ?_) (fun c_14 => ?_)
          · skip
            have f15 : y4_2.toInt = (-1) := qi_eq c_14 rfl zc_m1
            refine lv_iload hx hb dX3_commonNote_41 (lv_at hl 0 rfl) ?_
            refine lv_istore_n (lv' := [(2, .int r_11), (4, .int r_11), (0, .ref (r 10)), (1, .int p0), (3, .int y4_3)]) hx hb dX3_commonNote_43 rfl hl (by decide) rfl (fun ls hl => ?_)
            obtain ⟨x16, ex16⟩ : ∃ y : Int32, y = y4_3 + Int32.ofInt 1 := ⟨_, rfl⟩
            have f17 : x16.toInt = y4_3.toInt + 1 := (ox_13 (qi_add ex16 rfl (by decide) (ox_11 g4_2) (ox_575 g4_3)))
            refine lv_iinc (v := x16) (lv' := [(3, .int x16), (2, .int r_11), (4, .int r_11), (0, .ref (r 10)), (1, .int p0)]) hx hb dX3_commonNote_44 hl (k := 4) rfl ex16.symm (by decide) rfl (fun ls hl => ?_)
            refine lv_goto (tgt := 4) hx hb dX3_commonNote_47 (by decide) ?_
            exact ih4 r_11 x16 H10 _ _ (ox_682 f12 f13) (ox_683 f12 f13) (ox_14 g4_2 f17) (ox_576 f3 f17) hP hS (lv_sub hl [3, 4, 1, 0] rfl) (ox_577 hM4 f17)
          · skip
            have f18 : y4_2.toInt ≠ (-1) := qi_ne c_14 rfl zc_m1
            have f19 : (0 : Int) ≤ y4_2.toInt := (ox_684 g4_0 g4_1 f18)
            refine lv_iload_n hx hb dX3_commonNote_32 rfl (lv_at hl 3 rfl) ?_
            refine lv_iload hx hb dX3_commonNote_33 (lv_at hl 0 rfl) ?_
            refine lv_icmp_eq (tgt := 41) hx hb dX3_commonNote_35 (by decide) (fun c_20 => ?_) (fun c_20 => ?_)
            · skip
              have f21 : y4_2.toInt = r_11.toInt := qi_eq c_20 rfl rfl
              refine lv_iload hx hb dX3_commonNote_41 (lv_at hl 0 rfl) ?_
              refine lv_istore_n (lv' := [(2, .int r_11), (4, .int r_11), (0, .ref (r 10)), (1, .int p0), (3, .int y4_3)]) hx hb dX3_commonNote_43 rfl hl (by decide) rfl (fun ls hl => ?_)
              obtain ⟨x22, ex22⟩ : ∃ y : Int32, y = y4_3 + Int32.ofInt 1 := ⟨_, rfl⟩
              have f23 : x22.toInt = y4_3.toInt + 1 := (ox_13 (qi_add ex22 rfl (by decide) (ox_11 g4_2) (ox_575 g4_3)))
              refine lv_iinc (v := x22) (lv' := [(3, .int x22), (2, .int r_11), (4, .int r_11), (0, .ref (r 10)), (1, .int p0)]) hx hb dX3_commonNote_44 hl (k := 4) rfl ex22.symm (by decide) rfl (fun ls hl => ?_)
              refine lv_goto (tgt := 4) hx hb dX3_commonNote_47 (by decide) ?_
              exact ih4 r_11 x22 H10 _ _ (ox_685 f12 f13 f21) (ox_686 f12 f13 f21) (ox_14 g4_2 f23) (ox_576 f3 f23) hP hS (lv_sub hl [3, 4, 1, 0] rfl) (ox_577 hM4 f23)
            · skip
              have f24 : y4_2.toInt ≠ r_11.toInt := qi_ne c_20 rfl rfl
              refine lv_bipush (v := (-2)) hx hb dX3_commonNote_38 (by decide) ?_
              rw [hQ]
              exact W.iret (v := (-2)) hx hb hr (fun t ht hW => ⟨⟨(-2), (-2), rfl, rfl, ⟨(ox_687 zc_m2), (ox_688 zc_m2), (ox_689 zc_m2)⟩⟩, hS.F ht⟩) hS.2.2 dX3_commonNote_40
  exact L4 (-1 * (0 : Int32).toInt + 343 + 1).toNat (-1) 0 s.heap _ _ (ox_83 zc_m1) (ox_517 zc_m1) (ox_27 zc_0) (ox_579 zc_0) hP hS (lv_sub hl [2, 3, 1, 0] rfl) (mlt (ox_580 zc_0))
set_option maxHeartbeats 4000000 in
set_option maxRecDepth 100000 in
theorem kX8_sure (l : Launch) (dC : Nat → ClassId) (dI : Nat → Nat → Nat) (r : Nat → Nat) (ct : Nat → ClassId) (i_tapeLength i_time i_lyingCount i_rd_fault i_rd_token i_rd_kind i_sc_count i_sc_at i_A_tunes i_A_houses i_fA_length i_B_tunes i_B_houses i_fB_length i_acts_done i_acts_undone i_kn_count : Int32) (f_boxes f_boxKept f_trial f_offers f_A_noteCounts f_A_notes f_B_noteCounts f_B_notes f_now_where f_now_worn f_ahead_where f_ahead_worn f_acts_rows f_kn_tunes f_kn_noteTimes : Nat → Int32) (J : Nat → Nat → Int32) (L : Nat → Nat → Int64) (p0 p1 : Int32) (sz : Nat) (hI : (IX i_tapeLength i_time i_lyingCount i_rd_token i_sc_count i_sc_at i_A_tunes i_A_houses i_fA_length i_B_tunes i_B_houses i_fB_length i_acts_done i_acts_undone i_kn_count f_boxes f_A_noteCounts f_A_notes f_B_noteCounts f_B_notes f_now_worn f_ahead_worn f_acts_rows f_kn_tunes)) : Met l yX8_sure (.code yX8_sure cX8_sure 3 (some .int) :: GW) { frames := 14, cells := 0, slots := 0, locals := 486 } (va_Pc [.ref (r 0), .int p0, .int p1] (pW (dC, dI) (WX r ct i_tapeLength i_time i_lyingCount i_rd_fault i_rd_token i_rd_kind i_sc_count i_sc_at i_A_tunes i_A_houses i_fA_length i_B_tunes i_B_houses i_fB_length i_acts_done i_acts_undone i_kn_count f_boxes f_boxKept f_trial f_offers f_A_noteCounts f_A_notes f_B_noteCounts f_B_notes f_now_where f_now_worn f_ahead_where f_ahead_worn f_acts_rows f_kn_tunes f_kn_noteTimes J L) (TX ct) sz)) (va_Qi (fun (r0 : Int32) (u : Int32) => r0 = u) (fun (u : Int32) (t : State) => ∃ (n_f_kn_noteTimes : Nat → Int32) (n_J : Nat → Nat → Int32), va_P (dC, dI) vwCl (WX r ct i_tapeLength i_time i_lyingCount i_rd_fault i_rd_token i_rd_kind i_sc_count i_sc_at i_A_tunes i_A_houses i_fA_length i_B_tunes i_B_houses i_fB_length i_acts_done i_acts_undone i_kn_count f_boxes f_boxKept f_trial f_offers f_A_noteCounts f_A_notes f_B_noteCounts f_B_notes f_now_where f_now_worn f_ahead_where f_ahead_worn f_acts_rows f_kn_tunes n_f_kn_noteTimes n_J L) t.heap ∧ va_D (va_A (WX r ct i_tapeLength i_time i_lyingCount i_rd_fault i_rd_token i_rd_kind i_sc_count i_sc_at i_A_tunes i_A_houses i_fA_length i_B_tunes i_B_houses i_fB_length i_acts_done i_acts_undone i_kn_count f_boxes f_boxKept f_trial f_offers f_A_noteCounts f_A_notes f_B_noteCounts f_B_notes f_now_where f_now_worn f_ahead_where f_ahead_worn f_acts_rows f_kn_tunes f_kn_noteTimes J L) sz) (WX r ct i_tapeLength i_time i_lyingCount i_rd_fault i_rd_token i_rd_kind i_sc_count i_sc_at i_A_tunes i_A_houses i_fA_length i_B_tunes i_B_houses i_fB_length i_acts_done i_acts_undone i_kn_count f_boxes f_boxKept f_trial f_offers f_A_noteCounts f_A_notes f_B_noteCounts f_B_notes f_now_where f_now_worn f_ahead_where f_ahead_worn f_acts_rows f_kn_tunes n_f_kn_noteTimes n_J L) ∧ (IX i_tapeLength i_time i_lyingCount i_rd_token i_sc_count i_sc_at i_A_tunes i_A_houses i_fA_length i_B_tunes i_B_houses i_fB_length i_acts_done i_acts_undone i_kn_count f_boxes f_A_noteCounts f_A_notes f_B_noteCounts f_B_notes f_now_worn f_ahead_worn f_acts_rows f_kn_tunes)) (va_A (WX r ct i_tapeLength i_time i_lyingCount i_rd_fault i_rd_token i_rd_kind i_sc_count i_sc_at i_A_tunes i_A_houses i_fA_length i_B_tunes i_B_houses i_fB_length i_acts_done i_acts_undone i_kn_count f_boxes f_boxKept f_trial f_offers f_A_noteCounts f_A_notes f_B_noteCounts f_B_notes f_now_where f_now_worn f_ahead_where f_ahead_worn f_acts_rows f_kn_tunes f_kn_noteTimes J L) sz)) 0 0 (va_A (WX r ct i_tapeLength i_time i_lyingCount i_rd_fault i_rd_token i_rd_kind i_sc_count i_sc_at i_A_tunes i_A_houses i_fA_length i_B_tunes i_B_houses i_fB_length i_acts_done i_acts_undone i_kn_count f_boxes f_boxKept f_trial f_offers f_A_noteCounts f_A_notes f_B_noteCounts f_B_notes f_now_where f_now_worn f_ahead_where f_ahead_worn f_acts_rows f_kn_tunes f_kn_noteTimes J L) sz) := by
  refine Met.ofW (cc := cX8_sure) (maxL := 3) (ret := (some .int)) (by decide) rfl ?_
  intro p e s m args below meth c0 s₁ B hml hv
  obtain ⟨rfl, hsz, hP, hK, hD0⟩ := hv
  have hx := B.exec
  have hb := B.bytes
  have hr := B.returns
  have hts := atoms_spec (ws := .code yX8_sure cX8_sure 3 (some .int) :: GW) B.pre
  have hG : ∀ w ∈ GW, w.before _ s = true := fun w h => hts w (List.mem_cons_of_mem _ h)
  have hown : s.vm.findClass RX8 = some m.cls := findClass_of_methodNamed B.named
  subst hsz
  have hD := hD0.self (sz := s.heap.size)
  generalize hAe : va_A (WX r ct i_tapeLength i_time i_lyingCount i_rd_fault i_rd_token i_rd_kind i_sc_count i_sc_at i_A_tunes i_A_houses i_fA_length i_B_tunes i_B_houses i_fB_length i_acts_done i_acts_undone i_kn_count f_boxes f_boxKept f_trial f_offers f_A_noteCounts f_A_notes f_B_noteCounts f_B_notes f_now_where f_now_worn f_ahead_where f_ahead_worn f_acts_rows f_kn_tunes f_kn_noteTimes J L) s.heap.size = A at hD ⊢
  have hA : ∀ q : Nat, s.heap.size ≤ q → A q := fun q h => by rw [← hAe]; exact Or.inr h
  have hS : va_S A s.heap s.heap [] := va_S.rf
  have hP : va_P (dC, dI) vwCl (WX r ct i_tapeLength i_time i_lyingCount i_rd_fault i_rd_token i_rd_kind i_sc_count i_sc_at i_A_tunes i_A_houses i_fA_length i_B_tunes i_B_houses i_fB_length i_acts_done i_acts_undone i_kn_count f_boxes f_boxKept f_trial f_offers f_A_noteCounts f_A_notes f_B_noteCounts f_B_notes f_now_where f_now_worn f_ahead_where f_ahead_worn f_acts_rows f_kn_tunes f_kn_noteTimes J L) s.heap := hP
  have hl := lv_entry ([.ref (r 0), .int p0, .int p1]) (n := 3) (Nat.le_of_ble_eq_true rfl)
  rw [lg_entry_eq]
  generalize (lg_sl ([.ref (r 0), .int p0, .int p1]) ++ List.replicate (3 - (lg_sl ([.ref (r 0), .int p0, .int p1])).length) Slot.unset).toArray = ls at hl ⊢
  have hl : lv_has ls 3 [(0, .ref (r 0)), (1, .int p0), (2, .int p1)] := hl
  refine nameQ (fun Q hQ => ?_)
  obtain ⟨ie0, ie1, ie2, ie3, ie4, ie5, ie6, ie7, ie8, ie9, ie10, ie11, ie12, ie13, ie14, ie15, ie16, ie17, ie18, ie19, ie20, ie21, ie22, ie23, ie24, ie25, ie26, ie27, ie28, ie29, ie30, ie31, ie32, ie33, ie34, ie35, ie36, ie37, ie38, ie39⟩ := id hI
  refine lv_iload_n hx hb dX8_sure_0 rfl (lv_at hl 1 rfl) ?_
  refine lv_if_lt (tgt := 24) hx hb dX8_sure_1 (by decide) (fun c_1 => ?_) (fun c_1 => ?_)
  · skip
    have f2 : p0.toInt < 0 := qi_lt c_1 rfl zc_0
    refine lv_iconst (v := (-1)) hx hb dX8_sure_24 (by decide) ?_
    rw [hQ]
    exact W.iret (v := (-1)) hx hb hr (fun t ht hW => ⟨⟨(-1), (-1), rfl, rfl, ⟨f_kn_noteTimes, J, by rw [ht]; exact hP, hD, hI⟩⟩, hS.F ht⟩) hS.2.2 dX8_sure_25
  · skip
    have f3 : 0 ≤ p0.toInt := qi_nlt c_1 rfl zc_0
    refine lv_iload_n hx hb dX8_sure_4 rfl (lv_at hl 1 rfl) ?_
    refine lv_iconst (v := 3) hx hb dX8_sure_5 (by decide) ?_
    refine lv_icmp_ge (tgt := 24) hx hb dX8_sure_6 (by decide) (fun c_4 => ?_) (fun c_4 => ?_)
    · skip
      have f5 : 3 ≤ p0.toInt := qi_le c_4 zc_3 rfl
      refine lv_iconst (v := (-1)) hx hb dX8_sure_24 (by decide) ?_
      rw [hQ]
      exact W.iret (v := (-1)) hx hb hr (fun t ht hW => ⟨⟨(-1), (-1), rfl, rfl, ⟨f_kn_noteTimes, J, by rw [ht]; exact hP, hD, hI⟩⟩, hS.F ht⟩) hS.2.2 dX8_sure_25
    · skip
      have f6 : p0.toInt < 3 := qi_nle c_4 zc_3 rfl
      refine lv_aload_n hx hb dX8_sure_9 rfl (lv_at hl 0 rfl) ?_
      refine gX_X8_55_0 hx hb hG hown hK hP dX8_sure_10 ?_
      refine lv_aload_n hx hb dX8_sure_13 rfl (lv_at hl 0 rfl) ?_
      refine gX_X8_23_0 hx hb hG hown hK hP dX8_sure_14 ?_
      refine lv_iload_n hx hb dX8_sure_17 rfl (lv_at hl 2 rfl) ?_
      have hFc := frA hD hS hA
      refine va_calli (va_runV (As := [.ref (r 3), .int p1]) (rest := []) ⟨hx, hb, hml, hown, hG⟩ (kX3_sift l dC dI r ct i_tapeLength i_time i_lyingCount i_rd_fault i_rd_token i_rd_kind i_sc_count i_sc_at i_A_tunes i_A_houses i_fA_length i_B_tunes i_B_houses i_fB_length i_acts_done i_acts_undone i_kn_count f_boxes f_boxKept f_trial f_offers f_A_noteCounts f_A_notes f_B_noteCounts f_B_notes f_now_where f_now_worn f_ahead_where f_ahead_worn f_acts_rows f_kn_tunes f_kn_noteTimes J L p1 s.heap.size hI) (cwV 2 hG (goodV gw1078 gw1079 gw1080 gw136 gw1081) rfl rfl rfl hd_X3_sift ⟨(Nat.le_of_ble_eq_true rfl), (Nat.le_of_ble_eq_true rfl)⟩) ⟨fbW, va_recv hK hP (ci := 2) (q0 := 10) rfl rfl, pW_in hP hK hD⟩ rfl rfl hl.1 rfl (lv_room (Nat.le_of_ble_eq_true rfl)) dX8_sure_18 ⟨(Nat.le_of_ble_eq_true rfl), (Nat.le_of_ble_eq_true rfl)⟩) hS (fun q _ h => hFc q h) hFc (fun r_8 u_ t_ H7 locs ht hvm hw hB hz1 hk1 hS => ?_)
      subst hw
      obtain ⟨z9, J10, hP1, hD1, hI12, f11⟩ := hB
      rw [ht] at hP1
      have hP := hP1
      have hD := dW hFc hD1
      obtain ⟨im13, im14, im15, im16, im17, im18, im19, im20, im21, im22, im23, im24, im25, im26, im27, im28, im29, im30, im31, im32, im33, im34, im35, im36, im37, im38, im39, im40, im41, im42, im43, im44, im45, im46, im47, im48, im49, im50, im51, im52⟩ := id hI12
      refine lv_if_ne (tgt := 26) hx hb dX8_sure_21 (by decide) (fun c_53 => ?_) (fun c_53 => ?_)
      · skip
        have f54 : r_8.toInt ≠ 0 := qi_ne c_53 rfl zc_0
        have f55 : i_A_houses.toInt ≠ (0 : Int) := (ox_690 f11 f54)
        have f56 : (1 : Int) ≤ i_A_houses.toInt := (ox_691 ie14 f55)
        refine lv_aload_n hx hb dX8_sure_26 rfl (lv_at hl 0 rfl) ?_
        refine gX_X8_55_0 hx hb hG hown hK hP dX8_sure_27 ?_
        refine lv_iload_n hx hb dX8_sure_30 rfl (lv_at hl 1 rfl) ?_
        refine va_calli (va_runV (As := [.int p0]) (rest := []) ⟨hx, hb, hml, hown, hG⟩ (kX3_commonNote l dC dI r ct i_tapeLength i_time i_lyingCount i_rd_fault i_rd_token i_rd_kind i_sc_count i_sc_at i_A_tunes i_A_houses i_fA_length i_B_tunes i_B_houses i_fB_length i_acts_done i_acts_undone i_kn_count f_boxes f_boxKept f_trial f_offers f_A_noteCounts f_A_notes f_B_noteCounts f_B_notes f_now_where f_now_worn f_ahead_where f_ahead_worn f_acts_rows f_kn_tunes z9 J10 L p0 H7.size hI12) (cwV 1 hG (goodV gw1118 gw1119 gw1120 gw136 gw1121) rfl rfl rfl hd_X3_commonNote ⟨(Nat.le_of_ble_eq_true rfl), (Nat.le_of_ble_eq_true rfl)⟩) ⟨fbR, va_recv hK hP (ci := 2) (q0 := 10) rfl rfl, pR_in hP hK⟩ rfl rfl hl.1 rfl (lv_room (Nat.le_of_ble_eq_true rfl)) dX8_sure_31 ⟨(Nat.le_of_ble_eq_true rfl), (Nat.le_of_ble_eq_true rfl)⟩) hS (fun q hq h => absurd hq (Nat.not_lt.mpr h)) (fun q h => hA q (Nat.le_trans hS.1 h)) (fun r_58 u_ t_ H57 locs ht hvm hw hB hz1 hk1 hS => ?_)
        subst hw
        have hP := wk hP hk1
        obtain ⟨f59, f60, f61⟩ := hB
        rw [hQ]
        exact W.iret (v := r_58) hx hb hr (fun t ht hW => ⟨⟨r_58, r_58, rfl, rfl, ⟨z9, J10, by rw [ht]; exact hP, hD, hI12⟩⟩, hS.F ht⟩) hS.2.2 dX8_sure_34
      · skip
        have f62 : r_8.toInt = 0 := qi_eq c_53 rfl zc_0
        refine lv_iconst (v := (-1)) hx hb dX8_sure_24 (by decide) ?_
        rw [hQ]
        exact W.iret (v := (-1)) hx hb hr (fun t ht hW => ⟨⟨(-1), (-1), rfl, rfl, ⟨z9, J10, by rw [ht]; exact hP, hD, hI12⟩⟩, hS.F ht⟩) hS.2.2 dX8_sure_25
set_option maxHeartbeats 4000000 in
set_option maxRecDepth 100000 in
theorem kX3_kindOf (l : Launch) (dC : Nat → ClassId) (dI : Nat → Nat → Nat) (r : Nat → Nat) (ct : Nat → ClassId) (i_tapeLength i_time i_lyingCount i_rd_fault i_rd_token i_rd_kind i_sc_count i_sc_at i_A_tunes i_A_houses i_fA_length i_B_tunes i_B_houses i_fB_length i_acts_done i_acts_undone i_kn_count : Int32) (f_boxes f_boxKept f_trial f_offers f_A_noteCounts f_A_notes f_B_noteCounts f_B_notes f_now_where f_now_worn f_ahead_where f_ahead_worn f_acts_rows f_kn_tunes f_kn_noteTimes : Nat → Int32) (J : Nat → Nat → Int32) (L : Nat → Nat → Int64) (p0 p1 : Int32) (sz : Nat) (hI : (IX i_tapeLength i_time i_lyingCount i_rd_token i_sc_count i_sc_at i_A_tunes i_A_houses i_fA_length i_B_tunes i_B_houses i_fB_length i_acts_done i_acts_undone i_kn_count f_boxes f_A_noteCounts f_A_notes f_B_noteCounts f_B_notes f_now_worn f_ahead_worn f_acts_rows f_kn_tunes)) (hp0 : (0 : Int) ≤ p1.toInt) (hp1 : p1.toInt ≤ (18 : Int)) : Met l yX3_kindOf (.code yX3_kindOf cX3_kindOf 4 (some .int) :: GW) { frames := 2, cells := 0, slots := 0, locals := 100 } (va_Pc [.ref (r 10), .int p0, .int p1] (pR (dC, dI) (WX r ct i_tapeLength i_time i_lyingCount i_rd_fault i_rd_token i_rd_kind i_sc_count i_sc_at i_A_tunes i_A_houses i_fA_length i_B_tunes i_B_houses i_fB_length i_acts_done i_acts_undone i_kn_count f_boxes f_boxKept f_trial f_offers f_A_noteCounts f_A_notes f_B_noteCounts f_B_notes f_now_where f_now_worn f_ahead_where f_ahead_worn f_acts_rows f_kn_tunes f_kn_noteTimes J L) (TX ct) sz)) (va_Qi (fun (r0 : Int32) (u : Int32) => r0 = u) (fun (u : Int32) (t : State) => (((u.toInt = p1.toInt)) ∨ (((0 : Int) ≤ u.toInt) ∧ (u.toInt ≤ (18 : Int)) ∧ (u.toInt + 1 ≤ p1.toInt))) ∧ ((0 : Int) ≤ u.toInt) ∧ (u.toInt ≤ (18 : Int))) (fun q => sz ≤ q)) 0 0 (fun q => sz ≤ q) := by
  refine Met.ofW (cc := cX3_kindOf) (maxL := 4) (ret := (some .int)) (by decide) rfl ?_
  intro p e s m args below meth c0 s₁ B hml hv
  obtain ⟨rfl, hsz, hP, hK⟩ := hv
  have hx := B.exec
  have hb := B.bytes
  have hr := B.returns
  have hts := atoms_spec (ws := .code yX3_kindOf cX3_kindOf 4 (some .int) :: GW) B.pre
  have hG : ∀ w ∈ GW, w.before _ s = true := fun w h => hts w (List.mem_cons_of_mem _ h)
  have hown : s.vm.findClass RX3 = some m.cls := findClass_of_methodNamed B.named
  subst hsz
  have hS : va_S (fun q => s.heap.size ≤ q) s.heap s.heap [] := va_S.rf
  have hP : va_P (dC, dI) vwCl (WX r ct i_tapeLength i_time i_lyingCount i_rd_fault i_rd_token i_rd_kind i_sc_count i_sc_at i_A_tunes i_A_houses i_fA_length i_B_tunes i_B_houses i_fB_length i_acts_done i_acts_undone i_kn_count f_boxes f_boxKept f_trial f_offers f_A_noteCounts f_A_notes f_B_noteCounts f_B_notes f_now_where f_now_worn f_ahead_where f_ahead_worn f_acts_rows f_kn_tunes f_kn_noteTimes J L) s.heap := hP
  have hl := lv_entry ([.ref (r 10), .int p0, .int p1]) (n := 4) (Nat.le_of_ble_eq_true rfl)
  rw [lg_entry_eq]
  generalize (lg_sl ([.ref (r 10), .int p0, .int p1]) ++ List.replicate (4 - (lg_sl ([.ref (r 10), .int p0, .int p1])).length) Slot.unset).toArray = ls at hl ⊢
  have hl : lv_has ls 4 [(0, .ref (r 10)), (1, .int p0), (2, .int p1)] := hl
  refine nameQ (fun Q hQ => ?_)
  obtain ⟨ie0, ie1, ie2, ie3, ie4, ie5, ie6, ie7, ie8, ie9, ie10, ie11, ie12, ie13, ie14, ie15, ie16, ie17, ie18, ie19, ie20, ie21, ie22, ie23, ie24, ie25, ie26, ie27, ie28, ie29, ie30, ie31, ie32, ie33, ie34, ie35, ie36, ie37, ie38, ie39⟩ := id hI
  refine lv_iconst (v := 0) hx hb dX3_kindOf_0 (by decide) ?_
  refine lv_istore_n (lv' := [(3, .int 0), (0, .ref (r 10)), (1, .int p0), (2, .int p1)]) hx hb dX3_kindOf_1 rfl hl (by decide) rfl (fun ls hl => ?_)
  have L2 : ∀ (N2 : Nat) (y2_3 : Int32) (H2 : Heap) (locs : List Loc) (ls : Array Slot) (g2_0 : (0 : Int) ≤ y2_3.toInt) (g2_1 : y2_3.toInt ≤ (18 : Int)) (hP : va_P (dC, dI) vwCl (WX r ct i_tapeLength i_time i_lyingCount i_rd_fault i_rd_token i_rd_kind i_sc_count i_sc_at i_A_tunes i_A_houses i_fA_length i_B_tunes i_B_houses i_fB_length i_acts_done i_acts_undone i_kn_count f_boxes f_boxKept f_trial f_offers f_A_noteCounts f_A_notes f_B_noteCounts f_B_notes f_now_where f_now_worn f_ahead_where f_ahead_worn f_acts_rows f_kn_tunes f_kn_noteTimes J L) H2) (hS : va_S (fun q => s.heap.size ≤ q) s.heap H2 locs) (hl : lv_has ls 4 [(0, .ref (r 10)), (1, .int p0), (2, .int p1), (3, .int y2_3)]) (hM : -1 * y2_3.toInt + 18 < (N2 : Int)), W p l e { frames := 2, cells := 0, slots := 0, locals := 100 } s m ([.ref (r 10), .int p0, .int p1] : List Value).toArray below meth c0 H2 locs 0 0 Q (F0 m 2 ls []) := by
    intro N2
    induction N2 with
    | zero =>
      intro y2_3 H2 locs ls g2_0 g2_1 hP hS hl hM
      exact ((ox_692 hM g2_0 g2_1)).elim
    | succ N2 ih2 =>
      intro y2_3 H2 locs ls g2_0 g2_1 hP hS hl hM
      have hM2 := msucc hM
      refine lv_iload_n hx hb dX3_kindOf_2 rfl (lv_at hl 3 rfl) ?_
      refine lv_iload_n hx hb dX3_kindOf_3 rfl (lv_at hl 2 rfl) ?_
      refine lv_icmp_ge (tgt := 25) hx hb dX3_kindOf_4 (by decide) (fun c_1 => ?_) (fun c_1 => ?_)
      · skip
        have f2 : p1.toInt ≤ y2_3.toInt := qi_le c_1 rfl rfl
        refine lv_iload_n hx hb dX3_kindOf_25 rfl (lv_at hl 2 rfl) ?_
        rw [hQ]
        exact W.iret (v := p1) hx hb hr (fun t ht hW => ⟨⟨p1, p1, rfl, rfl, ⟨(ox_693 hp0 hp1 f2), (ox_694 hp0 hp1 f2), (ox_695 hp0 hp1 f2)⟩⟩, hS.F ht⟩) hS.2.2 dX3_kindOf_26
      · skip
        have f3 : y2_3.toInt < p1.toInt := qi_nle c_1 rfl rfl
        refine lv_aload_n hx hb dX3_kindOf_7 rfl (lv_at hl 0 rfl) ?_
        refine gX_X3_43_10 hx hb hG hown hK hP dX3_kindOf_8 ?_
        refine lv_iload_n hx hb dX3_kindOf_11 rfl (lv_at hl 3 rfl) ?_
        refine ldX_62 (mm := y2_3.toInt) hx hb hK hP rfl (ox_9 g2_0) (ox_696 hp1 f3) dX3_kindOf_12 (fun x4 => ?_)
        refine lv_iload_n hx hb dX3_kindOf_13 rfl (lv_at hl 1 rfl) ?_
        refine lv_icmp_ne (tgt := 19) hx hb dX3_kindOf_14 (by decide) (fun c_5 => ?_) (fun c_5 => ?_)
        · skip
          have f6 : x4.toInt ≠ p0.toInt := qi_ne c_5 rfl rfl
          obtain ⟨x7, ex7⟩ : ∃ y : Int32, y = y2_3 + Int32.ofInt 1 := ⟨_, rfl⟩
          have f8 : x7.toInt = y2_3.toInt + 1 := (ox_13 (qi_add ex7 rfl (by decide) (ox_11 g2_0) (ox_697 g2_1)))
          refine lv_iinc (v := x7) (lv' := [(3, .int x7), (0, .ref (r 10)), (1, .int p0), (2, .int p1)]) hx hb dX3_kindOf_19 hl (k := 3) rfl ex7.symm (by decide) rfl (fun ls hl => ?_)
          refine lv_goto (tgt := 2) hx hb dX3_kindOf_22 (by decide) ?_
          exact ih2 x7 H2 _ _ (ox_14 g2_0 f8) (ox_698 hp1 f3 f8) hP hS (lv_sub hl [1, 2, 3, 0] rfl) (ox_699 hM2 f8)
        · skip
          have f9 : x4.toInt = p0.toInt := qi_eq c_5 rfl rfl
          refine lv_iload_n hx hb dX3_kindOf_17 rfl (lv_at hl 3 rfl) ?_
          rw [hQ]
          exact W.iret (v := y2_3) hx hb hr (fun t ht hW => ⟨⟨y2_3, y2_3, rfl, rfl, ⟨(ox_700 hp1 g2_0 f3), (ox_6 g2_0), (ox_701 g2_1)⟩⟩, hS.F ht⟩) hS.2.2 dX3_kindOf_18
  exact L2 (-1 * (0 : Int32).toInt + 18 + 1).toNat 0 s.heap _ _ (ox_27 zc_0) (ox_702 zc_0) hP hS (lv_sub hl [1, 2, 3, 0] rfl) (mlt (ox_703 zc_0))
