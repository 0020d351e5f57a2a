set_option maxHeartbeats 4000000 in
set_option maxRecDepth 100000 in
theorem kX6_scanToken (l : Launch) (dC : Nat → ClassId) (dI : Nat → Nat → Nat) (r : Nat → Nat) (ct : Nat → ClassId) (i_tapeLength i_time i_lyingCount i_rd_fault i_rd_token i_rd_kind i_sc_count i_sc_at i_A_tunes i_A_houses i_fA_length i_B_tunes i_B_houses i_fB_length i_acts_done i_acts_undone i_kn_count : Int32) (f_boxes f_boxKept f_trial f_offers f_A_noteCounts f_A_notes f_B_noteCounts f_B_notes f_now_where f_now_worn f_ahead_where f_ahead_worn f_acts_rows f_kn_tunes f_kn_noteTimes : Nat → Int32) (J : Nat → Nat → Int32) (L : Nat → Nat → Int64) (p1 : Int32) (adK adV : Nat) (fS : Nat → Int32) (sz : Nat) (hI : (IX i_tapeLength i_time i_lyingCount i_rd_token i_sc_count i_sc_at i_A_tunes i_A_houses i_fA_length i_B_tunes i_B_houses i_fB_length i_acts_done i_acts_undone i_kn_count f_boxes f_A_noteCounts f_A_notes f_B_noteCounts f_B_notes f_now_worn f_ahead_worn f_acts_rows f_kn_tunes)) (hp0 : i_sc_count.toInt ≤ (1600 : Int)) (hp1 : p1.toInt ≤ (1600 : Int)) : Met l yX6_scanToken (.code yX6_scanToken cX6_scanToken 4 (some .int) :: GW) { frames := 14, cells := 0, slots := 0, locals := 476 } (va_Pc [.ref (r 2), .ref (r 11), .int p1] (pS (dC, dI) (WX r ct i_tapeLength i_time i_lyingCount i_rd_fault i_rd_token i_rd_kind i_sc_count i_sc_at i_A_tunes i_A_houses i_fA_length i_B_tunes i_B_houses i_fB_length i_acts_done i_acts_undone i_kn_count f_boxes f_boxKept f_trial f_offers f_A_noteCounts f_A_notes f_B_noteCounts f_B_notes f_now_where f_now_worn f_ahead_where f_ahead_worn f_acts_rows f_kn_tunes f_kn_noteTimes J L) (TX ct) sz adK adV fS)) (va_Qi (fun (r0 : Int32) (u : Int32) => r0 = u) (fun (u : Int32) (t : State) => ∃ (n_i_sc_at : Int32) (n_J : Nat → Nat → Int32) (n_L : Nat → Nat → Int64), va_P (dC, dI) vwCl (WX r ct i_tapeLength i_time i_lyingCount i_rd_fault i_rd_token i_rd_kind i_sc_count n_i_sc_at i_A_tunes i_A_houses i_fA_length i_B_tunes i_B_houses i_fB_length i_acts_done i_acts_undone i_kn_count f_boxes f_boxKept f_trial f_offers f_A_noteCounts f_A_notes f_B_noteCounts f_B_notes f_now_where f_now_worn f_ahead_where f_ahead_worn f_acts_rows f_kn_tunes f_kn_noteTimes n_J n_L) t.heap ∧ va_D (va_A (WX r ct i_tapeLength i_time i_lyingCount i_rd_fault i_rd_token i_rd_kind i_sc_count i_sc_at i_A_tunes i_A_houses i_fA_length i_B_tunes i_B_houses i_fB_length i_acts_done i_acts_undone i_kn_count f_boxes f_boxKept f_trial f_offers f_A_noteCounts f_A_notes f_B_noteCounts f_B_notes f_now_where f_now_worn f_ahead_where f_ahead_worn f_acts_rows f_kn_tunes f_kn_noteTimes J L) sz) (WX r ct i_tapeLength i_time i_lyingCount i_rd_fault i_rd_token i_rd_kind i_sc_count n_i_sc_at i_A_tunes i_A_houses i_fA_length i_B_tunes i_B_houses i_fB_length i_acts_done i_acts_undone i_kn_count f_boxes f_boxKept f_trial f_offers f_A_noteCounts f_A_notes f_B_noteCounts f_B_notes f_now_where f_now_worn f_ahead_where f_ahead_worn f_acts_rows f_kn_tunes f_kn_noteTimes n_J n_L) ∧ (IX i_tapeLength i_time i_lyingCount i_rd_token i_sc_count n_i_sc_at i_A_tunes i_A_houses i_fA_length i_B_tunes i_B_houses i_fB_length i_acts_done i_acts_undone i_kn_count f_boxes f_A_noteCounts f_A_notes f_B_noteCounts f_B_notes f_now_worn f_ahead_worn f_acts_rows f_kn_tunes)) (va_A (WX r ct i_tapeLength i_time i_lyingCount i_rd_fault i_rd_token i_rd_kind i_sc_count i_sc_at i_A_tunes i_A_houses i_fA_length i_B_tunes i_B_houses i_fB_length i_acts_done i_acts_undone i_kn_count f_boxes f_boxKept f_trial f_offers f_A_noteCounts f_A_notes f_B_noteCounts f_B_notes f_now_where f_now_worn f_ahead_where f_ahead_worn f_acts_rows f_kn_tunes f_kn_noteTimes J L) sz)) 0 0 (va_A (WX r ct i_tapeLength i_time i_lyingCount i_rd_fault i_rd_token i_rd_kind i_sc_count i_sc_at i_A_tunes i_A_houses i_fA_length i_B_tunes i_B_houses i_fB_length i_acts_done i_acts_undone i_kn_count f_boxes f_boxKept f_trial f_offers f_A_noteCounts f_A_notes f_B_noteCounts f_B_notes f_now_where f_now_worn f_ahead_where f_ahead_worn f_acts_rows f_kn_tunes f_kn_noteTimes J L) sz) := by
  refine Met.ofW (cc := cX6_scanToken) (maxL := 4) (ret := (some .int)) (by decide) rfl ?_
  intro p e s m args below meth c0 s₁ B hml hv
  obtain ⟨rfl, hsz, hP, hK, hD0, hZ⟩ := hv
  have hx := B.exec
  have hb := B.bytes
  have hr := B.returns
  have hts := atoms_spec (ws := .code yX6_scanToken cX6_scanToken 4 (some .int) :: GW) B.pre
  have hG : ∀ w ∈ GW, w.before _ s = true := fun w h => hts w (List.mem_cons_of_mem _ h)
  have hown : s.vm.findClass RX6 = some m.cls := findClass_of_methodNamed B.named
  subst hsz
  have hD := hD0.self (sz := s.heap.size)
  generalize hAe : va_A (WX r ct i_tapeLength i_time i_lyingCount i_rd_fault i_rd_token i_rd_kind i_sc_count i_sc_at i_A_tunes i_A_houses i_fA_length i_B_tunes i_B_houses i_fB_length i_acts_done i_acts_undone i_kn_count f_boxes f_boxKept f_trial f_offers f_A_noteCounts f_A_notes f_B_noteCounts f_B_notes f_now_where f_now_worn f_ahead_where f_ahead_worn f_acts_rows f_kn_tunes f_kn_noteTimes J L) s.heap.size = A at hD hZ ⊢
  have hA : ∀ q : Nat, s.heap.size ≤ q → A q := fun q h => by rw [← hAe]; exact Or.inr h
  have hS : va_S A s.heap s.heap [] := va_S.rf
  have hP : va_P (dC, dI) vwCl (WX r ct i_tapeLength i_time i_lyingCount i_rd_fault i_rd_token i_rd_kind i_sc_count i_sc_at i_A_tunes i_A_houses i_fA_length i_B_tunes i_B_houses i_fB_length i_acts_done i_acts_undone i_kn_count f_boxes f_boxKept f_trial f_offers f_A_noteCounts f_A_notes f_B_noteCounts f_B_notes f_now_where f_now_worn f_ahead_where f_ahead_worn f_acts_rows f_kn_tunes f_kn_noteTimes J L) s.heap := hP
  have hl := lv_entry ([.ref (r 2), .ref (r 11), .int p1]) (n := 4) (Nat.le_of_ble_eq_true rfl)
  rw [lg_entry_eq]
  generalize (lg_sl ([.ref (r 2), .ref (r 11), .int p1]) ++ List.replicate (4 - (lg_sl ([.ref (r 2), .ref (r 11), .int p1])).length) Slot.unset).toArray = ls at hl ⊢
  have hl : lv_has ls 4 [(0, .ref (r 2)), (1, .ref (r 11)), (2, .int p1)] := hl
  refine nameQ (fun Q hQ => ?_)
  obtain ⟨ie0, ie1, ie2, ie3, ie4, ie5, ie6, ie7, ie8, ie9, ie10, ie11, ie12, ie13, ie14, ie15, ie16, ie17, ie18, ie19, ie20, ie21, ie22, ie23, ie24, ie25, ie26, ie27, ie28, ie29, ie30, ie31, ie32, ie33, ie34, ie35, ie36, ie37, ie38, ie39⟩ := id hI
  refine lv_iconst (v := 0) hx hb dX6_scanToken_0 (by decide) ?_
  refine lv_istore_n (lv' := [(3, .int 0), (0, .ref (r 2)), (1, .ref (r 11)), (2, .int p1)]) hx hb dX6_scanToken_1 rfl hl (by decide) rfl (fun ls hl => ?_)
  have L2 : ∀ (N2 : Nat) (y2_3 : Int32) (m2_i_sc_at : Int32) (H2 : Heap) (locs : List Loc) (ls : Array Slot) (g2_0 : (0 : Int) ≤ y2_3.toInt) (g2_1 : y2_3.toInt ≤ (1600 : Int)) (g2_2 : (0 : Int) ≤ m2_i_sc_at.toInt) (g2_3 : m2_i_sc_at.toInt ≤ (1600 : Int)) (gi2_i_sc_at_lo : (0 : Int) ≤ m2_i_sc_at.toInt) (gi2_i_sc_at_hi : m2_i_sc_at.toInt ≤ (1600 : Int)) (hP : va_P (dC, dI) vwCl (WX r ct i_tapeLength i_time i_lyingCount i_rd_fault i_rd_token i_rd_kind i_sc_count m2_i_sc_at i_A_tunes i_A_houses i_fA_length i_B_tunes i_B_houses i_fB_length i_acts_done i_acts_undone i_kn_count f_boxes f_boxKept f_trial f_offers f_A_noteCounts f_A_notes f_B_noteCounts f_B_notes f_now_where f_now_worn f_ahead_where f_ahead_worn f_acts_rows f_kn_tunes f_kn_noteTimes J L) H2) (hD : va_D A (WX r ct i_tapeLength i_time i_lyingCount i_rd_fault i_rd_token i_rd_kind i_sc_count m2_i_sc_at i_A_tunes i_A_houses i_fA_length i_B_tunes i_B_houses i_fB_length i_acts_done i_acts_undone i_kn_count f_boxes f_boxKept f_trial f_offers f_A_noteCounts f_A_notes f_B_noteCounts f_B_notes f_now_where f_now_worn f_ahead_where f_ahead_worn f_acts_rows f_kn_tunes f_kn_noteTimes J L)) (hS : va_S A s.heap H2 locs) (hl : lv_has ls 4 [(0, .ref (r 2)), (1, .ref (r 11)), (2, .int p1), (3, .int y2_3)]) (hM : -1 * y2_3.toInt + 1600 < (N2 : Int)), W p l e { frames := 14, cells := 0, slots := 0, locals := 476 } s m ([.ref (r 2), .ref (r 11), .int p1] : List Value).toArray below meth c0 H2 locs 0 0 Q (F0 m 2 ls []) := by
    intro N2
    induction N2 with
    | zero =>
      intro y2_3 m2_i_sc_at H2 locs ls g2_0 g2_1 g2_2 g2_3 gi2_i_sc_at_lo gi2_i_sc_at_hi hP hD hS hl hM
      exact ((ox_794 hM g2_0 g2_1)).elim
    | succ N2 ih2 =>
      intro y2_3 m2_i_sc_at H2 locs ls g2_0 g2_1 g2_2 g2_3 gi2_i_sc_at_lo gi2_i_sc_at_hi hP hD hS hl hM
      have hM2 := msucc hM
      refine lv_iload_n hx hb dX6_scanToken_2 rfl (lv_at hl 3 rfl) ?_
      refine lv_sipush (v := 1600) hx hb dX6_scanToken_3 (by decide) ?_
      refine lv_icmp_ge (tgt := 55) hx hb dX6_scanToken_6 (by decide) (fun c_1 => ?_) (fun c_1 => ?_)
      · skip
        have f2 : 1600 ≤ y2_3.toInt := qi_le c_1 zc_1600 rfl
        refine lv_aload_n hx hb dX6_scanToken_55 rfl (lv_at hl 0 rfl) ?_
        refine gX_X6_15_2 hx hb hG hown hK hP dX6_scanToken_56 ?_
        refine lv_aload_n hx hb dX6_scanToken_59 rfl (lv_at hl 0 rfl) ?_
        refine gX_X6_22_2 hx hb hG hown hK hP dX6_scanToken_60 ?_
        refine lv_aload_n hx hb dX6_scanToken_63 rfl (lv_at hl 0 rfl) ?_
        refine gX_X6_26_2 hx hb hG hown hK hP dX6_scanToken_64 ?_
        refine stX_21 (mm := i_sc_count.toInt) hx hb hK hP hD hS rfl (ox_795 ie8 ie9 hp0) (ox_796 ie8 ie9 hp0) dX6_scanToken_67 (fun J4 H3 locs hP hD hS => ?_)
        refine lv_aload_n hx hb dX6_scanToken_68 rfl (lv_at hl 0 rfl) ?_
        refine gX_X6_26_2 hx hb hG hown hK hP dX6_scanToken_69 ?_
        refine lv_iload_n hx hb dX6_scanToken_72 rfl (lv_at hl 2 rfl) ?_
        refine lv_icmp_lt (tgt := 78) hx hb dX6_scanToken_73 (by decide) (fun c_5 => ?_) (fun c_5 => ?_)
        · skip
          have f6 : m2_i_sc_at.toInt < p1.toInt := qi_lt c_5 rfl rfl
          refine lv_aload_n hx hb dX6_scanToken_78 rfl (lv_at hl 1 rfl) ?_
          refine lv_aload_n hx hb dX6_scanToken_79 rfl (lv_at hl 0 rfl) ?_
          refine gX_X6_26_2 hx hb hG hown hK hP dX6_scanToken_80 ?_
          refine ldX_11 (mm := m2_i_sc_at.toInt) hx hb hK hP rfl (ox_9 g2_2) (ox_800 hp1 f6) dX6_scanToken_83 (fun x7 => ?_)
          refine lv_istore_n (lv' := [(3, .int x7), (0, .ref (r 2)), (1, .ref (r 11)), (2, .int p1)]) hx hb dX6_scanToken_84 rfl hl (by decide) rfl (fun ls hl => ?_)
          refine lv_iload_n hx hb dX6_scanToken_85 rfl (lv_at hl 0 rfl) ?_
          refine va_calli (va_runS (As := [.int x7]) (rest := []) ⟨hx, hb, hml, hown, hG⟩ (kX6_isLetter l dC dI x7 H3.size) (va_cwS 1 hG (goodS gw548 gw549 gw131 gw550) rfl rfl rfl hd_X6_isLetter ⟨(Nat.le_of_ble_eq_true rfl), (Nat.le_of_ble_eq_true rfl)⟩) ⟨fbR, pR_in emptyP (emptyK hK)⟩ rfl rfl hl.1 rfl (lv_room (Nat.le_of_ble_eq_true rfl)) dX6_scanToken_86 ⟨(Nat.le_of_ble_eq_true rfl), (Nat.le_of_ble_eq_true rfl)⟩) hS (fun q hq h => absurd hq (Nat.not_lt.mpr h)) (fun q h => hA q (Nat.le_trans hS.1 h)) (fun r_9 u_ t_ H8 locs ht hvm hw hB hz1 hk1 hS => ?_)
          subst hw
          have hP := wk hP hk1
          obtain ⟨f10, f11, f12⟩ := hB
          refine lv_if_eq (tgt := 99) hx hb dX6_scanToken_89 (by decide) (fun c_13 => ?_) (fun c_13 => ?_)
          · skip
            have f14 : r_9.toInt = 0 := qi_eq c_13 rfl zc_0
            refine lv_iload_n hx hb dX6_scanToken_99 rfl (lv_at hl 0 rfl) ?_
            refine va_calli (va_runS (As := [.int x7]) (rest := []) ⟨hx, hb, hml, hown, hG⟩ (kX6_isDigit l dC dI x7 H8.size) (va_cwS 1 hG (goodS gw602 gw603 gw131 gw604) rfl rfl rfl hd_X6_isDigit ⟨(Nat.le_of_ble_eq_true rfl), (Nat.le_of_ble_eq_true rfl)⟩) ⟨fbR, pR_in emptyP (emptyK hK)⟩ rfl rfl hl.1 rfl (lv_room (Nat.le_of_ble_eq_true rfl)) dX6_scanToken_100 ⟨(Nat.le_of_ble_eq_true rfl), (Nat.le_of_ble_eq_true rfl)⟩) hS (fun q hq h => absurd hq (Nat.not_lt.mpr h)) (fun q h => hA q (Nat.le_trans hS.1 h)) (fun r_16 u_ t_ H15 locs ht hvm hw hB hz1 hk1 hS => ?_)
            subst hw
            have hP := wk hP hk1
            obtain ⟨f17, f18, f19⟩ := hB
            refine lv_if_eq (tgt := 113) hx hb dX6_scanToken_103 (by decide) (fun c_20 => ?_) (fun c_20 => ?_)
            · skip
              have f21 : r_16.toInt = 0 := qi_eq c_20 rfl zc_0
              refine lv_aload_n hx hb dX6_scanToken_113 rfl (lv_at hl 1 rfl) ?_
              refine lv_dup hx hb dX6_scanToken_114 rfl ?_
              refine gX_X6_26_2 hx hb hG hown hK hP dX6_scanToken_115 ?_
              refine lv_iconst (v := 1) hx hb dX6_scanToken_118 (by decide) ?_
              refine lv_iadd hx hb dX6_scanToken_119 ?_
              refine lv_topi (fun x22 ex22 => ?_)
              have f23 : x22.toInt = m2_i_sc_at.toInt + 1 := (ox_13 (qi_add ex22 rfl zc_1 (ox_11 g2_2) (ox_12 g2_3)))
              refine pX_X6_26_2 hx hb hG hown hK hP hD hS dX6_scanToken_120 (fun H24 locs hP hD hS => ?_)
              refine lv_iload_n hx hb dX6_scanToken_123 rfl (lv_at hl 0 rfl) ?_
              refine va_calli (va_runS (As := [.int x7]) (rest := []) ⟨hx, hb, hml, hown, hG⟩ (kX6_isSign l dC dI x7 H24.size) (va_cwS 1 hG (goodS gw609 gw610 gw131 gw611) rfl rfl rfl hd_X6_isSign ⟨(Nat.le_of_ble_eq_true rfl), (Nat.le_of_ble_eq_true rfl)⟩) ⟨fbR, pR_in emptyP (emptyK hK)⟩ rfl rfl hl.1 rfl (lv_room (Nat.le_of_ble_eq_true rfl)) dX6_scanToken_124 ⟨(Nat.le_of_ble_eq_true rfl), (Nat.le_of_ble_eq_true rfl)⟩) hS (fun q hq h => absurd hq (Nat.not_lt.mpr h)) (fun q h => hA q (Nat.le_trans hS.1 h)) (fun r_26 u_ t_ H25 locs ht hvm hw hB hz1 hk1 hS => ?_)
              subst hw
              have hP := wk hP hk1
              obtain ⟨f27, f28, f29⟩ := hB
              refine lv_if_eq (tgt := 134) hx hb dX6_scanToken_127 (by decide) (fun c_30 => ?_) (fun c_30 => ?_)
              · skip
                have f31 : r_26.toInt = 0 := qi_eq c_30 rfl zc_0
                have f32 : x7.toInt ≠ (59 : Int) := (ox_848 f27 f31)
                have f33 : x7.toInt ≠ (40 : Int) := (ox_849 f27 f31)
                have f34 : x7.toInt ≠ (41 : Int) := (ox_850 f27 f31)
                have f35 : r_26.toInt = (0 : Int) := (ox_92 f28 f29 f31)
                refine lv_iconst (v := 0) hx hb dX6_scanToken_134 (by decide) ?_
                rw [hQ]
                exact W.iret (v := 0) hx hb hr (fun t ht hW => ⟨⟨0, 0, rfl, rfl, ⟨x22, J4, L, by rw [ht]; exact hP, hD, ⟨ie0, ie1, ie2, ie3, ie4, ie5, ie6, ie7, ie8, ie9, (ox_14 g2_2 f23), (ox_809 hp1 f6 f23), ie12, ie13, ie14, ie15, ie16, ie17, ie18, ie19, ie20, ie21, ie22, ie23, ie24, ie25, ie26, ie27, ie28, ie29, ie30, ie31, ie32, ie33, ie34, ie35, ie36, ie37, ie38, ie39⟩⟩⟩, hS.F ht⟩) hS.2.2 dX6_scanToken_135
              · skip
                have f36 : r_26.toInt ≠ 0 := qi_ne c_30 rfl zc_0
                have f37 : (1 : Int) ≤ r_26.toInt := (ox_851 f27 f36)
                refine lv_iload_n hx hb dX6_scanToken_130 rfl (lv_at hl 0 rfl) ?_
                refine lv_goto (tgt := 135) hx hb dX6_scanToken_131 (by decide) ?_
                rw [hQ]
                exact W.iret (v := x7) hx hb hr (fun t ht hW => ⟨⟨x7, x7, rfl, rfl, ⟨x22, J4, L, by rw [ht]; exact hP, hD, ⟨ie0, ie1, ie2, ie3, ie4, ie5, ie6, ie7, ie8, ie9, (ox_14 g2_2 f23), (ox_809 hp1 f6 f23), ie12, ie13, ie14, ie15, ie16, ie17, ie18, ie19, ie20, ie21, ie22, ie23, ie24, ie25, ie26, ie27, ie28, ie29, ie30, ie31, ie32, ie33, ie34, ie35, ie36, ie37, ie38, ie39⟩⟩⟩, hS.F ht⟩) hS.2.2 dX6_scanToken_135
            · skip
              have f38 : r_16.toInt ≠ 0 := qi_ne c_20 rfl zc_0
              have f39 : (48 : Int) ≤ x7.toInt := (ox_806 f17 f38)
              have f40 : x7.toInt ≤ (57 : Int) := (ox_807 f17 f38)
              have f41 : r_16.toInt = (1 : Int) := (ox_808 f17 f38)
              have f42 : (1 : Int) ≤ r_16.toInt := (ox_53 f18 f19 f41)
              refine lv_aload_n hx hb dX6_scanToken_106 rfl (lv_at hl 1 rfl) ?_
              refine lv_aload_n hx hb dX6_scanToken_107 rfl (lv_at hl 2 rfl) ?_
              refine lv_iload_n hx hb dX6_scanToken_108 rfl (lv_at hl 3 rfl) ?_
              have hFc := frA hD hS hA
              refine va_calli (va_runV (As := [.ref (r 11), .int p1]) (rest := []) ⟨hx, hb, hml, hown, hG⟩ (kX6_scanNumber l dC dI r ct i_tapeLength i_time i_lyingCount i_rd_fault i_rd_token i_rd_kind i_sc_count m2_i_sc_at i_A_tunes i_A_houses i_fA_length i_B_tunes i_B_houses i_fB_length i_acts_done i_acts_undone i_kn_count f_boxes f_boxKept f_trial f_offers f_A_noteCounts f_A_notes f_B_noteCounts f_B_notes f_now_where f_now_worn f_ahead_where f_ahead_worn f_acts_rows f_kn_tunes f_kn_noteTimes J4 L p1 H15.size ⟨ie0, ie1, ie2, ie3, ie4, ie5, ie6, ie7, ie8, ie9, gi2_i_sc_at_lo, gi2_i_sc_at_hi, ie12, ie13, ie14, ie15, ie16, ie17, ie18, ie19, ie20, ie21, ie22, ie23, ie24, ie25, ie26, ie27, ie28, ie29, ie30, ie31, ie32, ie33, ie34, ie35, ie36, ie37, ie38, ie39⟩ (ox_852 ie8 ie9 hp0) (ox_853 hp1 f6)) (cwV 2 hG (goodV gw605 gw607 gw6 gw131 gw608) rfl rfl rfl hd_X6_scanNumber ⟨(Nat.le_of_ble_eq_true rfl), (Nat.le_of_ble_eq_true rfl)⟩) ⟨fbW, va_recv hK hP (ci := 5) (q0 := 2) rfl rfl, pW_in hP hK hD⟩ rfl rfl hl.1 rfl (lv_room (Nat.le_of_ble_eq_true rfl)) dX6_scanToken_109 ⟨(Nat.le_of_ble_eq_true rfl), (Nat.le_of_ble_eq_true rfl)⟩) hS (fun q _ h => hFc q h) hFc (fun r_44 u_ t_ H43 locs ht hvm hw hB hz1 hk1 hS => ?_)
              subst hw
              obtain ⟨x45, L46, hP1, hD1, hI47⟩ := hB
              rw [ht] at hP1
              have hP := hP1
              have hD := dW hFc hD1
              obtain ⟨im48, im49, im50, im51, im52, im53, im54, im55, im56, im57, im58, im59, im60, im61, im62, im63, im64, im65, im66, im67, im68, im69, im70, im71, im72, im73, im74, im75, im76, im77, im78, im79, im80, im81, im82, im83, im84, im85, im86, im87⟩ := id hI47
              rw [hQ]
              exact W.iret (v := r_44) hx hb hr (fun t ht hW => ⟨⟨r_44, r_44, rfl, rfl, ⟨x45, J4, L46, by rw [ht]; exact hP, hD, hI47⟩⟩, hS.F ht⟩) hS.2.2 dX6_scanToken_112
          · skip
            have f88 : r_9.toInt ≠ 0 := qi_ne c_13 rfl zc_0
            have f89 : (97 : Int) ≤ x7.toInt := (ox_801 f10 f88)
            have f90 : x7.toInt ≤ (122 : Int) := (ox_802 f10 f88)
            have f91 : r_9.toInt = (1 : Int) := (ox_803 f10 f88)
            have f92 : (1 : Int) ≤ r_9.toInt := (ox_53 f11 f12 f91)
            refine lv_aload_n hx hb dX6_scanToken_92 rfl (lv_at hl 1 rfl) ?_
            refine lv_aload_n hx hb dX6_scanToken_93 rfl (lv_at hl 2 rfl) ?_
            refine lv_iload_n hx hb dX6_scanToken_94 rfl (lv_at hl 3 rfl) ?_
            have hFc := frA hD hS hA
            refine va_calli (va_runV (As := [.ref (r 11), .int p1]) (rest := []) ⟨hx, hb, hml, hown, hG⟩ (kX6_scanWord l dC dI r ct i_tapeLength i_time i_lyingCount i_rd_fault i_rd_token i_rd_kind i_sc_count m2_i_sc_at i_A_tunes i_A_houses i_fA_length i_B_tunes i_B_houses i_fB_length i_acts_done i_acts_undone i_kn_count f_boxes f_boxKept f_trial f_offers f_A_noteCounts f_A_notes f_B_noteCounts f_B_notes f_now_where f_now_worn f_ahead_where f_ahead_worn f_acts_rows f_kn_tunes f_kn_noteTimes J4 L p1 adK adV fS H8.size ⟨ie0, ie1, ie2, ie3, ie4, ie5, ie6, ie7, ie8, ie9, gi2_i_sc_at_lo, gi2_i_sc_at_hi, ie12, ie13, ie14, ie15, ie16, ie17, ie18, ie19, ie20, ie21, ie22, ie23, ie24, ie25, ie26, ie27, ie28, ie29, ie30, ie31, ie32, ie33, ie34, ie35, ie36, ie37, ie38, ie39⟩ (ox_852 ie8 ie9 hp0) (ox_853 hp1 f6)) (cwV 2 hG (goodV gw551 gw553 gw4 gw131 gw554) rfl rfl rfl hd_X6_scanWord ⟨(Nat.le_of_ble_eq_true rfl), (Nat.le_of_ble_eq_true rfl)⟩) ⟨fbS, va_recv hK hP (ci := 5) (q0 := 2) rfl rfl, pS_in hP hK hD hZ hS hFc⟩ rfl rfl hl.1 rfl (lv_room (Nat.le_of_ble_eq_true rfl)) dX6_scanToken_95 ⟨(Nat.le_of_ble_eq_true rfl), (Nat.le_of_ble_eq_true rfl)⟩) hS (fun q _ h => hFc q h) hFc (fun r_94 u_ t_ H93 locs ht hvm hw hB hz1 hk1 hS => ?_)
            subst hw
            obtain ⟨x95, J96, L97, hP1, hD1, hI98⟩ := hB
            rw [ht] at hP1
            have hP := hP1
            have hD := dW hFc hD1
            obtain ⟨im99, im100, im101, im102, im103, im104, im105, im106, im107, im108, im109, im110, im111, im112, im113, im114, im115, im116, im117, im118, im119, im120, im121, im122, im123, im124, im125, im126, im127, im128, im129, im130, im131, im132, im133, im134, im135, im136, im137, im138⟩ := id hI98
            rw [hQ]
            exact W.iret (v := r_94) hx hb hr (fun t ht hW => ⟨⟨r_94, r_94, rfl, rfl, ⟨x95, J96, L97, by rw [ht]; exact hP, hD, hI98⟩⟩, hS.F ht⟩) hS.2.2 dX6_scanToken_98
        · skip
          have f139 : p1.toInt ≤ m2_i_sc_at.toInt := qi_nlt c_5 rfl rfl
          refine lv_iconst (v := 1) hx hb dX6_scanToken_76 (by decide) ?_
          rw [hQ]
          exact W.iret (v := 1) hx hb hr (fun t ht hW => ⟨⟨1, 1, rfl, rfl, ⟨m2_i_sc_at, J4, L, by rw [ht]; exact hP, hD, ⟨ie0, ie1, ie2, ie3, ie4, ie5, ie6, ie7, ie8, ie9, gi2_i_sc_at_lo, gi2_i_sc_at_hi, ie12, ie13, ie14, ie15, ie16, ie17, ie18, ie19, ie20, ie21, ie22, ie23, ie24, ie25, ie26, ie27, ie28, ie29, ie30, ie31, ie32, ie33, ie34, ie35, ie36, ie37, ie38, ie39⟩⟩⟩, hS.F ht⟩) hS.2.2 dX6_scanToken_77
      · skip
        have f140 : y2_3.toInt < 1600 := qi_nle c_1 zc_1600 rfl
        refine lv_aload_n hx hb dX6_scanToken_9 rfl (lv_at hl 0 rfl) ?_
        refine gX_X6_26_2 hx hb hG hown hK hP dX6_scanToken_10 ?_
        refine lv_iload_n hx hb dX6_scanToken_13 rfl (lv_at hl 2 rfl) ?_
        refine lv_icmp_ge (tgt := 55) hx hb dX6_scanToken_14 (by decide) (fun c_141 => ?_) (fun c_141 => ?_)
        · skip
          have f142 : p1.toInt ≤ m2_i_sc_at.toInt := qi_le c_141 rfl rfl
          refine lv_aload_n hx hb dX6_scanToken_55 rfl (lv_at hl 0 rfl) ?_
          refine gX_X6_15_2 hx hb hG hown hK hP dX6_scanToken_56 ?_
          refine lv_aload_n hx hb dX6_scanToken_59 rfl (lv_at hl 0 rfl) ?_
          refine gX_X6_22_2 hx hb hG hown hK hP dX6_scanToken_60 ?_
          refine lv_aload_n hx hb dX6_scanToken_63 rfl (lv_at hl 0 rfl) ?_
          refine gX_X6_26_2 hx hb hG hown hK hP dX6_scanToken_64 ?_
          refine stX_21 (mm := i_sc_count.toInt) hx hb hK hP hD hS rfl (ox_795 ie8 ie9 hp0) (ox_796 ie8 ie9 hp0) dX6_scanToken_67 (fun J144 H143 locs hP hD hS => ?_)
          refine lv_aload_n hx hb dX6_scanToken_68 rfl (lv_at hl 0 rfl) ?_
          refine gX_X6_26_2 hx hb hG hown hK hP dX6_scanToken_69 ?_
          refine lv_iload_n hx hb dX6_scanToken_72 rfl (lv_at hl 2 rfl) ?_
          refine lv_icmp_lt (tgt := 78) hx hb dX6_scanToken_73 (by decide) (fun c_145 => ((ox_854 (qi_lt c_145 rfl rfl) f142)).elim) (fun c_145 => ?_)
          have f146 : p1.toInt ≤ m2_i_sc_at.toInt := qi_nlt c_145 rfl rfl
          refine lv_iconst (v := 1) hx hb dX6_scanToken_76 (by decide) ?_
          rw [hQ]
          exact W.iret (v := 1) hx hb hr (fun t ht hW => ⟨⟨1, 1, rfl, rfl, ⟨m2_i_sc_at, J144, L, by rw [ht]; exact hP, hD, ⟨ie0, ie1, ie2, ie3, ie4, ie5, ie6, ie7, ie8, ie9, gi2_i_sc_at_lo, gi2_i_sc_at_hi, ie12, ie13, ie14, ie15, ie16, ie17, ie18, ie19, ie20, ie21, ie22, ie23, ie24, ie25, ie26, ie27, ie28, ie29, ie30, ie31, ie32, ie33, ie34, ie35, ie36, ie37, ie38, ie39⟩⟩⟩, hS.F ht⟩) hS.2.2 dX6_scanToken_77
        · skip
          have f147 : m2_i_sc_at.toInt < p1.toInt := qi_nle c_141 rfl rfl
          refine lv_aload_n hx hb dX6_scanToken_17 rfl (lv_at hl 1 rfl) ?_
          refine lv_aload_n hx hb dX6_scanToken_18 rfl (lv_at hl 0 rfl) ?_
          refine gX_X6_26_2 hx hb hG hown hK hP dX6_scanToken_19 ?_
          refine ldX_11 (mm := m2_i_sc_at.toInt) hx hb hK hP rfl (ox_9 g2_2) (ox_800 hp1 f147) dX6_scanToken_22 (fun x148 => ?_)
          refine lv_bipush (v := 32) hx hb dX6_scanToken_23 (by decide) ?_
          refine lv_icmp_eq (tgt := 39) hx hb dX6_scanToken_25 (by decide) (fun c_149 => ?_) (fun c_149 => ?_)
          · skip
            have f150 : x148.toInt = 32 := qi_eq c_149 rfl zc_32
            refine lv_aload_n hx hb dX6_scanToken_39 rfl (lv_at hl 0 rfl) ?_
            refine lv_dup hx hb dX6_scanToken_40 rfl ?_
            refine gX_X6_26_2 hx hb hG hown hK hP dX6_scanToken_41 ?_
            refine lv_iconst (v := 1) hx hb dX6_scanToken_44 (by decide) ?_
            refine lv_iadd hx hb dX6_scanToken_45 ?_
            refine lv_topi (fun x151 ex151 => ?_)
            have f152 : x151.toInt = m2_i_sc_at.toInt + 1 := (ox_13 (qi_add ex151 rfl zc_1 (ox_11 g2_2) (ox_12 g2_3)))
            refine pX_X6_26_2 hx hb hG hown hK hP hD hS dX6_scanToken_46 (fun H153 locs hP hD hS => ?_)
            obtain ⟨x154, ex154⟩ : ∃ y : Int32, y = y2_3 + Int32.ofInt 1 := ⟨_, rfl⟩
            have f155 : x154.toInt = y2_3.toInt + 1 := (ox_13 (qi_add ex154 rfl (by decide) (ox_11 g2_0) (ox_12 g2_1)))
            refine lv_iinc (v := x154) (lv' := [(3, .int x154), (0, .ref (r 2)), (1, .ref (r 11)), (2, .int p1)]) hx hb dX6_scanToken_49 hl (k := 3) rfl ex154.symm (by decide) rfl (fun ls hl => ?_)
            refine lv_goto (tgt := 2) hx hb dX6_scanToken_52 (by decide) ?_
            exact ih2 x154 x151 H153 _ _ (ox_14 g2_0 f155) (ox_15 f140 f155) (ox_14 g2_2 f152) (ox_809 hp1 f147 f152) (ox_14 g2_2 f152) (ox_809 hp1 f147 f152) hP hD hS (lv_sub hl [1, 2, 3, 0] rfl) (ox_810 hM2 f155)
          · skip
            have f156 : x148.toInt ≠ 32 := qi_ne c_149 rfl zc_32
            refine lv_aload_n hx hb dX6_scanToken_28 rfl (lv_at hl 1 rfl) ?_
            refine lv_aload_n hx hb dX6_scanToken_29 rfl (lv_at hl 0 rfl) ?_
            refine gX_X6_26_2 hx hb hG hown hK hP dX6_scanToken_30 ?_
            refine ldX_11 (mm := m2_i_sc_at.toInt) hx hb hK hP rfl (ox_9 g2_2) (ox_800 hp1 f147) dX6_scanToken_33 (fun x157 => ?_)
            refine lv_bipush (v := 10) hx hb dX6_scanToken_34 (by decide) ?_
            refine lv_icmp_ne (tgt := 55) hx hb dX6_scanToken_36 (by decide) (fun c_158 => ?_) (fun c_158 => ?_)
            · skip
              have f159 : x157.toInt ≠ 10 := qi_ne c_158 rfl zc_10
              refine lv_aload_n hx hb dX6_scanToken_55 rfl (lv_at hl 0 rfl) ?_
              refine gX_X6_15_2 hx hb hG hown hK hP dX6_scanToken_56 ?_
              refine lv_aload_n hx hb dX6_scanToken_59 rfl (lv_at hl 0 rfl) ?_
              refine gX_X6_22_2 hx hb hG hown hK hP dX6_scanToken_60 ?_
              refine lv_aload_n hx hb dX6_scanToken_63 rfl (lv_at hl 0 rfl) ?_
              refine gX_X6_26_2 hx hb hG hown hK hP dX6_scanToken_64 ?_
              refine stX_21 (mm := i_sc_count.toInt) hx hb hK hP hD hS rfl (ox_795 ie8 ie9 hp0) (ox_796 ie8 ie9 hp0) dX6_scanToken_67 (fun J161 H160 locs hP hD hS => ?_)
              refine lv_aload_n hx hb dX6_scanToken_68 rfl (lv_at hl 0 rfl) ?_
              refine gX_X6_26_2 hx hb hG hown hK hP dX6_scanToken_69 ?_
              refine lv_iload_n hx hb dX6_scanToken_72 rfl (lv_at hl 2 rfl) ?_
              refine lv_icmp_lt (tgt := 78) hx hb dX6_scanToken_73 (by decide) (fun c_162 => ?_) (fun c_162 => ((ox_855 (qi_nlt c_162 rfl rfl) f147)).elim)
              have f163 : m2_i_sc_at.toInt < p1.toInt := qi_lt c_162 rfl rfl
              refine lv_aload_n hx hb dX6_scanToken_78 rfl (lv_at hl 1 rfl) ?_
              refine lv_aload_n hx hb dX6_scanToken_79 rfl (lv_at hl 0 rfl) ?_
              refine gX_X6_26_2 hx hb hG hown hK hP dX6_scanToken_80 ?_
              refine ldX_11 (mm := m2_i_sc_at.toInt) hx hb hK hP rfl (ox_9 g2_2) (ox_800 hp1 f147) dX6_scanToken_83 (fun x164 => ?_)
              refine lv_istore_n (lv' := [(3, .int x164), (0, .ref (r 2)), (1, .ref (r 11)), (2, .int p1)]) hx hb dX6_scanToken_84 rfl hl (by decide) rfl (fun ls hl => ?_)
              refine lv_iload_n hx hb dX6_scanToken_85 rfl (lv_at hl 0 rfl) ?_
              refine va_calli (va_runS (As := [.int x164]) (rest := []) ⟨hx, hb, hml, hown, hG⟩ (kX6_isLetter l dC dI x164 H160.size) (va_cwS 1 hG (goodS gw548 gw549 gw131 gw550) rfl rfl rfl hd_X6_isLetter ⟨(Nat.le_of_ble_eq_true rfl), (Nat.le_of_ble_eq_true rfl)⟩) ⟨fbR, pR_in emptyP (emptyK hK)⟩ rfl rfl hl.1 rfl (lv_room (Nat.le_of_ble_eq_true rfl)) dX6_scanToken_86 ⟨(Nat.le_of_ble_eq_true rfl), (Nat.le_of_ble_eq_true rfl)⟩) hS (fun q hq h => absurd hq (Nat.not_lt.mpr h)) (fun q h => hA q (Nat.le_trans hS.1 h)) (fun r_166 u_ t_ H165 locs ht hvm hw hB hz1 hk1 hS => ?_)
              subst hw
              have hP := wk hP hk1
              obtain ⟨f167, f168, f169⟩ := hB
              refine lv_if_eq (tgt := 99) hx hb dX6_scanToken_89 (by decide) (fun c_170 => ?_) (fun c_170 => ?_)
              · skip
                have f171 : r_166.toInt = 0 := qi_eq c_170 rfl zc_0
                refine lv_iload_n hx hb dX6_scanToken_99 rfl (lv_at hl 0 rfl) ?_
                refine va_calli (va_runS (As := [.int x164]) (rest := []) ⟨hx, hb, hml, hown, hG⟩ (kX6_isDigit l dC dI x164 H165.size) (va_cwS 1 hG (goodS gw602 gw603 gw131 gw604) rfl rfl rfl hd_X6_isDigit ⟨(Nat.le_of_ble_eq_true rfl), (Nat.le_of_ble_eq_true rfl)⟩) ⟨fbR, pR_in emptyP (emptyK hK)⟩ rfl rfl hl.1 rfl (lv_room (Nat.le_of_ble_eq_true rfl)) dX6_scanToken_100 ⟨(Nat.le_of_ble_eq_true rfl), (Nat.le_of_ble_eq_true rfl)⟩) hS (fun q hq h => absurd hq (Nat.not_lt.mpr h)) (fun q h => hA q (Nat.le_trans hS.1 h)) (fun r_173 u_ t_ H172 locs ht hvm hw hB hz1 hk1 hS => ?_)
                subst hw
                have hP := wk hP hk1
                obtain ⟨f174, f175, f176⟩ := hB
                refine lv_if_eq (tgt := 113) hx hb dX6_scanToken_103 (by decide) (fun c_177 => ?_) (fun c_177 => ?_)
                · skip
                  have f178 : r_173.toInt = 0 := qi_eq c_177 rfl zc_0
                  refine lv_aload_n hx hb dX6_scanToken_113 rfl (lv_at hl 1 rfl) ?_
                  refine lv_dup hx hb dX6_scanToken_114 rfl ?_
                  refine gX_X6_26_2 hx hb hG hown hK hP dX6_scanToken_115 ?_
                  refine lv_iconst (v := 1) hx hb dX6_scanToken_118 (by decide) ?_
                  refine lv_iadd hx hb dX6_scanToken_119 ?_
                  refine lv_topi (fun x179 ex179 => ?_)
                  have f180 : x179.toInt = m2_i_sc_at.toInt + 1 := (ox_13 (qi_add ex179 rfl zc_1 (ox_11 g2_2) (ox_12 g2_3)))
                  refine pX_X6_26_2 hx hb hG hown hK hP hD hS dX6_scanToken_120 (fun H181 locs hP hD hS => ?_)
                  refine lv_iload_n hx hb dX6_scanToken_123 rfl (lv_at hl 0 rfl) ?_
                  refine va_calli (va_runS (As := [.int x164]) (rest := []) ⟨hx, hb, hml, hown, hG⟩ (kX6_isSign l dC dI x164 H181.size) (va_cwS 1 hG (goodS gw609 gw610 gw131 gw611) rfl rfl rfl hd_X6_isSign ⟨(Nat.le_of_ble_eq_true rfl), (Nat.le_of_ble_eq_true rfl)⟩) ⟨fbR, pR_in emptyP (emptyK hK)⟩ rfl rfl hl.1 rfl (lv_room (Nat.le_of_ble_eq_true rfl)) dX6_scanToken_124 ⟨(Nat.le_of_ble_eq_true rfl), (Nat.le_of_ble_eq_true rfl)⟩) hS (fun q hq h => absurd hq (Nat.not_lt.mpr h)) (fun q h => hA q (Nat.le_trans hS.1 h)) (fun r_183 u_ t_ H182 locs ht hvm hw hB hz1 hk1 hS => ?_)
                  subst hw
                  have hP := wk hP hk1
                  obtain ⟨f184, f185, f186⟩ := hB
                  refine lv_if_eq (tgt := 134) hx hb dX6_scanToken_127 (by decide) (fun c_187 => ?_) (fun c_187 => ?_)
                  · skip
                    have f188 : r_183.toInt = 0 := qi_eq c_187 rfl zc_0
                    have f189 : x164.toInt ≠ (59 : Int) := (ox_848 f184 f188)
                    have f190 : x164.toInt ≠ (40 : Int) := (ox_849 f184 f188)
                    have f191 : x164.toInt ≠ (41 : Int) := (ox_850 f184 f188)
                    have f192 : r_183.toInt = (0 : Int) := (ox_92 f185 f186 f188)
                    refine lv_iconst (v := 0) hx hb dX6_scanToken_134 (by decide) ?_
                    rw [hQ]
                    exact W.iret (v := 0) hx hb hr (fun t ht hW => ⟨⟨0, 0, rfl, rfl, ⟨x179, J161, L, by rw [ht]; exact hP, hD, ⟨ie0, ie1, ie2, ie3, ie4, ie5, ie6, ie7, ie8, ie9, (ox_14 g2_2 f180), (ox_809 hp1 f147 f180), ie12, ie13, ie14, ie15, ie16, ie17, ie18, ie19, ie20, ie21, ie22, ie23, ie24, ie25, ie26, ie27, ie28, ie29, ie30, ie31, ie32, ie33, ie34, ie35, ie36, ie37, ie38, ie39⟩⟩⟩, hS.F ht⟩) hS.2.2 dX6_scanToken_135
                  · skip
                    have f193 : r_183.toInt ≠ 0 := qi_ne c_187 rfl zc_0
                    have f194 : (1 : Int) ≤ r_183.toInt := (ox_851 f184 f193)
                    refine lv_iload_n hx hb dX6_scanToken_130 rfl (lv_at hl 0 rfl) ?_
                    refine lv_goto (tgt := 135) hx hb dX6_scanToken_131 (by decide) ?_
                    rw [hQ]
                    exact W.iret (v := x164) hx hb hr (fun t ht hW => ⟨⟨x164, x164, rfl, rfl, ⟨x179, J161, L, by rw [ht]; exact hP, hD, ⟨ie0, ie1, ie2, ie3, ie4, ie5, ie6, ie7, ie8, ie9, (ox_14 g2_2 f180), (ox_809 hp1 f147 f180), ie12, ie13, ie14, ie15, ie16, ie17, ie18, ie19, ie20, ie21, ie22, ie23, ie24, ie25, ie26, ie27, ie28, ie29, ie30, ie31, ie32, ie33, ie34, ie35, ie36, ie37, ie38, ie39⟩⟩⟩, hS.F ht⟩) hS.2.2 dX6_scanToken_135
                · skip
                  have f195 : r_173.toInt ≠ 0 := qi_ne c_177 rfl zc_0
                  have f196 : (48 : Int) ≤ x164.toInt := (ox_806 f174 f195)
                  have f197 : x164.toInt ≤ (57 : Int) := (ox_807 f174 f195)
                  have f198 : r_173.toInt = (1 : Int) := (ox_808 f174 f195)
                  have f199 : (1 : Int) ≤ r_173.toInt := (ox_53 f175 f176 f198)
                  refine lv_aload_n hx hb dX6_scanToken_106 rfl (lv_at hl 1 rfl) ?_
                  refine lv_aload_n hx hb dX6_scanToken_107 rfl (lv_at hl 2 rfl) ?_
                  refine lv_iload_n hx hb dX6_scanToken_108 rfl (lv_at hl 3 rfl) ?_
                  have hFc := frA hD hS hA
                  refine va_calli (va_runV (As := [.ref (r 11), .int p1]) (rest := []) ⟨hx, hb, hml, hown, hG⟩ (kX6_scanNumber l dC dI r ct i_tapeLength i_time i_lyingCount i_rd_fault i_rd_token i_rd_kind i_sc_count m2_i_sc_at i_A_tunes i_A_houses i_fA_length i_B_tunes i_B_houses i_fB_length i_acts_done i_acts_undone i_kn_count f_boxes f_boxKept f_trial f_offers f_A_noteCounts f_A_notes f_B_noteCounts f_B_notes f_now_where f_now_worn f_ahead_where f_ahead_worn f_acts_rows f_kn_tunes f_kn_noteTimes J161 L p1 H172.size ⟨ie0, ie1, ie2, ie3, ie4, ie5, ie6, ie7, ie8, ie9, gi2_i_sc_at_lo, gi2_i_sc_at_hi, ie12, ie13, ie14, ie15, ie16, ie17, ie18, ie19, ie20, ie21, ie22, ie23, ie24, ie25, ie26, ie27, ie28, ie29, ie30, ie31, ie32, ie33, ie34, ie35, ie36, ie37, ie38, ie39⟩ (ox_852 ie8 ie9 hp0) (ox_853 hp1 f147)) (cwV 2 hG (goodV gw605 gw607 gw6 gw131 gw608) rfl rfl rfl hd_X6_scanNumber ⟨(Nat.le_of_ble_eq_true rfl), (Nat.le_of_ble_eq_true rfl)⟩) ⟨fbW, va_recv hK hP (ci := 5) (q0 := 2) rfl rfl, pW_in hP hK hD⟩ rfl rfl hl.1 rfl (lv_room (Nat.le_of_ble_eq_true rfl)) dX6_scanToken_109 ⟨(Nat.le_of_ble_eq_true rfl), (Nat.le_of_ble_eq_true rfl)⟩) hS (fun q _ h => hFc q h) hFc (fun r_201 u_ t_ H200 locs ht hvm hw hB hz1 hk1 hS => ?_)
                  subst hw
                  obtain ⟨x202, L203, hP1, hD1, hI204⟩ := hB
                  rw [ht] at hP1
                  have hP := hP1
                  have hD := dW hFc hD1
                  obtain ⟨im205, im206, im207, im208, im209, im210, im211, im212, im213, im214, im215, im216, im217, im218, im219, im220, im221, im222, im223, im224, im225, im226, im227, im228, im229, im230, im231, im232, im233, im234, im235, im236, im237, im238, im239, im240, im241, im242, im243, im244⟩ := id hI204
                  rw [hQ]
                  exact W.iret (v := r_201) hx hb hr (fun t ht hW => ⟨⟨r_201, r_201, rfl, rfl, ⟨x202, J161, L203, by rw [ht]; exact hP, hD, hI204⟩⟩, hS.F ht⟩) hS.2.2 dX6_scanToken_112
              · skip
                have f245 : r_166.toInt ≠ 0 := qi_ne c_170 rfl zc_0
                have f246 : (97 : Int) ≤ x164.toInt := (ox_801 f167 f245)
                have f247 : x164.toInt ≤ (122 : Int) := (ox_802 f167 f245)
                have f248 : r_166.toInt = (1 : Int) := (ox_803 f167 f245)
                have f249 : (1 : Int) ≤ r_166.toInt := (ox_53 f168 f169 f248)
                refine lv_aload_n hx hb dX6_scanToken_92 rfl (lv_at hl 1 rfl) ?_
                refine lv_aload_n hx hb dX6_scanToken_93 rfl (lv_at hl 2 rfl) ?_
                refine lv_iload_n hx hb dX6_scanToken_94 rfl (lv_at hl 3 rfl) ?_
                have hFc := frA hD hS hA
                refine va_calli (va_runV (As := [.ref (r 11), .int p1]) (rest := []) ⟨hx, hb, hml, hown, hG⟩ (kX6_scanWord l dC dI r ct i_tapeLength i_time i_lyingCount i_rd_fault i_rd_token i_rd_kind i_sc_count m2_i_sc_at i_A_tunes i_A_houses i_fA_length i_B_tunes i_B_houses i_fB_length i_acts_done i_acts_undone i_kn_count f_boxes f_boxKept f_trial f_offers f_A_noteCounts f_A_notes f_B_noteCounts f_B_notes f_now_where f_now_worn f_ahead_where f_ahead_worn f_acts_rows f_kn_tunes f_kn_noteTimes J161 L p1 adK adV fS H165.size ⟨ie0, ie1, ie2, ie3, ie4, ie5, ie6, ie7, ie8, ie9, gi2_i_sc_at_lo, gi2_i_sc_at_hi, ie12, ie13, ie14, ie15, ie16, ie17, ie18, ie19, ie20, ie21, ie22, ie23, ie24, ie25, ie26, ie27, ie28, ie29, ie30, ie31, ie32, ie33, ie34, ie35, ie36, ie37, ie38, ie39⟩ (ox_852 ie8 ie9 hp0) (ox_853 hp1 f147)) (cwV 2 hG (goodV gw551 gw553 gw4 gw131 gw554) rfl rfl rfl hd_X6_scanWord ⟨(Nat.le_of_ble_eq_true rfl), (Nat.le_of_ble_eq_true rfl)⟩) ⟨fbS, va_recv hK hP (ci := 5) (q0 := 2) rfl rfl, pS_in hP hK hD hZ hS hFc⟩ rfl rfl hl.1 rfl (lv_room (Nat.le_of_ble_eq_true rfl)) dX6_scanToken_95 ⟨(Nat.le_of_ble_eq_true rfl), (Nat.le_of_ble_eq_true rfl)⟩) hS (fun q _ h => hFc q h) hFc (fun r_251 u_ t_ H250 locs ht hvm hw hB hz1 hk1 hS => ?_)
                subst hw
                obtain ⟨x252, J253, L254, hP1, hD1, hI255⟩ := hB
                rw [ht] at hP1
                have hP := hP1
                have hD := dW hFc hD1
                obtain ⟨im256, im257, im258, im259, im260, im261, im262, im263, im264, im265, im266, im267, im268, im269, im270, im271, im272, im273, im274, im275, im276, im277, im278, im279, im280, im281, im282, im283, im284, im285, im286, im287, im288, im289, im290, im291, im292, im293, im294, im295⟩ := id hI255
                rw [hQ]
                exact W.iret (v := r_251) hx hb hr (fun t ht hW => ⟨⟨r_251, r_251, rfl, rfl, ⟨x252, J253, L254, by rw [ht]; exact hP, hD, hI255⟩⟩, hS.F ht⟩) hS.2.2 dX6_scanToken_98
            · skip
              have f296 : x157.toInt = 10 := qi_eq c_158 rfl zc_10
              refine lv_aload_n hx hb dX6_scanToken_39 rfl (lv_at hl 0 rfl) ?_
              refine lv_dup hx hb dX6_scanToken_40 rfl ?_
              refine gX_X6_26_2 hx hb hG hown hK hP dX6_scanToken_41 ?_
              refine lv_iconst (v := 1) hx hb dX6_scanToken_44 (by decide) ?_
              refine lv_iadd hx hb dX6_scanToken_45 ?_
              refine lv_topi (fun x297 ex297 => ?_)
              have f298 : x297.toInt = m2_i_sc_at.toInt + 1 := (ox_13 (qi_add ex297 rfl zc_1 (ox_11 g2_2) (ox_12 g2_3)))
              refine pX_X6_26_2 hx hb hG hown hK hP hD hS dX6_scanToken_46 (fun H299 locs hP hD hS => ?_)
              obtain ⟨x300, ex300⟩ : ∃ y : Int32, y = y2_3 + Int32.ofInt 1 := ⟨_, rfl⟩
              have f301 : x300.toInt = y2_3.toInt + 1 := (ox_13 (qi_add ex300 rfl (by decide) (ox_11 g2_0) (ox_12 g2_1)))
              refine lv_iinc (v := x300) (lv' := [(3, .int x300), (0, .ref (r 2)), (1, .ref (r 11)), (2, .int p1)]) hx hb dX6_scanToken_49 hl (k := 3) rfl ex300.symm (by decide) rfl (fun ls hl => ?_)
              refine lv_goto (tgt := 2) hx hb dX6_scanToken_52 (by decide) ?_
              exact ih2 x300 x297 H299 _ _ (ox_14 g2_0 f301) (ox_15 f140 f301) (ox_14 g2_2 f298) (ox_809 hp1 f147 f298) (ox_14 g2_2 f298) (ox_809 hp1 f147 f298) hP hD hS (lv_sub hl [1, 2, 3, 0] rfl) (ox_810 hM2 f301)
  exact L2 (-1 * (0 : Int32).toInt + 1600 + 1).toNat 0 i_sc_at s.heap _ _ (ox_27 zc_0) (ox_811 zc_0) (ox_18 ie10 ie11) (ox_19 ie10 ie11) ie10 ie11 hP hD hS (lv_sub hl [1, 2, 3, 0] rfl) (mlt (ox_812 zc_0))
set_option maxHeartbeats 4000000 in
set_option maxRecDepth 100000 in
theorem kX6_scan (l : Launch) (dC : Nat → ClassId) (dI : Nat → Nat → Nat) (r : Nat → Nat) (ct : Nat → ClassId) (i_tapeLength i_time i_lyingCount i_rd_fault i_rd_token i_rd_kind i_sc_count i_sc_at i_A_tunes i_A_houses i_fA_length i_B_tunes i_B_houses i_fB_length i_acts_done i_acts_undone i_kn_count : Int32) (f_boxes f_boxKept f_trial f_offers f_A_noteCounts f_A_notes f_B_noteCounts f_B_notes f_now_where f_now_worn f_ahead_where f_ahead_worn f_acts_rows f_kn_tunes f_kn_noteTimes : Nat → Int32) (J : Nat → Nat → Int32) (L : Nat → Nat → Int64) (p1 : Int32) (adK adV : Nat) (fS : Nat → Int32) (sz : Nat) (hI : (IX i_tapeLength i_time i_lyingCount i_rd_token i_sc_count i_sc_at i_A_tunes i_A_houses i_fA_length i_B_tunes i_B_houses i_fB_length i_acts_done i_acts_undone i_kn_count f_boxes f_A_noteCounts f_A_notes f_B_noteCounts f_B_notes f_now_worn f_ahead_worn f_acts_rows f_kn_tunes)) : Met l yX6_scan (.code yX6_scan cX6_scan 5 none :: GW) { frames := 16, cells := 0, slots := 0, locals := 539 } (va_Pc [.ref (r 2), .ref (r 11), .int p1] (pS (dC, dI) (WX r ct i_tapeLength i_time i_lyingCount i_rd_fault i_rd_token i_rd_kind i_sc_count i_sc_at i_A_tunes i_A_houses i_fA_length i_B_tunes i_B_houses i_fB_length i_acts_done i_acts_undone i_kn_count f_boxes f_boxKept f_trial f_offers f_A_noteCounts f_A_notes f_B_noteCounts f_B_notes f_now_where f_now_worn f_ahead_where f_ahead_worn f_acts_rows f_kn_tunes f_kn_noteTimes J L) (TX ct) sz adK adV fS)) (va_Qv (fun _ : Unit => True) (fun (_ : Unit) (t : State) => ∃ (n_i_sc_count n_i_sc_at : Int32) (n_J : Nat → Nat → Int32) (n_L : Nat → Nat → Int64), va_P (dC, dI) vwCl (WX r ct i_tapeLength i_time i_lyingCount i_rd_fault i_rd_token i_rd_kind n_i_sc_count n_i_sc_at i_A_tunes i_A_houses i_fA_length i_B_tunes i_B_houses i_fB_length i_acts_done i_acts_undone i_kn_count f_boxes f_boxKept f_trial f_offers f_A_noteCounts f_A_notes f_B_noteCounts f_B_notes f_now_where f_now_worn f_ahead_where f_ahead_worn f_acts_rows f_kn_tunes f_kn_noteTimes n_J n_L) t.heap ∧ va_D (va_A (WX r ct i_tapeLength i_time i_lyingCount i_rd_fault i_rd_token i_rd_kind i_sc_count i_sc_at i_A_tunes i_A_houses i_fA_length i_B_tunes i_B_houses i_fB_length i_acts_done i_acts_undone i_kn_count f_boxes f_boxKept f_trial f_offers f_A_noteCounts f_A_notes f_B_noteCounts f_B_notes f_now_where f_now_worn f_ahead_where f_ahead_worn f_acts_rows f_kn_tunes f_kn_noteTimes J L) sz) (WX r ct i_tapeLength i_time i_lyingCount i_rd_fault i_rd_token i_rd_kind n_i_sc_count n_i_sc_at i_A_tunes i_A_houses i_fA_length i_B_tunes i_B_houses i_fB_length i_acts_done i_acts_undone i_kn_count f_boxes f_boxKept f_trial f_offers f_A_noteCounts f_A_notes f_B_noteCounts f_B_notes f_now_where f_now_worn f_ahead_where f_ahead_worn f_acts_rows f_kn_tunes f_kn_noteTimes n_J n_L) ∧ (IX i_tapeLength i_time i_lyingCount i_rd_token n_i_sc_count n_i_sc_at i_A_tunes i_A_houses i_fA_length i_B_tunes i_B_houses i_fB_length i_acts_done i_acts_undone i_kn_count f_boxes f_A_noteCounts f_A_notes f_B_noteCounts f_B_notes f_now_worn f_ahead_worn f_acts_rows f_kn_tunes)) (va_A (WX r ct i_tapeLength i_time i_lyingCount i_rd_fault i_rd_token i_rd_kind i_sc_count i_sc_at i_A_tunes i_A_houses i_fA_length i_B_tunes i_B_houses i_fB_length i_acts_done i_acts_undone i_kn_count f_boxes f_boxKept f_trial f_offers f_A_noteCounts f_A_notes f_B_noteCounts f_B_notes f_now_where f_now_worn f_ahead_where f_ahead_worn f_acts_rows f_kn_tunes f_kn_noteTimes J L) sz)) 0 0 (va_A (WX r ct i_tapeLength i_time i_lyingCount i_rd_fault i_rd_token i_rd_kind i_sc_count i_sc_at i_A_tunes i_A_houses i_fA_length i_B_tunes i_B_houses i_fB_length i_acts_done i_acts_undone i_kn_count f_boxes f_boxKept f_trial f_offers f_A_noteCounts f_A_notes f_B_noteCounts f_B_notes f_now_where f_now_worn f_ahead_where f_ahead_worn f_acts_rows f_kn_tunes f_kn_noteTimes J L) sz) := by
  refine Met.ofW (cc := cX6_scan) (maxL := 5) (ret := none) (by decide) rfl ?_
  intro p e s m args below meth c0 s₁ B hml hv
  obtain ⟨rfl, hsz, hP, hK, hD0, hZ⟩ := hv
  have hx := B.exec
  have hb := B.bytes
  have hr := B.returns
  have hts := atoms_spec (ws := .code yX6_scan cX6_scan 5 none :: GW) B.pre
  have hG : ∀ w ∈ GW, w.before _ s = true := fun w h => hts w (List.mem_cons_of_mem _ h)
  have hown : s.vm.findClass RX6 = some m.cls := findClass_of_methodNamed B.named
  subst hsz
  have hD := hD0.self (sz := s.heap.size)
  generalize hAe : va_A (WX r ct i_tapeLength i_time i_lyingCount i_rd_fault i_rd_token i_rd_kind i_sc_count i_sc_at i_A_tunes i_A_houses i_fA_length i_B_tunes i_B_houses i_fB_length i_acts_done i_acts_undone i_kn_count f_boxes f_boxKept f_trial f_offers f_A_noteCounts f_A_notes f_B_noteCounts f_B_notes f_now_where f_now_worn f_ahead_where f_ahead_worn f_acts_rows f_kn_tunes f_kn_noteTimes J L) s.heap.size = A at hD hZ ⊢
  have hA : ∀ q : Nat, s.heap.size ≤ q → A q := fun q h => by rw [← hAe]; exact Or.inr h
  have hS : va_S A s.heap s.heap [] := va_S.rf
  have hP : va_P (dC, dI) vwCl (WX r ct i_tapeLength i_time i_lyingCount i_rd_fault i_rd_token i_rd_kind i_sc_count i_sc_at i_A_tunes i_A_houses i_fA_length i_B_tunes i_B_houses i_fB_length i_acts_done i_acts_undone i_kn_count f_boxes f_boxKept f_trial f_offers f_A_noteCounts f_A_notes f_B_noteCounts f_B_notes f_now_where f_now_worn f_ahead_where f_ahead_worn f_acts_rows f_kn_tunes f_kn_noteTimes J L) s.heap := hP
  have hl := lv_entry ([.ref (r 2), .ref (r 11), .int p1]) (n := 5) (Nat.le_of_ble_eq_true rfl)
  rw [lg_entry_eq]
  generalize (lg_sl ([.ref (r 2), .ref (r 11), .int p1]) ++ List.replicate (5 - (lg_sl ([.ref (r 2), .ref (r 11), .int p1])).length) Slot.unset).toArray = ls at hl ⊢
  have hl : lv_has ls 5 [(0, .ref (r 2)), (1, .ref (r 11)), (2, .int p1)] := hl
  refine nameQ (fun Q hQ => ?_)
  obtain ⟨ie0, ie1, ie2, ie3, ie4, ie5, ie6, ie7, ie8, ie9, ie10, ie11, ie12, ie13, ie14, ie15, ie16, ie17, ie18, ie19, ie20, ie21, ie22, ie23, ie24, ie25, ie26, ie27, ie28, ie29, ie30, ie31, ie32, ie33, ie34, ie35, ie36, ie37, ie38, ie39⟩ := id hI
  refine lv_aload_n hx hb dX6_scan_0 rfl (lv_at hl 0 rfl) ?_
  refine lv_iconst (v := 0) hx hb dX6_scan_1 (by decide) ?_
  refine pX_X6_22_2 hx hb hG hown hK hP hD hS dX6_scan_2 (fun H1 locs hP hD hS => ?_)
  refine lv_aload_n hx hb dX6_scan_5 rfl (lv_at hl 0 rfl) ?_
  refine lv_iconst (v := 0) hx hb dX6_scan_6 (by decide) ?_
  refine pX_X6_26_2 hx hb hG hown hK hP hD hS dX6_scan_7 (fun H2 locs hP hD hS => ?_)
  refine lv_iconst (v := 3) hx hb dX6_scan_10 (by decide) ?_
  refine lv_istore_n (lv' := [(3, .int 3), (0, .ref (r 2)), (1, .ref (r 11)), (2, .int p1)]) hx hb dX6_scan_11 rfl hl (by decide) rfl (fun ls hl => ?_)
  refine lv_iconst (v := 0) hx hb dX6_scan_12 (by decide) ?_
  refine lv_istore (lv' := [(4, .int 0), (3, .int 3), (0, .ref (r 2)), (1, .ref (r 11)), (2, .int p1)]) hx hb dX6_scan_13 hl (by decide) rfl (fun ls hl => ?_)
  have L15 : ∀ (N15 : Nat) (y15_3 y15_4 : Int32) (m15_i_sc_count m15_i_sc_at : Int32) (m15_J : Nat → Nat → Int32) (m15_L : Nat → Nat → Int64) (H15 : Heap) (locs : List Loc) (ls : Array Slot) (g15_0 : (0 : Int) ≤ y15_4.toInt) (g15_1 : y15_4.toInt ≤ (1601 : Int)) (g15_2 : (0 : Int) ≤ m15_i_sc_count.toInt) (g15_3 : m15_i_sc_count.toInt ≤ (1601 : Int)) (g15_4 : (0 : Int) ≤ m15_i_sc_at.toInt) (g15_5 : m15_i_sc_at.toInt ≤ (1600 : Int)) (g15_6 : m15_i_sc_count.toInt = y15_4.toInt) (gi15_i_sc_count_lo : (0 : Int) ≤ m15_i_sc_count.toInt) (gi15_i_sc_count_hi : m15_i_sc_count.toInt ≤ (1601 : Int)) (gi15_i_sc_at_lo : (0 : Int) ≤ m15_i_sc_at.toInt) (gi15_i_sc_at_hi : m15_i_sc_at.toInt ≤ (1600 : Int)) (hP : va_P (dC, dI) vwCl (WX r ct i_tapeLength i_time i_lyingCount i_rd_fault i_rd_token i_rd_kind m15_i_sc_count m15_i_sc_at i_A_tunes i_A_houses i_fA_length i_B_tunes i_B_houses i_fB_length i_acts_done i_acts_undone i_kn_count f_boxes f_boxKept f_trial f_offers f_A_noteCounts f_A_notes f_B_noteCounts f_B_notes f_now_where f_now_worn f_ahead_where f_ahead_worn f_acts_rows f_kn_tunes f_kn_noteTimes m15_J m15_L) H15) (hD : va_D A (WX r ct i_tapeLength i_time i_lyingCount i_rd_fault i_rd_token i_rd_kind m15_i_sc_count m15_i_sc_at i_A_tunes i_A_houses i_fA_length i_B_tunes i_B_houses i_fB_length i_acts_done i_acts_undone i_kn_count f_boxes f_boxKept f_trial f_offers f_A_noteCounts f_A_notes f_B_noteCounts f_B_notes f_now_where f_now_worn f_ahead_where f_ahead_worn f_acts_rows f_kn_tunes f_kn_noteTimes m15_J m15_L)) (hS : va_S A s.heap H15 locs) (hl : lv_has ls 5 [(0, .ref (r 2)), (1, .ref (r 11)), (2, .int p1), (3, .int y15_3), (4, .int y15_4)]) (hM : -1 * y15_4.toInt + 1601 < (N15 : Int)), W p l e { frames := 16, cells := 0, slots := 0, locals := 539 } s m ([.ref (r 2), .ref (r 11), .int p1] : List Value).toArray below meth c0 H15 locs 0 0 Q (F0 m 15 ls []) := by
    intro N15
    induction N15 with
    | zero =>
      intro y15_3 y15_4 m15_i_sc_count m15_i_sc_at m15_J m15_L H15 locs ls g15_0 g15_1 g15_2 g15_3 g15_4 g15_5 g15_6 gi15_i_sc_count_lo gi15_i_sc_count_hi gi15_i_sc_at_lo gi15_i_sc_at_hi hP hD hS hl hM
      exact ((ox_856 hM g15_0 g15_1 g15_6)).elim
    | succ N15 ih15 =>
      intro y15_3 y15_4 m15_i_sc_count m15_i_sc_at m15_J m15_L H15 locs ls g15_0 g15_1 g15_2 g15_3 g15_4 g15_5 g15_6 gi15_i_sc_count_lo gi15_i_sc_count_hi gi15_i_sc_at_lo gi15_i_sc_at_hi hP hD hS hl hM
      have hM15 := msucc hM
      refine lv_iload hx hb dX6_scan_15 (lv_at hl 4 rfl) ?_
      refine lv_sipush (v := 1600) hx hb dX6_scan_17 (by decide) ?_
      refine lv_icmp_gt (tgt := 66) hx hb dX6_scan_20 (by decide) (fun c_3 => ?_) (fun c_3 => ?_)
      · skip
        have f4 : 1600 < y15_4.toInt := qi_lt c_3 zc_1600 rfl
        rw [hQ]
        exact W.vret hx hb hr (fun t ht hW => ⟨⟨(), rfl, trivial, ⟨m15_i_sc_count, m15_i_sc_at, m15_J, m15_L, by rw [ht]; exact hP, hD, ⟨ie0, ie1, ie2, ie3, ie4, ie5, ie6, ie7, gi15_i_sc_count_lo, gi15_i_sc_count_hi, gi15_i_sc_at_lo, gi15_i_sc_at_hi, ie12, ie13, ie14, ie15, ie16, ie17, ie18, ie19, ie20, ie21, ie22, ie23, ie24, ie25, ie26, ie27, ie28, ie29, ie30, ie31, ie32, ie33, ie34, ie35, ie36, ie37, ie38, ie39⟩⟩⟩, hS.F ht⟩) hS.2.2 dX6_scan_66
      · skip
        have f5 : y15_4.toInt ≤ 1600 := qi_nlt c_3 zc_1600 rfl
        refine lv_iload_n hx hb dX6_scan_23 rfl (lv_at hl 3 rfl) ?_
        refine lv_iconst (v := 1) hx hb dX6_scan_24 (by decide) ?_
        refine lv_icmp_eq (tgt := 66) hx hb dX6_scan_25 (by decide) (fun c_6 => ?_) (fun c_6 => ?_)
        · skip
          have f7 : y15_3.toInt = 1 := qi_eq c_6 rfl zc_1
          rw [hQ]
          exact W.vret hx hb hr (fun t ht hW => ⟨⟨(), rfl, trivial, ⟨m15_i_sc_count, m15_i_sc_at, m15_J, m15_L, by rw [ht]; exact hP, hD, ⟨ie0, ie1, ie2, ie3, ie4, ie5, ie6, ie7, gi15_i_sc_count_lo, gi15_i_sc_count_hi, gi15_i_sc_at_lo, gi15_i_sc_at_hi, ie12, ie13, ie14, ie15, ie16, ie17, ie18, ie19, ie20, ie21, ie22, ie23, ie24, ie25, ie26, ie27, ie28, ie29, ie30, ie31, ie32, ie33, ie34, ie35, ie36, ie37, ie38, ie39⟩⟩⟩, hS.F ht⟩) hS.2.2 dX6_scan_66
        · skip
          have f8 : y15_3.toInt ≠ 1 := qi_ne c_6 rfl zc_1
          refine lv_iload_n hx hb dX6_scan_28 rfl (lv_at hl 3 rfl) ?_
          refine lv_if_eq (tgt := 66) hx hb dX6_scan_29 (by decide) (fun c_9 => ?_) (fun c_9 => ?_)
          · skip
            have f10 : y15_3.toInt = 0 := qi_eq c_9 rfl zc_0
            have f11 : y15_3.toInt ≤ (0 : Int) := (ox_857 f10)
            rw [hQ]
            exact W.vret hx hb hr (fun t ht hW => ⟨⟨(), rfl, trivial, ⟨m15_i_sc_count, m15_i_sc_at, m15_J, m15_L, by rw [ht]; exact hP, hD, ⟨ie0, ie1, ie2, ie3, ie4, ie5, ie6, ie7, gi15_i_sc_count_lo, gi15_i_sc_count_hi, gi15_i_sc_at_lo, gi15_i_sc_at_hi, ie12, ie13, ie14, ie15, ie16, ie17, ie18, ie19, ie20, ie21, ie22, ie23, ie24, ie25, ie26, ie27, ie28, ie29, ie30, ie31, ie32, ie33, ie34, ie35, ie36, ie37, ie38, ie39⟩⟩⟩, hS.F ht⟩) hS.2.2 dX6_scan_66
          · skip
            have f12 : y15_3.toInt ≠ 0 := qi_ne c_9 rfl zc_0
            refine lv_aload_n hx hb dX6_scan_32 rfl (lv_at hl 0 rfl) ?_
            refine lv_aload_n hx hb dX6_scan_33 rfl (lv_at hl 1 rfl) ?_
            refine lv_iload_n hx hb dX6_scan_34 rfl (lv_at hl 2 rfl) ?_
            refine lv_aload_n hx hb dX6_scan_35 rfl (lv_at hl 1 rfl) ?_
            refine va_alen (v := 1600) hx hb hK hP 11 0 rfl rfl (show Int32.ofNat 1600 = 1600 by decide) dX6_scan_36 ?_
            refine va_mmin hx hb (hml.trans hl.1.symm) hown (hG _ gw541) (hG _ gw542) (hG _ gw139) (hG _ gw543) (Nat.le_of_ble_eq_true rfl) (Nat.le_of_ble_eq_true rfl) (Nat.le_of_ble_eq_true rfl) (Nat.le_of_ble_eq_true rfl) dX6_scan_37 ?_
            refine lv_topi (fun x13 ex13 => ?_)
            have f14 : (p1.toInt ≤ 1600 ∧ x13.toInt = p1.toInt) ∨ (1600 ≤ p1.toInt ∧ x13.toInt = 1600) := mmin_or2 ex13 rfl zc_1600
            have hFc := frA hD hS hA
            refine va_calli (va_runV (As := [.ref (r 11), .int x13]) (rest := []) ⟨hx, hb, hml, hown, hG⟩ (kX6_scanToken l dC dI r ct i_tapeLength i_time i_lyingCount i_rd_fault i_rd_token i_rd_kind m15_i_sc_count m15_i_sc_at i_A_tunes i_A_houses i_fA_length i_B_tunes i_B_houses i_fB_length i_acts_done i_acts_undone i_kn_count f_boxes f_boxKept f_trial f_offers f_A_noteCounts f_A_notes f_B_noteCounts f_B_notes f_now_where f_now_worn f_ahead_where f_ahead_worn f_acts_rows f_kn_tunes f_kn_noteTimes m15_J m15_L x13 adK adV fS H15.size ⟨ie0, ie1, ie2, ie3, ie4, ie5, ie6, ie7, gi15_i_sc_count_lo, gi15_i_sc_count_hi, gi15_i_sc_at_lo, gi15_i_sc_at_hi, ie12, ie13, ie14, ie15, ie16, ie17, ie18, ie19, ie20, ie21, ie22, ie23, ie24, ie25, ie26, ie27, ie28, ie29, ie30, ie31, ie32, ie33, ie34, ie35, ie36, ie37, ie38, ie39⟩ (ox_858 g15_6 f5) (ox_859 f14)) (cwV 2 hG (goodV gw544 gw546 gw3 gw131 gw547) rfl rfl rfl hd_X6_scanToken ⟨(Nat.le_of_ble_eq_true rfl), (Nat.le_of_ble_eq_true rfl)⟩) ⟨fbS, va_recv hK hP (ci := 5) (q0 := 2) rfl rfl, pS_in hP hK hD hZ hS hFc⟩ rfl rfl hl.1 rfl (lv_room (Nat.le_of_ble_eq_true rfl)) dX6_scan_40 ⟨(Nat.le_of_ble_eq_true rfl), (Nat.le_of_ble_eq_true rfl)⟩) hS (fun q _ h => hFc q h) hFc (fun r_16 u_ t_ H15 locs ht hvm hw hB hz1 hk1 hS => ?_)
            subst hw
            obtain ⟨x17, J18, L19, hP1, hD1, hI20⟩ := hB
            rw [ht] at hP1
            have hP := hP1
            have hD := dW hFc hD1
            obtain ⟨im21, im22, im23, im24, im25, im26, im27, im28, im29, im30, im31, im32, im33, im34, im35, im36, im37, im38, im39, im40, im41, im42, im43, im44, im45, im46, im47, im48, im49, im50, im51, im52, im53, im54, im55, im56, im57, im58, im59, im60⟩ := id hI20
            refine lv_istore_n (lv' := [(3, .int r_16), (0, .ref (r 2)), (1, .ref (r 11)), (2, .int p1), (4, .int y15_4)]) hx hb dX6_scan_43 rfl hl (by decide) rfl (fun ls hl => ?_)
            refine lv_aload_n hx hb dX6_scan_44 rfl (lv_at hl 1 rfl) ?_
            refine gX_X6_9_2 hx hb hG hown hK hP dX6_scan_45 ?_
            refine lv_iload hx hb dX6_scan_48 (lv_at hl 4 rfl) ?_
            refine lv_iload_n hx hb dX6_scan_50 rfl (lv_at hl 0 rfl) ?_
            refine stX_20 (mm := y15_4.toInt) hx hb hK hP hD hS rfl (ox_9 g15_0) (ox_860 f5) dX6_scan_51 (fun J62 H61 locs hP hD hS => ?_)
            refine lv_aload_n hx hb dX6_scan_52 rfl (lv_at hl 1 rfl) ?_
            refine lv_iload hx hb dX6_scan_53 (lv_at hl 4 rfl) ?_
            refine lv_iconst (v := 1) hx hb dX6_scan_55 (by decide) ?_
            refine lv_iadd hx hb dX6_scan_56 ?_
            refine lv_topi (fun x63 ex63 => ?_)
            have f64 : x63.toInt = y15_4.toInt + 1 := (ox_13 (qi_add ex63 rfl zc_1 (ox_11 g15_0) (ox_861 g15_1)))
            refine pX_X6_22_2 hx hb hG hown hK hP hD hS dX6_scan_57 (fun H65 locs hP hD hS => ?_)
            obtain ⟨x66, ex66⟩ : ∃ y : Int32, y = y15_4 + Int32.ofInt 1 := ⟨_, rfl⟩
            have f67 : x66.toInt = y15_4.toInt + 1 := (ox_13 (qi_add ex66 rfl (by decide) (ox_11 g15_0) (ox_861 g15_1)))
            refine lv_iinc (v := x66) (lv' := [(4, .int x66), (3, .int r_16), (0, .ref (r 2)), (1, .ref (r 11)), (2, .int p1)]) hx hb dX6_scan_60 hl (k := 4) rfl ex66.symm (by decide) rfl (fun ls hl => ?_)
            refine lv_goto (tgt := 15) hx hb dX6_scan_63 (by decide) ?_
            exact ih15 r_16 x66 x63 x17 J62 L19 H65 _ _ (ox_14 g15_0 f67) (ox_862 f5 f67) (ox_14 g15_0 f64) (ox_862 f5 f64) (ox_18 im31 im32) (ox_19 im31 im32) (ox_863 f67 f64) (ox_14 g15_0 f64) (ox_862 f5 f64) im31 im32 hP hD hS (lv_sub hl [2, 3, 4, 1, 0] rfl) (ox_864 hM15 f67)
  exact L15 (-1 * (0 : Int32).toInt + 1601 + 1).toNat 3 0 0 0 J L H2 _ _ (ox_27 zc_0) (ox_865 zc_0) (ox_27 zc_0) (ox_865 zc_0) (ox_27 zc_0) (ox_811 zc_0) (ox_866 zc_0) (ox_27 zc_0) (ox_865 zc_0) (ox_27 zc_0) (ox_811 zc_0) hP hD hS (lv_sub hl [2, 3, 4, 1, 0] rfl) (mlt (ox_867 zc_0))
set_option maxHeartbeats 4000000 in
set_option maxRecDepth 100000 in
theorem kX1_empty (l : Launch) (dC : Nat → ClassId) (dI : Nat → Nat → Nat) (r : Nat → Nat) (ct : Nat → ClassId) (i_tapeLength i_time i_lyingCount i_rd_fault i_rd_token i_rd_kind i_sc_count i_sc_at i_A_tunes i_A_houses i_fA_length i_B_tunes i_B_houses i_fB_length i_acts_done i_acts_undone i_kn_count : Int32) (f_boxes f_boxKept f_trial f_offers f_A_noteCounts f_A_notes f_B_noteCounts f_B_notes f_now_where f_now_worn f_ahead_where f_ahead_worn f_acts_rows f_kn_tunes f_kn_noteTimes : Nat → Int32) (J : Nat → Nat → Int32) (L : Nat → Nat → Int64) (sz : Nat) (hI : (IX i_tapeLength i_time i_lyingCount i_rd_token i_sc_count i_sc_at i_A_tunes i_A_houses i_fA_length i_B_tunes i_B_houses i_fB_length i_acts_done i_acts_undone i_kn_count f_boxes f_A_noteCounts f_A_notes f_B_noteCounts f_B_notes f_now_worn f_ahead_worn f_acts_rows f_kn_tunes)) : Met l yX1_empty (.code yX1_empty cX1_empty 1 none :: GW) { frames := 2, cells := 0, slots := 0, locals := 100 } (va_Pc [.ref (r 6)] (pW (dC, dI) (WX r ct i_tapeLength i_time i_lyingCount i_rd_fault i_rd_token i_rd_kind i_sc_count i_sc_at i_A_tunes i_A_houses i_fA_length i_B_tunes i_B_houses i_fB_length i_acts_done i_acts_undone i_kn_count f_boxes f_boxKept f_trial f_offers f_A_noteCounts f_A_notes f_B_noteCounts f_B_notes f_now_where f_now_worn f_ahead_where f_ahead_worn f_acts_rows f_kn_tunes f_kn_noteTimes J L) (TX ct) sz)) (va_Qv (fun _ : Unit => True) (fun (_ : Unit) (t : State) => ∃ (n_i_fB_length : Int32), va_P (dC, dI) vwCl (WX r ct i_tapeLength i_time i_lyingCount i_rd_fault i_rd_token i_rd_kind i_sc_count i_sc_at i_A_tunes i_A_houses i_fA_length i_B_tunes i_B_houses n_i_fB_length i_acts_done i_acts_undone i_kn_count f_boxes f_boxKept f_trial f_offers f_A_noteCounts f_A_notes f_B_noteCounts f_B_notes f_now_where f_now_worn f_ahead_where f_ahead_worn f_acts_rows f_kn_tunes f_kn_noteTimes J L) t.heap ∧ va_D (va_A (WX r ct i_tapeLength i_time i_lyingCount i_rd_fault i_rd_token i_rd_kind i_sc_count i_sc_at i_A_tunes i_A_houses i_fA_length i_B_tunes i_B_houses i_fB_length i_acts_done i_acts_undone i_kn_count f_boxes f_boxKept f_trial f_offers f_A_noteCounts f_A_notes f_B_noteCounts f_B_notes f_now_where f_now_worn f_ahead_where f_ahead_worn f_acts_rows f_kn_tunes f_kn_noteTimes J L) sz) (WX r ct i_tapeLength i_time i_lyingCount i_rd_fault i_rd_token i_rd_kind i_sc_count i_sc_at i_A_tunes i_A_houses i_fA_length i_B_tunes i_B_houses n_i_fB_length i_acts_done i_acts_undone i_kn_count f_boxes f_boxKept f_trial f_offers f_A_noteCounts f_A_notes f_B_noteCounts f_B_notes f_now_where f_now_worn f_ahead_where f_ahead_worn f_acts_rows f_kn_tunes f_kn_noteTimes J L) ∧ (IX i_tapeLength i_time i_lyingCount i_rd_token i_sc_count i_sc_at i_A_tunes i_A_houses i_fA_length i_B_tunes i_B_houses n_i_fB_length i_acts_done i_acts_undone i_kn_count f_boxes f_A_noteCounts f_A_notes f_B_noteCounts f_B_notes f_now_worn f_ahead_worn f_acts_rows f_kn_tunes)) (va_A (WX r ct i_tapeLength i_time i_lyingCount i_rd_fault i_rd_token i_rd_kind i_sc_count i_sc_at i_A_tunes i_A_houses i_fA_length i_B_tunes i_B_houses i_fB_length i_acts_done i_acts_undone i_kn_count f_boxes f_boxKept f_trial f_offers f_A_noteCounts f_A_notes f_B_noteCounts f_B_notes f_now_where f_now_worn f_ahead_where f_ahead_worn f_acts_rows f_kn_tunes f_kn_noteTimes J L) sz)) 0 0 (va_A (WX r ct i_tapeLength i_time i_lyingCount i_rd_fault i_rd_token i_rd_kind i_sc_count i_sc_at i_A_tunes i_A_houses i_fA_length i_B_tunes i_B_houses i_fB_length i_acts_done i_acts_undone i_kn_count f_boxes f_boxKept f_trial f_offers f_A_noteCounts f_A_notes f_B_noteCounts f_B_notes f_now_where f_now_worn f_ahead_where f_ahead_worn f_acts_rows f_kn_tunes f_kn_noteTimes J L) sz) := by
  refine Met.ofW (cc := cX1_empty) (maxL := 1) (ret := none) (by decide) rfl ?_
  intro p e s m args below meth c0 s₁ B hml hv
  obtain ⟨rfl, hsz, hP, hK, hD0⟩ := hv
  have hx := B.exec
  have hb := B.bytes
  have hr := B.returns
  have hts := atoms_spec (ws := .code yX1_empty cX1_empty 1 none :: GW) B.pre
  have hG : ∀ w ∈ GW, w.before _ s = true := fun w h => hts w (List.mem_cons_of_mem _ h)
  have hown : s.vm.findClass RX1 = some m.cls := findClass_of_methodNamed B.named
  subst hsz
  have hD := hD0.self (sz := s.heap.size)
  generalize hAe : va_A (WX r ct i_tapeLength i_time i_lyingCount i_rd_fault i_rd_token i_rd_kind i_sc_count i_sc_at i_A_tunes i_A_houses i_fA_length i_B_tunes i_B_houses i_fB_length i_acts_done i_acts_undone i_kn_count f_boxes f_boxKept f_trial f_offers f_A_noteCounts f_A_notes f_B_noteCounts f_B_notes f_now_where f_now_worn f_ahead_where f_ahead_worn f_acts_rows f_kn_tunes f_kn_noteTimes J L) s.heap.size = A at hD ⊢
  have hA : ∀ q : Nat, s.heap.size ≤ q → A q := fun q h => by rw [← hAe]; exact Or.inr h
  have hS : va_S A s.heap s.heap [] := va_S.rf
  have hP : va_P (dC, dI) vwCl (WX r ct i_tapeLength i_time i_lyingCount i_rd_fault i_rd_token i_rd_kind i_sc_count i_sc_at i_A_tunes i_A_houses i_fA_length i_B_tunes i_B_houses i_fB_length i_acts_done i_acts_undone i_kn_count f_boxes f_boxKept f_trial f_offers f_A_noteCounts f_A_notes f_B_noteCounts f_B_notes f_now_where f_now_worn f_ahead_where f_ahead_worn f_acts_rows f_kn_tunes f_kn_noteTimes J L) s.heap := hP
  have hl := lv_entry ([.ref (r 6)]) (n := 1) (Nat.le_of_ble_eq_true rfl)
  rw [lg_entry_eq]
  generalize (lg_sl ([.ref (r 6)]) ++ List.replicate (1 - (lg_sl ([.ref (r 6)])).length) Slot.unset).toArray = ls at hl ⊢
  have hl : lv_has ls 1 [(0, .ref (r 6))] := hl
  refine nameQ (fun Q hQ => ?_)
  obtain ⟨ie0, ie1, ie2, ie3, ie4, ie5, ie6, ie7, ie8, ie9, ie10, ie11, ie12, ie13, ie14, ie15, ie16, ie17, ie18, ie19, ie20, ie21, ie22, ie23, ie24, ie25, ie26, ie27, ie28, ie29, ie30, ie31, ie32, ie33, ie34, ie35, ie36, ie37, ie38, ie39⟩ := id hI
  refine lv_aload_n hx hb dX1_empty_0 rfl (lv_at hl 0 rfl) ?_
  refine lv_iconst (v := 0) hx hb dX1_empty_1 (by decide) ?_
  refine pX_X1_18_6 hx hb hG hown hK hP hD hS dX1_empty_2 (fun H1 locs hP hD hS => ?_)
  rw [hQ]
  exact W.vret hx hb hr (fun t ht hW => ⟨⟨(), rfl, trivial, ⟨0, by rw [ht]; exact hP, hD, ⟨ie0, ie1, ie2, ie3, ie4, ie5, ie6, ie7, ie8, ie9, ie10, ie11, ie12, ie13, ie14, ie15, ie16, ie17, ie18, ie19, ie20, ie21, (ox_27 zc_0), (ox_175 zc_0), ie24, ie25, ie26, ie27, ie28, ie29, ie30, ie31, ie32, ie33, ie34, ie35, ie36, ie37, ie38, ie39⟩⟩⟩, hS.F ht⟩) hS.2.2 dX1_empty_5
set_option maxHeartbeats 4000000 in
set_option maxRecDepth 100000 in
theorem kX1_addStep (l : Launch) (dC : Nat → ClassId) (dI : Nat → Nat → Nat) (r : Nat → Nat) (ct : Nat → ClassId) (i_tapeLength i_time i_lyingCount i_rd_fault i_rd_token i_rd_kind i_sc_count i_sc_at i_A_tunes i_A_houses i_fA_length i_B_tunes i_B_houses i_fB_length i_acts_done i_acts_undone i_kn_count : Int32) (f_boxes f_boxKept f_trial f_offers f_A_noteCounts f_A_notes f_B_noteCounts f_B_notes f_now_where f_now_worn f_ahead_where f_ahead_worn f_acts_rows f_kn_tunes f_kn_noteTimes : Nat → Int32) (J : Nat → Nat → Int32) (L : Nat → Nat → Int64) (p0 : Int32) (sz : Nat) (hI : (IX i_tapeLength i_time i_lyingCount i_rd_token i_sc_count i_sc_at i_A_tunes i_A_houses i_fA_length i_B_tunes i_B_houses i_fB_length i_acts_done i_acts_undone i_kn_count f_boxes f_A_noteCounts f_A_notes f_B_noteCounts f_B_notes f_now_worn f_ahead_worn f_acts_rows f_kn_tunes)) : Met l yX1_addStep (.code yX1_addStep cX1_addStep 2 none :: GW) { frames := 2, cells := 0, slots := 0, locals := 100 } (va_Pc [.ref (r 6), .int p0] (pW (dC, dI) (WX r ct i_tapeLength i_time i_lyingCount i_rd_fault i_rd_token i_rd_kind i_sc_count i_sc_at i_A_tunes i_A_houses i_fA_length i_B_tunes i_B_houses i_fB_length i_acts_done i_acts_undone i_kn_count f_boxes f_boxKept f_trial f_offers f_A_noteCounts f_A_notes f_B_noteCounts f_B_notes f_now_where f_now_worn f_ahead_where f_ahead_worn f_acts_rows f_kn_tunes f_kn_noteTimes J L) (TX ct) sz)) (va_Qv (fun _ : Unit => True) (fun (_ : Unit) (t : State) => ∃ (n_i_fB_length : Int32) (n_J : Nat → Nat → Int32), va_P (dC, dI) vwCl (WX r ct i_tapeLength i_time i_lyingCount i_rd_fault i_rd_token i_rd_kind i_sc_count i_sc_at i_A_tunes i_A_houses i_fA_length i_B_tunes i_B_houses n_i_fB_length i_acts_done i_acts_undone i_kn_count f_boxes f_boxKept f_trial f_offers f_A_noteCounts f_A_notes f_B_noteCounts f_B_notes f_now_where f_now_worn f_ahead_where f_ahead_worn f_acts_rows f_kn_tunes f_kn_noteTimes n_J L) t.heap ∧ va_D (va_A (WX r ct i_tapeLength i_time i_lyingCount i_rd_fault i_rd_token i_rd_kind i_sc_count i_sc_at i_A_tunes i_A_houses i_fA_length i_B_tunes i_B_houses i_fB_length i_acts_done i_acts_undone i_kn_count f_boxes f_boxKept f_trial f_offers f_A_noteCounts f_A_notes f_B_noteCounts f_B_notes f_now_where f_now_worn f_ahead_where f_ahead_worn f_acts_rows f_kn_tunes f_kn_noteTimes J L) sz) (WX r ct i_tapeLength i_time i_lyingCount i_rd_fault i_rd_token i_rd_kind i_sc_count i_sc_at i_A_tunes i_A_houses i_fA_length i_B_tunes i_B_houses n_i_fB_length i_acts_done i_acts_undone i_kn_count f_boxes f_boxKept f_trial f_offers f_A_noteCounts f_A_notes f_B_noteCounts f_B_notes f_now_where f_now_worn f_ahead_where f_ahead_worn f_acts_rows f_kn_tunes f_kn_noteTimes n_J L) ∧ (IX i_tapeLength i_time i_lyingCount i_rd_token i_sc_count i_sc_at i_A_tunes i_A_houses i_fA_length i_B_tunes i_B_houses n_i_fB_length i_acts_done i_acts_undone i_kn_count f_boxes f_A_noteCounts f_A_notes f_B_noteCounts f_B_notes f_now_worn f_ahead_worn f_acts_rows f_kn_tunes)) (va_A (WX r ct i_tapeLength i_time i_lyingCount i_rd_fault i_rd_token i_rd_kind i_sc_count i_sc_at i_A_tunes i_A_houses i_fA_length i_B_tunes i_B_houses i_fB_length i_acts_done i_acts_undone i_kn_count f_boxes f_boxKept f_trial f_offers f_A_noteCounts f_A_notes f_B_noteCounts f_B_notes f_now_where f_now_worn f_ahead_where f_ahead_worn f_acts_rows f_kn_tunes f_kn_noteTimes J L) sz)) 0 0 (va_A (WX r ct i_tapeLength i_time i_lyingCount i_rd_fault i_rd_token i_rd_kind i_sc_count i_sc_at i_A_tunes i_A_houses i_fA_length i_B_tunes i_B_houses i_fB_length i_acts_done i_acts_undone i_kn_count f_boxes f_boxKept f_trial f_offers f_A_noteCounts f_A_notes f_B_noteCounts f_B_notes f_now_where f_now_worn f_ahead_where f_ahead_worn f_acts_rows f_kn_tunes f_kn_noteTimes J L) sz) := by
  refine Met.ofW (cc := cX1_addStep) (maxL := 2) (ret := none) (by decide) rfl ?_
  intro p e s m args below meth c0 s₁ B hml hv
  obtain ⟨rfl, hsz, hP, hK, hD0⟩ := hv
  have hx := B.exec
  have hb := B.bytes
  have hr := B.returns
  have hts := atoms_spec (ws := .code yX1_addStep cX1_addStep 2 none :: GW) B.pre
  have hG : ∀ w ∈ GW, w.before _ s = true := fun w h => hts w (List.mem_cons_of_mem _ h)
  have hown : s.vm.findClass RX1 = some m.cls := findClass_of_methodNamed B.named
  subst hsz
  have hD := hD0.self (sz := s.heap.size)
  generalize hAe : va_A (WX r ct i_tapeLength i_time i_lyingCount i_rd_fault i_rd_token i_rd_kind i_sc_count i_sc_at i_A_tunes i_A_houses i_fA_length i_B_tunes i_B_houses i_fB_length i_acts_done i_acts_undone i_kn_count f_boxes f_boxKept f_trial f_offers f_A_noteCounts f_A_notes f_B_noteCounts f_B_notes f_now_where f_now_worn f_ahead_where f_ahead_worn f_acts_rows f_kn_tunes f_kn_noteTimes J L) s.heap.size = A at hD ⊢
  have hA : ∀ q : Nat, s.heap.size ≤ q → A q := fun q h => by rw [← hAe]; exact Or.inr h
  have hS : va_S A s.heap s.heap [] := va_S.rf
  have hP : va_P (dC, dI) vwCl (WX r ct i_tapeLength i_time i_lyingCount i_rd_fault i_rd_token i_rd_kind i_sc_count i_sc_at i_A_tunes i_A_houses i_fA_length i_B_tunes i_B_houses i_fB_length i_acts_done i_acts_undone i_kn_count f_boxes f_boxKept f_trial f_offers f_A_noteCounts f_A_notes f_B_noteCounts f_B_notes f_now_where f_now_worn f_ahead_where f_ahead_worn f_acts_rows f_kn_tunes f_kn_noteTimes J L) s.heap := hP
  have hl := lv_entry ([.ref (r 6), .int p0]) (n := 2) (Nat.le_of_ble_eq_true rfl)
  rw [lg_entry_eq]
  generalize (lg_sl ([.ref (r 6), .int p0]) ++ List.replicate (2 - (lg_sl ([.ref (r 6), .int p0])).length) Slot.unset).toArray = ls at hl ⊢
  have hl : lv_has ls 2 [(0, .ref (r 6)), (1, .int p0)] := hl
  refine nameQ (fun Q hQ => ?_)
  obtain ⟨ie0, ie1, ie2, ie3, ie4, ie5, ie6, ie7, ie8, ie9, ie10, ie11, ie12, ie13, ie14, ie15, ie16, ie17, ie18, ie19, ie20, ie21, ie22, ie23, ie24, ie25, ie26, ie27, ie28, ie29, ie30, ie31, ie32, ie33, ie34, ie35, ie36, ie37, ie38, ie39⟩ := id hI
  refine lv_aload_n hx hb dX1_addStep_0 rfl (lv_at hl 0 rfl) ?_
  refine gX_X1_18_6 hx hb hG hown hK hP dX1_addStep_1 ?_
  refine lv_sipush (v := 300) hx hb dX1_addStep_4 (by decide) ?_
  refine lv_icmp_ge (tgt := 30) hx hb dX1_addStep_7 (by decide) (fun c_1 => ?_) (fun c_1 => ?_)
  · skip
    have f2 : 300 ≤ i_fB_length.toInt := qi_le c_1 zc_300 rfl
    rw [hQ]
    exact W.vret hx hb hr (fun t ht hW => ⟨⟨(), rfl, trivial, ⟨i_fB_length, J, by rw [ht]; exact hP, hD, hI⟩⟩, hS.F ht⟩) hS.2.2 dX1_addStep_30
  · skip
    have f3 : i_fB_length.toInt < 300 := qi_nle c_1 zc_300 rfl
    refine lv_aload_n hx hb dX1_addStep_10 rfl (lv_at hl 0 rfl) ?_
    refine gX_X1_11_6 hx hb hG hown hK hP dX1_addStep_11 ?_
    refine lv_aload_n hx hb dX1_addStep_14 rfl (lv_at hl 0 rfl) ?_
    refine gX_X1_18_6 hx hb hG hown hK hP dX1_addStep_15 ?_
    refine lv_iload_n hx hb dX1_addStep_18 rfl (lv_at hl 1 rfl) ?_
    refine stX_39 (mm := i_fB_length.toInt) hx hb hK hP hD hS rfl (ox_868 ie22 ie23 f3) (ox_869 ie22 ie23 f3) dX1_addStep_19 (fun J5 H4 locs hP hD hS => ?_)
    refine lv_aload_n hx hb dX1_addStep_20 rfl (lv_at hl 0 rfl) ?_
    refine lv_dup hx hb dX1_addStep_21 rfl ?_
    refine gX_X1_18_6 hx hb hG hown hK hP dX1_addStep_22 ?_
    refine lv_iconst (v := 1) hx hb dX1_addStep_25 (by decide) ?_
    refine lv_iadd hx hb dX1_addStep_26 ?_
    refine lv_topi (fun x6 ex6 => ?_)
    have f7 : x6.toInt = i_fB_length.toInt + 1 := (ox_13 (qi_add ex6 rfl zc_1 (ox_870 ie22 ie23 f3) (ox_871 ie22 ie23 f3)))
    refine pX_X1_18_6 hx hb hG hown hK hP hD hS dX1_addStep_27 (fun H8 locs hP hD hS => ?_)
    rw [hQ]
    exact W.vret hx hb hr (fun t ht hW => ⟨⟨(), rfl, trivial, ⟨x6, J5, by rw [ht]; exact hP, hD, ⟨ie0, ie1, ie2, ie3, ie4, ie5, ie6, ie7, ie8, ie9, ie10, ie11, ie12, ie13, ie14, ie15, ie16, ie17, ie18, ie19, ie20, ie21, (ox_872 ie22 ie23 f3 f7), (ox_873 ie22 ie23 f3 f7), ie24, ie25, ie26, ie27, ie28, ie29, ie30, ie31, ie32, ie33, ie34, ie35, ie36, ie37, ie38, ie39⟩⟩⟩, hS.F ht⟩) hS.2.2 dX1_addStep_30
set_option maxHeartbeats 4000000 in
set_option maxRecDepth 100000 in
theorem kX1_addFact (l : Launch) (dC : Nat → ClassId) (dI : Nat → Nat → Nat) (r : Nat → Nat) (ct : Nat → ClassId) (i_tapeLength i_time i_lyingCount i_rd_fault i_rd_token i_rd_kind i_sc_count i_sc_at i_A_tunes i_A_houses i_fA_length i_B_tunes i_B_houses i_fB_length i_acts_done i_acts_undone i_kn_count : Int32) (f_boxes f_boxKept f_trial f_offers f_A_noteCounts f_A_notes f_B_noteCounts f_B_notes f_now_where f_now_worn f_ahead_where f_ahead_worn f_acts_rows f_kn_tunes f_kn_noteTimes : Nat → Int32) (J : Nat → Nat → Int32) (L : Nat → Nat → Int64) (p0 : Int32) (sz : Nat) (hI : (IX i_tapeLength i_time i_lyingCount i_rd_token i_sc_count i_sc_at i_A_tunes i_A_houses i_fA_length i_B_tunes i_B_houses i_fB_length i_acts_done i_acts_undone i_kn_count f_boxes f_A_noteCounts f_A_notes f_B_noteCounts f_B_notes f_now_worn f_ahead_worn f_acts_rows f_kn_tunes)) : Met l yX1_addFact (.code yX1_addFact cX1_addFact 2 none :: GW) { frames := 4, cells := 0, slots := 0, locals := 161 } (va_Pc [.ref (r 6), .int p0] (pW (dC, dI) (WX r ct i_tapeLength i_time i_lyingCount i_rd_fault i_rd_token i_rd_kind i_sc_count i_sc_at i_A_tunes i_A_houses i_fA_length i_B_tunes i_B_houses i_fB_length i_acts_done i_acts_undone i_kn_count f_boxes f_boxKept f_trial f_offers f_A_noteCounts f_A_notes f_B_noteCounts f_B_notes f_now_where f_now_worn f_ahead_where f_ahead_worn f_acts_rows f_kn_tunes f_kn_noteTimes J L) (TX ct) sz)) (va_Qv (fun _ : Unit => True) (fun (_ : Unit) (t : State) => ∃ (n_i_fB_length : Int32) (n_J : Nat → Nat → Int32), va_P (dC, dI) vwCl (WX r ct i_tapeLength i_time i_lyingCount i_rd_fault i_rd_token i_rd_kind i_sc_count i_sc_at i_A_tunes i_A_houses i_fA_length i_B_tunes i_B_houses n_i_fB_length i_acts_done i_acts_undone i_kn_count f_boxes f_boxKept f_trial f_offers f_A_noteCounts f_A_notes f_B_noteCounts f_B_notes f_now_where f_now_worn f_ahead_where f_ahead_worn f_acts_rows f_kn_tunes f_kn_noteTimes n_J L) t.heap ∧ va_D (va_A (WX r ct i_tapeLength i_time i_lyingCount i_rd_fault i_rd_token i_rd_kind i_sc_count i_sc_at i_A_tunes i_A_houses i_fA_length i_B_tunes i_B_houses i_fB_length i_acts_done i_acts_undone i_kn_count f_boxes f_boxKept f_trial f_offers f_A_noteCounts f_A_notes f_B_noteCounts f_B_notes f_now_where f_now_worn f_ahead_where f_ahead_worn f_acts_rows f_kn_tunes f_kn_noteTimes J L) sz) (WX r ct i_tapeLength i_time i_lyingCount i_rd_fault i_rd_token i_rd_kind i_sc_count i_sc_at i_A_tunes i_A_houses i_fA_length i_B_tunes i_B_houses n_i_fB_length i_acts_done i_acts_undone i_kn_count f_boxes f_boxKept f_trial f_offers f_A_noteCounts f_A_notes f_B_noteCounts f_B_notes f_now_where f_now_worn f_ahead_where f_ahead_worn f_acts_rows f_kn_tunes f_kn_noteTimes n_J L) ∧ (IX i_tapeLength i_time i_lyingCount i_rd_token i_sc_count i_sc_at i_A_tunes i_A_houses i_fA_length i_B_tunes i_B_houses n_i_fB_length i_acts_done i_acts_undone i_kn_count f_boxes f_A_noteCounts f_A_notes f_B_noteCounts f_B_notes f_now_worn f_ahead_worn f_acts_rows f_kn_tunes)) (va_A (WX r ct i_tapeLength i_time i_lyingCount i_rd_fault i_rd_token i_rd_kind i_sc_count i_sc_at i_A_tunes i_A_houses i_fA_length i_B_tunes i_B_houses i_fB_length i_acts_done i_acts_undone i_kn_count f_boxes f_boxKept f_trial f_offers f_A_noteCounts f_A_notes f_B_noteCounts f_B_notes f_now_where f_now_worn f_ahead_where f_ahead_worn f_acts_rows f_kn_tunes f_kn_noteTimes J L) sz)) 0 0 (va_A (WX r ct i_tapeLength i_time i_lyingCount i_rd_fault i_rd_token i_rd_kind i_sc_count i_sc_at i_A_tunes i_A_houses i_fA_length i_B_tunes i_B_houses i_fB_length i_acts_done i_acts_undone i_kn_count f_boxes f_boxKept f_trial f_offers f_A_noteCounts f_A_notes f_B_noteCounts f_B_notes f_now_where f_now_worn f_ahead_where f_ahead_worn f_acts_rows f_kn_tunes f_kn_noteTimes J L) sz) := by
  refine Met.ofW (cc := cX1_addFact) (maxL := 2) (ret := none) (by decide) rfl ?_
  intro p e s m args below meth c0 s₁ B hml hv
  obtain ⟨rfl, hsz, hP, hK, hD0⟩ := hv
  have hx := B.exec
  have hb := B.bytes
  have hr := B.returns
  have hts := atoms_spec (ws := .code yX1_addFact cX1_addFact 2 none :: GW) B.pre
  have hG : ∀ w ∈ GW, w.before _ s = true := fun w h => hts w (List.mem_cons_of_mem _ h)
  have hown : s.vm.findClass RX1 = some m.cls := findClass_of_methodNamed B.named
  subst hsz
  have hD := hD0.self (sz := s.heap.size)
  generalize hAe : va_A (WX r ct i_tapeLength i_time i_lyingCount i_rd_fault i_rd_token i_rd_kind i_sc_count i_sc_at i_A_tunes i_A_houses i_fA_length i_B_tunes i_B_houses i_fB_length i_acts_done i_acts_undone i_kn_count f_boxes f_boxKept f_trial f_offers f_A_noteCounts f_A_notes f_B_noteCounts f_B_notes f_now_where f_now_worn f_ahead_where f_ahead_worn f_acts_rows f_kn_tunes f_kn_noteTimes J L) s.heap.size = A at hD ⊢
  have hA : ∀ q : Nat, s.heap.size ≤ q → A q := fun q h => by rw [← hAe]; exact Or.inr h
  have hS : va_S A s.heap s.heap [] := va_S.rf
  have hP : va_P (dC, dI) vwCl (WX r ct i_tapeLength i_time i_lyingCount i_rd_fault i_rd_token i_rd_kind i_sc_count i_sc_at i_A_tunes i_A_houses i_fA_length i_B_tunes i_B_houses i_fB_length i_acts_done i_acts_undone i_kn_count f_boxes f_boxKept f_trial f_offers f_A_noteCounts f_A_notes f_B_noteCounts f_B_notes f_now_where f_now_worn f_ahead_where f_ahead_worn f_acts_rows f_kn_tunes f_kn_noteTimes J L) s.heap := hP
  have hl := lv_entry ([.ref (r 6), .int p0]) (n := 2) (Nat.le_of_ble_eq_true rfl)
  rw [lg_entry_eq]
  generalize (lg_sl ([.ref (r 6), .int p0]) ++ List.replicate (2 - (lg_sl ([.ref (r 6), .int p0])).length) Slot.unset).toArray = ls at hl ⊢
  have hl : lv_has ls 2 [(0, .ref (r 6)), (1, .int p0)] := hl
  refine nameQ (fun Q hQ => ?_)
  obtain ⟨ie0, ie1, ie2, ie3, ie4, ie5, ie6, ie7, ie8, ie9, ie10, ie11, ie12, ie13, ie14, ie15, ie16, ie17, ie18, ie19, ie20, ie21, ie22, ie23, ie24, ie25, ie26, ie27, ie28, ie29, ie30, ie31, ie32, ie33, ie34, ie35, ie36, ie37, ie38, ie39⟩ := id hI
  refine lv_aload_n hx hb dX1_addFact_0 rfl (lv_at hl 0 rfl) ?_
  refine lv_sipush (v := 10000) hx hb dX1_addFact_1 (by decide) ?_
  refine lv_iload_n hx hb dX1_addFact_4 rfl (lv_at hl 1 rfl) ?_
  refine lv_iadd hx hb dX1_addFact_5 ?_
  refine lv_topi (fun x1 ex1 => ?_)
  refine lv_bipush (v := 112) hx hb dX1_addFact_6 (by decide) ?_
  refine lv_isub hx hb dX1_addFact_8 ?_
  refine lv_topi (fun x2 ex2 => ?_)
  have hFc := frA hD hS hA
  refine va_callv (va_runV (As := [.int x2]) (rest := []) ⟨hx, hb, hml, hown, hG⟩ (kX1_addStep l dC dI r ct i_tapeLength i_time i_lyingCount i_rd_fault i_rd_token i_rd_kind i_sc_count i_sc_at i_A_tunes i_A_houses i_fA_length i_B_tunes i_B_houses i_fB_length i_acts_done i_acts_undone i_kn_count f_boxes f_boxKept f_trial f_offers f_A_noteCounts f_A_notes f_B_noteCounts f_B_notes f_now_where f_now_worn f_ahead_where f_ahead_worn f_acts_rows f_kn_tunes f_kn_noteTimes J L x2 s.heap.size hI) (cwV 1 hG (goodV gw222 gw224 gw1 gw133 gw225) rfl rfl rfl hd_X1_addStep ⟨(Nat.le_of_ble_eq_true rfl), (Nat.le_of_ble_eq_true rfl)⟩) ⟨fbW, va_recv hK hP (ci := 1) (q0 := 6) rfl rfl, pW_in hP hK hD⟩ rfl rfl hl.1 rfl (lv_room (Nat.le_of_ble_eq_true rfl)) dX1_addFact_9 ⟨(Nat.le_of_ble_eq_true rfl), (Nat.le_of_ble_eq_true rfl)⟩) hS (fun q _ h => hFc q h) hFc (fun _ t_ H3 locs ht hvm hw hB hz1 hk1 hS => ?_)
  obtain ⟨x5, J6, hP1, hD1, hI7⟩ := hB
  rw [ht] at hP1
  have hP := hP1
  have hD := dW hFc hD1
  obtain ⟨im8, im9, im10, im11, im12, im13, im14, im15, im16, im17, im18, im19, im20, im21, im22, im23, im24, im25, im26, im27, im28, im29, im30, im31, im32, im33, im34, im35, im36, im37, im38, im39, im40, im41, im42, im43, im44, im45, im46, im47⟩ := id hI7
  rw [hQ]
  exact W.vret hx hb hr (fun t ht hW => ⟨⟨(), rfl, trivial, ⟨x5, J6, by rw [ht]; exact hP, hD, hI7⟩⟩, hS.F ht⟩) hS.2.2 dX1_addFact_12
set_option maxHeartbeats 4000000 in
set_option maxRecDepth 100000 in
theorem kX1_addNumber (l : Launch) (dC : Nat → ClassId) (dI : Nat → Nat → Nat) (r : Nat → Nat) (ct : Nat → ClassId) (i_tapeLength i_time i_lyingCount i_rd_fault i_rd_token i_rd_kind i_sc_count i_sc_at i_A_tunes i_A_houses i_fA_length i_B_tunes i_B_houses i_fB_length i_acts_done i_acts_undone i_kn_count : Int32) (f_boxes f_boxKept f_trial f_offers f_A_noteCounts f_A_notes f_B_noteCounts f_B_notes f_now_where f_now_worn f_ahead_where f_ahead_worn f_acts_rows f_kn_tunes f_kn_noteTimes : Nat → Int32) (J : Nat → Nat → Int32) (L : Nat → Nat → Int64) (p0 : Int32) (sz : Nat) (hI : (IX i_tapeLength i_time i_lyingCount i_rd_token i_sc_count i_sc_at i_A_tunes i_A_houses i_fA_length i_B_tunes i_B_houses i_fB_length i_acts_done i_acts_undone i_kn_count f_boxes f_A_noteCounts f_A_notes f_B_noteCounts f_B_notes f_now_worn f_ahead_worn f_acts_rows f_kn_tunes)) : Met l yX1_addNumber (.code yX1_addNumber cX1_addNumber 2 none :: GW) { frames := 4, cells := 0, slots := 0, locals := 161 } (va_Pc [.ref (r 6), .int p0] (pW (dC, dI) (WX r ct i_tapeLength i_time i_lyingCount i_rd_fault i_rd_token i_rd_kind i_sc_count i_sc_at i_A_tunes i_A_houses i_fA_length i_B_tunes i_B_houses i_fB_length i_acts_done i_acts_undone i_kn_count f_boxes f_boxKept f_trial f_offers f_A_noteCounts f_A_notes f_B_noteCounts f_B_notes f_now_where f_now_worn f_ahead_where f_ahead_worn f_acts_rows f_kn_tunes f_kn_noteTimes J L) (TX ct) sz)) (va_Qv (fun _ : Unit => True) (fun (_ : Unit) (t : State) => ∃ (n_i_fB_length : Int32) (n_J : Nat → Nat → Int32), va_P (dC, dI) vwCl (WX r ct i_tapeLength i_time i_lyingCount i_rd_fault i_rd_token i_rd_kind i_sc_count i_sc_at i_A_tunes i_A_houses i_fA_length i_B_tunes i_B_houses n_i_fB_length i_acts_done i_acts_undone i_kn_count f_boxes f_boxKept f_trial f_offers f_A_noteCounts f_A_notes f_B_noteCounts f_B_notes f_now_where f_now_worn f_ahead_where f_ahead_worn f_acts_rows f_kn_tunes f_kn_noteTimes n_J L) t.heap ∧ va_D (va_A (WX r ct i_tapeLength i_time i_lyingCount i_rd_fault i_rd_token i_rd_kind i_sc_count i_sc_at i_A_tunes i_A_houses i_fA_length i_B_tunes i_B_houses i_fB_length i_acts_done i_acts_undone i_kn_count f_boxes f_boxKept f_trial f_offers f_A_noteCounts f_A_notes f_B_noteCounts f_B_notes f_now_where f_now_worn f_ahead_where f_ahead_worn f_acts_rows f_kn_tunes f_kn_noteTimes J L) sz) (WX r ct i_tapeLength i_time i_lyingCount i_rd_fault i_rd_token i_rd_kind i_sc_count i_sc_at i_A_tunes i_A_houses i_fA_length i_B_tunes i_B_houses n_i_fB_length i_acts_done i_acts_undone i_kn_count f_boxes f_boxKept f_trial f_offers f_A_noteCounts f_A_notes f_B_noteCounts f_B_notes f_now_where f_now_worn f_ahead_where f_ahead_worn f_acts_rows f_kn_tunes f_kn_noteTimes n_J L) ∧ (IX i_tapeLength i_time i_lyingCount i_rd_token i_sc_count i_sc_at i_A_tunes i_A_houses i_fA_length i_B_tunes i_B_houses n_i_fB_length i_acts_done i_acts_undone i_kn_count f_boxes f_A_noteCounts f_A_notes f_B_noteCounts f_B_notes f_now_worn f_ahead_worn f_acts_rows f_kn_tunes)) (va_A (WX r ct i_tapeLength i_time i_lyingCount i_rd_fault i_rd_token i_rd_kind i_sc_count i_sc_at i_A_tunes i_A_houses i_fA_length i_B_tunes i_B_houses i_fB_length i_acts_done i_acts_undone i_kn_count f_boxes f_boxKept f_trial f_offers f_A_noteCounts f_A_notes f_B_noteCounts f_B_notes f_now_where f_now_worn f_ahead_where f_ahead_worn f_acts_rows f_kn_tunes f_kn_noteTimes J L) sz)) 0 0 (va_A (WX r ct i_tapeLength i_time i_lyingCount i_rd_fault i_rd_token i_rd_kind i_sc_count i_sc_at i_A_tunes i_A_houses i_fA_length i_B_tunes i_B_houses i_fB_length i_acts_done i_acts_undone i_kn_count f_boxes f_boxKept f_trial f_offers f_A_noteCounts f_A_notes f_B_noteCounts f_B_notes f_now_where f_now_worn f_ahead_where f_ahead_worn f_acts_rows f_kn_tunes f_kn_noteTimes J L) sz) := by
  refine Met.ofW (cc := cX1_addNumber) (maxL := 2) (ret := none) (by decide) rfl ?_
  intro p e s m args below meth c0 s₁ B hml hv
  obtain ⟨rfl, hsz, hP, hK, hD0⟩ := hv
  have hx := B.exec
  have hb := B.bytes
  have hr := B.returns
  have hts := atoms_spec (ws := .code yX1_addNumber cX1_addNumber 2 none :: GW) B.pre
  have hG : ∀ w ∈ GW, w.before _ s = true := fun w h => hts w (List.mem_cons_of_mem _ h)
  have hown : s.vm.findClass RX1 = some m.cls := findClass_of_methodNamed B.named
  subst hsz
  have hD := hD0.self (sz := s.heap.size)
  generalize hAe : va_A (WX r ct i_tapeLength i_time i_lyingCount i_rd_fault i_rd_token i_rd_kind i_sc_count i_sc_at i_A_tunes i_A_houses i_fA_length i_B_tunes i_B_houses i_fB_length i_acts_done i_acts_undone i_kn_count f_boxes f_boxKept f_trial f_offers f_A_noteCounts f_A_notes f_B_noteCounts f_B_notes f_now_where f_now_worn f_ahead_where f_ahead_worn f_acts_rows f_kn_tunes f_kn_noteTimes J L) s.heap.size = A at hD ⊢
  have hA : ∀ q : Nat, s.heap.size ≤ q → A q := fun q h => by rw [← hAe]; exact Or.inr h
  have hS : va_S A s.heap s.heap [] := va_S.rf
  have hP : va_P (dC, dI) vwCl (WX r ct i_tapeLength i_time i_lyingCount i_rd_fault i_rd_token i_rd_kind i_sc_count i_sc_at i_A_tunes i_A_houses i_fA_length i_B_tunes i_B_houses i_fB_length i_acts_done i_acts_undone i_kn_count f_boxes f_boxKept f_trial f_offers f_A_noteCounts f_A_notes f_B_noteCounts f_B_notes f_now_where f_now_worn f_ahead_where f_ahead_worn f_acts_rows f_kn_tunes f_kn_noteTimes J L) s.heap := hP
  have hl := lv_entry ([.ref (r 6), .int p0]) (n := 2) (Nat.le_of_ble_eq_true rfl)
  rw [lg_entry_eq]
  generalize (lg_sl ([.ref (r 6), .int p0]) ++ List.replicate (2 - (lg_sl ([.ref (r 6), .int p0])).length) Slot.unset).toArray = ls at hl ⊢
  have hl : lv_has ls 2 [(0, .ref (r 6)), (1, .int p0)] := hl
  refine nameQ (fun Q hQ => ?_)
  obtain ⟨ie0, ie1, ie2, ie3, ie4, ie5, ie6, ie7, ie8, ie9, ie10, ie11, ie12, ie13, ie14, ie15, ie16, ie17, ie18, ie19, ie20, ie21, ie22, ie23, ie24, ie25, ie26, ie27, ie28, ie29, ie30, ie31, ie32, ie33, ie34, ie35, ie36, ie37, ie38, ie39⟩ := id hI
  refine lv_aload_n hx hb dX1_addNumber_0 rfl (lv_at hl 0 rfl) ?_
  refine lv_iload_n hx hb dX1_addNumber_1 rfl (lv_at hl 1 rfl) ?_
  have hFc := frA hD hS hA
  refine va_callv (va_runV (As := [.int p0]) (rest := []) ⟨hx, hb, hml, hown, hG⟩ (kX1_addStep l dC dI r ct i_tapeLength i_time i_lyingCount i_rd_fault i_rd_token i_rd_kind i_sc_count i_sc_at i_A_tunes i_A_houses i_fA_length i_B_tunes i_B_houses i_fB_length i_acts_done i_acts_undone i_kn_count f_boxes f_boxKept f_trial f_offers f_A_noteCounts f_A_notes f_B_noteCounts f_B_notes f_now_where f_now_worn f_ahead_where f_ahead_worn f_acts_rows f_kn_tunes f_kn_noteTimes J L p0 s.heap.size hI) (cwV 1 hG (goodV gw222 gw224 gw1 gw133 gw225) rfl rfl rfl hd_X1_addStep ⟨(Nat.le_of_ble_eq_true rfl), (Nat.le_of_ble_eq_true rfl)⟩) ⟨fbW, va_recv hK hP (ci := 1) (q0 := 6) rfl rfl, pW_in hP hK hD⟩ rfl rfl hl.1 rfl (lv_room (Nat.le_of_ble_eq_true rfl)) dX1_addNumber_2 ⟨(Nat.le_of_ble_eq_true rfl), (Nat.le_of_ble_eq_true rfl)⟩) hS (fun q _ h => hFc q h) hFc (fun _ t_ H1 locs ht hvm hw hB hz1 hk1 hS => ?_)
  obtain ⟨x3, J4, hP1, hD1, hI5⟩ := hB
  rw [ht] at hP1
  have hP := hP1
  have hD := dW hFc hD1
  obtain ⟨im6, im7, im8, im9, im10, im11, im12, im13, im14, im15, im16, im17, im18, im19, im20, im21, im22, im23, im24, im25, im26, im27, im28, im29, im30, im31, im32, im33, im34, im35, im36, im37, im38, im39, im40, im41, im42, im43, im44, im45⟩ := id hI5
  rw [hQ]
  exact W.vret hx hb hr (fun t ht hW => ⟨⟨(), rfl, trivial, ⟨x3, J4, by rw [ht]; exact hP, hD, hI5⟩⟩, hS.F ht⟩) hS.2.2 dX1_addNumber_5
set_option maxHeartbeats 4000000 in
set_option maxRecDepth 100000 in
theorem kX1_addOperator (l : Launch) (dC : Nat → ClassId) (dI : Nat → Nat → Nat) (r : Nat → Nat) (ct : Nat → ClassId) (i_tapeLength i_time i_lyingCount i_rd_fault i_rd_token i_rd_kind i_sc_count i_sc_at i_A_tunes i_A_houses i_fA_length i_B_tunes i_B_houses i_fB_length i_acts_done i_acts_undone i_kn_count : Int32) (f_boxes f_boxKept f_trial f_offers f_A_noteCounts f_A_notes f_B_noteCounts f_B_notes f_now_where f_now_worn f_ahead_where f_ahead_worn f_acts_rows f_kn_tunes f_kn_noteTimes : Nat → Int32) (J : Nat → Nat → Int32) (L : Nat → Nat → Int64) (p0 : Int32) (sz : Nat) (hI : (IX i_tapeLength i_time i_lyingCount i_rd_token i_sc_count i_sc_at i_A_tunes i_A_houses i_fA_length i_B_tunes i_B_houses i_fB_length i_acts_done i_acts_undone i_kn_count f_boxes f_A_noteCounts f_A_notes f_B_noteCounts f_B_notes f_now_worn f_ahead_worn f_acts_rows f_kn_tunes)) : Met l yX1_addOperator (.code yX1_addOperator cX1_addOperator 2 none :: GW) { frames := 4, cells := 0, slots := 0, locals := 161 } (va_Pc [.ref (r 6), .int p0] (pW (dC, dI) (WX r ct i_tapeLength i_time i_lyingCount i_rd_fault i_rd_token i_rd_kind i_sc_count i_sc_at i_A_tunes i_A_houses i_fA_length i_B_tunes i_B_houses i_fB_length i_acts_done i_acts_undone i_kn_count f_boxes f_boxKept f_trial f_offers f_A_noteCounts f_A_notes f_B_noteCounts f_B_notes f_now_where f_now_worn f_ahead_where f_ahead_worn f_acts_rows f_kn_tunes f_kn_noteTimes J L) (TX ct) sz)) (va_Qv (fun _ : Unit => True) (fun (_ : Unit) (t : State) => ∃ (n_i_fB_length : Int32) (n_J : Nat → Nat → Int32), va_P (dC, dI) vwCl (WX r ct i_tapeLength i_time i_lyingCount i_rd_fault i_rd_token i_rd_kind i_sc_count i_sc_at i_A_tunes i_A_houses i_fA_length i_B_tunes i_B_houses n_i_fB_length i_acts_done i_acts_undone i_kn_count f_boxes f_boxKept f_trial f_offers f_A_noteCounts f_A_notes f_B_noteCounts f_B_notes f_now_where f_now_worn f_ahead_where f_ahead_worn f_acts_rows f_kn_tunes f_kn_noteTimes n_J L) t.heap ∧ va_D (va_A (WX r ct i_tapeLength i_time i_lyingCount i_rd_fault i_rd_token i_rd_kind i_sc_count i_sc_at i_A_tunes i_A_houses i_fA_length i_B_tunes i_B_houses i_fB_length i_acts_done i_acts_undone i_kn_count f_boxes f_boxKept f_trial f_offers f_A_noteCounts f_A_notes f_B_noteCounts f_B_notes f_now_where f_now_worn f_ahead_where f_ahead_worn f_acts_rows f_kn_tunes f_kn_noteTimes J L) sz) (WX r ct i_tapeLength i_time i_lyingCount i_rd_fault i_rd_token i_rd_kind i_sc_count i_sc_at i_A_tunes i_A_houses i_fA_length i_B_tunes i_B_houses n_i_fB_length i_acts_done i_acts_undone i_kn_count f_boxes f_boxKept f_trial f_offers f_A_noteCounts f_A_notes f_B_noteCounts f_B_notes f_now_where f_now_worn f_ahead_where f_ahead_worn f_acts_rows f_kn_tunes f_kn_noteTimes n_J L) ∧ (IX i_tapeLength i_time i_lyingCount i_rd_token i_sc_count i_sc_at i_A_tunes i_A_houses i_fA_length i_B_tunes i_B_houses n_i_fB_length i_acts_done i_acts_undone i_kn_count f_boxes f_A_noteCounts f_A_notes f_B_noteCounts f_B_notes f_now_worn f_ahead_worn f_acts_rows f_kn_tunes)) (va_A (WX r ct i_tapeLength i_time i_lyingCount i_rd_fault i_rd_token i_rd_kind i_sc_count i_sc_at i_A_tunes i_A_houses i_fA_length i_B_tunes i_B_houses i_fB_length i_acts_done i_acts_undone i_kn_count f_boxes f_boxKept f_trial f_offers f_A_noteCounts f_A_notes f_B_noteCounts f_B_notes f_now_where f_now_worn f_ahead_where f_ahead_worn f_acts_rows f_kn_tunes f_kn_noteTimes J L) sz)) 0 0 (va_A (WX r ct i_tapeLength i_time i_lyingCount i_rd_fault i_rd_token i_rd_kind i_sc_count i_sc_at i_A_tunes i_A_houses i_fA_length i_B_tunes i_B_houses i_fB_length i_acts_done i_acts_undone i_kn_count f_boxes f_boxKept f_trial f_offers f_A_noteCounts f_A_notes f_B_noteCounts f_B_notes f_now_where f_now_worn f_ahead_where f_ahead_worn f_acts_rows f_kn_tunes f_kn_noteTimes J L) sz) := by
  refine Met.ofW (cc := cX1_addOperator) (maxL := 2) (ret := none) (by decide) rfl ?_
  intro p e s m args below meth c0 s₁ B hml hv
  obtain ⟨rfl, hsz, hP, hK, hD0⟩ := hv
  have hx := B.exec
  have hb := B.bytes
  have hr := B.returns
  have hts := atoms_spec (ws := .code yX1_addOperator cX1_addOperator 2 none :: GW) B.pre
  have hG : ∀ w ∈ GW, w.before _ s = true := fun w h => hts w (List.mem_cons_of_mem _ h)
  have hown : s.vm.findClass RX1 = some m.cls := findClass_of_methodNamed B.named
  subst hsz
  have hD := hD0.self (sz := s.heap.size)
  generalize hAe : va_A (WX r ct i_tapeLength i_time i_lyingCount i_rd_fault i_rd_token i_rd_kind i_sc_count i_sc_at i_A_tunes i_A_houses i_fA_length i_B_tunes i_B_houses i_fB_length i_acts_done i_acts_undone i_kn_count f_boxes f_boxKept f_trial f_offers f_A_noteCounts f_A_notes f_B_noteCounts f_B_notes f_now_where f_now_worn f_ahead_where f_ahead_worn f_acts_rows f_kn_tunes f_kn_noteTimes J L) s.heap.size = A at hD ⊢
  have hA : ∀ q : Nat, s.heap.size ≤ q → A q := fun q h => by rw [← hAe]; exact Or.inr h
  have hS : va_S A s.heap s.heap [] := va_S.rf
  have hP : va_P (dC, dI) vwCl (WX r ct i_tapeLength i_time i_lyingCount i_rd_fault i_rd_token i_rd_kind i_sc_count i_sc_at i_A_tunes i_A_houses i_fA_length i_B_tunes i_B_houses i_fB_length i_acts_done i_acts_undone i_kn_count f_boxes f_boxKept f_trial f_offers f_A_noteCounts f_A_notes f_B_noteCounts f_B_notes f_now_where f_now_worn f_ahead_where f_ahead_worn f_acts_rows f_kn_tunes f_kn_noteTimes J L) s.heap := hP
  have hl := lv_entry ([.ref (r 6), .int p0]) (n := 2) (Nat.le_of_ble_eq_true rfl)
  rw [lg_entry_eq]
  generalize (lg_sl ([.ref (r 6), .int p0]) ++ List.replicate (2 - (lg_sl ([.ref (r 6), .int p0])).length) Slot.unset).toArray = ls at hl ⊢
  have hl : lv_has ls 2 [(0, .ref (r 6)), (1, .int p0)] := hl
  refine nameQ (fun Q hQ => ?_)
  obtain ⟨ie0, ie1, ie2, ie3, ie4, ie5, ie6, ie7, ie8, ie9, ie10, ie11, ie12, ie13, ie14, ie15, ie16, ie17, ie18, ie19, ie20, ie21, ie22, ie23, ie24, ie25, ie26, ie27, ie28, ie29, ie30, ie31, ie32, ie33, ie34, ie35, ie36, ie37, ie38, ie39⟩ := id hI
  refine lv_aload_n hx hb dX1_addOperator_0 rfl (lv_at hl 0 rfl) ?_
  refine lv_sipush (v := 20000) hx hb dX1_addOperator_1 (by decide) ?_
  refine lv_iload_n hx hb dX1_addOperator_4 rfl (lv_at hl 1 rfl) ?_
  refine lv_iadd hx hb dX1_addOperator_5 ?_
  refine lv_topi (fun x1 ex1 => ?_)
  have hFc := frA hD hS hA
  refine va_callv (va_runV (As := [.int x1]) (rest := []) ⟨hx, hb, hml, hown, hG⟩ (kX1_addStep l dC dI r ct i_tapeLength i_time i_lyingCount i_rd_fault i_rd_token i_rd_kind i_sc_count i_sc_at i_A_tunes i_A_houses i_fA_length i_B_tunes i_B_houses i_fB_length i_acts_done i_acts_undone i_kn_count f_boxes f_boxKept f_trial f_offers f_A_noteCounts f_A_notes f_B_noteCounts f_B_notes f_now_where f_now_worn f_ahead_where f_ahead_worn f_acts_rows f_kn_tunes f_kn_noteTimes J L x1 s.heap.size hI) (cwV 1 hG (goodV gw222 gw224 gw1 gw133 gw225) rfl rfl rfl hd_X1_addStep ⟨(Nat.le_of_ble_eq_true rfl), (Nat.le_of_ble_eq_true rfl)⟩) ⟨fbW, va_recv hK hP (ci := 1) (q0 := 6) rfl rfl, pW_in hP hK hD⟩ rfl rfl hl.1 rfl (lv_room (Nat.le_of_ble_eq_true rfl)) dX1_addOperator_6 ⟨(Nat.le_of_ble_eq_true rfl), (Nat.le_of_ble_eq_true rfl)⟩) hS (fun q _ h => hFc q h) hFc (fun _ t_ H2 locs ht hvm hw hB hz1 hk1 hS => ?_)
  obtain ⟨x4, J5, hP1, hD1, hI6⟩ := hB
  rw [ht] at hP1
  have hP := hP1
  have hD := dW hFc hD1
  obtain ⟨im7, im8, im9, im10, im11, im12, im13, im14, im15, im16, im17, im18, im19, im20, im21, im22, im23, im24, im25, im26, im27, im28, im29, im30, im31, im32, im33, im34, im35, im36, im37, im38, im39, im40, im41, im42, im43, im44, im45, im46⟩ := id hI6
  rw [hQ]
  exact W.vret hx hb hr (fun t ht hW => ⟨⟨(), rfl, trivial, ⟨x4, J5, by rw [ht]; exact hP, hD, hI6⟩⟩, hS.F ht⟩) hS.2.2 dX1_addOperator_9
set_option maxHeartbeats 4000000 in
set_option maxRecDepth 100000 in
theorem kX4_tellUsualGladness (l : Launch) (dC : Nat → ClassId) (dI : Nat → Nat → Nat) (r : Nat → Nat) (ct : Nat → ClassId) (i_tapeLength i_time i_lyingCount i_rd_fault i_rd_token i_rd_kind i_sc_count i_sc_at i_A_tunes i_A_houses i_fA_length i_B_tunes i_B_houses i_fB_length i_acts_done i_acts_undone i_kn_count : Int32) (f_boxes f_boxKept f_trial f_offers f_A_noteCounts f_A_notes f_B_noteCounts f_B_notes f_now_where f_now_worn f_ahead_where f_ahead_worn f_acts_rows f_kn_tunes f_kn_noteTimes : Nat → Int32) (J : Nat → Nat → Int32) (L : Nat → Nat → Int64) (sz : Nat) (hI : (IX i_tapeLength i_time i_lyingCount i_rd_token i_sc_count i_sc_at i_A_tunes i_A_houses i_fA_length i_B_tunes i_B_houses i_fB_length i_acts_done i_acts_undone i_kn_count f_boxes f_A_noteCounts f_A_notes f_B_noteCounts f_B_notes f_now_worn f_ahead_worn f_acts_rows f_kn_tunes)) : Met l yX4_tellUsualGladness (.code yX4_tellUsualGladness cX4_tellUsualGladness 1 none :: GW) { frames := 6, cells := 0, slots := 0, locals := 222 } (va_Pc [.ref (r 5)] (pW (dC, dI) (WX r ct i_tapeLength i_time i_lyingCount i_rd_fault i_rd_token i_rd_kind i_sc_count i_sc_at i_A_tunes i_A_houses i_fA_length i_B_tunes i_B_houses i_fB_length i_acts_done i_acts_undone i_kn_count f_boxes f_boxKept f_trial f_offers f_A_noteCounts f_A_notes f_B_noteCounts f_B_notes f_now_where f_now_worn f_ahead_where f_ahead_worn f_acts_rows f_kn_tunes f_kn_noteTimes J L) (TX ct) sz)) (va_Qv (fun _ : Unit => True) (fun (_ : Unit) (t : State) => ∃ (n_i_fB_length : Int32) (n_J : Nat → Nat → Int32), va_P (dC, dI) vwCl (WX r ct i_tapeLength i_time i_lyingCount i_rd_fault i_rd_token i_rd_kind i_sc_count i_sc_at i_A_tunes i_A_houses i_fA_length i_B_tunes i_B_houses n_i_fB_length i_acts_done i_acts_undone i_kn_count f_boxes f_boxKept f_trial f_offers f_A_noteCounts f_A_notes f_B_noteCounts f_B_notes f_now_where f_now_worn f_ahead_where f_ahead_worn f_acts_rows f_kn_tunes f_kn_noteTimes n_J L) t.heap ∧ va_D (va_A (WX r ct i_tapeLength i_time i_lyingCount i_rd_fault i_rd_token i_rd_kind i_sc_count i_sc_at i_A_tunes i_A_houses i_fA_length i_B_tunes i_B_houses i_fB_length i_acts_done i_acts_undone i_kn_count f_boxes f_boxKept f_trial f_offers f_A_noteCounts f_A_notes f_B_noteCounts f_B_notes f_now_where f_now_worn f_ahead_where f_ahead_worn f_acts_rows f_kn_tunes f_kn_noteTimes J L) sz) (WX r ct i_tapeLength i_time i_lyingCount i_rd_fault i_rd_token i_rd_kind i_sc_count i_sc_at i_A_tunes i_A_houses i_fA_length i_B_tunes i_B_houses n_i_fB_length i_acts_done i_acts_undone i_kn_count f_boxes f_boxKept f_trial f_offers f_A_noteCounts f_A_notes f_B_noteCounts f_B_notes f_now_where f_now_worn f_ahead_where f_ahead_worn f_acts_rows f_kn_tunes f_kn_noteTimes n_J L) ∧ (IX i_tapeLength i_time i_lyingCount i_rd_token i_sc_count i_sc_at i_A_tunes i_A_houses i_fA_length i_B_tunes i_B_houses n_i_fB_length i_acts_done i_acts_undone i_kn_count f_boxes f_A_noteCounts f_A_notes f_B_noteCounts f_B_notes f_now_worn f_ahead_worn f_acts_rows f_kn_tunes)) (va_A (WX r ct i_tapeLength i_time i_lyingCount i_rd_fault i_rd_token i_rd_kind i_sc_count i_sc_at i_A_tunes i_A_houses i_fA_length i_B_tunes i_B_houses i_fB_length i_acts_done i_acts_undone i_kn_count f_boxes f_boxKept f_trial f_offers f_A_noteCounts f_A_notes f_B_noteCounts f_B_notes f_now_where f_now_worn f_ahead_where f_ahead_worn f_acts_rows f_kn_tunes f_kn_noteTimes J L) sz)) 0 0 (va_A (WX r ct i_tapeLength i_time i_lyingCount i_rd_fault i_rd_token i_rd_kind i_sc_count i_sc_at i_A_tunes i_A_houses i_fA_length i_B_tunes i_B_houses i_fB_length i_acts_done i_acts_undone i_kn_count f_boxes f_boxKept f_trial f_offers f_A_noteCounts f_A_notes f_B_noteCounts f_B_notes f_now_where f_now_worn f_ahead_where f_ahead_worn f_acts_rows f_kn_tunes f_kn_noteTimes J L) sz) := by
  refine Met.ofW (cc := cX4_tellUsualGladness) (maxL := 1) (ret := none) (by decide) rfl ?_
  intro p e s m args below meth c0 s₁ B hml hv
  obtain ⟨rfl, hsz, hP, hK, hD0⟩ := hv
  have hx := B.exec
  have hb := B.bytes
  have hr := B.returns
  have hts := atoms_spec (ws := .code yX4_tellUsualGladness cX4_tellUsualGladness 1 none :: GW) B.pre
  have hG : ∀ w ∈ GW, w.before _ s = true := fun w h => hts w (List.mem_cons_of_mem _ h)
  have hown : s.vm.findClass RX4 = some m.cls := findClass_of_methodNamed B.named
  subst hsz
  have hD := hD0.self (sz := s.heap.size)
  generalize hAe : va_A (WX r ct i_tapeLength i_time i_lyingCount i_rd_fault i_rd_token i_rd_kind i_sc_count i_sc_at i_A_tunes i_A_houses i_fA_length i_B_tunes i_B_houses i_fB_length i_acts_done i_acts_undone i_kn_count f_boxes f_boxKept f_trial f_offers f_A_noteCounts f_A_notes f_B_noteCounts f_B_notes f_now_where f_now_worn f_ahead_where f_ahead_worn f_acts_rows f_kn_tunes f_kn_noteTimes J L) s.heap.size = A at hD ⊢
  have hA : ∀ q : Nat, s.heap.size ≤ q → A q := fun q h => by rw [← hAe]; exact Or.inr h
  have hS : va_S A s.heap s.heap [] := va_S.rf
  have hP : va_P (dC, dI) vwCl (WX r ct i_tapeLength i_time i_lyingCount i_rd_fault i_rd_token i_rd_kind i_sc_count i_sc_at i_A_tunes i_A_houses i_fA_length i_B_tunes i_B_houses i_fB_length i_acts_done i_acts_undone i_kn_count f_boxes f_boxKept f_trial f_offers f_A_noteCounts f_A_notes f_B_noteCounts f_B_notes f_now_where f_now_worn f_ahead_where f_ahead_worn f_acts_rows f_kn_tunes f_kn_noteTimes J L) s.heap := hP
  have hl := lv_entry ([.ref (r 5)]) (n := 1) (Nat.le_of_ble_eq_true rfl)
  rw [lg_entry_eq]
  generalize (lg_sl ([.ref (r 5)]) ++ List.replicate (1 - (lg_sl ([.ref (r 5)])).length) Slot.unset).toArray = ls at hl ⊢
  have hl : lv_has ls 1 [(0, .ref (r 5))] := hl
  refine nameQ (fun Q hQ => ?_)
  obtain ⟨ie0, ie1, ie2, ie3, ie4, ie5, ie6, ie7, ie8, ie9, ie10, ie11, ie12, ie13, ie14, ie15, ie16, ie17, ie18, ie19, ie20, ie21, ie22, ie23, ie24, ie25, ie26, ie27, ie28, ie29, ie30, ie31, ie32, ie33, ie34, ie35, ie36, ie37, ie38, ie39⟩ := id hI
  refine lv_aload_n hx hb dX4_tellUsualGladness_0 rfl (lv_at hl 0 rfl) ?_
  refine gX_X4_37_5 hx hb hG hown hK hP dX4_tellUsualGladness_1 ?_
  have hFc := frA hD hS hA
  refine va_callv (va_runV (As := []) (rest := []) ⟨hx, hb, hml, hown, hG⟩ (kX1_empty l dC dI r ct i_tapeLength i_time i_lyingCount i_rd_fault i_rd_token i_rd_kind i_sc_count i_sc_at i_A_tunes i_A_houses i_fA_length i_B_tunes i_B_houses i_fB_length i_acts_done i_acts_undone i_kn_count f_boxes f_boxKept f_trial f_offers f_A_noteCounts f_A_notes f_B_noteCounts f_B_notes f_now_where f_now_worn f_ahead_where f_ahead_worn f_acts_rows f_kn_tunes f_kn_noteTimes J L s.heap.size hI) (cwV 0 hG (goodV gw214 gw215 gw216 gw133 gw217) rfl rfl rfl hd_X1_empty ⟨(Nat.le_of_ble_eq_true rfl), (Nat.le_of_ble_eq_true rfl)⟩) ⟨fbW, va_recv hK hP (ci := 1) (q0 := 6) rfl rfl, pW_in hP hK hD⟩ rfl rfl hl.1 rfl (lv_room (Nat.le_of_ble_eq_true rfl)) dX4_tellUsualGladness_4 ⟨(Nat.le_of_ble_eq_true rfl), (Nat.le_of_ble_eq_true rfl)⟩) hS (fun q _ h => hFc q h) hFc (fun _ t_ H1 locs ht hvm hw hB hz1 hk1 hS => ?_)
  obtain ⟨x3, hP1, hD1, hI4⟩ := hB
  rw [ht] at hP1
  have hP := hP1
  have hD := dW hFc hD1
  obtain ⟨im5, im6, im7, im8, im9, im10, im11, im12, im13, im14, im15, im16, im17, im18, im19, im20, im21, im22, im23, im24, im25, im26, im27, im28, im29, im30, im31, im32, im33, im34, im35, im36, im37, im38, im39, im40, im41, im42, im43, im44⟩ := id hI4
  refine lv_aload_n hx hb dX4_tellUsualGladness_7 rfl (lv_at hl 0 rfl) ?_
  refine gX_X4_37_5 hx hb hG hown hK hP dX4_tellUsualGladness_8 ?_
  refine lv_bipush (v := 112) hx hb dX4_tellUsualGladness_11 (by decide) ?_
  have hFc := frA hD hS hA
  refine va_callv (va_runV (As := [.int 112]) (rest := []) ⟨hx, hb, hml, hown, hG⟩ (kX1_addFact l dC dI r ct i_tapeLength i_time i_lyingCount i_rd_fault i_rd_token i_rd_kind i_sc_count i_sc_at i_A_tunes i_A_houses i_fA_length i_B_tunes i_B_houses x3 i_acts_done i_acts_undone i_kn_count f_boxes f_boxKept f_trial f_offers f_A_noteCounts f_A_notes f_B_noteCounts f_B_notes f_now_where f_now_worn f_ahead_where f_ahead_worn f_acts_rows f_kn_tunes f_kn_noteTimes J L 112 H1.size hI4) (cwV 1 hG (goodV gw218 gw219 gw220 gw133 gw221) rfl rfl rfl hd_X1_addFact ⟨(Nat.le_of_ble_eq_true rfl), (Nat.le_of_ble_eq_true rfl)⟩) ⟨fbW, va_recv hK hP (ci := 1) (q0 := 6) rfl rfl, pW_in hP hK hD⟩ rfl rfl hl.1 rfl (lv_room (Nat.le_of_ble_eq_true rfl)) dX4_tellUsualGladness_13 ⟨(Nat.le_of_ble_eq_true rfl), (Nat.le_of_ble_eq_true rfl)⟩) hS (fun q _ h => hFc q h) hFc (fun _ t_ H45 locs ht hvm hw hB hz1 hk1 hS => ?_)
  obtain ⟨x47, J48, hP1, hD1, hI49⟩ := hB
  rw [ht] at hP1
  have hP := hP1
  have hD := dW hFc hD1
  obtain ⟨im50, im51, im52, im53, im54, im55, im56, im57, im58, im59, im60, im61, im62, im63, im64, im65, im66, im67, im68, im69, im70, im71, im72, im73, im74, im75, im76, im77, im78, im79, im80, im81, im82, im83, im84, im85, im86, im87, im88, im89⟩ := id hI49
  refine lv_aload_n hx hb dX4_tellUsualGladness_16 rfl (lv_at hl 0 rfl) ?_
  refine gX_X4_37_5 hx hb hG hown hK hP dX4_tellUsualGladness_17 ?_
  refine lv_bipush (v := 113) hx hb dX4_tellUsualGladness_20 (by decide) ?_
  have hFc := frA hD hS hA
  refine va_callv (va_runV (As := [.int 113]) (rest := []) ⟨hx, hb, hml, hown, hG⟩ (kX1_addFact l dC dI r ct i_tapeLength i_time i_lyingCount i_rd_fault i_rd_token i_rd_kind i_sc_count i_sc_at i_A_tunes i_A_houses i_fA_length i_B_tunes i_B_houses x47 i_acts_done i_acts_undone i_kn_count f_boxes f_boxKept f_trial f_offers f_A_noteCounts f_A_notes f_B_noteCounts f_B_notes f_now_where f_now_worn f_ahead_where f_ahead_worn f_acts_rows f_kn_tunes f_kn_noteTimes J48 L 113 H45.size hI49) (cwV 1 hG (goodV gw218 gw219 gw220 gw133 gw221) rfl rfl rfl hd_X1_addFact ⟨(Nat.le_of_ble_eq_true rfl), (Nat.le_of_ble_eq_true rfl)⟩) ⟨fbW, va_recv hK hP (ci := 1) (q0 := 6) rfl rfl, pW_in hP hK hD⟩ rfl rfl hl.1 rfl (lv_room (Nat.le_of_ble_eq_true rfl)) dX4_tellUsualGladness_22 ⟨(Nat.le_of_ble_eq_true rfl), (Nat.le_of_ble_eq_true rfl)⟩) hS (fun q _ h => hFc q h) hFc (fun _ t_ H90 locs ht hvm hw hB hz1 hk1 hS => ?_)
  obtain ⟨x92, J93, hP1, hD1, hI94⟩ := hB
  rw [ht] at hP1
  have hP := hP1
  have hD := dW hFc hD1
  obtain ⟨im95, im96, im97, im98, im99, im100, im101, im102, im103, im104, im105, im106, im107, im108, im109, im110, im111, im112, im113, im114, im115, im116, im117, im118, im119, im120, im121, im122, im123, im124, im125, im126, im127, im128, im129, im130, im131, im132, im133, im134⟩ := id hI94
  refine lv_aload_n hx hb dX4_tellUsualGladness_25 rfl (lv_at hl 0 rfl) ?_
  refine gX_X4_37_5 hx hb hG hown hK hP dX4_tellUsualGladness_26 ?_
  refine lv_iconst (v := 3) hx hb dX4_tellUsualGladness_29 (by decide) ?_
  have hFc := frA hD hS hA
  refine va_callv (va_runV (As := [.int 3]) (rest := []) ⟨hx, hb, hml, hown, hG⟩ (kX1_addNumber l dC dI r ct i_tapeLength i_time i_lyingCount i_rd_fault i_rd_token i_rd_kind i_sc_count i_sc_at i_A_tunes i_A_houses i_fA_length i_B_tunes i_B_houses x92 i_acts_done i_acts_undone i_kn_count f_boxes f_boxKept f_trial f_offers f_A_noteCounts f_A_notes f_B_noteCounts f_B_notes f_now_where f_now_worn f_ahead_where f_ahead_worn f_acts_rows f_kn_tunes f_kn_noteTimes J93 L 3 H90.size hI94) (cwV 1 hG (goodV gw226 gw227 gw228 gw133 gw229) rfl rfl rfl hd_X1_addNumber ⟨(Nat.le_of_ble_eq_true rfl), (Nat.le_of_ble_eq_true rfl)⟩) ⟨fbW, va_recv hK hP (ci := 1) (q0 := 6) rfl rfl, pW_in hP hK hD⟩ rfl rfl hl.1 rfl (lv_room (Nat.le_of_ble_eq_true rfl)) dX4_tellUsualGladness_30 ⟨(Nat.le_of_ble_eq_true rfl), (Nat.le_of_ble_eq_true rfl)⟩) hS (fun q _ h => hFc q h) hFc (fun _ t_ H135 locs ht hvm hw hB hz1 hk1 hS => ?_)
  obtain ⟨x137, J138, hP1, hD1, hI139⟩ := hB
  rw [ht] at hP1
  have hP := hP1
  have hD := dW hFc hD1
  obtain ⟨im140, im141, im142, im143, im144, im145, im146, im147, im148, im149, im150, im151, im152, im153, im154, im155, im156, im157, im158, im159, im160, im161, im162, im163, im164, im165, im166, im167, im168, im169, im170, im171, im172, im173, im174, im175, im176, im177, im178, im179⟩ := id hI139
  refine lv_aload_n hx hb dX4_tellUsualGladness_33 rfl (lv_at hl 0 rfl) ?_
  refine gX_X4_37_5 hx hb hG hown hK hP dX4_tellUsualGladness_34 ?_
  refine lv_bipush (v := 42) hx hb dX4_tellUsualGladness_37 (by decide) ?_
  have hFc := frA hD hS hA
  refine va_callv (va_runV (As := [.int 42]) (rest := []) ⟨hx, hb, hml, hown, hG⟩ (kX1_addOperator l dC dI r ct i_tapeLength i_time i_lyingCount i_rd_fault i_rd_token i_rd_kind i_sc_count i_sc_at i_A_tunes i_A_houses i_fA_length i_B_tunes i_B_houses x137 i_acts_done i_acts_undone i_kn_count f_boxes f_boxKept f_trial f_offers f_A_noteCounts f_A_notes f_B_noteCounts f_B_notes f_now_where f_now_worn f_ahead_where f_ahead_worn f_acts_rows f_kn_tunes f_kn_noteTimes J138 L 42 H135.size hI139) (cwV 1 hG (goodV gw230 gw231 gw232 gw133 gw233) rfl rfl rfl hd_X1_addOperator ⟨(Nat.le_of_ble_eq_true rfl), (Nat.le_of_ble_eq_true rfl)⟩) ⟨fbW, va_recv hK hP (ci := 1) (q0 := 6) rfl rfl, pW_in hP hK hD⟩ rfl rfl hl.1 rfl (lv_room (Nat.le_of_ble_eq_true rfl)) dX4_tellUsualGladness_39 ⟨(Nat.le_of_ble_eq_true rfl), (Nat.le_of_ble_eq_true rfl)⟩) hS (fun q _ h => hFc q h) hFc (fun _ t_ H180 locs ht hvm hw hB hz1 hk1 hS => ?_)
  obtain ⟨x182, J183, hP1, hD1, hI184⟩ := hB
  rw [ht] at hP1
  have hP := hP1
  have hD := dW hFc hD1
  obtain ⟨im185, im186, im187, im188, im189, im190, im191, im192, im193, im194, im195, im196, im197, im198, im199, im200, im201, im202, im203, im204, im205, im206, im207, im208, im209, im210, im211, im212, im213, im214, im215, im216, im217, im218, im219, im220, im221, im222, im223, im224⟩ := id hI184
  refine lv_aload_n hx hb dX4_tellUsualGladness_42 rfl (lv_at hl 0 rfl) ?_
  refine gX_X4_37_5 hx hb hG hown hK hP dX4_tellUsualGladness_43 ?_
  refine lv_bipush (v := 43) hx hb dX4_tellUsualGladness_46 (by decide) ?_
  have hFc := frA hD hS hA
  refine va_callv (va_runV (As := [.int 43]) (rest := []) ⟨hx, hb, hml, hown, hG⟩ (kX1_addOperator l dC dI r ct i_tapeLength i_time i_lyingCount i_rd_fault i_rd_token i_rd_kind i_sc_count i_sc_at i_A_tunes i_A_houses i_fA_length i_B_tunes i_B_houses x182 i_acts_done i_acts_undone i_kn_count f_boxes f_boxKept f_trial f_offers f_A_noteCounts f_A_notes f_B_noteCounts f_B_notes f_now_where f_now_worn f_ahead_where f_ahead_worn f_acts_rows f_kn_tunes f_kn_noteTimes J183 L 43 H180.size hI184) (cwV 1 hG (goodV gw230 gw231 gw232 gw133 gw233) rfl rfl rfl hd_X1_addOperator ⟨(Nat.le_of_ble_eq_true rfl), (Nat.le_of_ble_eq_true rfl)⟩) ⟨fbW, va_recv hK hP (ci := 1) (q0 := 6) rfl rfl, pW_in hP hK hD⟩ rfl rfl hl.1 rfl (lv_room (Nat.le_of_ble_eq_true rfl)) dX4_tellUsualGladness_48 ⟨(Nat.le_of_ble_eq_true rfl), (Nat.le_of_ble_eq_true rfl)⟩) hS (fun q _ h => hFc q h) hFc (fun _ t_ H225 locs ht hvm hw hB hz1 hk1 hS => ?_)
  obtain ⟨x227, J228, hP1, hD1, hI229⟩ := hB
  rw [ht] at hP1
  have hP := hP1
  have hD := dW hFc hD1
  obtain ⟨im230, im231, im232, im233, im234, im235, im236, im237, im238, im239, im240, im241, im242, im243, im244, im245, im246, im247, im248, im249, im250, im251, im252, im253, im254, im255, im256, im257, im258, im259, im260, im261, im262, im263, im264, im265, im266, im267, im268, im269⟩ := id hI229
  refine lv_aload_n hx hb dX4_tellUsualGladness_51 rfl (lv_at hl 0 rfl) ?_
  refine gX_X4_37_5 hx hb hG hown hK hP dX4_tellUsualGladness_52 ?_
  refine lv_bipush (v := 115) hx hb dX4_tellUsualGladness_55 (by decide) ?_
  have hFc := frA hD hS hA
  refine va_callv (va_runV (As := [.int 115]) (rest := []) ⟨hx, hb, hml, hown, hG⟩ (kX1_addFact l dC dI r ct i_tapeLength i_time i_lyingCount i_rd_fault i_rd_token i_rd_kind i_sc_count i_sc_at i_A_tunes i_A_houses i_fA_length i_B_tunes i_B_houses x227 i_acts_done i_acts_undone i_kn_count f_boxes f_boxKept f_trial f_offers f_A_noteCounts f_A_notes f_B_noteCounts f_B_notes f_now_where f_now_worn f_ahead_where f_ahead_worn f_acts_rows f_kn_tunes f_kn_noteTimes J228 L 115 H225.size hI229) (cwV 1 hG (goodV gw218 gw219 gw220 gw133 gw221) rfl rfl rfl hd_X1_addFact ⟨(Nat.le_of_ble_eq_true rfl), (Nat.le_of_ble_eq_true rfl)⟩) ⟨fbW, va_recv hK hP (ci := 1) (q0 := 6) rfl rfl, pW_in hP hK hD⟩ rfl rfl hl.1 rfl (lv_room (Nat.le_of_ble_eq_true rfl)) dX4_tellUsualGladness_57 ⟨(Nat.le_of_ble_eq_true rfl), (Nat.le_of_ble_eq_true rfl)⟩) hS (fun q _ h => hFc q h) hFc (fun _ t_ H270 locs ht hvm hw hB hz1 hk1 hS => ?_)
  obtain ⟨x272, J273, hP1, hD1, hI274⟩ := hB
  rw [ht] at hP1
  have hP := hP1
  have hD := dW hFc hD1
  obtain ⟨im275, im276, im277, im278, im279, im280, im281, im282, im283, im284, im285, im286, im287, im288, im289, im290, im291, im292, im293, im294, im295, im296, im297, im298, im299, im300, im301, im302, im303, im304, im305, im306, im307, im308, im309, im310, im311, im312, im313, im314⟩ := id hI274
  refine lv_aload_n hx hb dX4_tellUsualGladness_60 rfl (lv_at hl 0 rfl) ?_
  refine gX_X4_37_5 hx hb hG hown hK hP dX4_tellUsualGladness_61 ?_
  refine lv_bipush (v := 45) hx hb dX4_tellUsualGladness_64 (by decide) ?_
  have hFc := frA hD hS hA
  refine va_callv (va_runV (As := [.int 45]) (rest := []) ⟨hx, hb, hml, hown, hG⟩ (kX1_addOperator l dC dI r ct i_tapeLength i_time i_lyingCount i_rd_fault i_rd_token i_rd_kind i_sc_count i_sc_at i_A_tunes i_A_houses i_fA_length i_B_tunes i_B_houses x272 i_acts_done i_acts_undone i_kn_count f_boxes f_boxKept f_trial f_offers f_A_noteCounts f_A_notes f_B_noteCounts f_B_notes f_now_where f_now_worn f_ahead_where f_ahead_worn f_acts_rows f_kn_tunes f_kn_noteTimes J273 L 45 H270.size hI274) (cwV 1 hG (goodV gw230 gw231 gw232 gw133 gw233) rfl rfl rfl hd_X1_addOperator ⟨(Nat.le_of_ble_eq_true rfl), (Nat.le_of_ble_eq_true rfl)⟩) ⟨fbW, va_recv hK hP (ci := 1) (q0 := 6) rfl rfl, pW_in hP hK hD⟩ rfl rfl hl.1 rfl (lv_room (Nat.le_of_ble_eq_true rfl)) dX4_tellUsualGladness_66 ⟨(Nat.le_of_ble_eq_true rfl), (Nat.le_of_ble_eq_true rfl)⟩) hS (fun q _ h => hFc q h) hFc (fun _ t_ H315 locs ht hvm hw hB hz1 hk1 hS => ?_)
  obtain ⟨x317, J318, hP1, hD1, hI319⟩ := hB
  rw [ht] at hP1
  have hP := hP1
  have hD := dW hFc hD1
  obtain ⟨im320, im321, im322, im323, im324, im325, im326, im327, im328, im329, im330, im331, im332, im333, im334, im335, im336, im337, im338, im339, im340, im341, im342, im343, im344, im345, im346, im347, im348, im349, im350, im351, im352, im353, im354, im355, im356, im357, im358, im359⟩ := id hI319
  rw [hQ]
  exact W.vret hx hb hr (fun t ht hW => ⟨⟨(), rfl, trivial, ⟨x317, J318, by rw [ht]; exact hP, hD, hI319⟩⟩, hS.F ht⟩) hS.2.2 dX4_tellUsualGladness_69
set_option maxHeartbeats 4000000 in
set_option maxRecDepth 100000 in
theorem kX4_clear (l : Launch) (dC : Nat → ClassId) (dI : Nat → Nat → Nat) (r : Nat → Nat) (ct : Nat → ClassId) (i_tapeLength i_time i_lyingCount i_rd_fault i_rd_token i_rd_kind i_sc_count i_sc_at i_A_tunes i_A_houses i_fA_length i_B_tunes i_B_houses i_fB_length i_acts_done i_acts_undone i_kn_count : Int32) (f_boxes f_boxKept f_trial f_offers f_A_noteCounts f_A_notes f_B_noteCounts f_B_notes f_now_where f_now_worn f_ahead_where f_ahead_worn f_acts_rows f_kn_tunes f_kn_noteTimes : Nat → Int32) (J : Nat → Nat → Int32) (L : Nat → Nat → Int64) (sz : Nat) (hI : (IX i_tapeLength i_time i_lyingCount i_rd_token i_sc_count i_sc_at i_A_tunes i_A_houses i_fA_length i_B_tunes i_B_houses i_fB_length i_acts_done i_acts_undone i_kn_count f_boxes f_A_noteCounts f_A_notes f_B_noteCounts f_B_notes f_now_worn f_ahead_worn f_acts_rows f_kn_tunes)) : Met l yX4_clear (.code yX4_clear cX4_clear 1 none :: GW) { frames := 8, cells := 0, slots := 0, locals := 282 } (va_Pc [.ref (r 5)] (pW (dC, dI) (WX r ct i_tapeLength i_time i_lyingCount i_rd_fault i_rd_token i_rd_kind i_sc_count i_sc_at i_A_tunes i_A_houses i_fA_length i_B_tunes i_B_houses i_fB_length i_acts_done i_acts_undone i_kn_count f_boxes f_boxKept f_trial f_offers f_A_noteCounts f_A_notes f_B_noteCounts f_B_notes f_now_where f_now_worn f_ahead_where f_ahead_worn f_acts_rows f_kn_tunes f_kn_noteTimes J L) (TX ct) sz)) (va_Qv (fun _ : Unit => True) (fun (_ : Unit) (t : State) => ∃ (n_i_B_tunes n_i_B_houses n_i_fB_length : Int32) (n_J : Nat → Nat → Int32), va_P (dC, dI) vwCl (WX r ct i_tapeLength i_time i_lyingCount i_rd_fault i_rd_token i_rd_kind i_sc_count i_sc_at i_A_tunes i_A_houses i_fA_length n_i_B_tunes n_i_B_houses n_i_fB_length i_acts_done i_acts_undone i_kn_count f_boxes f_boxKept f_trial f_offers f_A_noteCounts f_A_notes f_B_noteCounts f_B_notes f_now_where f_now_worn f_ahead_where f_ahead_worn f_acts_rows f_kn_tunes f_kn_noteTimes n_J L) t.heap ∧ va_D (va_A (WX r ct i_tapeLength i_time i_lyingCount i_rd_fault i_rd_token i_rd_kind i_sc_count i_sc_at i_A_tunes i_A_houses i_fA_length i_B_tunes i_B_houses i_fB_length i_acts_done i_acts_undone i_kn_count f_boxes f_boxKept f_trial f_offers f_A_noteCounts f_A_notes f_B_noteCounts f_B_notes f_now_where f_now_worn f_ahead_where f_ahead_worn f_acts_rows f_kn_tunes f_kn_noteTimes J L) sz) (WX r ct i_tapeLength i_time i_lyingCount i_rd_fault i_rd_token i_rd_kind i_sc_count i_sc_at i_A_tunes i_A_houses i_fA_length n_i_B_tunes n_i_B_houses n_i_fB_length i_acts_done i_acts_undone i_kn_count f_boxes f_boxKept f_trial f_offers f_A_noteCounts f_A_notes f_B_noteCounts f_B_notes f_now_where f_now_worn f_ahead_where f_ahead_worn f_acts_rows f_kn_tunes f_kn_noteTimes n_J L) ∧ (IX i_tapeLength i_time i_lyingCount i_rd_token i_sc_count i_sc_at i_A_tunes i_A_houses i_fA_length n_i_B_tunes n_i_B_houses n_i_fB_length i_acts_done i_acts_undone i_kn_count f_boxes f_A_noteCounts f_A_notes f_B_noteCounts f_B_notes f_now_worn f_ahead_worn f_acts_rows f_kn_tunes)) (va_A (WX r ct i_tapeLength i_time i_lyingCount i_rd_fault i_rd_token i_rd_kind i_sc_count i_sc_at i_A_tunes i_A_houses i_fA_length i_B_tunes i_B_houses i_fB_length i_acts_done i_acts_undone i_kn_count f_boxes f_boxKept f_trial f_offers f_A_noteCounts f_A_notes f_B_noteCounts f_B_notes f_now_where f_now_worn f_ahead_where f_ahead_worn f_acts_rows f_kn_tunes f_kn_noteTimes J L) sz)) 0 0 (va_A (WX r ct i_tapeLength i_time i_lyingCount i_rd_fault i_rd_token i_rd_kind i_sc_count i_sc_at i_A_tunes i_A_houses i_fA_length i_B_tunes i_B_houses i_fB_length i_acts_done i_acts_undone i_kn_count f_boxes f_boxKept f_trial f_offers f_A_noteCounts f_A_notes f_B_noteCounts f_B_notes f_now_where f_now_worn f_ahead_where f_ahead_worn f_acts_rows f_kn_tunes f_kn_noteTimes J L) sz) := by
  refine Met.ofW (cc := cX4_clear) (maxL := 1) (ret := none) (by decide) rfl ?_
  intro p e s m args below meth c0 s₁ B hml hv
  obtain ⟨rfl, hsz, hP, hK, hD0⟩ := hv
  have hx := B.exec
  have hb := B.bytes
  have hr := B.returns
  have hts := atoms_spec (ws := .code yX4_clear cX4_clear 1 none :: GW) B.pre
  have hG : ∀ w ∈ GW, w.before _ s = true := fun w h => hts w (List.mem_cons_of_mem _ h)
  have hown : s.vm.findClass RX4 = some m.cls := findClass_of_methodNamed B.named
  subst hsz
  have hD := hD0.self (sz := s.heap.size)
  generalize hAe : va_A (WX r ct i_tapeLength i_time i_lyingCount i_rd_fault i_rd_token i_rd_kind i_sc_count i_sc_at i_A_tunes i_A_houses i_fA_length i_B_tunes i_B_houses i_fB_length i_acts_done i_acts_undone i_kn_count f_boxes f_boxKept f_trial f_offers f_A_noteCounts f_A_notes f_B_noteCounts f_B_notes f_now_where f_now_worn f_ahead_where f_ahead_worn f_acts_rows f_kn_tunes f_kn_noteTimes J L) s.heap.size = A at hD ⊢
  have hA : ∀ q : Nat, s.heap.size ≤ q → A q := fun q h => by rw [← hAe]; exact Or.inr h
  have hS : va_S A s.heap s.heap [] := va_S.rf
  have hP : va_P (dC, dI) vwCl (WX r ct i_tapeLength i_time i_lyingCount i_rd_fault i_rd_token i_rd_kind i_sc_count i_sc_at i_A_tunes i_A_houses i_fA_length i_B_tunes i_B_houses i_fB_length i_acts_done i_acts_undone i_kn_count f_boxes f_boxKept f_trial f_offers f_A_noteCounts f_A_notes f_B_noteCounts f_B_notes f_now_where f_now_worn f_ahead_where f_ahead_worn f_acts_rows f_kn_tunes f_kn_noteTimes J L) s.heap := hP
  have hl := lv_entry ([.ref (r 5)]) (n := 1) (Nat.le_of_ble_eq_true rfl)
  rw [lg_entry_eq]
  generalize (lg_sl ([.ref (r 5)]) ++ List.replicate (1 - (lg_sl ([.ref (r 5)])).length) Slot.unset).toArray = ls at hl ⊢
  have hl : lv_has ls 1 [(0, .ref (r 5))] := hl
  refine nameQ (fun Q hQ => ?_)
  obtain ⟨ie0, ie1, ie2, ie3, ie4, ie5, ie6, ie7, ie8, ie9, ie10, ie11, ie12, ie13, ie14, ie15, ie16, ie17, ie18, ie19, ie20, ie21, ie22, ie23, ie24, ie25, ie26, ie27, ie28, ie29, ie30, ie31, ie32, ie33, ie34, ie35, ie36, ie37, ie38, ie39⟩ := id hI
  refine lv_aload_n hx hb dX4_clear_0 rfl (lv_at hl 0 rfl) ?_
  refine lv_iconst (v := 1) hx hb dX4_clear_1 (by decide) ?_
  refine pX_X4_9_5 hx hb hG hown hK hP hD hS dX4_clear_2 (fun J2 H1 locs hP hD hS => ?_)
  refine lv_aload_n hx hb dX4_clear_5 rfl (lv_at hl 0 rfl) ?_
  refine lv_iconst (v := 0) hx hb dX4_clear_6 (by decide) ?_
  refine pX_X4_49_5 hx hb hG hown hK hP hD hS dX4_clear_7 (fun J4 H3 locs hP hD hS => ?_)
  refine lv_aload_n hx hb dX4_clear_10 rfl (lv_at hl 0 rfl) ?_
  refine lv_iconst (v := 0) hx hb dX4_clear_11 (by decide) ?_
  refine pX_X4_52_5 hx hb hG hown hK hP hD hS dX4_clear_12 (fun J6 H5 locs hP hD hS => ?_)
  refine lv_aload_n hx hb dX4_clear_15 rfl (lv_at hl 0 rfl) ?_
  refine lv_iconst (v := 0) hx hb dX4_clear_16 (by decide) ?_
  refine pX_X4_55_5 hx hb hG hown hK hP hD hS dX4_clear_17 (fun H7 locs hP hD hS => ?_)
  refine lv_aload_n hx hb dX4_clear_20 rfl (lv_at hl 0 rfl) ?_
  refine lv_iconst (v := 0) hx hb dX4_clear_21 (by decide) ?_
  refine pX_X4_58_5 hx hb hG hown hK hP hD hS dX4_clear_22 (fun H8 locs hP hD hS => ?_)
  refine lv_aload_n hx hb dX4_clear_25 rfl (lv_at hl 0 rfl) ?_
  refine lv_iconst (v := 0) hx hb dX4_clear_26 (by decide) ?_
  refine pX_X4_61_5 hx hb hG hown hK hP hD hS dX4_clear_27 (fun J10 H9 locs hP hD hS => ?_)
  refine lv_aload_n hx hb dX4_clear_30 rfl (lv_at hl 0 rfl) ?_
  have hFc := frA hD hS hA
  refine va_callv (va_runV (As := []) (rest := []) ⟨hx, hb, hml, hown, hG⟩ (kX4_tellUsualGladness l dC dI r ct i_tapeLength i_time i_lyingCount i_rd_fault i_rd_token i_rd_kind i_sc_count i_sc_at i_A_tunes i_A_houses i_fA_length 0 0 i_fB_length i_acts_done i_acts_undone i_kn_count f_boxes f_boxKept f_trial f_offers f_A_noteCounts f_A_notes f_B_noteCounts f_B_notes f_now_where f_now_worn f_ahead_where f_ahead_worn f_acts_rows f_kn_tunes f_kn_noteTimes J10 L H9.size ⟨ie0, ie1, ie2, ie3, ie4, ie5, ie6, ie7, ie8, ie9, ie10, ie11, ie12, ie13, ie14, ie15, (ox_27 zc_0), (ox_95 zc_0), (ox_27 zc_0), (ox_224 zc_0), ie20, ie21, ie22, ie23, ie24, ie25, ie26, ie27, ie28, ie29, ie30, ie31, ie32, ie33, ie34, ie35, ie36, ie37, ie38, (N3_zero (ox_291 zc_0))⟩) (cwV 0 hG (goodV gw210 gw212 gw0 gw132 gw213) rfl rfl rfl hd_X4_tellUsualGladness ⟨(Nat.le_of_ble_eq_true rfl), (Nat.le_of_ble_eq_true rfl)⟩) ⟨fbW, va_recv hK hP (ci := 3) (q0 := 5) rfl rfl, pW_in hP hK hD⟩ rfl rfl hl.1 rfl (lv_room (Nat.le_of_ble_eq_true rfl)) dX4_clear_31 ⟨(Nat.le_of_ble_eq_true rfl), (Nat.le_of_ble_eq_true rfl)⟩) hS (fun q _ h => hFc q h) hFc (fun _ t_ H11 locs ht hvm hw hB hz1 hk1 hS => ?_)
  obtain ⟨x13, J14, hP1, hD1, hI15⟩ := hB
  rw [ht] at hP1
  have hP := hP1
  have hD := dW hFc hD1
  obtain ⟨im16, im17, im18, im19, im20, im21, im22, im23, im24, im25, im26, im27, im28, im29, im30, im31, im32, im33, im34, im35, im36, im37, im38, im39, im40, im41, im42, im43, im44, im45, im46, im47, im48, im49, im50, im51, im52, im53, im54, im55⟩ := id hI15
  rw [hQ]
  exact W.vret hx hb hr (fun t ht hW => ⟨⟨(), rfl, trivial, ⟨0, 0, x13, J14, by rw [ht]; exact hP, hD, hI15⟩⟩, hS.F ht⟩) hS.2.2 dX4_clear_34
set_option maxHeartbeats 4000000 in
set_option maxRecDepth 100000 in
theorem kX5_mayBeginLine (l : Launch) (dC : Nat → ClassId) (dI : Nat → Nat → Nat) (r : Nat → Nat) (ct : Nat → ClassId) (i_tapeLength i_time i_lyingCount i_rd_fault i_rd_token i_rd_kind i_sc_count i_sc_at i_A_tunes i_A_houses i_fA_length i_B_tunes i_B_houses i_fB_length i_acts_done i_acts_undone i_kn_count : Int32) (f_boxes f_boxKept f_trial f_offers f_A_noteCounts f_A_notes f_B_noteCounts f_B_notes f_now_where f_now_worn f_ahead_where f_ahead_worn f_acts_rows f_kn_tunes f_kn_noteTimes : Nat → Int32) (J : Nat → Nat → Int32) (L : Nat → Nat → Int64) (sz : Nat) (hI : (IX i_tapeLength i_time i_lyingCount i_rd_token i_sc_count i_sc_at i_A_tunes i_A_houses i_fA_length i_B_tunes i_B_houses i_fB_length i_acts_done i_acts_undone i_kn_count f_boxes f_A_noteCounts f_A_notes f_B_noteCounts f_B_notes f_now_worn f_ahead_worn f_acts_rows f_kn_tunes)) : Met l yX5_mayBeginLine (.code yX5_mayBeginLine cX5_mayBeginLine 1 (some .boolean) :: GW) { frames := 2, cells := 0, slots := 0, locals := 100 } (va_Pc [.ref (r 1)] (pR (dC, dI) (WX r ct i_tapeLength i_time i_lyingCount i_rd_fault i_rd_token i_rd_kind i_sc_count i_sc_at i_A_tunes i_A_houses i_fA_length i_B_tunes i_B_houses i_fB_length i_acts_done i_acts_undone i_kn_count f_boxes f_boxKept f_trial f_offers f_A_noteCounts f_A_notes f_B_noteCounts f_B_notes f_now_where f_now_worn f_ahead_where f_ahead_worn f_acts_rows f_kn_tunes f_kn_noteTimes J L) (TX ct) sz)) (va_Qi (fun (r0 : Int32) (u : Int32) => r0 = u) (fun (u : Int32) (t : State) => ((0 : Int) ≤ u.toInt) ∧ (u.toInt ≤ (1 : Int)) ∧ ((u.toInt = (1 : Int)) → ((i_rd_kind.toInt = (101 : Int)) → (i_B_tunes.toInt ≤ (4 : Int)))) ∧ ((u.toInt = (1 : Int)) → ((i_rd_kind.toInt = (102 : Int)) → (i_B_houses.toInt ≤ (3 : Int))))) (fun q => sz ≤ q)) 0 0 (fun q => sz ≤ q) := by
  refine Met.ofW (cc := cX5_mayBeginLine) (maxL := 1) (ret := (some .boolean)) (by decide) rfl ?_
  intro p e s m args below meth c0 s₁ B hml hv
  obtain ⟨rfl, hsz, hP, hK⟩ := hv
  have hx := B.exec
  have hb := B.bytes
  have hr := B.returns
  have hts := atoms_spec (ws := .code yX5_mayBeginLine cX5_mayBeginLine 1 (some .boolean) :: GW) B.pre
  have hG : ∀ w ∈ GW, w.before _ s = true := fun w h => hts w (List.mem_cons_of_mem _ h)
  have hown : s.vm.findClass RX5 = some m.cls := findClass_of_methodNamed B.named
  subst hsz
  have hS : va_S (fun q => s.heap.size ≤ q) s.heap s.heap [] := va_S.rf
  have hP : va_P (dC, dI) vwCl (WX r ct i_tapeLength i_time i_lyingCount i_rd_fault i_rd_token i_rd_kind i_sc_count i_sc_at i_A_tunes i_A_houses i_fA_length i_B_tunes i_B_houses i_fB_length i_acts_done i_acts_undone i_kn_count f_boxes f_boxKept f_trial f_offers f_A_noteCounts f_A_notes f_B_noteCounts f_B_notes f_now_where f_now_worn f_ahead_where f_ahead_worn f_acts_rows f_kn_tunes f_kn_noteTimes J L) s.heap := hP
  have hl := lv_entry ([.ref (r 1)]) (n := 1) (Nat.le_of_ble_eq_true rfl)
  rw [lg_entry_eq]
  generalize (lg_sl ([.ref (r 1)]) ++ List.replicate (1 - (lg_sl ([.ref (r 1)])).length) Slot.unset).toArray = ls at hl ⊢
  have hl : lv_has ls 1 [(0, .ref (r 1))] := hl
  refine nameQ (fun Q hQ => ?_)
  obtain ⟨ie0, ie1, ie2, ie3, ie4, ie5, ie6, ie7, ie8, ie9, ie10, ie11, ie12, ie13, ie14, ie15, ie16, ie17, ie18, ie19, ie20, ie21, ie22, ie23, ie24, ie25, ie26, ie27, ie28, ie29, ie30, ie31, ie32, ie33, ie34, ie35, ie36, ie37, ie38, ie39⟩ := id hI
  refine lv_aload_n hx hb dX5_mayBeginLine_0 rfl (lv_at hl 0 rfl) ?_
  refine gX_X5_66_1 hx hb hG hown hK hP dX5_mayBeginLine_1 ?_
  rcases ts_100_105 i_rd_kind with hs1 | hs1 | hs1 | hs1 | hs1 | hs1 | hs1
  · skip
    refine lv_tableOut (tgt := 130) hx hb dX5_mayBeginLine_4 hs1 (by decide) ?_
    refine lv_iconst (v := 0) hx hb dX5_mayBeginLine_130 (by decide) ?_
    rw [hQ]
    exact W.zret (v := 0) hx hb hr (by decide) (fun t ht hW => ⟨⟨0, 0, rfl, rfl, ⟨(ox_27 zc_0), (ox_28 zc_0), (ox_874 ie16 ie17 zc_0), (ox_875 ie18 ie19 zc_0)⟩⟩, hS.F ht⟩) hS.2.2 dX5_mayBeginLine_131
  · skip
    refine lv_tableIn (off := 40) (tgt := 44) hx hb dX5_mayBeginLine_4 (by rw [hs1]; decide) (by rw [hs1]; decide) (by rw [hs1]; decide) (by decide) ?_
    have f2 : i_rd_kind.toInt = 100 := qi_eq hs1 rfl zc_100
    refine lv_aload_n hx hb dX5_mayBeginLine_44 rfl (lv_at hl 0 rfl) ?_
    refine gX_X5_46_1 hx hb hG hown hK hP dX5_mayBeginLine_45 (fun x3 => ?_)
    refine lv_if_ne (tgt := 55) hx hb dX5_mayBeginLine_48 (by decide) (fun c_4 => ?_) (fun c_4 => ?_)
    · skip
      have f5 : x3.toInt ≠ 0 := qi_ne c_4 rfl zc_0
      refine lv_iconst (v := 0) hx hb dX5_mayBeginLine_55 (by decide) ?_
      rw [hQ]
      exact W.zret (v := 0) hx hb hr (by decide) (fun t ht hW => ⟨⟨0, 0, rfl, rfl, ⟨(ox_27 zc_0), (ox_28 zc_0), (ox_876 ie16 ie17 f2 zc_0), (ox_877 ie18 ie19 f2 zc_0)⟩⟩, hS.F ht⟩) hS.2.2 dX5_mayBeginLine_56
    · skip
      have f6 : x3.toInt = 0 := qi_eq c_4 rfl zc_0
      refine lv_iconst (v := 1) hx hb dX5_mayBeginLine_51 (by decide) ?_
      refine lv_goto (tgt := 56) hx hb dX5_mayBeginLine_52 (by decide) ?_
      rw [hQ]
      exact W.zret (v := 1) hx hb hr (by decide) (fun t ht hW => ⟨⟨1, 1, rfl, rfl, ⟨(ox_31 zc_1), (ox_32 zc_1), (ox_878 ie16 ie17 f2 zc_1), (ox_879 ie18 ie19 f2 zc_1)⟩⟩, hS.F ht⟩) hS.2.2 dX5_mayBeginLine_56
  · skip
    refine lv_tableIn (off := 53) (tgt := 57) hx hb dX5_mayBeginLine_4 (by rw [hs1]; decide) (by rw [hs1]; decide) (by rw [hs1]; decide) (by decide) ?_
    have f7 : i_rd_kind.toInt = 101 := qi_eq hs1 rfl zc_101
    refine lv_aload_n hx hb dX5_mayBeginLine_57 rfl (lv_at hl 0 rfl) ?_
    refine gX_X5_25_1 hx hb hG hown hK hP dX5_mayBeginLine_58 ?_
    refine gX_X5_91_5 hx hb hG hown hK hP dX5_mayBeginLine_61 ?_
    refine lv_iconst (v := 5) hx hb dX5_mayBeginLine_64 (by decide) ?_
    refine lv_icmp_ge (tgt := 72) hx hb dX5_mayBeginLine_65 (by decide) (fun c_8 => ?_) (fun c_8 => ?_)
    · skip
      have f9 : 5 ≤ i_B_tunes.toInt := qi_le c_8 zc_5 rfl
      refine lv_iconst (v := 0) hx hb dX5_mayBeginLine_72 (by decide) ?_
      rw [hQ]
      exact W.zret (v := 0) hx hb hr (by decide) (fun t ht hW => ⟨⟨0, 0, rfl, rfl, ⟨(ox_27 zc_0), (ox_28 zc_0), (ox_880 zc_0), (ox_881 ie18 ie19 f7 zc_0)⟩⟩, hS.F ht⟩) hS.2.2 dX5_mayBeginLine_73
    · skip
      have f10 : i_B_tunes.toInt < 5 := qi_nle c_8 zc_5 rfl
      refine lv_iconst (v := 1) hx hb dX5_mayBeginLine_68 (by decide) ?_
      refine lv_goto (tgt := 73) hx hb dX5_mayBeginLine_69 (by decide) ?_
      rw [hQ]
      exact W.zret (v := 1) hx hb hr (by decide) (fun t ht hW => ⟨⟨1, 1, rfl, rfl, ⟨(ox_31 zc_1), (ox_32 zc_1), (ox_882 f10 zc_1), (ox_883 ie18 ie19 f7 zc_1)⟩⟩, hS.F ht⟩) hS.2.2 dX5_mayBeginLine_73
  · skip
    refine lv_tableIn (off := 70) (tgt := 74) hx hb dX5_mayBeginLine_4 (by rw [hs1]; decide) (by rw [hs1]; decide) (by rw [hs1]; decide) (by decide) ?_
    have f11 : i_rd_kind.toInt = 102 := qi_eq hs1 rfl zc_102
    refine lv_aload_n hx hb dX5_mayBeginLine_74 rfl (lv_at hl 0 rfl) ?_
    refine gX_X5_25_1 hx hb hG hown hK hP dX5_mayBeginLine_75 ?_
    refine gX_X5_98_5 hx hb hG hown hK hP dX5_mayBeginLine_78 ?_
    refine lv_iconst (v := 4) hx hb dX5_mayBeginLine_81 (by decide) ?_
    refine lv_icmp_ge (tgt := 89) hx hb dX5_mayBeginLine_82 (by decide) (fun c_12 => ?_) (fun c_12 => ?_)
    · skip
      have f13 : 4 ≤ i_B_houses.toInt := qi_le c_12 zc_4 rfl
      refine lv_iconst (v := 0) hx hb dX5_mayBeginLine_89 (by decide) ?_
      rw [hQ]
      exact W.zret (v := 0) hx hb hr (by decide) (fun t ht hW => ⟨⟨0, 0, rfl, rfl, ⟨(ox_27 zc_0), (ox_28 zc_0), (ox_884 ie16 ie17 f11 zc_0), (ox_885 zc_0)⟩⟩, hS.F ht⟩) hS.2.2 dX5_mayBeginLine_90
    · skip
      have f14 : i_B_houses.toInt < 4 := qi_nle c_12 zc_4 rfl
      refine lv_iconst (v := 1) hx hb dX5_mayBeginLine_85 (by decide) ?_
      refine lv_goto (tgt := 90) hx hb dX5_mayBeginLine_86 (by decide) ?_
      rw [hQ]
      exact W.zret (v := 1) hx hb hr (by decide) (fun t ht hW => ⟨⟨1, 1, rfl, rfl, ⟨(ox_31 zc_1), (ox_32 zc_1), (ox_886 ie16 ie17 f11 zc_1), (ox_887 f14 zc_1)⟩⟩, hS.F ht⟩) hS.2.2 dX5_mayBeginLine_90
  · skip
    refine lv_tableIn (off := 87) (tgt := 91) hx hb dX5_mayBeginLine_4 (by rw [hs1]; decide) (by rw [hs1]; decide) (by rw [hs1]; decide) (by decide) ?_
    have f15 : i_rd_kind.toInt = 103 := qi_eq hs1 rfl zc_103
    refine lv_aload_n hx hb dX5_mayBeginLine_91 rfl (lv_at hl 0 rfl) ?_
    refine gX_X5_50_1 hx hb hG hown hK hP dX5_mayBeginLine_92 (fun x16 => ?_)
    refine lv_if_ne (tgt := 102) hx hb dX5_mayBeginLine_95 (by decide) (fun c_17 => ?_) (fun c_17 => ?_)
    · skip
      have f18 : x16.toInt ≠ 0 := qi_ne c_17 rfl zc_0
      refine lv_iconst (v := 0) hx hb dX5_mayBeginLine_102 (by decide) ?_
      rw [hQ]
      exact W.zret (v := 0) hx hb hr (by decide) (fun t ht hW => ⟨⟨0, 0, rfl, rfl, ⟨(ox_27 zc_0), (ox_28 zc_0), (ox_888 ie16 ie17 f15 zc_0), (ox_889 ie18 ie19 f15 zc_0)⟩⟩, hS.F ht⟩) hS.2.2 dX5_mayBeginLine_103
    · skip
      have f19 : x16.toInt = 0 := qi_eq c_17 rfl zc_0
      refine lv_iconst (v := 1) hx hb dX5_mayBeginLine_98 (by decide) ?_
      refine lv_goto (tgt := 103) hx hb dX5_mayBeginLine_99 (by decide) ?_
      rw [hQ]
      exact W.zret (v := 1) hx hb hr (by decide) (fun t ht hW => ⟨⟨1, 1, rfl, rfl, ⟨(ox_31 zc_1), (ox_32 zc_1), (ox_890 ie16 ie17 f15 zc_1), (ox_891 ie18 ie19 f15 zc_1)⟩⟩, hS.F ht⟩) hS.2.2 dX5_mayBeginLine_103
  · skip
    refine lv_tableIn (off := 100) (tgt := 104) hx hb dX5_mayBeginLine_4 (by rw [hs1]; decide) (by rw [hs1]; decide) (by rw [hs1]; decide) (by decide) ?_
    have f20 : i_rd_kind.toInt = 104 := qi_eq hs1 rfl zc_104
    refine lv_aload_n hx hb dX5_mayBeginLine_104 rfl (lv_at hl 0 rfl) ?_
    refine gX_X5_53_1 hx hb hG hown hK hP dX5_mayBeginLine_105 (fun x21 => ?_)
    refine lv_if_ne (tgt := 115) hx hb dX5_mayBeginLine_108 (by decide) (fun c_22 => ?_) (fun c_22 => ?_)
    · skip
      have f23 : x21.toInt ≠ 0 := qi_ne c_22 rfl zc_0
      refine lv_iconst (v := 0) hx hb dX5_mayBeginLine_115 (by decide) ?_
      rw [hQ]
      exact W.zret (v := 0) hx hb hr (by decide) (fun t ht hW => ⟨⟨0, 0, rfl, rfl, ⟨(ox_27 zc_0), (ox_28 zc_0), (ox_892 ie16 ie17 f20 zc_0), (ox_893 ie18 ie19 f20 zc_0)⟩⟩, hS.F ht⟩) hS.2.2 dX5_mayBeginLine_116
    · skip
      have f24 : x21.toInt = 0 := qi_eq c_22 rfl zc_0
      refine lv_iconst (v := 1) hx hb dX5_mayBeginLine_111 (by decide) ?_
      refine lv_goto (tgt := 116) hx hb dX5_mayBeginLine_112 (by decide) ?_
      rw [hQ]
      exact W.zret (v := 1) hx hb hr (by decide) (fun t ht hW => ⟨⟨1, 1, rfl, rfl, ⟨(ox_31 zc_1), (ox_32 zc_1), (ox_894 ie16 ie17 f20 zc_1), (ox_895 ie18 ie19 f20 zc_1)⟩⟩, hS.F ht⟩) hS.2.2 dX5_mayBeginLine_116
  · skip
    refine lv_tableIn (off := 113) (tgt := 117) hx hb dX5_mayBeginLine_4 (by rw [hs1]; decide) (by rw [hs1]; decide) (by rw [hs1]; decide) (by decide) ?_
    have f25 : i_rd_kind.toInt = 105 := qi_eq hs1 rfl zc_105
    refine lv_aload_n hx hb dX5_mayBeginLine_117 rfl (lv_at hl 0 rfl) ?_
    refine gX_X5_56_1 hx hb hG hown hK hP dX5_mayBeginLine_118 (fun x26 => ?_)
    refine lv_if_ne (tgt := 128) hx hb dX5_mayBeginLine_121 (by decide) (fun c_27 => ?_) (fun c_27 => ?_)
    · skip
      have f28 : x26.toInt ≠ 0 := qi_ne c_27 rfl zc_0
      refine lv_iconst (v := 0) hx hb dX5_mayBeginLine_128 (by decide) ?_
      rw [hQ]
      exact W.zret (v := 0) hx hb hr (by decide) (fun t ht hW => ⟨⟨0, 0, rfl, rfl, ⟨(ox_27 zc_0), (ox_28 zc_0), (ox_896 ie16 ie17 f25 zc_0), (ox_897 ie18 ie19 f25 zc_0)⟩⟩, hS.F ht⟩) hS.2.2 dX5_mayBeginLine_129
    · skip
      have f29 : x26.toInt = 0 := qi_eq c_27 rfl zc_0
      refine lv_iconst (v := 1) hx hb dX5_mayBeginLine_124 (by decide) ?_
      refine lv_goto (tgt := 129) hx hb dX5_mayBeginLine_125 (by decide) ?_
      rw [hQ]
      exact W.zret (v := 1) hx hb hr (by decide) (fun t ht hW => ⟨⟨1, 1, rfl, rfl, ⟨(ox_31 zc_1), (ox_32 zc_1), (ox_898 ie16 ie17 f25 zc_1), (ox_899 ie18 ie19 f25 zc_1)⟩⟩, hS.F ht⟩) hS.2.2 dX5_mayBeginLine_129
set_option maxHeartbeats 4000000 in
set_option maxRecDepth 100000 in
theorem kX5_advance (l : Launch) (dC : Nat → ClassId) (dI : Nat → Nat → Nat) (r : Nat → Nat) (ct : Nat → ClassId) (i_tapeLength i_time i_lyingCount i_rd_fault i_rd_token i_rd_kind i_sc_count i_sc_at i_A_tunes i_A_houses i_fA_length i_B_tunes i_B_houses i_fB_length i_acts_done i_acts_undone i_kn_count : Int32) (f_boxes f_boxKept f_trial f_offers f_A_noteCounts f_A_notes f_B_noteCounts f_B_notes f_now_where f_now_worn f_ahead_where f_ahead_worn f_acts_rows f_kn_tunes f_kn_noteTimes : Nat → Int32) (J : Nat → Nat → Int32) (L : Nat → Nat → Int64) (sz : Nat) (hI : (IX i_tapeLength i_time i_lyingCount i_rd_token i_sc_count i_sc_at i_A_tunes i_A_houses i_fA_length i_B_tunes i_B_houses i_fB_length i_acts_done i_acts_undone i_kn_count f_boxes f_A_noteCounts f_A_notes f_B_noteCounts f_B_notes f_now_worn f_ahead_worn f_acts_rows f_kn_tunes)) : Met l yX5_advance (.code yX5_advance cX5_advance 1 none :: GW) { frames := 2, cells := 0, slots := 0, locals := 100 } (va_Pc [.ref (r 1)] (pW (dC, dI) (WX r ct i_tapeLength i_time i_lyingCount i_rd_fault i_rd_token i_rd_kind i_sc_count i_sc_at i_A_tunes i_A_houses i_fA_length i_B_tunes i_B_houses i_fB_length i_acts_done i_acts_undone i_kn_count f_boxes f_boxKept f_trial f_offers f_A_noteCounts f_A_notes f_B_noteCounts f_B_notes f_now_where f_now_worn f_ahead_where f_ahead_worn f_acts_rows f_kn_tunes f_kn_noteTimes J L) (TX ct) sz)) (va_Qv (fun _ : Unit => True) (fun (_ : Unit) (t : State) => ∃ (n_i_rd_token n_i_rd_kind : Int32), va_P (dC, dI) vwCl (WX r ct i_tapeLength i_time i_lyingCount i_rd_fault n_i_rd_token n_i_rd_kind i_sc_count i_sc_at i_A_tunes i_A_houses i_fA_length i_B_tunes i_B_houses i_fB_length i_acts_done i_acts_undone i_kn_count f_boxes f_boxKept f_trial f_offers f_A_noteCounts f_A_notes f_B_noteCounts f_B_notes f_now_where f_now_worn f_ahead_where f_ahead_worn f_acts_rows f_kn_tunes f_kn_noteTimes J L) t.heap ∧ va_D (va_A (WX r ct i_tapeLength i_time i_lyingCount i_rd_fault i_rd_token i_rd_kind i_sc_count i_sc_at i_A_tunes i_A_houses i_fA_length i_B_tunes i_B_houses i_fB_length i_acts_done i_acts_undone i_kn_count f_boxes f_boxKept f_trial f_offers f_A_noteCounts f_A_notes f_B_noteCounts f_B_notes f_now_where f_now_worn f_ahead_where f_ahead_worn f_acts_rows f_kn_tunes f_kn_noteTimes J L) sz) (WX r ct i_tapeLength i_time i_lyingCount i_rd_fault n_i_rd_token n_i_rd_kind i_sc_count i_sc_at i_A_tunes i_A_houses i_fA_length i_B_tunes i_B_houses i_fB_length i_acts_done i_acts_undone i_kn_count f_boxes f_boxKept f_trial f_offers f_A_noteCounts f_A_notes f_B_noteCounts f_B_notes f_now_where f_now_worn f_ahead_where f_ahead_worn f_acts_rows f_kn_tunes f_kn_noteTimes J L) ∧ (IX i_tapeLength i_time i_lyingCount n_i_rd_token i_sc_count i_sc_at i_A_tunes i_A_houses i_fA_length i_B_tunes i_B_houses i_fB_length i_acts_done i_acts_undone i_kn_count f_boxes f_A_noteCounts f_A_notes f_B_noteCounts f_B_notes f_now_worn f_ahead_worn f_acts_rows f_kn_tunes)) (va_A (WX r ct i_tapeLength i_time i_lyingCount i_rd_fault i_rd_token i_rd_kind i_sc_count i_sc_at i_A_tunes i_A_houses i_fA_length i_B_tunes i_B_houses i_fB_length i_acts_done i_acts_undone i_kn_count f_boxes f_boxKept f_trial f_offers f_A_noteCounts f_A_notes f_B_noteCounts f_B_notes f_now_where f_now_worn f_ahead_where f_ahead_worn f_acts_rows f_kn_tunes f_kn_noteTimes J L) sz)) 0 0 (va_A (WX r ct i_tapeLength i_time i_lyingCount i_rd_fault i_rd_token i_rd_kind i_sc_count i_sc_at i_A_tunes i_A_houses i_fA_length i_B_tunes i_B_houses i_fB_length i_acts_done i_acts_undone i_kn_count f_boxes f_boxKept f_trial f_offers f_A_noteCounts f_A_notes f_B_noteCounts f_B_notes f_now_where f_now_worn f_ahead_where f_ahead_worn f_acts_rows f_kn_tunes f_kn_noteTimes J L) sz) := by
  refine Met.ofW (cc := cX5_advance) (maxL := 1) (ret := none) (by decide) rfl ?_
  intro p e s m args below meth c0 s₁ B hml hv
  obtain ⟨rfl, hsz, hP, hK, hD0⟩ := hv
  have hx := B.exec
  have hb := B.bytes
  have hr := B.returns
  have hts := atoms_spec (ws := .code yX5_advance cX5_advance 1 none :: GW) B.pre
  have hG : ∀ w ∈ GW, w.before _ s = true := fun w h => hts w (List.mem_cons_of_mem _ h)
  have hown : s.vm.findClass RX5 = some m.cls := findClass_of_methodNamed B.named
  subst hsz
  have hD := hD0.self (sz := s.heap.size)
  generalize hAe : va_A (WX r ct i_tapeLength i_time i_lyingCount i_rd_fault i_rd_token i_rd_kind i_sc_count i_sc_at i_A_tunes i_A_houses i_fA_length i_B_tunes i_B_houses i_fB_length i_acts_done i_acts_undone i_kn_count f_boxes f_boxKept f_trial f_offers f_A_noteCounts f_A_notes f_B_noteCounts f_B_notes f_now_where f_now_worn f_ahead_where f_ahead_worn f_acts_rows f_kn_tunes f_kn_noteTimes J L) s.heap.size = A at hD ⊢
  have hA : ∀ q : Nat, s.heap.size ≤ q → A q := fun q h => by rw [← hAe]; exact Or.inr h
  have hS : va_S A s.heap s.heap [] := va_S.rf
  have hP : va_P (dC, dI) vwCl (WX r ct i_tapeLength i_time i_lyingCount i_rd_fault i_rd_token i_rd_kind i_sc_count i_sc_at i_A_tunes i_A_houses i_fA_length i_B_tunes i_B_houses i_fB_length i_acts_done i_acts_undone i_kn_count f_boxes f_boxKept f_trial f_offers f_A_noteCounts f_A_notes f_B_noteCounts f_B_notes f_now_where f_now_worn f_ahead_where f_ahead_worn f_acts_rows f_kn_tunes f_kn_noteTimes J L) s.heap := hP
  have hl := lv_entry ([.ref (r 1)]) (n := 1) (Nat.le_of_ble_eq_true rfl)
  rw [lg_entry_eq]
  generalize (lg_sl ([.ref (r 1)]) ++ List.replicate (1 - (lg_sl ([.ref (r 1)])).length) Slot.unset).toArray = ls at hl ⊢
  have hl : lv_has ls 1 [(0, .ref (r 1))] := hl
  refine nameQ (fun Q hQ => ?_)
  obtain ⟨ie0, ie1, ie2, ie3, ie4, ie5, ie6, ie7, ie8, ie9, ie10, ie11, ie12, ie13, ie14, ie15, ie16, ie17, ie18, ie19, ie20, ie21, ie22, ie23, ie24, ie25, ie26, ie27, ie28, ie29, ie30, ie31, ie32, ie33, ie34, ie35, ie36, ie37, ie38, ie39⟩ := id hI
  refine lv_aload_n hx hb dX5_advance_0 rfl (lv_at hl 0 rfl) ?_
  refine gX_X5_43_1 hx hb hG hown hK hP dX5_advance_1 ?_
  refine lv_if_ne (tgt := 58) hx hb dX5_advance_4 (by decide) (fun c_1 => ?_) (fun c_1 => ?_)
  · skip
    have f2 : i_rd_fault.toInt ≠ 0 := qi_ne c_1 rfl zc_0
    rw [hQ]
    exact W.vret hx hb hr (fun t ht hW => ⟨⟨(), rfl, trivial, ⟨i_rd_token, i_rd_kind, by rw [ht]; exact hP, hD, hI⟩⟩, hS.F ht⟩) hS.2.2 dX5_advance_58
  · skip
    have f3 : i_rd_fault.toInt = 0 := qi_eq c_1 rfl zc_0
    refine lv_aload_n hx hb dX5_advance_7 rfl (lv_at hl 0 rfl) ?_
    refine gX_X5_66_1 hx hb hG hown hK hP dX5_advance_8 ?_
    refine lv_iconst (v := 1) hx hb dX5_advance_11 (by decide) ?_
    refine lv_icmp_eq (tgt := 58) hx hb dX5_advance_12 (by decide) (fun c_4 => ?_) (fun c_4 => ?_)
    · skip
      have f5 : i_rd_kind.toInt = 1 := qi_eq c_4 rfl zc_1
      rw [hQ]
      exact W.vret hx hb hr (fun t ht hW => ⟨⟨(), rfl, trivial, ⟨i_rd_token, i_rd_kind, by rw [ht]; exact hP, hD, hI⟩⟩, hS.F ht⟩) hS.2.2 dX5_advance_58
    · skip
      have f6 : i_rd_kind.toInt ≠ 1 := qi_ne c_4 rfl zc_1
      refine lv_aload_n hx hb dX5_advance_15 rfl (lv_at hl 0 rfl) ?_
      refine gX_X5_66_1 hx hb hG hown hK hP dX5_advance_16 ?_
      refine lv_if_eq (tgt := 58) hx hb dX5_advance_19 (by decide) (fun c_7 => ?_) (fun c_7 => ?_)
      · skip
        have f8 : i_rd_kind.toInt = 0 := qi_eq c_7 rfl zc_0
        have f9 : i_rd_kind.toInt ≤ (0 : Int) := (ox_857 f8)
        rw [hQ]
        exact W.vret hx hb hr (fun t ht hW => ⟨⟨(), rfl, trivial, ⟨i_rd_token, i_rd_kind, by rw [ht]; exact hP, hD, hI⟩⟩, hS.F ht⟩) hS.2.2 dX5_advance_58
      · skip
        have f10 : i_rd_kind.toInt ≠ 0 := qi_ne c_7 rfl zc_0
        refine lv_aload_n hx hb dX5_advance_22 rfl (lv_at hl 0 rfl) ?_
        refine gX_X5_59_1 hx hb hG hown hK hP dX5_advance_23 ?_
        refine lv_sipush (v := 1600) hx hb dX5_advance_26 (by decide) ?_
        refine lv_icmp_ge (tgt := 58) hx hb dX5_advance_29 (by decide) (fun c_11 => ?_) (fun c_11 => ?_)
        · skip
          have f12 : 1600 ≤ i_rd_token.toInt := qi_le c_11 zc_1600 rfl
          rw [hQ]
          exact W.vret hx hb hr (fun t ht hW => ⟨⟨(), rfl, trivial, ⟨i_rd_token, i_rd_kind, by rw [ht]; exact hP, hD, hI⟩⟩, hS.F ht⟩) hS.2.2 dX5_advance_58
        · skip
          have f13 : i_rd_token.toInt < 1600 := qi_nle c_11 zc_1600 rfl
          refine lv_aload_n hx hb dX5_advance_32 rfl (lv_at hl 0 rfl) ?_
          refine lv_dup hx hb dX5_advance_33 rfl ?_
          refine gX_X5_59_1 hx hb hG hown hK hP dX5_advance_34 ?_
          refine lv_iconst (v := 1) hx hb dX5_advance_37 (by decide) ?_
          refine lv_iadd hx hb dX5_advance_38 ?_
          refine lv_topi (fun x14 ex14 => ?_)
          have f15 : x14.toInt = i_rd_token.toInt + 1 := (ox_13 (qi_add ex14 rfl zc_1 (ox_900 ie6 ie7 f13) (ox_901 ie6 ie7 f13)))
          refine pX_X5_59_1 hx hb hG hown hK hP hD hS dX5_advance_39 (fun H16 locs hP hD hS => ?_)
          refine lv_aload_n hx hb dX5_advance_42 rfl (lv_at hl 0 rfl) ?_
          refine lv_aload_n hx hb dX5_advance_43 rfl (lv_at hl 0 rfl) ?_
          refine gX_X5_18_1 hx hb hG hown hK hP dX5_advance_44 ?_
          refine gX_X5_62_2 hx hb hG hown hK hP dX5_advance_47 ?_
          refine lv_aload_n hx hb dX5_advance_50 rfl (lv_at hl 0 rfl) ?_
          refine gX_X5_59_1 hx hb hG hown hK hP dX5_advance_51 ?_
          refine ldX_20 (mm := i_rd_token.toInt + 1) hx hb hK hP f15 (ox_902 ie6 ie7 f13) (ox_903 ie6 ie7 f13) dX5_advance_54 (fun x17 => ?_)
          refine pX_X5_66_1 hx hb hG hown hK hP hD hS dX5_advance_55 (fun H18 locs hP hD hS => ?_)
          rw [hQ]
          exact W.vret hx hb hr (fun t ht hW => ⟨⟨(), rfl, trivial, ⟨x14, x17, by rw [ht]; exact hP, hD, ⟨ie0, ie1, ie2, ie3, ie4, ie5, (ox_904 ie6 ie7 f13 f15), (ox_905 ie6 ie7 f13 f15), ie8, ie9, ie10, ie11, ie12, ie13, ie14, ie15, ie16, ie17, ie18, ie19, ie20, ie21, ie22, ie23, ie24, ie25, ie26, ie27, ie28, ie29, ie30, ie31, ie32, ie33, ie34, ie35, ie36, ie37, ie38, ie39⟩⟩⟩, hS.F ht⟩) hS.2.2 dX5_advance_58
set_option maxHeartbeats 4000000 in
set_option maxRecDepth 100000 in
theorem kX5_setFault (l : Launch) (dC : Nat → ClassId) (dI : Nat → Nat → Nat) (r : Nat → Nat) (ct : Nat → ClassId) (i_tapeLength i_time i_lyingCount i_rd_fault i_rd_token i_rd_kind i_sc_count i_sc_at i_A_tunes i_A_houses i_fA_length i_B_tunes i_B_houses i_fB_length i_acts_done i_acts_undone i_kn_count : Int32) (f_boxes f_boxKept f_trial f_offers f_A_noteCounts f_A_notes f_B_noteCounts f_B_notes f_now_where f_now_worn f_ahead_where f_ahead_worn f_acts_rows f_kn_tunes f_kn_noteTimes : Nat → Int32) (J : Nat → Nat → Int32) (L : Nat → Nat → Int64) (p0 : Int32) (sz : Nat) (hI : (IX i_tapeLength i_time i_lyingCount i_rd_token i_sc_count i_sc_at i_A_tunes i_A_houses i_fA_length i_B_tunes i_B_houses i_fB_length i_acts_done i_acts_undone i_kn_count f_boxes f_A_noteCounts f_A_notes f_B_noteCounts f_B_notes f_now_worn f_ahead_worn f_acts_rows f_kn_tunes)) : Met l yX5_setFault (.code yX5_setFault cX5_setFault 2 none :: GW) { frames := 2, cells := 0, slots := 0, locals := 100 } (va_Pc [.ref (r 1), .int p0] (pW (dC, dI) (WX r ct i_tapeLength i_time i_lyingCount i_rd_fault i_rd_token i_rd_kind i_sc_count i_sc_at i_A_tunes i_A_houses i_fA_length i_B_tunes i_B_houses i_fB_length i_acts_done i_acts_undone i_kn_count f_boxes f_boxKept f_trial f_offers f_A_noteCounts f_A_notes f_B_noteCounts f_B_notes f_now_where f_now_worn f_ahead_where f_ahead_worn f_acts_rows f_kn_tunes f_kn_noteTimes J L) (TX ct) sz)) (va_Qv (fun _ : Unit => True) (fun (_ : Unit) (t : State) => ∃ (n_i_rd_fault : Int32) (n_J : Nat → Nat → Int32), va_P (dC, dI) vwCl (WX r ct i_tapeLength i_time i_lyingCount n_i_rd_fault i_rd_token i_rd_kind i_sc_count i_sc_at i_A_tunes i_A_houses i_fA_length i_B_tunes i_B_houses i_fB_length i_acts_done i_acts_undone i_kn_count f_boxes f_boxKept f_trial f_offers f_A_noteCounts f_A_notes f_B_noteCounts f_B_notes f_now_where f_now_worn f_ahead_where f_ahead_worn f_acts_rows f_kn_tunes f_kn_noteTimes n_J L) t.heap ∧ va_D (va_A (WX r ct i_tapeLength i_time i_lyingCount i_rd_fault i_rd_token i_rd_kind i_sc_count i_sc_at i_A_tunes i_A_houses i_fA_length i_B_tunes i_B_houses i_fB_length i_acts_done i_acts_undone i_kn_count f_boxes f_boxKept f_trial f_offers f_A_noteCounts f_A_notes f_B_noteCounts f_B_notes f_now_where f_now_worn f_ahead_where f_ahead_worn f_acts_rows f_kn_tunes f_kn_noteTimes J L) sz) (WX r ct i_tapeLength i_time i_lyingCount n_i_rd_fault i_rd_token i_rd_kind i_sc_count i_sc_at i_A_tunes i_A_houses i_fA_length i_B_tunes i_B_houses i_fB_length i_acts_done i_acts_undone i_kn_count f_boxes f_boxKept f_trial f_offers f_A_noteCounts f_A_notes f_B_noteCounts f_B_notes f_now_where f_now_worn f_ahead_where f_ahead_worn f_acts_rows f_kn_tunes f_kn_noteTimes n_J L) ∧ (IX i_tapeLength i_time i_lyingCount i_rd_token i_sc_count i_sc_at i_A_tunes i_A_houses i_fA_length i_B_tunes i_B_houses i_fB_length i_acts_done i_acts_undone i_kn_count f_boxes f_A_noteCounts f_A_notes f_B_noteCounts f_B_notes f_now_worn f_ahead_worn f_acts_rows f_kn_tunes)) (va_A (WX r ct i_tapeLength i_time i_lyingCount i_rd_fault i_rd_token i_rd_kind i_sc_count i_sc_at i_A_tunes i_A_houses i_fA_length i_B_tunes i_B_houses i_fB_length i_acts_done i_acts_undone i_kn_count f_boxes f_boxKept f_trial f_offers f_A_noteCounts f_A_notes f_B_noteCounts f_B_notes f_now_where f_now_worn f_ahead_where f_ahead_worn f_acts_rows f_kn_tunes f_kn_noteTimes J L) sz)) 0 0 (va_A (WX r ct i_tapeLength i_time i_lyingCount i_rd_fault i_rd_token i_rd_kind i_sc_count i_sc_at i_A_tunes i_A_houses i_fA_length i_B_tunes i_B_houses i_fB_length i_acts_done i_acts_undone i_kn_count f_boxes f_boxKept f_trial f_offers f_A_noteCounts f_A_notes f_B_noteCounts f_B_notes f_now_where f_now_worn f_ahead_where f_ahead_worn f_acts_rows f_kn_tunes f_kn_noteTimes J L) sz) := by
  refine Met.ofW (cc := cX5_setFault) (maxL := 2) (ret := none) (by decide) rfl ?_
  intro p e s m args below meth c0 s₁ B hml hv
  obtain ⟨rfl, hsz, hP, hK, hD0⟩ := hv
  have hx := B.exec
  have hb := B.bytes
  have hr := B.returns
  have hts := atoms_spec (ws := .code yX5_setFault cX5_setFault 2 none :: GW) B.pre
  have hG : ∀ w ∈ GW, w.before _ s = true := fun w h => hts w (List.mem_cons_of_mem _ h)
  have hown : s.vm.findClass RX5 = some m.cls := findClass_of_methodNamed B.named
  subst hsz
  have hD := hD0.self (sz := s.heap.size)
  generalize hAe : va_A (WX r ct i_tapeLength i_time i_lyingCount i_rd_fault i_rd_token i_rd_kind i_sc_count i_sc_at i_A_tunes i_A_houses i_fA_length i_B_tunes i_B_houses i_fB_length i_acts_done i_acts_undone i_kn_count f_boxes f_boxKept f_trial f_offers f_A_noteCounts f_A_notes f_B_noteCounts f_B_notes f_now_where f_now_worn f_ahead_where f_ahead_worn f_acts_rows f_kn_tunes f_kn_noteTimes J L) s.heap.size = A at hD ⊢
  have hA : ∀ q : Nat, s.heap.size ≤ q → A q := fun q h => by rw [← hAe]; exact Or.inr h
  have hS : va_S A s.heap s.heap [] := va_S.rf
  have hP : va_P (dC, dI) vwCl (WX r ct i_tapeLength i_time i_lyingCount i_rd_fault i_rd_token i_rd_kind i_sc_count i_sc_at i_A_tunes i_A_houses i_fA_length i_B_tunes i_B_houses i_fB_length i_acts_done i_acts_undone i_kn_count f_boxes f_boxKept f_trial f_offers f_A_noteCounts f_A_notes f_B_noteCounts f_B_notes f_now_where f_now_worn f_ahead_where f_ahead_worn f_acts_rows f_kn_tunes f_kn_noteTimes J L) s.heap := hP
  have hl := lv_entry ([.ref (r 1), .int p0]) (n := 2) (Nat.le_of_ble_eq_true rfl)
  rw [lg_entry_eq]
  generalize (lg_sl ([.ref (r 1), .int p0]) ++ List.replicate (2 - (lg_sl ([.ref (r 1), .int p0])).length) Slot.unset).toArray = ls at hl ⊢
  have hl : lv_has ls 2 [(0, .ref (r 1)), (1, .int p0)] := hl
  refine nameQ (fun Q hQ => ?_)
  obtain ⟨ie0, ie1, ie2, ie3, ie4, ie5, ie6, ie7, ie8, ie9, ie10, ie11, ie12, ie13, ie14, ie15, ie16, ie17, ie18, ie19, ie20, ie21, ie22, ie23, ie24, ie25, ie26, ie27, ie28, ie29, ie30, ie31, ie32, ie33, ie34, ie35, ie36, ie37, ie38, ie39⟩ := id hI
  refine lv_aload_n hx hb dX5_setFault_0 rfl (lv_at hl 0 rfl) ?_
  refine gX_X5_43_1 hx hb hG hown hK hP dX5_setFault_1 ?_
  refine lv_if_ne (tgt := 28) hx hb dX5_setFault_4 (by decide) (fun c_1 => ?_) (fun c_1 => ?_)
  · skip
    have f2 : i_rd_fault.toInt ≠ 0 := qi_ne c_1 rfl zc_0
    rw [hQ]
    exact W.vret hx hb hr (fun t ht hW => ⟨⟨(), rfl, trivial, ⟨i_rd_fault, J, by rw [ht]; exact hP, hD, hI⟩⟩, hS.F ht⟩) hS.2.2 dX5_setFault_28
  · skip
    have f3 : i_rd_fault.toInt = 0 := qi_eq c_1 rfl zc_0
    refine lv_aload_n hx hb dX5_setFault_7 rfl (lv_at hl 0 rfl) ?_
    refine lv_iload_n hx hb dX5_setFault_8 rfl (lv_at hl 1 rfl) ?_
    refine pX_X5_43_1 hx hb hG hown hK hP hD hS dX5_setFault_9 (fun H4 locs hP hD hS => ?_)
    refine lv_aload_n hx hb dX5_setFault_12 rfl (lv_at hl 0 rfl) ?_
    refine lv_aload_n hx hb dX5_setFault_13 rfl (lv_at hl 0 rfl) ?_
    refine gX_X5_18_1 hx hb hG hown hK hP dX5_setFault_14 ?_
    refine gX_X5_154_2 hx hb hG hown hK hP dX5_setFault_17 ?_
    refine lv_aload_n hx hb dX5_setFault_20 rfl (lv_at hl 0 rfl) ?_
    refine gX_X5_59_1 hx hb hG hown hK hP dX5_setFault_21 ?_
    refine ldX_21 (mm := i_rd_token.toInt) hx hb hK hP rfl (ox_906 ie6 ie7) (ox_907 ie6 ie7) dX5_setFault_24 (fun x5 => ?_)
    refine pX_X5_9_1 hx hb hG hown hK hP hD hS dX5_setFault_25 (fun J7 H6 locs hP hD hS => ?_)
    rw [hQ]
    exact W.vret hx hb hr (fun t ht hW => ⟨⟨(), rfl, trivial, ⟨p0, J7, by rw [ht]; exact hP, hD, hI⟩⟩, hS.F ht⟩) hS.2.2 dX5_setFault_28
