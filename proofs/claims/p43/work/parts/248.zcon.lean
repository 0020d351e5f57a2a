set_option maxHeartbeats 4000000 in
set_option maxRecDepth 100000 in
theorem kX5_readFormula_v22 (l : Launch) (dC : Nat → ClassId) (dI : Nat → Nat → Nat) (r : Nat → Nat) (ct : Nat → ClassId) (i_tapeLength i_time i_lyingCount i_rd_fault i_rd_token i_rd_kind i_sc_count i_sc_at i_A_tunes i_A_houses i_fA_length i_B_tunes i_B_houses i_fB_length i_acts_done i_acts_undone i_kn_count : Int32) (f_boxes f_boxKept f_trial f_offers f_A_noteCounts f_A_notes f_B_noteCounts f_B_notes f_now_where f_now_worn f_ahead_where f_ahead_worn f_acts_rows f_kn_tunes f_kn_noteTimes : Nat → Int32) (J : Nat → Nat → Int32) (L : Nat → Nat → Int64) (sz : Nat) (hI : (IX i_tapeLength i_time i_lyingCount i_rd_token i_sc_count i_sc_at i_A_tunes i_A_houses i_fA_length i_B_tunes i_B_houses i_fB_length i_acts_done i_acts_undone i_kn_count f_boxes f_A_noteCounts f_A_notes f_B_noteCounts f_B_notes f_now_worn f_ahead_worn f_acts_rows f_kn_tunes)) : Met l yX5_readFormula (.code yX5_readFormula cX5_readFormula 6 none :: GW) { frames := 66, cells := 0, slots := 0, locals := 2162 } (va_Pc [.ref (r 1), .int 4, .int 3] (pW (dC, dI) (WX r ct i_tapeLength i_time i_lyingCount i_rd_fault i_rd_token i_rd_kind i_sc_count i_sc_at i_A_tunes i_A_houses i_fA_length i_B_tunes i_B_houses i_fB_length i_acts_done i_acts_undone i_kn_count f_boxes f_boxKept f_trial f_offers f_A_noteCounts f_A_notes f_B_noteCounts f_B_notes f_now_where f_now_worn f_ahead_where f_ahead_worn f_acts_rows f_kn_tunes f_kn_noteTimes J L) (TX ct) sz)) (va_Qv (fun _ : Unit => True) (fun (_ : Unit) (t : State) => ∃ (n_i_rd_fault n_i_rd_token n_i_rd_kind n_i_fB_length : Int32) (n_J : Nat → Nat → Int32), va_P (dC, dI) vwCl (WX r ct i_tapeLength i_time i_lyingCount n_i_rd_fault n_i_rd_token n_i_rd_kind i_sc_count i_sc_at i_A_tunes i_A_houses i_fA_length i_B_tunes i_B_houses n_i_fB_length i_acts_done i_acts_undone i_kn_count f_boxes f_boxKept f_trial f_offers f_A_noteCounts f_A_notes f_B_noteCounts f_B_notes f_now_where f_now_worn f_ahead_where f_ahead_worn f_acts_rows f_kn_tunes f_kn_noteTimes n_J L) t.heap ∧ va_D (va_A (WX r ct i_tapeLength i_time i_lyingCount i_rd_fault i_rd_token i_rd_kind i_sc_count i_sc_at i_A_tunes i_A_houses i_fA_length i_B_tunes i_B_houses i_fB_length i_acts_done i_acts_undone i_kn_count f_boxes f_boxKept f_trial f_offers f_A_noteCounts f_A_notes f_B_noteCounts f_B_notes f_now_where f_now_worn f_ahead_where f_ahead_worn f_acts_rows f_kn_tunes f_kn_noteTimes J L) sz) (WX r ct i_tapeLength i_time i_lyingCount n_i_rd_fault n_i_rd_token n_i_rd_kind i_sc_count i_sc_at i_A_tunes i_A_houses i_fA_length i_B_tunes i_B_houses n_i_fB_length i_acts_done i_acts_undone i_kn_count f_boxes f_boxKept f_trial f_offers f_A_noteCounts f_A_notes f_B_noteCounts f_B_notes f_now_where f_now_worn f_ahead_where f_ahead_worn f_acts_rows f_kn_tunes f_kn_noteTimes n_J L) ∧ (IX i_tapeLength i_time i_lyingCount n_i_rd_token i_sc_count i_sc_at i_A_tunes i_A_houses i_fA_length i_B_tunes i_B_houses n_i_fB_length i_acts_done i_acts_undone i_kn_count f_boxes f_A_noteCounts f_A_notes f_B_noteCounts f_B_notes f_now_worn f_ahead_worn f_acts_rows f_kn_tunes)) (va_A (WX r ct i_tapeLength i_time i_lyingCount i_rd_fault i_rd_token i_rd_kind i_sc_count i_sc_at i_A_tunes i_A_houses i_fA_length i_B_tunes i_B_houses i_fB_length i_acts_done i_acts_undone i_kn_count f_boxes f_boxKept f_trial f_offers f_A_noteCounts f_A_notes f_B_noteCounts f_B_notes f_now_where f_now_worn f_ahead_where f_ahead_worn f_acts_rows f_kn_tunes f_kn_noteTimes J L) sz)) 0 0 (va_A (WX r ct i_tapeLength i_time i_lyingCount i_rd_fault i_rd_token i_rd_kind i_sc_count i_sc_at i_A_tunes i_A_houses i_fA_length i_B_tunes i_B_houses i_fB_length i_acts_done i_acts_undone i_kn_count f_boxes f_boxKept f_trial f_offers f_A_noteCounts f_A_notes f_B_noteCounts f_B_notes f_now_where f_now_worn f_ahead_where f_ahead_worn f_acts_rows f_kn_tunes f_kn_noteTimes J L) sz) := by
  refine Met.ofW (cc := cX5_readFormula) (maxL := 6) (ret := none) (by decide) rfl ?_
  intro p e s m args below meth c0 s₁ B hml hv
  obtain ⟨rfl, hsz, hP, hK, hD0⟩ := hv
  have hx := B.exec
  have hb := B.bytes
  have hr := B.returns
  have hts := atoms_spec (ws := .code yX5_readFormula cX5_readFormula 6 none :: GW) B.pre
  have hG : ∀ w ∈ GW, w.before _ s = true := fun w h => hts w (List.mem_cons_of_mem _ h)
  have hown : s.vm.findClass RX5 = some m.cls := findClass_of_methodNamed B.named
  subst hsz
  have hD := hD0.self (sz := s.heap.size)
  generalize hAe : va_A (WX r ct i_tapeLength i_time i_lyingCount i_rd_fault i_rd_token i_rd_kind i_sc_count i_sc_at i_A_tunes i_A_houses i_fA_length i_B_tunes i_B_houses i_fB_length i_acts_done i_acts_undone i_kn_count f_boxes f_boxKept f_trial f_offers f_A_noteCounts f_A_notes f_B_noteCounts f_B_notes f_now_where f_now_worn f_ahead_where f_ahead_worn f_acts_rows f_kn_tunes f_kn_noteTimes J L) s.heap.size = A at hD ⊢
  have hA : ∀ q : Nat, s.heap.size ≤ q → A q := fun q h => by rw [← hAe]; exact Or.inr h
  have hS : va_S A s.heap s.heap [] := va_S.rf
  have hP : va_P (dC, dI) vwCl (WX r ct i_tapeLength i_time i_lyingCount i_rd_fault i_rd_token i_rd_kind i_sc_count i_sc_at i_A_tunes i_A_houses i_fA_length i_B_tunes i_B_houses i_fB_length i_acts_done i_acts_undone i_kn_count f_boxes f_boxKept f_trial f_offers f_A_noteCounts f_A_notes f_B_noteCounts f_B_notes f_now_where f_now_worn f_ahead_where f_ahead_worn f_acts_rows f_kn_tunes f_kn_noteTimes J L) s.heap := hP
  have hl := lv_entry ([.ref (r 1), .int 4, .int 3]) (n := 6) (Nat.le_of_ble_eq_true rfl)
  rw [lg_entry_eq]
  generalize (lg_sl ([.ref (r 1), .int 4, .int 3]) ++ List.replicate (6 - (lg_sl ([.ref (r 1), .int 4, .int 3])).length) Slot.unset).toArray = ls at hl ⊢
  have hl : lv_has ls 6 [(0, .ref (r 1)), (1, .int 4), (2, .int 3)] := hl
  refine nameQ (fun Q hQ => ?_)
  obtain ⟨ie0, ie1, ie2, ie3, ie4, ie5, ie6, ie7, ie8, ie9, ie10, ie11, ie12, ie13, ie14, ie15, ie16, ie17, ie18, ie19, ie20, ie21, ie22, ie23, ie24, ie25, ie26, ie27, ie28, ie29, ie30, ie31, ie32, ie33, ie34, ie35, ie36, ie37, ie38, ie39⟩ := id hI
  refine lv_aload_n hx hb dX5_readFormula_0 rfl (lv_at hl 0 rfl) ?_
  refine gX_X5_43_1 hx hb hG hown hK hP dX5_readFormula_1 ?_
  refine lv_if_eq (tgt := 8) hx hb dX5_readFormula_4 (by decide) (fun c_1 => ?_) (fun c_1 => ?_)
  · skip
    have f2 : i_rd_fault.toInt = 0 := qi_eq c_1 rfl zc_0
    refine lv_iload_n hx hb dX5_readFormula_8 rfl (lv_at hl 1 rfl) ?_
    refine lv_iconst (v := 5) hx hb dX5_readFormula_9 (by decide) ?_
    refine lv_icmp_lt (tgt := 19) hx hb dX5_readFormula_10 (by decide) (fun c_3 => ?_) (fun c_3 => absurd (by decide) c_3)
    refine lv_iload_n hx hb dX5_readFormula_19 rfl (lv_at hl 1 rfl) ?_
    refine lv_iconst (v := 2) hx hb dX5_readFormula_20 (by decide) ?_
    refine lv_icmp_ne (tgt := 39) hx hb dX5_readFormula_21 (by decide) (fun c_4 => ?_) (fun c_4 => absurd c_4 (by decide))
    refine lv_aload_n hx hb dX5_readFormula_39 rfl (lv_at hl 0 rfl) ?_
    refine lv_iload_n hx hb dX5_readFormula_40 rfl (lv_at hl 1 rfl) ?_
    refine lv_iconst (v := 1) hx hb dX5_readFormula_41 (by decide) ?_
    refine lv_iadd hx hb dX5_readFormula_42 ?_
    refine wt_c (v := 5) (by decide) ?_
    refine lv_iload_n hx hb dX5_readFormula_43 rfl (lv_at hl 2 rfl) ?_
    have hFc := frA hD hS hA
    refine va_callv (va_runV (As := [.int 5, .int 3]) (rest := []) ⟨hx, hb, hml, hown, hG⟩ (kX5_readFormula_v23 l dC dI r ct i_tapeLength i_time i_lyingCount i_rd_fault i_rd_token i_rd_kind i_sc_count i_sc_at i_A_tunes i_A_houses i_fA_length i_B_tunes i_B_houses i_fB_length i_acts_done i_acts_undone i_kn_count f_boxes f_boxKept f_trial f_offers f_A_noteCounts f_A_notes f_B_noteCounts f_B_notes f_now_where f_now_worn f_ahead_where f_ahead_worn f_acts_rows f_kn_tunes f_kn_noteTimes J L s.heap.size hI) (cwV 2 hG (goodV gw660 gw662 gw17 gw130 gw663) rfl rfl rfl hd_X5_readFormula ⟨(Nat.le_of_ble_eq_true rfl), (Nat.le_of_ble_eq_true rfl)⟩) ⟨fbW, va_recv hK hP (ci := 4) (q0 := 1) rfl rfl, pW_in hP hK hD⟩ rfl rfl hl.1 rfl (lv_room (Nat.le_of_ble_eq_true rfl)) dX5_readFormula_44 ⟨(Nat.le_of_ble_eq_true rfl), (Nat.le_of_ble_eq_true rfl)⟩) hS (fun q _ h => hFc q h) hFc (fun _ t_ H5 locs ht hvm hw hB hz1 hk1 hS => ?_)
    obtain ⟨x7, x8, x9, x10, J11, hP1, hD1, hI12⟩ := hB
    rw [ht] at hP1
    have hP := hP1
    have hD := dW hFc hD1
    obtain ⟨im13, im14, im15, im16, im17, im18, im19, im20, im21, im22, im23, im24, im25, im26, im27, im28, im29, im30, im31, im32, im33, im34, im35, im36, im37, im38, im39, im40, im41, im42, im43, im44, im45, im46, im47, im48, im49, im50, im51, im52⟩ := id hI12
    refine lv_iload_n hx hb dX5_readFormula_47 rfl (lv_at hl 1 rfl) ?_
    refine lv_iconst (v := 2) hx hb dX5_readFormula_48 (by decide) ?_
    refine lv_icmp_ne (tgt := 56) hx hb dX5_readFormula_49 (by decide) (fun c_53 => ?_) (fun c_53 => absurd c_53 (by decide))
    refine lv_sipush (v := 1600) hx hb dX5_readFormula_56 (by decide) ?_
    refine lv_istore_n (lv' := [(3, .int 1600), (0, .ref (r 1)), (1, .int 4), (2, .int 3)]) hx hb dX5_readFormula_59 rfl hl (by decide) rfl (fun ls hl => ?_)
    refine lv_iconst (v := 0) hx hb dX5_readFormula_60 (by decide) ?_
    refine lv_istore (lv' := [(4, .int 0), (3, .int 1600), (0, .ref (r 1)), (1, .int 4), (2, .int 3)]) hx hb dX5_readFormula_61 hl (by decide) rfl (fun ls hl => ?_)
    have L63 : ∀ (N63 : Nat) (y63_4 : Int32) (m63_i_rd_fault m63_i_rd_token m63_i_rd_kind m63_i_fB_length : Int32) (m63_J : Nat → Nat → Int32) (H63 : Heap) (locs : List Loc) (ls : Array Slot) (g63_0 : (0 : Int) ≤ y63_4.toInt) (g63_1 : y63_4.toInt ≤ (1600 : Int)) (g63_2 : (0 : Int) ≤ m63_i_rd_token.toInt) (g63_3 : m63_i_rd_token.toInt ≤ (1600 : Int)) (g63_4 : (0 : Int) ≤ m63_i_fB_length.toInt) (g63_5 : m63_i_fB_length.toInt ≤ (300 : Int)) (gi63_i_rd_token_lo : (0 : Int) ≤ m63_i_rd_token.toInt) (gi63_i_rd_token_hi : m63_i_rd_token.toInt ≤ (1600 : Int)) (gi63_i_fB_length_lo : (0 : Int) ≤ m63_i_fB_length.toInt) (gi63_i_fB_length_hi : m63_i_fB_length.toInt ≤ (300 : Int)) (hP : va_P (dC, dI) vwCl (WX r ct i_tapeLength i_time i_lyingCount m63_i_rd_fault m63_i_rd_token m63_i_rd_kind i_sc_count i_sc_at i_A_tunes i_A_houses i_fA_length i_B_tunes i_B_houses m63_i_fB_length i_acts_done i_acts_undone i_kn_count f_boxes f_boxKept f_trial f_offers f_A_noteCounts f_A_notes f_B_noteCounts f_B_notes f_now_where f_now_worn f_ahead_where f_ahead_worn f_acts_rows f_kn_tunes f_kn_noteTimes m63_J L) H63) (hD : va_D A (WX r ct i_tapeLength i_time i_lyingCount m63_i_rd_fault m63_i_rd_token m63_i_rd_kind i_sc_count i_sc_at i_A_tunes i_A_houses i_fA_length i_B_tunes i_B_houses m63_i_fB_length i_acts_done i_acts_undone i_kn_count f_boxes f_boxKept f_trial f_offers f_A_noteCounts f_A_notes f_B_noteCounts f_B_notes f_now_where f_now_worn f_ahead_where f_ahead_worn f_acts_rows f_kn_tunes f_kn_noteTimes m63_J L)) (hS : va_S A s.heap H63 locs) (hl : lv_has ls 6 [(0, .ref (r 1)), (1, .int 4), (2, .int 3), (3, .int 1600), (4, .int y63_4)]) (hM : -1 * y63_4.toInt + 1600 < (N63 : Int)), W p l e { frames := 66, cells := 0, slots := 0, locals := 2162 } s m ([.ref (r 1), .int 4, .int 3] : List Value).toArray below meth c0 H63 locs 0 0 Q (F0 m 63 ls []) := by
      intro N63
      induction N63 with
      | zero =>
        intro y63_4 m63_i_rd_fault m63_i_rd_token m63_i_rd_kind m63_i_fB_length m63_J H63 locs ls g63_0 g63_1 g63_2 g63_3 g63_4 g63_5 gi63_i_rd_token_lo gi63_i_rd_token_hi gi63_i_fB_length_lo gi63_i_fB_length_hi hP hD hS hl hM
        exact ((ox_794 hM g63_0 g63_1)).elim
      | succ N63 ih63 =>
        intro y63_4 m63_i_rd_fault m63_i_rd_token m63_i_rd_kind m63_i_fB_length m63_J H63 locs ls g63_0 g63_1 g63_2 g63_3 g63_4 g63_5 gi63_i_rd_token_lo gi63_i_rd_token_hi gi63_i_fB_length_lo gi63_i_fB_length_hi hP hD hS hl hM
        have hM63 := msucc hM
        refine lv_iload hx hb dX5_readFormula_63 (lv_at hl 4 rfl) ?_
        refine lv_iload_n hx hb dX5_readFormula_65 rfl (lv_at hl 3 rfl) ?_
        refine lv_icmp_ge (tgt := 123) hx hb dX5_readFormula_66 (by decide) (fun c_54 => ?_) (fun c_54 => ?_)
        · skip
          have f55 : 1600 ≤ y63_4.toInt := qi_le c_54 zc_1600 rfl
          rw [hQ]
          exact W.vret hx hb hr (fun t ht hW => ⟨⟨(), rfl, trivial, ⟨m63_i_rd_fault, m63_i_rd_token, m63_i_rd_kind, m63_i_fB_length, m63_J, by rw [ht]; exact hP, hD, ⟨ie0, ie1, ie2, ie3, ie4, ie5, gi63_i_rd_token_lo, gi63_i_rd_token_hi, ie8, ie9, ie10, ie11, ie12, ie13, ie14, ie15, ie16, ie17, ie18, ie19, ie20, ie21, gi63_i_fB_length_lo, gi63_i_fB_length_hi, ie24, ie25, ie26, ie27, ie28, ie29, ie30, ie31, ie32, ie33, ie34, ie35, ie36, ie37, ie38, ie39⟩⟩⟩, hS.F ht⟩) hS.2.2 dX5_readFormula_123
        · skip
          have f56 : y63_4.toInt < 1600 := qi_nle c_54 zc_1600 rfl
          refine lv_aload_n hx hb dX5_readFormula_69 rfl (lv_at hl 0 rfl) ?_
          refine gX_X5_43_1 hx hb hG hown hK hP dX5_readFormula_70 ?_
          refine lv_if_ne (tgt := 123) hx hb dX5_readFormula_73 (by decide) (fun c_57 => ?_) (fun c_57 => ?_)
          · skip
            have f58 : m63_i_rd_fault.toInt ≠ 0 := qi_ne c_57 rfl zc_0
            rw [hQ]
            exact W.vret hx hb hr (fun t ht hW => ⟨⟨(), rfl, trivial, ⟨m63_i_rd_fault, m63_i_rd_token, m63_i_rd_kind, m63_i_fB_length, m63_J, by rw [ht]; exact hP, hD, ⟨ie0, ie1, ie2, ie3, ie4, ie5, gi63_i_rd_token_lo, gi63_i_rd_token_hi, ie8, ie9, ie10, ie11, ie12, ie13, ie14, ie15, ie16, ie17, ie18, ie19, ie20, ie21, gi63_i_fB_length_lo, gi63_i_fB_length_hi, ie24, ie25, ie26, ie27, ie28, ie29, ie30, ie31, ie32, ie33, ie34, ie35, ie36, ie37, ie38, ie39⟩⟩⟩, hS.F ht⟩) hS.2.2 dX5_readFormula_123
          · skip
            have f59 : m63_i_rd_fault.toInt = 0 := qi_eq c_57 rfl zc_0
            refine lv_aload_n hx hb dX5_readFormula_76 rfl (lv_at hl 0 rfl) ?_
            refine gX_X5_66_1 hx hb hG hown hK hP dX5_readFormula_77 ?_
            refine va_calli (va_runS (As := [.int m63_i_rd_kind]) (rest := []) ⟨hx, hb, hml, hown, hG⟩ (kX2_levelOf l dC dI m63_i_rd_kind H63.size) (va_cwS 1 hG (goodS gw678 gw613 gw144 gw614) rfl rfl rfl hd_X2_levelOf ⟨(Nat.le_of_ble_eq_true rfl), (Nat.le_of_ble_eq_true rfl)⟩) ⟨fbR, pR_in emptyP (emptyK hK)⟩ rfl rfl hl.1 rfl (lv_room (Nat.le_of_ble_eq_true rfl)) dX5_readFormula_80 ⟨(Nat.le_of_ble_eq_true rfl), (Nat.le_of_ble_eq_true rfl)⟩) hS (fun q hq h => absurd hq (Nat.not_lt.mpr h)) (fun q h => hA q (Nat.le_trans hS.1 h)) (fun r_61 u_ t_ H60 locs ht hvm hw hB hz1 hk1 hS => ?_)
            subst hw
            have hP := wk hP hk1
            obtain ⟨f62, f63⟩ := hB
            refine lv_iload_n hx hb dX5_readFormula_83 rfl (lv_at hl 1 rfl) ?_
            refine lv_icmp_ne (tgt := 123) hx hb dX5_readFormula_84 (by decide) (fun c_64 => ?_) (fun c_64 => ?_)
            · skip
              have f65 : r_61.toInt ≠ 4 := qi_ne c_64 rfl zc_4
              have f66 : r_61.toInt ≤ (3 : Int) := (ox_972 f62 f63 f65)
              rw [hQ]
              exact W.vret hx hb hr (fun t ht hW => ⟨⟨(), rfl, trivial, ⟨m63_i_rd_fault, m63_i_rd_token, m63_i_rd_kind, m63_i_fB_length, m63_J, by rw [ht]; exact hP, hD, ⟨ie0, ie1, ie2, ie3, ie4, ie5, gi63_i_rd_token_lo, gi63_i_rd_token_hi, ie8, ie9, ie10, ie11, ie12, ie13, ie14, ie15, ie16, ie17, ie18, ie19, ie20, ie21, gi63_i_fB_length_lo, gi63_i_fB_length_hi, ie24, ie25, ie26, ie27, ie28, ie29, ie30, ie31, ie32, ie33, ie34, ie35, ie36, ie37, ie38, ie39⟩⟩⟩, hS.F ht⟩) hS.2.2 dX5_readFormula_123
            · skip
              have f67 : r_61.toInt = 4 := qi_eq c_64 rfl zc_4
              refine lv_aload_n hx hb dX5_readFormula_87 rfl (lv_at hl 0 rfl) ?_
              refine gX_X5_66_1 hx hb hG hown hK hP dX5_readFormula_88 ?_
              refine lv_istore (lv' := [(5, .int m63_i_rd_kind), (0, .ref (r 1)), (1, .int 4), (2, .int 3), (3, .int 1600), (4, .int y63_4)]) hx hb dX5_readFormula_91 hl (by decide) rfl (fun ls hl => ?_)
              refine lv_aload_n hx hb dX5_readFormula_93 rfl (lv_at hl 1 rfl) ?_
              have hFc := frA hD hS hA
              refine va_callv (va_runV (As := []) (rest := []) ⟨hx, hb, hml, hown, hG⟩ (kX5_advance l dC dI r ct i_tapeLength i_time i_lyingCount m63_i_rd_fault m63_i_rd_token m63_i_rd_kind i_sc_count i_sc_at i_A_tunes i_A_houses i_fA_length i_B_tunes i_B_houses m63_i_fB_length i_acts_done i_acts_undone i_kn_count f_boxes f_boxKept f_trial f_offers f_A_noteCounts f_A_notes f_B_noteCounts f_B_notes f_now_where f_now_worn f_ahead_where f_ahead_worn f_acts_rows f_kn_tunes f_kn_noteTimes m63_J L H60.size ⟨ie0, ie1, ie2, ie3, ie4, ie5, gi63_i_rd_token_lo, gi63_i_rd_token_hi, ie8, ie9, ie10, ie11, ie12, ie13, ie14, ie15, ie16, ie17, ie18, ie19, ie20, ie21, gi63_i_fB_length_lo, gi63_i_fB_length_hi, ie24, ie25, ie26, ie27, ie28, ie29, ie30, ie31, ie32, ie33, ie34, ie35, ie36, ie37, ie38, ie39⟩) (cwV 0 hG (goodV gw635 gw637 gw11 gw130 gw638) rfl rfl rfl hd_X5_advance ⟨(Nat.le_of_ble_eq_true rfl), (Nat.le_of_ble_eq_true rfl)⟩) ⟨fbW, va_recv hK hP (ci := 4) (q0 := 1) rfl rfl, pW_in hP hK hD⟩ rfl rfl hl.1 rfl (lv_room (Nat.le_of_ble_eq_true rfl)) dX5_readFormula_94 ⟨(Nat.le_of_ble_eq_true rfl), (Nat.le_of_ble_eq_true rfl)⟩) hS (fun q _ h => hFc q h) hFc (fun _ t_ H68 locs ht hvm hw hB hz1 hk1 hS => ?_)
              obtain ⟨x70, x71, hP1, hD1, hI72⟩ := hB
              rw [ht] at hP1
              have hP := hP1
              have hD := dW hFc hD1
              obtain ⟨im73, im74, im75, im76, im77, im78, im79, im80, im81, im82, im83, im84, im85, im86, im87, im88, im89, im90, im91, im92, im93, im94, im95, im96, im97, im98, im99, im100, im101, im102, im103, im104, im105, im106, im107, im108, im109, im110, im111, im112⟩ := id hI72
              refine lv_aload_n hx hb dX5_readFormula_97 rfl (lv_at hl 1 rfl) ?_
              refine lv_iload_n hx hb dX5_readFormula_98 rfl (lv_at hl 2 rfl) ?_
              refine lv_iconst (v := 1) hx hb dX5_readFormula_99 (by decide) ?_
              refine lv_iadd hx hb dX5_readFormula_100 ?_
              refine wt_c (v := 5) (by decide) ?_
              refine lv_iload_n hx hb dX5_readFormula_101 rfl (lv_at hl 3 rfl) ?_
              have hFc := frA hD hS hA
              refine va_callv (va_runV (As := [.int 5, .int 3]) (rest := []) ⟨hx, hb, hml, hown, hG⟩ (kX5_readFormula_v23 l dC dI r ct i_tapeLength i_time i_lyingCount m63_i_rd_fault x70 x71 i_sc_count i_sc_at i_A_tunes i_A_houses i_fA_length i_B_tunes i_B_houses m63_i_fB_length i_acts_done i_acts_undone i_kn_count f_boxes f_boxKept f_trial f_offers f_A_noteCounts f_A_notes f_B_noteCounts f_B_notes f_now_where f_now_worn f_ahead_where f_ahead_worn f_acts_rows f_kn_tunes f_kn_noteTimes m63_J L H68.size hI72) (cwV 2 hG (goodV gw660 gw662 gw17 gw130 gw663) rfl rfl rfl hd_X5_readFormula ⟨(Nat.le_of_ble_eq_true rfl), (Nat.le_of_ble_eq_true rfl)⟩) ⟨fbW, va_recv hK hP (ci := 4) (q0 := 1) rfl rfl, pW_in hP hK hD⟩ rfl rfl hl.1 rfl (lv_room (Nat.le_of_ble_eq_true rfl)) dX5_readFormula_102 ⟨(Nat.le_of_ble_eq_true rfl), (Nat.le_of_ble_eq_true rfl)⟩) hS (fun q _ h => hFc q h) hFc (fun _ t_ H113 locs ht hvm hw hB hz1 hk1 hS => ?_)
              obtain ⟨x115, x116, x117, x118, J119, hP1, hD1, hI120⟩ := hB
              rw [ht] at hP1
              have hP := hP1
              have hD := dW hFc hD1
              obtain ⟨im121, im122, im123, im124, im125, im126, im127, im128, im129, im130, im131, im132, im133, im134, im135, im136, im137, im138, im139, im140, im141, im142, im143, im144, im145, im146, im147, im148, im149, im150, im151, im152, im153, im154, im155, im156, im157, im158, im159, im160⟩ := id hI120
              refine lv_aload_n hx hb dX5_readFormula_105 rfl (lv_at hl 1 rfl) ?_
              refine gX_X5_25_1 hx hb hG hown hK hP dX5_readFormula_106 ?_
              refine gX_X5_104_5 hx hb hG hown hK hP dX5_readFormula_109 ?_
              refine lv_iload hx hb dX5_readFormula_112 (lv_at hl 0 rfl) ?_
              have hFc := frA hD hS hA
              refine va_callv (va_runV (As := [.int m63_i_rd_kind]) (rest := []) ⟨hx, hb, hml, hown, hG⟩ (kX1_addOperator l dC dI r ct i_tapeLength i_time i_lyingCount x115 x116 x117 i_sc_count i_sc_at i_A_tunes i_A_houses i_fA_length i_B_tunes i_B_houses x118 i_acts_done i_acts_undone i_kn_count f_boxes f_boxKept f_trial f_offers f_A_noteCounts f_A_notes f_B_noteCounts f_B_notes f_now_where f_now_worn f_ahead_where f_ahead_worn f_acts_rows f_kn_tunes f_kn_noteTimes J119 L m63_i_rd_kind H113.size hI120) (cwV 1 hG (goodV gw677 gw231 gw232 gw133 gw233) rfl rfl rfl hd_X1_addOperator ⟨(Nat.le_of_ble_eq_true rfl), (Nat.le_of_ble_eq_true rfl)⟩) ⟨fbW, va_recv hK hP (ci := 1) (q0 := 6) rfl rfl, pW_in hP hK hD⟩ rfl rfl hl.1 rfl (lv_room (Nat.le_of_ble_eq_true rfl)) dX5_readFormula_114 ⟨(Nat.le_of_ble_eq_true rfl), (Nat.le_of_ble_eq_true rfl)⟩) hS (fun q _ h => hFc q h) hFc (fun _ t_ H161 locs ht hvm hw hB hz1 hk1 hS => ?_)
              obtain ⟨x163, J164, hP1, hD1, hI165⟩ := hB
              rw [ht] at hP1
              have hP := hP1
              have hD := dW hFc hD1
              obtain ⟨im166, im167, im168, im169, im170, im171, im172, im173, im174, im175, im176, im177, im178, im179, im180, im181, im182, im183, im184, im185, im186, im187, im188, im189, im190, im191, im192, im193, im194, im195, im196, im197, im198, im199, im200, im201, im202, im203, im204, im205⟩ := id hI165
              obtain ⟨x206, ex206⟩ : ∃ y : Int32, y = y63_4 + Int32.ofInt 1 := ⟨_, rfl⟩
              have f207 : x206.toInt = y63_4.toInt + 1 := (ox_13 (qi_add ex206 rfl (by decide) (ox_11 g63_0) (ox_12 g63_1)))
              refine lv_iinc (v := x206) (lv' := [(4, .int x206), (5, .int m63_i_rd_kind), (0, .ref (r 1)), (1, .int 4), (2, .int 3), (3, .int 1600)]) hx hb dX5_readFormula_117 hl (k := 5) rfl ex206.symm (by decide) rfl (fun ls hl => ?_)
              refine lv_goto (tgt := 63) hx hb dX5_readFormula_120 (by decide) ?_
              exact ih63 x206 x115 x116 x117 x163 J164 H161 _ _ (ox_14 g63_0 f207) (ox_15 f56 f207) (ox_18 im127 im128) (ox_19 im127 im128) (ox_973 im188 im189) (ox_974 im188 im189) im127 im128 im188 im189 hP hD hS (lv_sub hl [2, 3, 4, 5, 0] rfl) (ox_810 hM63 f207)
    exact L63 (-1 * (0 : Int32).toInt + 1600 + 1).toNat 0 x7 x8 x9 x10 J11 H5 _ _ (ox_27 zc_0) (ox_811 zc_0) (ox_18 im19 im20) (ox_19 im19 im20) (ox_973 im35 im36) (ox_974 im35 im36) im19 im20 im35 im36 hP hD hS (lv_sub hl [2, 3, 4, 1, 0] rfl) (mlt (ox_812 zc_0))
  · skip
    have f208 : i_rd_fault.toInt ≠ 0 := qi_ne c_1 rfl zc_0
    rw [hQ]
    exact W.vret hx hb hr (fun t ht hW => ⟨⟨(), rfl, trivial, ⟨i_rd_fault, i_rd_token, i_rd_kind, i_fB_length, J, by rw [ht]; exact hP, hD, hI⟩⟩, hS.F ht⟩) hS.2.2 dX5_readFormula_7
set_option maxHeartbeats 4000000 in
set_option maxRecDepth 100000 in
theorem kX5_readFormula_v21 (l : Launch) (dC : Nat → ClassId) (dI : Nat → Nat → Nat) (r : Nat → Nat) (ct : Nat → ClassId) (i_tapeLength i_time i_lyingCount i_rd_fault i_rd_token i_rd_kind i_sc_count i_sc_at i_A_tunes i_A_houses i_fA_length i_B_tunes i_B_houses i_fB_length i_acts_done i_acts_undone i_kn_count : Int32) (f_boxes f_boxKept f_trial f_offers f_A_noteCounts f_A_notes f_B_noteCounts f_B_notes f_now_where f_now_worn f_ahead_where f_ahead_worn f_acts_rows f_kn_tunes f_kn_noteTimes : Nat → Int32) (J : Nat → Nat → Int32) (L : Nat → Nat → Int64) (sz : Nat) (hI : (IX i_tapeLength i_time i_lyingCount i_rd_token i_sc_count i_sc_at i_A_tunes i_A_houses i_fA_length i_B_tunes i_B_houses i_fB_length i_acts_done i_acts_undone i_kn_count f_boxes f_A_noteCounts f_A_notes f_B_noteCounts f_B_notes f_now_worn f_ahead_worn f_acts_rows f_kn_tunes)) : Met l yX5_readFormula (.code yX5_readFormula cX5_readFormula 6 none :: GW) { frames := 68, cells := 0, slots := 0, locals := 2227 } (va_Pc [.ref (r 1), .int 3, .int 3] (pW (dC, dI) (WX r ct i_tapeLength i_time i_lyingCount i_rd_fault i_rd_token i_rd_kind i_sc_count i_sc_at i_A_tunes i_A_houses i_fA_length i_B_tunes i_B_houses i_fB_length i_acts_done i_acts_undone i_kn_count f_boxes f_boxKept f_trial f_offers f_A_noteCounts f_A_notes f_B_noteCounts f_B_notes f_now_where f_now_worn f_ahead_where f_ahead_worn f_acts_rows f_kn_tunes f_kn_noteTimes J L) (TX ct) sz)) (va_Qv (fun _ : Unit => True) (fun (_ : Unit) (t : State) => ∃ (n_i_rd_fault n_i_rd_token n_i_rd_kind n_i_fB_length : Int32) (n_J : Nat → Nat → Int32), va_P (dC, dI) vwCl (WX r ct i_tapeLength i_time i_lyingCount n_i_rd_fault n_i_rd_token n_i_rd_kind i_sc_count i_sc_at i_A_tunes i_A_houses i_fA_length i_B_tunes i_B_houses n_i_fB_length i_acts_done i_acts_undone i_kn_count f_boxes f_boxKept f_trial f_offers f_A_noteCounts f_A_notes f_B_noteCounts f_B_notes f_now_where f_now_worn f_ahead_where f_ahead_worn f_acts_rows f_kn_tunes f_kn_noteTimes n_J L) t.heap ∧ va_D (va_A (WX r ct i_tapeLength i_time i_lyingCount i_rd_fault i_rd_token i_rd_kind i_sc_count i_sc_at i_A_tunes i_A_houses i_fA_length i_B_tunes i_B_houses i_fB_length i_acts_done i_acts_undone i_kn_count f_boxes f_boxKept f_trial f_offers f_A_noteCounts f_A_notes f_B_noteCounts f_B_notes f_now_where f_now_worn f_ahead_where f_ahead_worn f_acts_rows f_kn_tunes f_kn_noteTimes J L) sz) (WX r ct i_tapeLength i_time i_lyingCount n_i_rd_fault n_i_rd_token n_i_rd_kind i_sc_count i_sc_at i_A_tunes i_A_houses i_fA_length i_B_tunes i_B_houses n_i_fB_length i_acts_done i_acts_undone i_kn_count f_boxes f_boxKept f_trial f_offers f_A_noteCounts f_A_notes f_B_noteCounts f_B_notes f_now_where f_now_worn f_ahead_where f_ahead_worn f_acts_rows f_kn_tunes f_kn_noteTimes n_J L) ∧ (IX i_tapeLength i_time i_lyingCount n_i_rd_token i_sc_count i_sc_at i_A_tunes i_A_houses i_fA_length i_B_tunes i_B_houses n_i_fB_length i_acts_done i_acts_undone i_kn_count f_boxes f_A_noteCounts f_A_notes f_B_noteCounts f_B_notes f_now_worn f_ahead_worn f_acts_rows f_kn_tunes)) (va_A (WX r ct i_tapeLength i_time i_lyingCount i_rd_fault i_rd_token i_rd_kind i_sc_count i_sc_at i_A_tunes i_A_houses i_fA_length i_B_tunes i_B_houses i_fB_length i_acts_done i_acts_undone i_kn_count f_boxes f_boxKept f_trial f_offers f_A_noteCounts f_A_notes f_B_noteCounts f_B_notes f_now_where f_now_worn f_ahead_where f_ahead_worn f_acts_rows f_kn_tunes f_kn_noteTimes J L) sz)) 0 0 (va_A (WX r ct i_tapeLength i_time i_lyingCount i_rd_fault i_rd_token i_rd_kind i_sc_count i_sc_at i_A_tunes i_A_houses i_fA_length i_B_tunes i_B_houses i_fB_length i_acts_done i_acts_undone i_kn_count f_boxes f_boxKept f_trial f_offers f_A_noteCounts f_A_notes f_B_noteCounts f_B_notes f_now_where f_now_worn f_ahead_where f_ahead_worn f_acts_rows f_kn_tunes f_kn_noteTimes J L) sz) := by
  refine Met.ofW (cc := cX5_readFormula) (maxL := 6) (ret := none) (by decide) rfl ?_
  intro p e s m args below meth c0 s₁ B hml hv
  obtain ⟨rfl, hsz, hP, hK, hD0⟩ := hv
  have hx := B.exec
  have hb := B.bytes
  have hr := B.returns
  have hts := atoms_spec (ws := .code yX5_readFormula cX5_readFormula 6 none :: GW) B.pre
  have hG : ∀ w ∈ GW, w.before _ s = true := fun w h => hts w (List.mem_cons_of_mem _ h)
  have hown : s.vm.findClass RX5 = some m.cls := findClass_of_methodNamed B.named
  subst hsz
  have hD := hD0.self (sz := s.heap.size)
  generalize hAe : va_A (WX r ct i_tapeLength i_time i_lyingCount i_rd_fault i_rd_token i_rd_kind i_sc_count i_sc_at i_A_tunes i_A_houses i_fA_length i_B_tunes i_B_houses i_fB_length i_acts_done i_acts_undone i_kn_count f_boxes f_boxKept f_trial f_offers f_A_noteCounts f_A_notes f_B_noteCounts f_B_notes f_now_where f_now_worn f_ahead_where f_ahead_worn f_acts_rows f_kn_tunes f_kn_noteTimes J L) s.heap.size = A at hD ⊢
  have hA : ∀ q : Nat, s.heap.size ≤ q → A q := fun q h => by rw [← hAe]; exact Or.inr h
  have hS : va_S A s.heap s.heap [] := va_S.rf
  have hP : va_P (dC, dI) vwCl (WX r ct i_tapeLength i_time i_lyingCount i_rd_fault i_rd_token i_rd_kind i_sc_count i_sc_at i_A_tunes i_A_houses i_fA_length i_B_tunes i_B_houses i_fB_length i_acts_done i_acts_undone i_kn_count f_boxes f_boxKept f_trial f_offers f_A_noteCounts f_A_notes f_B_noteCounts f_B_notes f_now_where f_now_worn f_ahead_where f_ahead_worn f_acts_rows f_kn_tunes f_kn_noteTimes J L) s.heap := hP
  have hl := lv_entry ([.ref (r 1), .int 3, .int 3]) (n := 6) (Nat.le_of_ble_eq_true rfl)
  rw [lg_entry_eq]
  generalize (lg_sl ([.ref (r 1), .int 3, .int 3]) ++ List.replicate (6 - (lg_sl ([.ref (r 1), .int 3, .int 3])).length) Slot.unset).toArray = ls at hl ⊢
  have hl : lv_has ls 6 [(0, .ref (r 1)), (1, .int 3), (2, .int 3)] := hl
  refine nameQ (fun Q hQ => ?_)
  obtain ⟨ie0, ie1, ie2, ie3, ie4, ie5, ie6, ie7, ie8, ie9, ie10, ie11, ie12, ie13, ie14, ie15, ie16, ie17, ie18, ie19, ie20, ie21, ie22, ie23, ie24, ie25, ie26, ie27, ie28, ie29, ie30, ie31, ie32, ie33, ie34, ie35, ie36, ie37, ie38, ie39⟩ := id hI
  refine lv_aload_n hx hb dX5_readFormula_0 rfl (lv_at hl 0 rfl) ?_
  refine gX_X5_43_1 hx hb hG hown hK hP dX5_readFormula_1 ?_
  refine lv_if_eq (tgt := 8) hx hb dX5_readFormula_4 (by decide) (fun c_1 => ?_) (fun c_1 => ?_)
  · skip
    have f2 : i_rd_fault.toInt = 0 := qi_eq c_1 rfl zc_0
    refine lv_iload_n hx hb dX5_readFormula_8 rfl (lv_at hl 1 rfl) ?_
    refine lv_iconst (v := 5) hx hb dX5_readFormula_9 (by decide) ?_
    refine lv_icmp_lt (tgt := 19) hx hb dX5_readFormula_10 (by decide) (fun c_3 => ?_) (fun c_3 => absurd (by decide) c_3)
    refine lv_iload_n hx hb dX5_readFormula_19 rfl (lv_at hl 1 rfl) ?_
    refine lv_iconst (v := 2) hx hb dX5_readFormula_20 (by decide) ?_
    refine lv_icmp_ne (tgt := 39) hx hb dX5_readFormula_21 (by decide) (fun c_4 => ?_) (fun c_4 => absurd c_4 (by decide))
    refine lv_aload_n hx hb dX5_readFormula_39 rfl (lv_at hl 0 rfl) ?_
    refine lv_iload_n hx hb dX5_readFormula_40 rfl (lv_at hl 1 rfl) ?_
    refine lv_iconst (v := 1) hx hb dX5_readFormula_41 (by decide) ?_
    refine lv_iadd hx hb dX5_readFormula_42 ?_
    refine wt_c (v := 4) (by decide) ?_
    refine lv_iload_n hx hb dX5_readFormula_43 rfl (lv_at hl 2 rfl) ?_
    have hFc := frA hD hS hA
    refine va_callv (va_runV (As := [.int 4, .int 3]) (rest := []) ⟨hx, hb, hml, hown, hG⟩ (kX5_readFormula_v22 l dC dI r ct i_tapeLength i_time i_lyingCount i_rd_fault i_rd_token i_rd_kind i_sc_count i_sc_at i_A_tunes i_A_houses i_fA_length i_B_tunes i_B_houses i_fB_length i_acts_done i_acts_undone i_kn_count f_boxes f_boxKept f_trial f_offers f_A_noteCounts f_A_notes f_B_noteCounts f_B_notes f_now_where f_now_worn f_ahead_where f_ahead_worn f_acts_rows f_kn_tunes f_kn_noteTimes J L s.heap.size hI) (cwV 2 hG (goodV gw660 gw662 gw17 gw130 gw663) rfl rfl rfl hd_X5_readFormula ⟨(Nat.le_of_ble_eq_true rfl), (Nat.le_of_ble_eq_true rfl)⟩) ⟨fbW, va_recv hK hP (ci := 4) (q0 := 1) rfl rfl, pW_in hP hK hD⟩ rfl rfl hl.1 rfl (lv_room (Nat.le_of_ble_eq_true rfl)) dX5_readFormula_44 ⟨(Nat.le_of_ble_eq_true rfl), (Nat.le_of_ble_eq_true rfl)⟩) hS (fun q _ h => hFc q h) hFc (fun _ t_ H5 locs ht hvm hw hB hz1 hk1 hS => ?_)
    obtain ⟨x7, x8, x9, x10, J11, hP1, hD1, hI12⟩ := hB
    rw [ht] at hP1
    have hP := hP1
    have hD := dW hFc hD1
    obtain ⟨im13, im14, im15, im16, im17, im18, im19, im20, im21, im22, im23, im24, im25, im26, im27, im28, im29, im30, im31, im32, im33, im34, im35, im36, im37, im38, im39, im40, im41, im42, im43, im44, im45, im46, im47, im48, im49, im50, im51, im52⟩ := id hI12
    refine lv_iload_n hx hb dX5_readFormula_47 rfl (lv_at hl 1 rfl) ?_
    refine lv_iconst (v := 2) hx hb dX5_readFormula_48 (by decide) ?_
    refine lv_icmp_ne (tgt := 56) hx hb dX5_readFormula_49 (by decide) (fun c_53 => ?_) (fun c_53 => absurd c_53 (by decide))
    refine lv_sipush (v := 1600) hx hb dX5_readFormula_56 (by decide) ?_
    refine lv_istore_n (lv' := [(3, .int 1600), (0, .ref (r 1)), (1, .int 3), (2, .int 3)]) hx hb dX5_readFormula_59 rfl hl (by decide) rfl (fun ls hl => ?_)
    refine lv_iconst (v := 0) hx hb dX5_readFormula_60 (by decide) ?_
    refine lv_istore (lv' := [(4, .int 0), (3, .int 1600), (0, .ref (r 1)), (1, .int 3), (2, .int 3)]) hx hb dX5_readFormula_61 hl (by decide) rfl (fun ls hl => ?_)
    have L63 : ∀ (N63 : Nat) (y63_4 : Int32) (m63_i_rd_fault m63_i_rd_token m63_i_rd_kind m63_i_fB_length : Int32) (m63_J : Nat → Nat → Int32) (H63 : Heap) (locs : List Loc) (ls : Array Slot) (g63_0 : (0 : Int) ≤ y63_4.toInt) (g63_1 : y63_4.toInt ≤ (1600 : Int)) (g63_2 : (0 : Int) ≤ m63_i_rd_token.toInt) (g63_3 : m63_i_rd_token.toInt ≤ (1600 : Int)) (g63_4 : (0 : Int) ≤ m63_i_fB_length.toInt) (g63_5 : m63_i_fB_length.toInt ≤ (300 : Int)) (gi63_i_rd_token_lo : (0 : Int) ≤ m63_i_rd_token.toInt) (gi63_i_rd_token_hi : m63_i_rd_token.toInt ≤ (1600 : Int)) (gi63_i_fB_length_lo : (0 : Int) ≤ m63_i_fB_length.toInt) (gi63_i_fB_length_hi : m63_i_fB_length.toInt ≤ (300 : Int)) (hP : va_P (dC, dI) vwCl (WX r ct i_tapeLength i_time i_lyingCount m63_i_rd_fault m63_i_rd_token m63_i_rd_kind i_sc_count i_sc_at i_A_tunes i_A_houses i_fA_length i_B_tunes i_B_houses m63_i_fB_length i_acts_done i_acts_undone i_kn_count f_boxes f_boxKept f_trial f_offers f_A_noteCounts f_A_notes f_B_noteCounts f_B_notes f_now_where f_now_worn f_ahead_where f_ahead_worn f_acts_rows f_kn_tunes f_kn_noteTimes m63_J L) H63) (hD : va_D A (WX r ct i_tapeLength i_time i_lyingCount m63_i_rd_fault m63_i_rd_token m63_i_rd_kind i_sc_count i_sc_at i_A_tunes i_A_houses i_fA_length i_B_tunes i_B_houses m63_i_fB_length i_acts_done i_acts_undone i_kn_count f_boxes f_boxKept f_trial f_offers f_A_noteCounts f_A_notes f_B_noteCounts f_B_notes f_now_where f_now_worn f_ahead_where f_ahead_worn f_acts_rows f_kn_tunes f_kn_noteTimes m63_J L)) (hS : va_S A s.heap H63 locs) (hl : lv_has ls 6 [(0, .ref (r 1)), (1, .int 3), (2, .int 3), (3, .int 1600), (4, .int y63_4)]) (hM : -1 * y63_4.toInt + 1600 < (N63 : Int)), W p l e { frames := 68, cells := 0, slots := 0, locals := 2227 } s m ([.ref (r 1), .int 3, .int 3] : List Value).toArray below meth c0 H63 locs 0 0 Q (F0 m 63 ls []) := by
      intro N63
      induction N63 with
      | zero =>
        intro y63_4 m63_i_rd_fault m63_i_rd_token m63_i_rd_kind m63_i_fB_length m63_J H63 locs ls g63_0 g63_1 g63_2 g63_3 g63_4 g63_5 gi63_i_rd_token_lo gi63_i_rd_token_hi gi63_i_fB_length_lo gi63_i_fB_length_hi hP hD hS hl hM
        exact ((ox_794 hM g63_0 g63_1)).elim
      | succ N63 ih63 =>
        intro y63_4 m63_i_rd_fault m63_i_rd_token m63_i_rd_kind m63_i_fB_length m63_J H63 locs ls g63_0 g63_1 g63_2 g63_3 g63_4 g63_5 gi63_i_rd_token_lo gi63_i_rd_token_hi gi63_i_fB_length_lo gi63_i_fB_length_hi hP hD hS hl hM
        have hM63 := msucc hM
        refine lv_iload hx hb dX5_readFormula_63 (lv_at hl 4 rfl) ?_
        refine lv_iload_n hx hb dX5_readFormula_65 rfl (lv_at hl 3 rfl) ?_
        refine lv_icmp_ge (tgt := 123) hx hb dX5_readFormula_66 (by decide) (fun c_54 => ?_) (fun c_54 => ?_)
        · skip
          have f55 : 1600 ≤ y63_4.toInt := qi_le c_54 zc_1600 rfl
          rw [hQ]
          exact W.vret hx hb hr (fun t ht hW => ⟨⟨(), rfl, trivial, ⟨m63_i_rd_fault, m63_i_rd_token, m63_i_rd_kind, m63_i_fB_length, m63_J, by rw [ht]; exact hP, hD, ⟨ie0, ie1, ie2, ie3, ie4, ie5, gi63_i_rd_token_lo, gi63_i_rd_token_hi, ie8, ie9, ie10, ie11, ie12, ie13, ie14, ie15, ie16, ie17, ie18, ie19, ie20, ie21, gi63_i_fB_length_lo, gi63_i_fB_length_hi, ie24, ie25, ie26, ie27, ie28, ie29, ie30, ie31, ie32, ie33, ie34, ie35, ie36, ie37, ie38, ie39⟩⟩⟩, hS.F ht⟩) hS.2.2 dX5_readFormula_123
        · skip
          have f56 : y63_4.toInt < 1600 := qi_nle c_54 zc_1600 rfl
          refine lv_aload_n hx hb dX5_readFormula_69 rfl (lv_at hl 0 rfl) ?_
          refine gX_X5_43_1 hx hb hG hown hK hP dX5_readFormula_70 ?_
          refine lv_if_ne (tgt := 123) hx hb dX5_readFormula_73 (by decide) (fun c_57 => ?_) (fun c_57 => ?_)
          · skip
            have f58 : m63_i_rd_fault.toInt ≠ 0 := qi_ne c_57 rfl zc_0
            rw [hQ]
            exact W.vret hx hb hr (fun t ht hW => ⟨⟨(), rfl, trivial, ⟨m63_i_rd_fault, m63_i_rd_token, m63_i_rd_kind, m63_i_fB_length, m63_J, by rw [ht]; exact hP, hD, ⟨ie0, ie1, ie2, ie3, ie4, ie5, gi63_i_rd_token_lo, gi63_i_rd_token_hi, ie8, ie9, ie10, ie11, ie12, ie13, ie14, ie15, ie16, ie17, ie18, ie19, ie20, ie21, gi63_i_fB_length_lo, gi63_i_fB_length_hi, ie24, ie25, ie26, ie27, ie28, ie29, ie30, ie31, ie32, ie33, ie34, ie35, ie36, ie37, ie38, ie39⟩⟩⟩, hS.F ht⟩) hS.2.2 dX5_readFormula_123
          · skip
            have f59 : m63_i_rd_fault.toInt = 0 := qi_eq c_57 rfl zc_0
            refine lv_aload_n hx hb dX5_readFormula_76 rfl (lv_at hl 0 rfl) ?_
            refine gX_X5_66_1 hx hb hG hown hK hP dX5_readFormula_77 ?_
            refine va_calli (va_runS (As := [.int m63_i_rd_kind]) (rest := []) ⟨hx, hb, hml, hown, hG⟩ (kX2_levelOf l dC dI m63_i_rd_kind H63.size) (va_cwS 1 hG (goodS gw678 gw613 gw144 gw614) rfl rfl rfl hd_X2_levelOf ⟨(Nat.le_of_ble_eq_true rfl), (Nat.le_of_ble_eq_true rfl)⟩) ⟨fbR, pR_in emptyP (emptyK hK)⟩ rfl rfl hl.1 rfl (lv_room (Nat.le_of_ble_eq_true rfl)) dX5_readFormula_80 ⟨(Nat.le_of_ble_eq_true rfl), (Nat.le_of_ble_eq_true rfl)⟩) hS (fun q hq h => absurd hq (Nat.not_lt.mpr h)) (fun q h => hA q (Nat.le_trans hS.1 h)) (fun r_61 u_ t_ H60 locs ht hvm hw hB hz1 hk1 hS => ?_)
            subst hw
            have hP := wk hP hk1
            obtain ⟨f62, f63⟩ := hB
            refine lv_iload_n hx hb dX5_readFormula_83 rfl (lv_at hl 1 rfl) ?_
            refine lv_icmp_ne (tgt := 123) hx hb dX5_readFormula_84 (by decide) (fun c_64 => ?_) (fun c_64 => ?_)
            · skip
              have f65 : r_61.toInt ≠ 3 := qi_ne c_64 rfl zc_3
              rw [hQ]
              exact W.vret hx hb hr (fun t ht hW => ⟨⟨(), rfl, trivial, ⟨m63_i_rd_fault, m63_i_rd_token, m63_i_rd_kind, m63_i_fB_length, m63_J, by rw [ht]; exact hP, hD, ⟨ie0, ie1, ie2, ie3, ie4, ie5, gi63_i_rd_token_lo, gi63_i_rd_token_hi, ie8, ie9, ie10, ie11, ie12, ie13, ie14, ie15, ie16, ie17, ie18, ie19, ie20, ie21, gi63_i_fB_length_lo, gi63_i_fB_length_hi, ie24, ie25, ie26, ie27, ie28, ie29, ie30, ie31, ie32, ie33, ie34, ie35, ie36, ie37, ie38, ie39⟩⟩⟩, hS.F ht⟩) hS.2.2 dX5_readFormula_123
            · skip
              have f66 : r_61.toInt = 3 := qi_eq c_64 rfl zc_3
              refine lv_aload_n hx hb dX5_readFormula_87 rfl (lv_at hl 0 rfl) ?_
              refine gX_X5_66_1 hx hb hG hown hK hP dX5_readFormula_88 ?_
              refine lv_istore (lv' := [(5, .int m63_i_rd_kind), (0, .ref (r 1)), (1, .int 3), (2, .int 3), (3, .int 1600), (4, .int y63_4)]) hx hb dX5_readFormula_91 hl (by decide) rfl (fun ls hl => ?_)
              refine lv_aload_n hx hb dX5_readFormula_93 rfl (lv_at hl 1 rfl) ?_
              have hFc := frA hD hS hA
              refine va_callv (va_runV (As := []) (rest := []) ⟨hx, hb, hml, hown, hG⟩ (kX5_advance l dC dI r ct i_tapeLength i_time i_lyingCount m63_i_rd_fault m63_i_rd_token m63_i_rd_kind i_sc_count i_sc_at i_A_tunes i_A_houses i_fA_length i_B_tunes i_B_houses m63_i_fB_length i_acts_done i_acts_undone i_kn_count f_boxes f_boxKept f_trial f_offers f_A_noteCounts f_A_notes f_B_noteCounts f_B_notes f_now_where f_now_worn f_ahead_where f_ahead_worn f_acts_rows f_kn_tunes f_kn_noteTimes m63_J L H60.size ⟨ie0, ie1, ie2, ie3, ie4, ie5, gi63_i_rd_token_lo, gi63_i_rd_token_hi, ie8, ie9, ie10, ie11, ie12, ie13, ie14, ie15, ie16, ie17, ie18, ie19, ie20, ie21, gi63_i_fB_length_lo, gi63_i_fB_length_hi, ie24, ie25, ie26, ie27, ie28, ie29, ie30, ie31, ie32, ie33, ie34, ie35, ie36, ie37, ie38, ie39⟩) (cwV 0 hG (goodV gw635 gw637 gw11 gw130 gw638) rfl rfl rfl hd_X5_advance ⟨(Nat.le_of_ble_eq_true rfl), (Nat.le_of_ble_eq_true rfl)⟩) ⟨fbW, va_recv hK hP (ci := 4) (q0 := 1) rfl rfl, pW_in hP hK hD⟩ rfl rfl hl.1 rfl (lv_room (Nat.le_of_ble_eq_true rfl)) dX5_readFormula_94 ⟨(Nat.le_of_ble_eq_true rfl), (Nat.le_of_ble_eq_true rfl)⟩) hS (fun q _ h => hFc q h) hFc (fun _ t_ H67 locs ht hvm hw hB hz1 hk1 hS => ?_)
              obtain ⟨x69, x70, hP1, hD1, hI71⟩ := hB
              rw [ht] at hP1
              have hP := hP1
              have hD := dW hFc hD1
              obtain ⟨im72, im73, im74, im75, im76, im77, im78, im79, im80, im81, im82, im83, im84, im85, im86, im87, im88, im89, im90, im91, im92, im93, im94, im95, im96, im97, im98, im99, im100, im101, im102, im103, im104, im105, im106, im107, im108, im109, im110, im111⟩ := id hI71
              refine lv_aload_n hx hb dX5_readFormula_97 rfl (lv_at hl 1 rfl) ?_
              refine lv_iload_n hx hb dX5_readFormula_98 rfl (lv_at hl 2 rfl) ?_
              refine lv_iconst (v := 1) hx hb dX5_readFormula_99 (by decide) ?_
              refine lv_iadd hx hb dX5_readFormula_100 ?_
              refine wt_c (v := 4) (by decide) ?_
              refine lv_iload_n hx hb dX5_readFormula_101 rfl (lv_at hl 3 rfl) ?_
              have hFc := frA hD hS hA
              refine va_callv (va_runV (As := [.int 4, .int 3]) (rest := []) ⟨hx, hb, hml, hown, hG⟩ (kX5_readFormula_v22 l dC dI r ct i_tapeLength i_time i_lyingCount m63_i_rd_fault x69 x70 i_sc_count i_sc_at i_A_tunes i_A_houses i_fA_length i_B_tunes i_B_houses m63_i_fB_length i_acts_done i_acts_undone i_kn_count f_boxes f_boxKept f_trial f_offers f_A_noteCounts f_A_notes f_B_noteCounts f_B_notes f_now_where f_now_worn f_ahead_where f_ahead_worn f_acts_rows f_kn_tunes f_kn_noteTimes m63_J L H67.size hI71) (cwV 2 hG (goodV gw660 gw662 gw17 gw130 gw663) rfl rfl rfl hd_X5_readFormula ⟨(Nat.le_of_ble_eq_true rfl), (Nat.le_of_ble_eq_true rfl)⟩) ⟨fbW, va_recv hK hP (ci := 4) (q0 := 1) rfl rfl, pW_in hP hK hD⟩ rfl rfl hl.1 rfl (lv_room (Nat.le_of_ble_eq_true rfl)) dX5_readFormula_102 ⟨(Nat.le_of_ble_eq_true rfl), (Nat.le_of_ble_eq_true rfl)⟩) hS (fun q _ h => hFc q h) hFc (fun _ t_ H112 locs ht hvm hw hB hz1 hk1 hS => ?_)
              obtain ⟨x114, x115, x116, x117, J118, hP1, hD1, hI119⟩ := hB
              rw [ht] at hP1
              have hP := hP1
              have hD := dW hFc hD1
              obtain ⟨im120, im121, im122, im123, im124, im125, im126, im127, im128, im129, im130, im131, im132, im133, im134, im135, im136, im137, im138, im139, im140, im141, im142, im143, im144, im145, im146, im147, im148, im149, im150, im151, im152, im153, im154, im155, im156, im157, im158, im159⟩ := id hI119
              refine lv_aload_n hx hb dX5_readFormula_105 rfl (lv_at hl 1 rfl) ?_
              refine gX_X5_25_1 hx hb hG hown hK hP dX5_readFormula_106 ?_
              refine gX_X5_104_5 hx hb hG hown hK hP dX5_readFormula_109 ?_
              refine lv_iload hx hb dX5_readFormula_112 (lv_at hl 0 rfl) ?_
              have hFc := frA hD hS hA
              refine va_callv (va_runV (As := [.int m63_i_rd_kind]) (rest := []) ⟨hx, hb, hml, hown, hG⟩ (kX1_addOperator l dC dI r ct i_tapeLength i_time i_lyingCount x114 x115 x116 i_sc_count i_sc_at i_A_tunes i_A_houses i_fA_length i_B_tunes i_B_houses x117 i_acts_done i_acts_undone i_kn_count f_boxes f_boxKept f_trial f_offers f_A_noteCounts f_A_notes f_B_noteCounts f_B_notes f_now_where f_now_worn f_ahead_where f_ahead_worn f_acts_rows f_kn_tunes f_kn_noteTimes J118 L m63_i_rd_kind H112.size hI119) (cwV 1 hG (goodV gw677 gw231 gw232 gw133 gw233) rfl rfl rfl hd_X1_addOperator ⟨(Nat.le_of_ble_eq_true rfl), (Nat.le_of_ble_eq_true rfl)⟩) ⟨fbW, va_recv hK hP (ci := 1) (q0 := 6) rfl rfl, pW_in hP hK hD⟩ rfl rfl hl.1 rfl (lv_room (Nat.le_of_ble_eq_true rfl)) dX5_readFormula_114 ⟨(Nat.le_of_ble_eq_true rfl), (Nat.le_of_ble_eq_true rfl)⟩) hS (fun q _ h => hFc q h) hFc (fun _ t_ H160 locs ht hvm hw hB hz1 hk1 hS => ?_)
              obtain ⟨x162, J163, hP1, hD1, hI164⟩ := hB
              rw [ht] at hP1
              have hP := hP1
              have hD := dW hFc hD1
              obtain ⟨im165, im166, im167, im168, im169, im170, im171, im172, im173, im174, im175, im176, im177, im178, im179, im180, im181, im182, im183, im184, im185, im186, im187, im188, im189, im190, im191, im192, im193, im194, im195, im196, im197, im198, im199, im200, im201, im202, im203, im204⟩ := id hI164
              obtain ⟨x205, ex205⟩ : ∃ y : Int32, y = y63_4 + Int32.ofInt 1 := ⟨_, rfl⟩
              have f206 : x205.toInt = y63_4.toInt + 1 := (ox_13 (qi_add ex205 rfl (by decide) (ox_11 g63_0) (ox_12 g63_1)))
              refine lv_iinc (v := x205) (lv' := [(4, .int x205), (5, .int m63_i_rd_kind), (0, .ref (r 1)), (1, .int 3), (2, .int 3), (3, .int 1600)]) hx hb dX5_readFormula_117 hl (k := 5) rfl ex205.symm (by decide) rfl (fun ls hl => ?_)
              refine lv_goto (tgt := 63) hx hb dX5_readFormula_120 (by decide) ?_
              exact ih63 x205 x114 x115 x116 x162 J163 H160 _ _ (ox_14 g63_0 f206) (ox_15 f56 f206) (ox_18 im126 im127) (ox_19 im126 im127) (ox_973 im187 im188) (ox_974 im187 im188) im126 im127 im187 im188 hP hD hS (lv_sub hl [2, 3, 4, 5, 0] rfl) (ox_810 hM63 f206)
    exact L63 (-1 * (0 : Int32).toInt + 1600 + 1).toNat 0 x7 x8 x9 x10 J11 H5 _ _ (ox_27 zc_0) (ox_811 zc_0) (ox_18 im19 im20) (ox_19 im19 im20) (ox_973 im35 im36) (ox_974 im35 im36) im19 im20 im35 im36 hP hD hS (lv_sub hl [2, 3, 4, 1, 0] rfl) (mlt (ox_812 zc_0))
  · skip
    have f207 : i_rd_fault.toInt ≠ 0 := qi_ne c_1 rfl zc_0
    rw [hQ]
    exact W.vret hx hb hr (fun t ht hW => ⟨⟨(), rfl, trivial, ⟨i_rd_fault, i_rd_token, i_rd_kind, i_fB_length, J, by rw [ht]; exact hP, hD, hI⟩⟩, hS.F ht⟩) hS.2.2 dX5_readFormula_7
set_option maxHeartbeats 4000000 in
set_option maxRecDepth 100000 in
theorem kX5_readNot_v4 (l : Launch) (dC : Nat → ClassId) (dI : Nat → Nat → Nat) (r : Nat → Nat) (ct : Nat → ClassId) (i_tapeLength i_time i_lyingCount i_rd_fault i_rd_token i_rd_kind i_sc_count i_sc_at i_A_tunes i_A_houses i_fA_length i_B_tunes i_B_houses i_fB_length i_acts_done i_acts_undone i_kn_count : Int32) (f_boxes f_boxKept f_trial f_offers f_A_noteCounts f_A_notes f_B_noteCounts f_B_notes f_now_where f_now_worn f_ahead_where f_ahead_worn f_acts_rows f_kn_tunes f_kn_noteTimes : Nat → Int32) (J : Nat → Nat → Int32) (L : Nat → Nat → Int64) (sz : Nat) (hI : (IX i_tapeLength i_time i_lyingCount i_rd_token i_sc_count i_sc_at i_A_tunes i_A_houses i_fA_length i_B_tunes i_B_houses i_fB_length i_acts_done i_acts_undone i_kn_count f_boxes f_A_noteCounts f_A_notes f_B_noteCounts f_B_notes f_now_worn f_ahead_worn f_acts_rows f_kn_tunes)) : Met l yX5_readNot (.code yX5_readNot cX5_readNot 2 none :: GW) { frames := 58, cells := 0, slots := 0, locals := 1904 } (va_Pc [.ref (r 1), .int 3] (pW (dC, dI) (WX r ct i_tapeLength i_time i_lyingCount i_rd_fault i_rd_token i_rd_kind i_sc_count i_sc_at i_A_tunes i_A_houses i_fA_length i_B_tunes i_B_houses i_fB_length i_acts_done i_acts_undone i_kn_count f_boxes f_boxKept f_trial f_offers f_A_noteCounts f_A_notes f_B_noteCounts f_B_notes f_now_where f_now_worn f_ahead_where f_ahead_worn f_acts_rows f_kn_tunes f_kn_noteTimes J L) (TX ct) sz)) (va_Qv (fun _ : Unit => True) (fun (_ : Unit) (t : State) => ∃ (n_i_rd_fault n_i_rd_token n_i_rd_kind n_i_fB_length : Int32) (n_J : Nat → Nat → Int32), va_P (dC, dI) vwCl (WX r ct i_tapeLength i_time i_lyingCount n_i_rd_fault n_i_rd_token n_i_rd_kind i_sc_count i_sc_at i_A_tunes i_A_houses i_fA_length i_B_tunes i_B_houses n_i_fB_length i_acts_done i_acts_undone i_kn_count f_boxes f_boxKept f_trial f_offers f_A_noteCounts f_A_notes f_B_noteCounts f_B_notes f_now_where f_now_worn f_ahead_where f_ahead_worn f_acts_rows f_kn_tunes f_kn_noteTimes n_J L) t.heap ∧ va_D (va_A (WX r ct i_tapeLength i_time i_lyingCount i_rd_fault i_rd_token i_rd_kind i_sc_count i_sc_at i_A_tunes i_A_houses i_fA_length i_B_tunes i_B_houses i_fB_length i_acts_done i_acts_undone i_kn_count f_boxes f_boxKept f_trial f_offers f_A_noteCounts f_A_notes f_B_noteCounts f_B_notes f_now_where f_now_worn f_ahead_where f_ahead_worn f_acts_rows f_kn_tunes f_kn_noteTimes J L) sz) (WX r ct i_tapeLength i_time i_lyingCount n_i_rd_fault n_i_rd_token n_i_rd_kind i_sc_count i_sc_at i_A_tunes i_A_houses i_fA_length i_B_tunes i_B_houses n_i_fB_length i_acts_done i_acts_undone i_kn_count f_boxes f_boxKept f_trial f_offers f_A_noteCounts f_A_notes f_B_noteCounts f_B_notes f_now_where f_now_worn f_ahead_where f_ahead_worn f_acts_rows f_kn_tunes f_kn_noteTimes n_J L) ∧ (IX i_tapeLength i_time i_lyingCount n_i_rd_token i_sc_count i_sc_at i_A_tunes i_A_houses i_fA_length i_B_tunes i_B_houses n_i_fB_length i_acts_done i_acts_undone i_kn_count f_boxes f_A_noteCounts f_A_notes f_B_noteCounts f_B_notes f_now_worn f_ahead_worn f_acts_rows f_kn_tunes)) (va_A (WX r ct i_tapeLength i_time i_lyingCount i_rd_fault i_rd_token i_rd_kind i_sc_count i_sc_at i_A_tunes i_A_houses i_fA_length i_B_tunes i_B_houses i_fB_length i_acts_done i_acts_undone i_kn_count f_boxes f_boxKept f_trial f_offers f_A_noteCounts f_A_notes f_B_noteCounts f_B_notes f_now_where f_now_worn f_ahead_where f_ahead_worn f_acts_rows f_kn_tunes f_kn_noteTimes J L) sz)) 0 0 (va_A (WX r ct i_tapeLength i_time i_lyingCount i_rd_fault i_rd_token i_rd_kind i_sc_count i_sc_at i_A_tunes i_A_houses i_fA_length i_B_tunes i_B_houses i_fB_length i_acts_done i_acts_undone i_kn_count f_boxes f_boxKept f_trial f_offers f_A_noteCounts f_A_notes f_B_noteCounts f_B_notes f_now_where f_now_worn f_ahead_where f_ahead_worn f_acts_rows f_kn_tunes f_kn_noteTimes J L) sz) := by
  refine Met.ofW (cc := cX5_readNot) (maxL := 2) (ret := none) (by decide) rfl ?_
  intro p e s m args below meth c0 s₁ B hml hv
  obtain ⟨rfl, hsz, hP, hK, hD0⟩ := hv
  have hx := B.exec
  have hb := B.bytes
  have hr := B.returns
  have hts := atoms_spec (ws := .code yX5_readNot cX5_readNot 2 none :: GW) B.pre
  have hG : ∀ w ∈ GW, w.before _ s = true := fun w h => hts w (List.mem_cons_of_mem _ h)
  have hown : s.vm.findClass RX5 = some m.cls := findClass_of_methodNamed B.named
  subst hsz
  have hD := hD0.self (sz := s.heap.size)
  generalize hAe : va_A (WX r ct i_tapeLength i_time i_lyingCount i_rd_fault i_rd_token i_rd_kind i_sc_count i_sc_at i_A_tunes i_A_houses i_fA_length i_B_tunes i_B_houses i_fB_length i_acts_done i_acts_undone i_kn_count f_boxes f_boxKept f_trial f_offers f_A_noteCounts f_A_notes f_B_noteCounts f_B_notes f_now_where f_now_worn f_ahead_where f_ahead_worn f_acts_rows f_kn_tunes f_kn_noteTimes J L) s.heap.size = A at hD ⊢
  have hA : ∀ q : Nat, s.heap.size ≤ q → A q := fun q h => by rw [← hAe]; exact Or.inr h
  have hS : va_S A s.heap s.heap [] := va_S.rf
  have hP : va_P (dC, dI) vwCl (WX r ct i_tapeLength i_time i_lyingCount i_rd_fault i_rd_token i_rd_kind i_sc_count i_sc_at i_A_tunes i_A_houses i_fA_length i_B_tunes i_B_houses i_fB_length i_acts_done i_acts_undone i_kn_count f_boxes f_boxKept f_trial f_offers f_A_noteCounts f_A_notes f_B_noteCounts f_B_notes f_now_where f_now_worn f_ahead_where f_ahead_worn f_acts_rows f_kn_tunes f_kn_noteTimes J L) s.heap := hP
  have hl := lv_entry ([.ref (r 1), .int 3]) (n := 2) (Nat.le_of_ble_eq_true rfl)
  rw [lg_entry_eq]
  generalize (lg_sl ([.ref (r 1), .int 3]) ++ List.replicate (2 - (lg_sl ([.ref (r 1), .int 3])).length) Slot.unset).toArray = ls at hl ⊢
  have hl : lv_has ls 2 [(0, .ref (r 1)), (1, .int 3)] := hl
  refine nameQ (fun Q hQ => ?_)
  obtain ⟨ie0, ie1, ie2, ie3, ie4, ie5, ie6, ie7, ie8, ie9, ie10, ie11, ie12, ie13, ie14, ie15, ie16, ie17, ie18, ie19, ie20, ie21, ie22, ie23, ie24, ie25, ie26, ie27, ie28, ie29, ie30, ie31, ie32, ie33, ie34, ie35, ie36, ie37, ie38, ie39⟩ := id hI
  refine lv_iload_n hx hb dX5_readNot_0 rfl (lv_at hl 1 rfl) ?_
  refine lv_bipush (v := 7) hx hb dX5_readNot_1 (by decide) ?_
  refine lv_icmp_lt (tgt := 11) hx hb dX5_readNot_3 (by decide) (fun c_1 => ?_) (fun c_1 => absurd (by decide) c_1)
  refine lv_aload_n hx hb dX5_readNot_11 rfl (lv_at hl 0 rfl) ?_
  have hFc := frA hD hS hA
  refine va_callv (va_runV (As := []) (rest := []) ⟨hx, hb, hml, hown, hG⟩ (kX5_advance l dC dI r ct i_tapeLength i_time i_lyingCount i_rd_fault i_rd_token i_rd_kind i_sc_count i_sc_at i_A_tunes i_A_houses i_fA_length i_B_tunes i_B_houses i_fB_length i_acts_done i_acts_undone i_kn_count f_boxes f_boxKept f_trial f_offers f_A_noteCounts f_A_notes f_B_noteCounts f_B_notes f_now_where f_now_worn f_ahead_where f_ahead_worn f_acts_rows f_kn_tunes f_kn_noteTimes J L s.heap.size hI) (cwV 0 hG (goodV gw635 gw637 gw11 gw130 gw638) rfl rfl rfl hd_X5_advance ⟨(Nat.le_of_ble_eq_true rfl), (Nat.le_of_ble_eq_true rfl)⟩) ⟨fbW, va_recv hK hP (ci := 4) (q0 := 1) rfl rfl, pW_in hP hK hD⟩ rfl rfl hl.1 rfl (lv_room (Nat.le_of_ble_eq_true rfl)) dX5_readNot_12 ⟨(Nat.le_of_ble_eq_true rfl), (Nat.le_of_ble_eq_true rfl)⟩) hS (fun q _ h => hFc q h) hFc (fun _ t_ H2 locs ht hvm hw hB hz1 hk1 hS => ?_)
  obtain ⟨x4, x5, hP1, hD1, hI6⟩ := hB
  rw [ht] at hP1
  have hP := hP1
  have hD := dW hFc hD1
  obtain ⟨im7, im8, im9, im10, im11, im12, im13, im14, im15, im16, im17, im18, im19, im20, im21, im22, im23, im24, im25, im26, im27, im28, im29, im30, im31, im32, im33, im34, im35, im36, im37, im38, im39, im40, im41, im42, im43, im44, im45, im46⟩ := id hI6
  refine lv_aload_n hx hb dX5_readNot_15 rfl (lv_at hl 0 rfl) ?_
  refine lv_iconst (v := 2) hx hb dX5_readNot_16 (by decide) ?_
  refine lv_iload_n hx hb dX5_readNot_17 rfl (lv_at hl 1 rfl) ?_
  refine lv_iconst (v := 1) hx hb dX5_readNot_18 (by decide) ?_
  refine lv_iadd hx hb dX5_readNot_19 ?_
  refine wt_c (v := 4) (by decide) ?_
  have hFc := frA hD hS hA
  refine va_callv (va_runV (As := [.int 2, .int 4]) (rest := []) ⟨hx, hb, hml, hown, hG⟩ (kX5_readFormula_v26 l dC dI r ct i_tapeLength i_time i_lyingCount i_rd_fault x4 x5 i_sc_count i_sc_at i_A_tunes i_A_houses i_fA_length i_B_tunes i_B_houses i_fB_length i_acts_done i_acts_undone i_kn_count f_boxes f_boxKept f_trial f_offers f_A_noteCounts f_A_notes f_B_noteCounts f_B_notes f_now_where f_now_worn f_ahead_where f_ahead_worn f_acts_rows f_kn_tunes f_kn_noteTimes J L H2.size hI6) (cwV 2 hG (goodV gw660 gw662 gw17 gw130 gw663) rfl rfl rfl hd_X5_readFormula ⟨(Nat.le_of_ble_eq_true rfl), (Nat.le_of_ble_eq_true rfl)⟩) ⟨fbW, va_recv hK hP (ci := 4) (q0 := 1) rfl rfl, pW_in hP hK hD⟩ rfl rfl hl.1 rfl (lv_room (Nat.le_of_ble_eq_true rfl)) dX5_readNot_20 ⟨(Nat.le_of_ble_eq_true rfl), (Nat.le_of_ble_eq_true rfl)⟩) hS (fun q _ h => hFc q h) hFc (fun _ t_ H47 locs ht hvm hw hB hz1 hk1 hS => ?_)
  obtain ⟨x49, x50, x51, x52, J53, hP1, hD1, hI54⟩ := hB
  rw [ht] at hP1
  have hP := hP1
  have hD := dW hFc hD1
  obtain ⟨im55, im56, im57, im58, im59, im60, im61, im62, im63, im64, im65, im66, im67, im68, im69, im70, im71, im72, im73, im74, im75, im76, im77, im78, im79, im80, im81, im82, im83, im84, im85, im86, im87, im88, im89, im90, im91, im92, im93, im94⟩ := id hI54
  refine lv_aload_n hx hb dX5_readNot_23 rfl (lv_at hl 0 rfl) ?_
  refine gX_X5_25_1 hx hb hG hown hK hP dX5_readNot_24 ?_
  refine gX_X5_104_5 hx hb hG hown hK hP dX5_readNot_27 ?_
  refine lv_bipush (v := 111) hx hb dX5_readNot_30 (by decide) ?_
  have hFc := frA hD hS hA
  refine va_callv (va_runV (As := [.int 111]) (rest := []) ⟨hx, hb, hml, hown, hG⟩ (kX1_addOperator l dC dI r ct i_tapeLength i_time i_lyingCount x49 x50 x51 i_sc_count i_sc_at i_A_tunes i_A_houses i_fA_length i_B_tunes i_B_houses x52 i_acts_done i_acts_undone i_kn_count f_boxes f_boxKept f_trial f_offers f_A_noteCounts f_A_notes f_B_noteCounts f_B_notes f_now_where f_now_worn f_ahead_where f_ahead_worn f_acts_rows f_kn_tunes f_kn_noteTimes J53 L 111 H47.size hI54) (cwV 1 hG (goodV gw677 gw231 gw232 gw133 gw233) rfl rfl rfl hd_X1_addOperator ⟨(Nat.le_of_ble_eq_true rfl), (Nat.le_of_ble_eq_true rfl)⟩) ⟨fbW, va_recv hK hP (ci := 1) (q0 := 6) rfl rfl, pW_in hP hK hD⟩ rfl rfl hl.1 rfl (lv_room (Nat.le_of_ble_eq_true rfl)) dX5_readNot_32 ⟨(Nat.le_of_ble_eq_true rfl), (Nat.le_of_ble_eq_true rfl)⟩) hS (fun q _ h => hFc q h) hFc (fun _ t_ H95 locs ht hvm hw hB hz1 hk1 hS => ?_)
  obtain ⟨x97, J98, hP1, hD1, hI99⟩ := hB
  rw [ht] at hP1
  have hP := hP1
  have hD := dW hFc hD1
  obtain ⟨im100, im101, im102, im103, im104, im105, im106, im107, im108, im109, im110, im111, im112, im113, im114, im115, im116, im117, im118, im119, im120, im121, im122, im123, im124, im125, im126, im127, im128, im129, im130, im131, im132, im133, im134, im135, im136, im137, im138, im139⟩ := id hI99
  rw [hQ]
  exact W.vret hx hb hr (fun t ht hW => ⟨⟨(), rfl, trivial, ⟨x49, x50, x51, x97, J98, by rw [ht]; exact hP, hD, hI99⟩⟩, hS.F ht⟩) hS.2.2 dX5_readNot_35
set_option maxHeartbeats 4000000 in
set_option maxRecDepth 100000 in
theorem kX5_readFormula_v20 (l : Launch) (dC : Nat → ClassId) (dI : Nat → Nat → Nat) (r : Nat → Nat) (ct : Nat → ClassId) (i_tapeLength i_time i_lyingCount i_rd_fault i_rd_token i_rd_kind i_sc_count i_sc_at i_A_tunes i_A_houses i_fA_length i_B_tunes i_B_houses i_fB_length i_acts_done i_acts_undone i_kn_count : Int32) (f_boxes f_boxKept f_trial f_offers f_A_noteCounts f_A_notes f_B_noteCounts f_B_notes f_now_where f_now_worn f_ahead_where f_ahead_worn f_acts_rows f_kn_tunes f_kn_noteTimes : Nat → Int32) (J : Nat → Nat → Int32) (L : Nat → Nat → Int64) (sz : Nat) (hI : (IX i_tapeLength i_time i_lyingCount i_rd_token i_sc_count i_sc_at i_A_tunes i_A_houses i_fA_length i_B_tunes i_B_houses i_fB_length i_acts_done i_acts_undone i_kn_count f_boxes f_A_noteCounts f_A_notes f_B_noteCounts f_B_notes f_now_worn f_ahead_worn f_acts_rows f_kn_tunes)) : Met l yX5_readFormula (.code yX5_readFormula cX5_readFormula 6 none :: GW) { frames := 70, cells := 0, slots := 0, locals := 2292 } (va_Pc [.ref (r 1), .int 2, .int 3] (pW (dC, dI) (WX r ct i_tapeLength i_time i_lyingCount i_rd_fault i_rd_token i_rd_kind i_sc_count i_sc_at i_A_tunes i_A_houses i_fA_length i_B_tunes i_B_houses i_fB_length i_acts_done i_acts_undone i_kn_count f_boxes f_boxKept f_trial f_offers f_A_noteCounts f_A_notes f_B_noteCounts f_B_notes f_now_where f_now_worn f_ahead_where f_ahead_worn f_acts_rows f_kn_tunes f_kn_noteTimes J L) (TX ct) sz)) (va_Qv (fun _ : Unit => True) (fun (_ : Unit) (t : State) => ∃ (n_i_rd_fault n_i_rd_token n_i_rd_kind n_i_fB_length : Int32) (n_J : Nat → Nat → Int32), va_P (dC, dI) vwCl (WX r ct i_tapeLength i_time i_lyingCount n_i_rd_fault n_i_rd_token n_i_rd_kind i_sc_count i_sc_at i_A_tunes i_A_houses i_fA_length i_B_tunes i_B_houses n_i_fB_length i_acts_done i_acts_undone i_kn_count f_boxes f_boxKept f_trial f_offers f_A_noteCounts f_A_notes f_B_noteCounts f_B_notes f_now_where f_now_worn f_ahead_where f_ahead_worn f_acts_rows f_kn_tunes f_kn_noteTimes n_J L) t.heap ∧ va_D (va_A (WX r ct i_tapeLength i_time i_lyingCount i_rd_fault i_rd_token i_rd_kind i_sc_count i_sc_at i_A_tunes i_A_houses i_fA_length i_B_tunes i_B_houses i_fB_length i_acts_done i_acts_undone i_kn_count f_boxes f_boxKept f_trial f_offers f_A_noteCounts f_A_notes f_B_noteCounts f_B_notes f_now_where f_now_worn f_ahead_where f_ahead_worn f_acts_rows f_kn_tunes f_kn_noteTimes J L) sz) (WX r ct i_tapeLength i_time i_lyingCount n_i_rd_fault n_i_rd_token n_i_rd_kind i_sc_count i_sc_at i_A_tunes i_A_houses i_fA_length i_B_tunes i_B_houses n_i_fB_length i_acts_done i_acts_undone i_kn_count f_boxes f_boxKept f_trial f_offers f_A_noteCounts f_A_notes f_B_noteCounts f_B_notes f_now_where f_now_worn f_ahead_where f_ahead_worn f_acts_rows f_kn_tunes f_kn_noteTimes n_J L) ∧ (IX i_tapeLength i_time i_lyingCount n_i_rd_token i_sc_count i_sc_at i_A_tunes i_A_houses i_fA_length i_B_tunes i_B_houses n_i_fB_length i_acts_done i_acts_undone i_kn_count f_boxes f_A_noteCounts f_A_notes f_B_noteCounts f_B_notes f_now_worn f_ahead_worn f_acts_rows f_kn_tunes)) (va_A (WX r ct i_tapeLength i_time i_lyingCount i_rd_fault i_rd_token i_rd_kind i_sc_count i_sc_at i_A_tunes i_A_houses i_fA_length i_B_tunes i_B_houses i_fB_length i_acts_done i_acts_undone i_kn_count f_boxes f_boxKept f_trial f_offers f_A_noteCounts f_A_notes f_B_noteCounts f_B_notes f_now_where f_now_worn f_ahead_where f_ahead_worn f_acts_rows f_kn_tunes f_kn_noteTimes J L) sz)) 0 0 (va_A (WX r ct i_tapeLength i_time i_lyingCount i_rd_fault i_rd_token i_rd_kind i_sc_count i_sc_at i_A_tunes i_A_houses i_fA_length i_B_tunes i_B_houses i_fB_length i_acts_done i_acts_undone i_kn_count f_boxes f_boxKept f_trial f_offers f_A_noteCounts f_A_notes f_B_noteCounts f_B_notes f_now_where f_now_worn f_ahead_where f_ahead_worn f_acts_rows f_kn_tunes f_kn_noteTimes J L) sz) := by
  refine Met.ofW (cc := cX5_readFormula) (maxL := 6) (ret := none) (by decide) rfl ?_
  intro p e s m args below meth c0 s₁ B hml hv
  obtain ⟨rfl, hsz, hP, hK, hD0⟩ := hv
  have hx := B.exec
  have hb := B.bytes
  have hr := B.returns
  have hts := atoms_spec (ws := .code yX5_readFormula cX5_readFormula 6 none :: GW) B.pre
  have hG : ∀ w ∈ GW, w.before _ s = true := fun w h => hts w (List.mem_cons_of_mem _ h)
  have hown : s.vm.findClass RX5 = some m.cls := findClass_of_methodNamed B.named
  subst hsz
  have hD := hD0.self (sz := s.heap.size)
  generalize hAe : va_A (WX r ct i_tapeLength i_time i_lyingCount i_rd_fault i_rd_token i_rd_kind i_sc_count i_sc_at i_A_tunes i_A_houses i_fA_length i_B_tunes i_B_houses i_fB_length i_acts_done i_acts_undone i_kn_count f_boxes f_boxKept f_trial f_offers f_A_noteCounts f_A_notes f_B_noteCounts f_B_notes f_now_where f_now_worn f_ahead_where f_ahead_worn f_acts_rows f_kn_tunes f_kn_noteTimes J L) s.heap.size = A at hD ⊢
  have hA : ∀ q : Nat, s.heap.size ≤ q → A q := fun q h => by rw [← hAe]; exact Or.inr h
  have hS : va_S A s.heap s.heap [] := va_S.rf
  have hP : va_P (dC, dI) vwCl (WX r ct i_tapeLength i_time i_lyingCount i_rd_fault i_rd_token i_rd_kind i_sc_count i_sc_at i_A_tunes i_A_houses i_fA_length i_B_tunes i_B_houses i_fB_length i_acts_done i_acts_undone i_kn_count f_boxes f_boxKept f_trial f_offers f_A_noteCounts f_A_notes f_B_noteCounts f_B_notes f_now_where f_now_worn f_ahead_where f_ahead_worn f_acts_rows f_kn_tunes f_kn_noteTimes J L) s.heap := hP
  have hl := lv_entry ([.ref (r 1), .int 2, .int 3]) (n := 6) (Nat.le_of_ble_eq_true rfl)
  rw [lg_entry_eq]
  generalize (lg_sl ([.ref (r 1), .int 2, .int 3]) ++ List.replicate (6 - (lg_sl ([.ref (r 1), .int 2, .int 3])).length) Slot.unset).toArray = ls at hl ⊢
  have hl : lv_has ls 6 [(0, .ref (r 1)), (1, .int 2), (2, .int 3)] := hl
  refine nameQ (fun Q hQ => ?_)
  obtain ⟨ie0, ie1, ie2, ie3, ie4, ie5, ie6, ie7, ie8, ie9, ie10, ie11, ie12, ie13, ie14, ie15, ie16, ie17, ie18, ie19, ie20, ie21, ie22, ie23, ie24, ie25, ie26, ie27, ie28, ie29, ie30, ie31, ie32, ie33, ie34, ie35, ie36, ie37, ie38, ie39⟩ := id hI
  refine lv_aload_n hx hb dX5_readFormula_0 rfl (lv_at hl 0 rfl) ?_
  refine gX_X5_43_1 hx hb hG hown hK hP dX5_readFormula_1 ?_
  refine lv_if_eq (tgt := 8) hx hb dX5_readFormula_4 (by decide) (fun c_1 => ?_) (fun c_1 => ?_)
  · skip
    have f2 : i_rd_fault.toInt = 0 := qi_eq c_1 rfl zc_0
    refine lv_iload_n hx hb dX5_readFormula_8 rfl (lv_at hl 1 rfl) ?_
    refine lv_iconst (v := 5) hx hb dX5_readFormula_9 (by decide) ?_
    refine lv_icmp_lt (tgt := 19) hx hb dX5_readFormula_10 (by decide) (fun c_3 => ?_) (fun c_3 => absurd (by decide) c_3)
    refine lv_iload_n hx hb dX5_readFormula_19 rfl (lv_at hl 1 rfl) ?_
    refine lv_iconst (v := 2) hx hb dX5_readFormula_20 (by decide) ?_
    refine lv_icmp_ne (tgt := 39) hx hb dX5_readFormula_21 (by decide) (fun c_4 => absurd (by decide) c_4) (fun c_4 => ?_)
    refine lv_aload_n hx hb dX5_readFormula_24 rfl (lv_at hl 0 rfl) ?_
    refine gX_X5_66_1 hx hb hG hown hK hP dX5_readFormula_25 ?_
    refine lv_bipush (v := 111) hx hb dX5_readFormula_28 (by decide) ?_
    refine lv_icmp_ne (tgt := 39) hx hb dX5_readFormula_30 (by decide) (fun c_5 => ?_) (fun c_5 => ?_)
    · skip
      have f6 : i_rd_kind.toInt ≠ 111 := qi_ne c_5 rfl zc_111
      refine lv_aload_n hx hb dX5_readFormula_39 rfl (lv_at hl 0 rfl) ?_
      refine lv_iload_n hx hb dX5_readFormula_40 rfl (lv_at hl 1 rfl) ?_
      refine lv_iconst (v := 1) hx hb dX5_readFormula_41 (by decide) ?_
      refine lv_iadd hx hb dX5_readFormula_42 ?_
      refine wt_c (v := 3) (by decide) ?_
      refine lv_iload_n hx hb dX5_readFormula_43 rfl (lv_at hl 2 rfl) ?_
      have hFc := frA hD hS hA
      refine va_callv (va_runV (As := [.int 3, .int 3]) (rest := []) ⟨hx, hb, hml, hown, hG⟩ (kX5_readFormula_v21 l dC dI r ct i_tapeLength i_time i_lyingCount i_rd_fault i_rd_token i_rd_kind i_sc_count i_sc_at i_A_tunes i_A_houses i_fA_length i_B_tunes i_B_houses i_fB_length i_acts_done i_acts_undone i_kn_count f_boxes f_boxKept f_trial f_offers f_A_noteCounts f_A_notes f_B_noteCounts f_B_notes f_now_where f_now_worn f_ahead_where f_ahead_worn f_acts_rows f_kn_tunes f_kn_noteTimes J L s.heap.size hI) (cwV 2 hG (goodV gw660 gw662 gw17 gw130 gw663) rfl rfl rfl hd_X5_readFormula ⟨(Nat.le_of_ble_eq_true rfl), (Nat.le_of_ble_eq_true rfl)⟩) ⟨fbW, va_recv hK hP (ci := 4) (q0 := 1) rfl rfl, pW_in hP hK hD⟩ rfl rfl hl.1 rfl (lv_room (Nat.le_of_ble_eq_true rfl)) dX5_readFormula_44 ⟨(Nat.le_of_ble_eq_true rfl), (Nat.le_of_ble_eq_true rfl)⟩) hS (fun q _ h => hFc q h) hFc (fun _ t_ H7 locs ht hvm hw hB hz1 hk1 hS => ?_)
      obtain ⟨x9, x10, x11, x12, J13, hP1, hD1, hI14⟩ := hB
      rw [ht] at hP1
      have hP := hP1
      have hD := dW hFc hD1
      obtain ⟨im15, im16, im17, im18, im19, im20, im21, im22, im23, im24, im25, im26, im27, im28, im29, im30, im31, im32, im33, im34, im35, im36, im37, im38, im39, im40, im41, im42, im43, im44, im45, im46, im47, im48, im49, im50, im51, im52, im53, im54⟩ := id hI14
      refine lv_iload_n hx hb dX5_readFormula_47 rfl (lv_at hl 1 rfl) ?_
      refine lv_iconst (v := 2) hx hb dX5_readFormula_48 (by decide) ?_
      refine lv_icmp_ne (tgt := 56) hx hb dX5_readFormula_49 (by decide) (fun c_55 => absurd (by decide) c_55) (fun c_55 => ?_)
      refine lv_iconst (v := 1) hx hb dX5_readFormula_52 (by decide) ?_
      refine lv_goto (tgt := 59) hx hb dX5_readFormula_53 (by decide) ?_
      refine lv_istore_n (lv' := [(3, .int 1), (0, .ref (r 1)), (1, .int 2), (2, .int 3)]) hx hb dX5_readFormula_59 rfl hl (by decide) rfl (fun ls hl => ?_)
      refine lv_iconst (v := 0) hx hb dX5_readFormula_60 (by decide) ?_
      refine lv_istore (lv' := [(4, .int 0), (3, .int 1), (0, .ref (r 1)), (1, .int 2), (2, .int 3)]) hx hb dX5_readFormula_61 hl (by decide) rfl (fun ls hl => ?_)
      have L63 : ∀ (N63 : Nat) (y63_4 : Int32) (m63_i_rd_fault m63_i_rd_token m63_i_rd_kind m63_i_fB_length : Int32) (m63_J : Nat → Nat → Int32) (H63 : Heap) (locs : List Loc) (ls : Array Slot) (g63_0 : (0 : Int) ≤ y63_4.toInt) (g63_1 : y63_4.toInt ≤ (1 : Int)) (g63_2 : (0 : Int) ≤ m63_i_rd_token.toInt) (g63_3 : m63_i_rd_token.toInt ≤ (1600 : Int)) (g63_4 : (0 : Int) ≤ m63_i_fB_length.toInt) (g63_5 : m63_i_fB_length.toInt ≤ (300 : Int)) (gi63_i_rd_token_lo : (0 : Int) ≤ m63_i_rd_token.toInt) (gi63_i_rd_token_hi : m63_i_rd_token.toInt ≤ (1600 : Int)) (gi63_i_fB_length_lo : (0 : Int) ≤ m63_i_fB_length.toInt) (gi63_i_fB_length_hi : m63_i_fB_length.toInt ≤ (300 : Int)) (hP : va_P (dC, dI) vwCl (WX r ct i_tapeLength i_time i_lyingCount m63_i_rd_fault m63_i_rd_token m63_i_rd_kind i_sc_count i_sc_at i_A_tunes i_A_houses i_fA_length i_B_tunes i_B_houses m63_i_fB_length i_acts_done i_acts_undone i_kn_count f_boxes f_boxKept f_trial f_offers f_A_noteCounts f_A_notes f_B_noteCounts f_B_notes f_now_where f_now_worn f_ahead_where f_ahead_worn f_acts_rows f_kn_tunes f_kn_noteTimes m63_J L) H63) (hD : va_D A (WX r ct i_tapeLength i_time i_lyingCount m63_i_rd_fault m63_i_rd_token m63_i_rd_kind i_sc_count i_sc_at i_A_tunes i_A_houses i_fA_length i_B_tunes i_B_houses m63_i_fB_length i_acts_done i_acts_undone i_kn_count f_boxes f_boxKept f_trial f_offers f_A_noteCounts f_A_notes f_B_noteCounts f_B_notes f_now_where f_now_worn f_ahead_where f_ahead_worn f_acts_rows f_kn_tunes f_kn_noteTimes m63_J L)) (hS : va_S A s.heap H63 locs) (hl : lv_has ls 6 [(0, .ref (r 1)), (1, .int 2), (2, .int 3), (3, .int 1), (4, .int y63_4)]) (hM : -1 * y63_4.toInt + 1 < (N63 : Int)), W p l e { frames := 70, cells := 0, slots := 0, locals := 2292 } s m ([.ref (r 1), .int 2, .int 3] : List Value).toArray below meth c0 H63 locs 0 0 Q (F0 m 63 ls []) := by
        intro N63
        induction N63 with
        | zero =>
          intro y63_4 m63_i_rd_fault m63_i_rd_token m63_i_rd_kind m63_i_fB_length m63_J H63 locs ls g63_0 g63_1 g63_2 g63_3 g63_4 g63_5 gi63_i_rd_token_lo gi63_i_rd_token_hi gi63_i_fB_length_lo gi63_i_fB_length_hi hP hD hS hl hM
          exact ((ox_975 hM g63_0 g63_1)).elim
        | succ N63 ih63 =>
          intro y63_4 m63_i_rd_fault m63_i_rd_token m63_i_rd_kind m63_i_fB_length m63_J H63 locs ls g63_0 g63_1 g63_2 g63_3 g63_4 g63_5 gi63_i_rd_token_lo gi63_i_rd_token_hi gi63_i_fB_length_lo gi63_i_fB_length_hi hP hD hS hl hM
          have hM63 := msucc hM
          refine lv_iload hx hb dX5_readFormula_63 (lv_at hl 4 rfl) ?_
          refine lv_iload_n hx hb dX5_readFormula_65 rfl (lv_at hl 3 rfl) ?_
          refine lv_icmp_ge (tgt := 123) hx hb dX5_readFormula_66 (by decide) (fun c_56 => ?_) (fun c_56 => ?_)
          · skip
            have f57 : 1 ≤ y63_4.toInt := qi_le c_56 zc_1 rfl
            rw [hQ]
            exact W.vret hx hb hr (fun t ht hW => ⟨⟨(), rfl, trivial, ⟨m63_i_rd_fault, m63_i_rd_token, m63_i_rd_kind, m63_i_fB_length, m63_J, by rw [ht]; exact hP, hD, ⟨ie0, ie1, ie2, ie3, ie4, ie5, gi63_i_rd_token_lo, gi63_i_rd_token_hi, ie8, ie9, ie10, ie11, ie12, ie13, ie14, ie15, ie16, ie17, ie18, ie19, ie20, ie21, gi63_i_fB_length_lo, gi63_i_fB_length_hi, ie24, ie25, ie26, ie27, ie28, ie29, ie30, ie31, ie32, ie33, ie34, ie35, ie36, ie37, ie38, ie39⟩⟩⟩, hS.F ht⟩) hS.2.2 dX5_readFormula_123
          · skip
            have f58 : y63_4.toInt < 1 := qi_nle c_56 zc_1 rfl
            refine lv_aload_n hx hb dX5_readFormula_69 rfl (lv_at hl 0 rfl) ?_
            refine gX_X5_43_1 hx hb hG hown hK hP dX5_readFormula_70 ?_
            refine lv_if_ne (tgt := 123) hx hb dX5_readFormula_73 (by decide) (fun c_59 => ?_) (fun c_59 => ?_)
            · skip
              have f60 : m63_i_rd_fault.toInt ≠ 0 := qi_ne c_59 rfl zc_0
              rw [hQ]
              exact W.vret hx hb hr (fun t ht hW => ⟨⟨(), rfl, trivial, ⟨m63_i_rd_fault, m63_i_rd_token, m63_i_rd_kind, m63_i_fB_length, m63_J, by rw [ht]; exact hP, hD, ⟨ie0, ie1, ie2, ie3, ie4, ie5, gi63_i_rd_token_lo, gi63_i_rd_token_hi, ie8, ie9, ie10, ie11, ie12, ie13, ie14, ie15, ie16, ie17, ie18, ie19, ie20, ie21, gi63_i_fB_length_lo, gi63_i_fB_length_hi, ie24, ie25, ie26, ie27, ie28, ie29, ie30, ie31, ie32, ie33, ie34, ie35, ie36, ie37, ie38, ie39⟩⟩⟩, hS.F ht⟩) hS.2.2 dX5_readFormula_123
            · skip
              have f61 : m63_i_rd_fault.toInt = 0 := qi_eq c_59 rfl zc_0
              refine lv_aload_n hx hb dX5_readFormula_76 rfl (lv_at hl 0 rfl) ?_
              refine gX_X5_66_1 hx hb hG hown hK hP dX5_readFormula_77 ?_
              refine va_calli (va_runS (As := [.int m63_i_rd_kind]) (rest := []) ⟨hx, hb, hml, hown, hG⟩ (kX2_levelOf l dC dI m63_i_rd_kind H63.size) (va_cwS 1 hG (goodS gw678 gw613 gw144 gw614) rfl rfl rfl hd_X2_levelOf ⟨(Nat.le_of_ble_eq_true rfl), (Nat.le_of_ble_eq_true rfl)⟩) ⟨fbR, pR_in emptyP (emptyK hK)⟩ rfl rfl hl.1 rfl (lv_room (Nat.le_of_ble_eq_true rfl)) dX5_readFormula_80 ⟨(Nat.le_of_ble_eq_true rfl), (Nat.le_of_ble_eq_true rfl)⟩) hS (fun q hq h => absurd hq (Nat.not_lt.mpr h)) (fun q h => hA q (Nat.le_trans hS.1 h)) (fun r_63 u_ t_ H62 locs ht hvm hw hB hz1 hk1 hS => ?_)
              subst hw
              have hP := wk hP hk1
              obtain ⟨f64, f65⟩ := hB
              refine lv_iload_n hx hb dX5_readFormula_83 rfl (lv_at hl 1 rfl) ?_
              refine lv_icmp_ne (tgt := 123) hx hb dX5_readFormula_84 (by decide) (fun c_66 => ?_) (fun c_66 => ?_)
              · skip
                have f67 : r_63.toInt ≠ 2 := qi_ne c_66 rfl zc_2
                rw [hQ]
                exact W.vret hx hb hr (fun t ht hW => ⟨⟨(), rfl, trivial, ⟨m63_i_rd_fault, m63_i_rd_token, m63_i_rd_kind, m63_i_fB_length, m63_J, by rw [ht]; exact hP, hD, ⟨ie0, ie1, ie2, ie3, ie4, ie5, gi63_i_rd_token_lo, gi63_i_rd_token_hi, ie8, ie9, ie10, ie11, ie12, ie13, ie14, ie15, ie16, ie17, ie18, ie19, ie20, ie21, gi63_i_fB_length_lo, gi63_i_fB_length_hi, ie24, ie25, ie26, ie27, ie28, ie29, ie30, ie31, ie32, ie33, ie34, ie35, ie36, ie37, ie38, ie39⟩⟩⟩, hS.F ht⟩) hS.2.2 dX5_readFormula_123
              · skip
                have f68 : r_63.toInt = 2 := qi_eq c_66 rfl zc_2
                refine lv_aload_n hx hb dX5_readFormula_87 rfl (lv_at hl 0 rfl) ?_
                refine gX_X5_66_1 hx hb hG hown hK hP dX5_readFormula_88 ?_
                refine lv_istore (lv' := [(5, .int m63_i_rd_kind), (0, .ref (r 1)), (1, .int 2), (2, .int 3), (3, .int 1), (4, .int y63_4)]) hx hb dX5_readFormula_91 hl (by decide) rfl (fun ls hl => ?_)
                refine lv_aload_n hx hb dX5_readFormula_93 rfl (lv_at hl 1 rfl) ?_
                have hFc := frA hD hS hA
                refine va_callv (va_runV (As := []) (rest := []) ⟨hx, hb, hml, hown, hG⟩ (kX5_advance l dC dI r ct i_tapeLength i_time i_lyingCount m63_i_rd_fault m63_i_rd_token m63_i_rd_kind i_sc_count i_sc_at i_A_tunes i_A_houses i_fA_length i_B_tunes i_B_houses m63_i_fB_length i_acts_done i_acts_undone i_kn_count f_boxes f_boxKept f_trial f_offers f_A_noteCounts f_A_notes f_B_noteCounts f_B_notes f_now_where f_now_worn f_ahead_where f_ahead_worn f_acts_rows f_kn_tunes f_kn_noteTimes m63_J L H62.size ⟨ie0, ie1, ie2, ie3, ie4, ie5, gi63_i_rd_token_lo, gi63_i_rd_token_hi, ie8, ie9, ie10, ie11, ie12, ie13, ie14, ie15, ie16, ie17, ie18, ie19, ie20, ie21, gi63_i_fB_length_lo, gi63_i_fB_length_hi, ie24, ie25, ie26, ie27, ie28, ie29, ie30, ie31, ie32, ie33, ie34, ie35, ie36, ie37, ie38, ie39⟩) (cwV 0 hG (goodV gw635 gw637 gw11 gw130 gw638) rfl rfl rfl hd_X5_advance ⟨(Nat.le_of_ble_eq_true rfl), (Nat.le_of_ble_eq_true rfl)⟩) ⟨fbW, va_recv hK hP (ci := 4) (q0 := 1) rfl rfl, pW_in hP hK hD⟩ rfl rfl hl.1 rfl (lv_room (Nat.le_of_ble_eq_true rfl)) dX5_readFormula_94 ⟨(Nat.le_of_ble_eq_true rfl), (Nat.le_of_ble_eq_true rfl)⟩) hS (fun q _ h => hFc q h) hFc (fun _ t_ H69 locs ht hvm hw hB hz1 hk1 hS => ?_)
                obtain ⟨x71, x72, hP1, hD1, hI73⟩ := hB
                rw [ht] at hP1
                have hP := hP1
                have hD := dW hFc hD1
                obtain ⟨im74, im75, im76, im77, im78, im79, im80, im81, im82, im83, im84, im85, im86, im87, im88, im89, im90, im91, im92, im93, im94, im95, im96, im97, im98, im99, im100, im101, im102, im103, im104, im105, im106, im107, im108, im109, im110, im111, im112, im113⟩ := id hI73
                refine lv_aload_n hx hb dX5_readFormula_97 rfl (lv_at hl 1 rfl) ?_
                refine lv_iload_n hx hb dX5_readFormula_98 rfl (lv_at hl 2 rfl) ?_
                refine lv_iconst (v := 1) hx hb dX5_readFormula_99 (by decide) ?_
                refine lv_iadd hx hb dX5_readFormula_100 ?_
                refine wt_c (v := 3) (by decide) ?_
                refine lv_iload_n hx hb dX5_readFormula_101 rfl (lv_at hl 3 rfl) ?_
                have hFc := frA hD hS hA
                refine va_callv (va_runV (As := [.int 3, .int 3]) (rest := []) ⟨hx, hb, hml, hown, hG⟩ (kX5_readFormula_v21 l dC dI r ct i_tapeLength i_time i_lyingCount m63_i_rd_fault x71 x72 i_sc_count i_sc_at i_A_tunes i_A_houses i_fA_length i_B_tunes i_B_houses m63_i_fB_length i_acts_done i_acts_undone i_kn_count f_boxes f_boxKept f_trial f_offers f_A_noteCounts f_A_notes f_B_noteCounts f_B_notes f_now_where f_now_worn f_ahead_where f_ahead_worn f_acts_rows f_kn_tunes f_kn_noteTimes m63_J L H69.size hI73) (cwV 2 hG (goodV gw660 gw662 gw17 gw130 gw663) rfl rfl rfl hd_X5_readFormula ⟨(Nat.le_of_ble_eq_true rfl), (Nat.le_of_ble_eq_true rfl)⟩) ⟨fbW, va_recv hK hP (ci := 4) (q0 := 1) rfl rfl, pW_in hP hK hD⟩ rfl rfl hl.1 rfl (lv_room (Nat.le_of_ble_eq_true rfl)) dX5_readFormula_102 ⟨(Nat.le_of_ble_eq_true rfl), (Nat.le_of_ble_eq_true rfl)⟩) hS (fun q _ h => hFc q h) hFc (fun _ t_ H114 locs ht hvm hw hB hz1 hk1 hS => ?_)
                obtain ⟨x116, x117, x118, x119, J120, hP1, hD1, hI121⟩ := hB
                rw [ht] at hP1
                have hP := hP1
                have hD := dW hFc hD1
                obtain ⟨im122, im123, im124, im125, im126, im127, im128, im129, im130, im131, im132, im133, im134, im135, im136, im137, im138, im139, im140, im141, im142, im143, im144, im145, im146, im147, im148, im149, im150, im151, im152, im153, im154, im155, im156, im157, im158, im159, im160, im161⟩ := id hI121
                refine lv_aload_n hx hb dX5_readFormula_105 rfl (lv_at hl 1 rfl) ?_
                refine gX_X5_25_1 hx hb hG hown hK hP dX5_readFormula_106 ?_
                refine gX_X5_104_5 hx hb hG hown hK hP dX5_readFormula_109 ?_
                refine lv_iload hx hb dX5_readFormula_112 (lv_at hl 0 rfl) ?_
                have hFc := frA hD hS hA
                refine va_callv (va_runV (As := [.int m63_i_rd_kind]) (rest := []) ⟨hx, hb, hml, hown, hG⟩ (kX1_addOperator l dC dI r ct i_tapeLength i_time i_lyingCount x116 x117 x118 i_sc_count i_sc_at i_A_tunes i_A_houses i_fA_length i_B_tunes i_B_houses x119 i_acts_done i_acts_undone i_kn_count f_boxes f_boxKept f_trial f_offers f_A_noteCounts f_A_notes f_B_noteCounts f_B_notes f_now_where f_now_worn f_ahead_where f_ahead_worn f_acts_rows f_kn_tunes f_kn_noteTimes J120 L m63_i_rd_kind H114.size hI121) (cwV 1 hG (goodV gw677 gw231 gw232 gw133 gw233) rfl rfl rfl hd_X1_addOperator ⟨(Nat.le_of_ble_eq_true rfl), (Nat.le_of_ble_eq_true rfl)⟩) ⟨fbW, va_recv hK hP (ci := 1) (q0 := 6) rfl rfl, pW_in hP hK hD⟩ rfl rfl hl.1 rfl (lv_room (Nat.le_of_ble_eq_true rfl)) dX5_readFormula_114 ⟨(Nat.le_of_ble_eq_true rfl), (Nat.le_of_ble_eq_true rfl)⟩) hS (fun q _ h => hFc q h) hFc (fun _ t_ H162 locs ht hvm hw hB hz1 hk1 hS => ?_)
                obtain ⟨x164, J165, hP1, hD1, hI166⟩ := hB
                rw [ht] at hP1
                have hP := hP1
                have hD := dW hFc hD1
                obtain ⟨im167, im168, im169, im170, im171, im172, im173, im174, im175, im176, im177, im178, im179, im180, im181, im182, im183, im184, im185, im186, im187, im188, im189, im190, im191, im192, im193, im194, im195, im196, im197, im198, im199, im200, im201, im202, im203, im204, im205, im206⟩ := id hI166
                obtain ⟨x207, ex207⟩ : ∃ y : Int32, y = y63_4 + Int32.ofInt 1 := ⟨_, rfl⟩
                have f208 : x207.toInt = y63_4.toInt + 1 := (ox_13 (qi_add ex207 rfl (by decide) (ox_11 g63_0) (ox_976 g63_1)))
                refine lv_iinc (v := x207) (lv' := [(4, .int x207), (5, .int m63_i_rd_kind), (0, .ref (r 1)), (1, .int 2), (2, .int 3), (3, .int 1)]) hx hb dX5_readFormula_117 hl (k := 5) rfl ex207.symm (by decide) rfl (fun ls hl => ?_)
                refine lv_goto (tgt := 63) hx hb dX5_readFormula_120 (by decide) ?_
                exact ih63 x207 x116 x117 x118 x164 J165 H162 _ _ (ox_14 g63_0 f208) (ox_977 f58 f208) (ox_18 im128 im129) (ox_19 im128 im129) (ox_973 im189 im190) (ox_974 im189 im190) im128 im129 im189 im190 hP hD hS (lv_sub hl [2, 3, 4, 5, 0] rfl) (ox_978 hM63 f208)
      exact L63 (-1 * (0 : Int32).toInt + 1 + 1).toNat 0 x9 x10 x11 x12 J13 H7 _ _ (ox_27 zc_0) (ox_28 zc_0) (ox_18 im21 im22) (ox_19 im21 im22) (ox_973 im37 im38) (ox_974 im37 im38) im21 im22 im37 im38 hP hD hS (lv_sub hl [2, 3, 4, 1, 0] rfl) (mlt (ox_979 zc_0))
    · skip
      have f209 : i_rd_kind.toInt = 111 := qi_eq c_5 rfl zc_111
      refine lv_aload_n hx hb dX5_readFormula_33 rfl (lv_at hl 0 rfl) ?_
      refine lv_iload_n hx hb dX5_readFormula_34 rfl (lv_at hl 2 rfl) ?_
      have hFc := frA hD hS hA
      refine va_callv (va_runV (As := [.int 3]) (rest := []) ⟨hx, hb, hml, hown, hG⟩ (kX5_readNot_v4 l dC dI r ct i_tapeLength i_time i_lyingCount i_rd_fault i_rd_token i_rd_kind i_sc_count i_sc_at i_A_tunes i_A_houses i_fA_length i_B_tunes i_B_houses i_fB_length i_acts_done i_acts_undone i_kn_count f_boxes f_boxKept f_trial f_offers f_A_noteCounts f_A_notes f_B_noteCounts f_B_notes f_now_where f_now_worn f_ahead_where f_ahead_worn f_acts_rows f_kn_tunes f_kn_noteTimes J L s.heap.size hI) (cwV 1 hG (goodV gw673 gw675 gw19 gw130 gw676) rfl rfl rfl hd_X5_readNot ⟨(Nat.le_of_ble_eq_true rfl), (Nat.le_of_ble_eq_true rfl)⟩) ⟨fbW, va_recv hK hP (ci := 4) (q0 := 1) rfl rfl, pW_in hP hK hD⟩ rfl rfl hl.1 rfl (lv_room (Nat.le_of_ble_eq_true rfl)) dX5_readFormula_35 ⟨(Nat.le_of_ble_eq_true rfl), (Nat.le_of_ble_eq_true rfl)⟩) hS (fun q _ h => hFc q h) hFc (fun _ t_ H210 locs ht hvm hw hB hz1 hk1 hS => ?_)
      obtain ⟨x212, x213, x214, x215, J216, hP1, hD1, hI217⟩ := hB
      rw [ht] at hP1
      have hP := hP1
      have hD := dW hFc hD1
      obtain ⟨im218, im219, im220, im221, im222, im223, im224, im225, im226, im227, im228, im229, im230, im231, im232, im233, im234, im235, im236, im237, im238, im239, im240, im241, im242, im243, im244, im245, im246, im247, im248, im249, im250, im251, im252, im253, im254, im255, im256, im257⟩ := id hI217
      rw [hQ]
      exact W.vret hx hb hr (fun t ht hW => ⟨⟨(), rfl, trivial, ⟨x212, x213, x214, x215, J216, by rw [ht]; exact hP, hD, hI217⟩⟩, hS.F ht⟩) hS.2.2 dX5_readFormula_38
  · skip
    have f258 : i_rd_fault.toInt ≠ 0 := qi_ne c_1 rfl zc_0
    rw [hQ]
    exact W.vret hx hb hr (fun t ht hW => ⟨⟨(), rfl, trivial, ⟨i_rd_fault, i_rd_token, i_rd_kind, i_fB_length, J, by rw [ht]; exact hP, hD, hI⟩⟩, hS.F ht⟩) hS.2.2 dX5_readFormula_7
set_option maxHeartbeats 4000000 in
set_option maxRecDepth 100000 in
theorem kX5_readFormula_v19 (l : Launch) (dC : Nat → ClassId) (dI : Nat → Nat → Nat) (r : Nat → Nat) (ct : Nat → ClassId) (i_tapeLength i_time i_lyingCount i_rd_fault i_rd_token i_rd_kind i_sc_count i_sc_at i_A_tunes i_A_houses i_fA_length i_B_tunes i_B_houses i_fB_length i_acts_done i_acts_undone i_kn_count : Int32) (f_boxes f_boxKept f_trial f_offers f_A_noteCounts f_A_notes f_B_noteCounts f_B_notes f_now_where f_now_worn f_ahead_where f_ahead_worn f_acts_rows f_kn_tunes f_kn_noteTimes : Nat → Int32) (J : Nat → Nat → Int32) (L : Nat → Nat → Int64) (sz : Nat) (hI : (IX i_tapeLength i_time i_lyingCount i_rd_token i_sc_count i_sc_at i_A_tunes i_A_houses i_fA_length i_B_tunes i_B_houses i_fB_length i_acts_done i_acts_undone i_kn_count f_boxes f_A_noteCounts f_A_notes f_B_noteCounts f_B_notes f_now_worn f_ahead_worn f_acts_rows f_kn_tunes)) : Met l yX5_readFormula (.code yX5_readFormula cX5_readFormula 6 none :: GW) { frames := 72, cells := 0, slots := 0, locals := 2357 } (va_Pc [.ref (r 1), .int 1, .int 3] (pW (dC, dI) (WX r ct i_tapeLength i_time i_lyingCount i_rd_fault i_rd_token i_rd_kind i_sc_count i_sc_at i_A_tunes i_A_houses i_fA_length i_B_tunes i_B_houses i_fB_length i_acts_done i_acts_undone i_kn_count f_boxes f_boxKept f_trial f_offers f_A_noteCounts f_A_notes f_B_noteCounts f_B_notes f_now_where f_now_worn f_ahead_where f_ahead_worn f_acts_rows f_kn_tunes f_kn_noteTimes J L) (TX ct) sz)) (va_Qv (fun _ : Unit => True) (fun (_ : Unit) (t : State) => ∃ (n_i_rd_fault n_i_rd_token n_i_rd_kind n_i_fB_length : Int32) (n_J : Nat → Nat → Int32), va_P (dC, dI) vwCl (WX r ct i_tapeLength i_time i_lyingCount n_i_rd_fault n_i_rd_token n_i_rd_kind i_sc_count i_sc_at i_A_tunes i_A_houses i_fA_length i_B_tunes i_B_houses n_i_fB_length i_acts_done i_acts_undone i_kn_count f_boxes f_boxKept f_trial f_offers f_A_noteCounts f_A_notes f_B_noteCounts f_B_notes f_now_where f_now_worn f_ahead_where f_ahead_worn f_acts_rows f_kn_tunes f_kn_noteTimes n_J L) t.heap ∧ va_D (va_A (WX r ct i_tapeLength i_time i_lyingCount i_rd_fault i_rd_token i_rd_kind i_sc_count i_sc_at i_A_tunes i_A_houses i_fA_length i_B_tunes i_B_houses i_fB_length i_acts_done i_acts_undone i_kn_count f_boxes f_boxKept f_trial f_offers f_A_noteCounts f_A_notes f_B_noteCounts f_B_notes f_now_where f_now_worn f_ahead_where f_ahead_worn f_acts_rows f_kn_tunes f_kn_noteTimes J L) sz) (WX r ct i_tapeLength i_time i_lyingCount n_i_rd_fault n_i_rd_token n_i_rd_kind i_sc_count i_sc_at i_A_tunes i_A_houses i_fA_length i_B_tunes i_B_houses n_i_fB_length i_acts_done i_acts_undone i_kn_count f_boxes f_boxKept f_trial f_offers f_A_noteCounts f_A_notes f_B_noteCounts f_B_notes f_now_where f_now_worn f_ahead_where f_ahead_worn f_acts_rows f_kn_tunes f_kn_noteTimes n_J L) ∧ (IX i_tapeLength i_time i_lyingCount n_i_rd_token i_sc_count i_sc_at i_A_tunes i_A_houses i_fA_length i_B_tunes i_B_houses n_i_fB_length i_acts_done i_acts_undone i_kn_count f_boxes f_A_noteCounts f_A_notes f_B_noteCounts f_B_notes f_now_worn f_ahead_worn f_acts_rows f_kn_tunes)) (va_A (WX r ct i_tapeLength i_time i_lyingCount i_rd_fault i_rd_token i_rd_kind i_sc_count i_sc_at i_A_tunes i_A_houses i_fA_length i_B_tunes i_B_houses i_fB_length i_acts_done i_acts_undone i_kn_count f_boxes f_boxKept f_trial f_offers f_A_noteCounts f_A_notes f_B_noteCounts f_B_notes f_now_where f_now_worn f_ahead_where f_ahead_worn f_acts_rows f_kn_tunes f_kn_noteTimes J L) sz)) 0 0 (va_A (WX r ct i_tapeLength i_time i_lyingCount i_rd_fault i_rd_token i_rd_kind i_sc_count i_sc_at i_A_tunes i_A_houses i_fA_length i_B_tunes i_B_houses i_fB_length i_acts_done i_acts_undone i_kn_count f_boxes f_boxKept f_trial f_offers f_A_noteCounts f_A_notes f_B_noteCounts f_B_notes f_now_where f_now_worn f_ahead_where f_ahead_worn f_acts_rows f_kn_tunes f_kn_noteTimes J L) sz) := by
  refine Met.ofW (cc := cX5_readFormula) (maxL := 6) (ret := none) (by decide) rfl ?_
  intro p e s m args below meth c0 s₁ B hml hv
  obtain ⟨rfl, hsz, hP, hK, hD0⟩ := hv
  have hx := B.exec
  have hb := B.bytes
  have hr := B.returns
  have hts := atoms_spec (ws := .code yX5_readFormula cX5_readFormula 6 none :: GW) B.pre
  have hG : ∀ w ∈ GW, w.before _ s = true := fun w h => hts w (List.mem_cons_of_mem _ h)
  have hown : s.vm.findClass RX5 = some m.cls := findClass_of_methodNamed B.named
  subst hsz
  have hD := hD0.self (sz := s.heap.size)
  generalize hAe : va_A (WX r ct i_tapeLength i_time i_lyingCount i_rd_fault i_rd_token i_rd_kind i_sc_count i_sc_at i_A_tunes i_A_houses i_fA_length i_B_tunes i_B_houses i_fB_length i_acts_done i_acts_undone i_kn_count f_boxes f_boxKept f_trial f_offers f_A_noteCounts f_A_notes f_B_noteCounts f_B_notes f_now_where f_now_worn f_ahead_where f_ahead_worn f_acts_rows f_kn_tunes f_kn_noteTimes J L) s.heap.size = A at hD ⊢
  have hA : ∀ q : Nat, s.heap.size ≤ q → A q := fun q h => by rw [← hAe]; exact Or.inr h
  have hS : va_S A s.heap s.heap [] := va_S.rf
  have hP : va_P (dC, dI) vwCl (WX r ct i_tapeLength i_time i_lyingCount i_rd_fault i_rd_token i_rd_kind i_sc_count i_sc_at i_A_tunes i_A_houses i_fA_length i_B_tunes i_B_houses i_fB_length i_acts_done i_acts_undone i_kn_count f_boxes f_boxKept f_trial f_offers f_A_noteCounts f_A_notes f_B_noteCounts f_B_notes f_now_where f_now_worn f_ahead_where f_ahead_worn f_acts_rows f_kn_tunes f_kn_noteTimes J L) s.heap := hP
  have hl := lv_entry ([.ref (r 1), .int 1, .int 3]) (n := 6) (Nat.le_of_ble_eq_true rfl)
  rw [lg_entry_eq]
  generalize (lg_sl ([.ref (r 1), .int 1, .int 3]) ++ List.replicate (6 - (lg_sl ([.ref (r 1), .int 1, .int 3])).length) Slot.unset).toArray = ls at hl ⊢
  have hl : lv_has ls 6 [(0, .ref (r 1)), (1, .int 1), (2, .int 3)] := hl
  refine nameQ (fun Q hQ => ?_)
  obtain ⟨ie0, ie1, ie2, ie3, ie4, ie5, ie6, ie7, ie8, ie9, ie10, ie11, ie12, ie13, ie14, ie15, ie16, ie17, ie18, ie19, ie20, ie21, ie22, ie23, ie24, ie25, ie26, ie27, ie28, ie29, ie30, ie31, ie32, ie33, ie34, ie35, ie36, ie37, ie38, ie39⟩ := id hI
  refine lv_aload_n hx hb dX5_readFormula_0 rfl (lv_at hl 0 rfl) ?_
  refine gX_X5_43_1 hx hb hG hown hK hP dX5_readFormula_1 ?_
  refine lv_if_eq (tgt := 8) hx hb dX5_readFormula_4 (by decide) (fun c_1 => ?_) (fun c_1 => ?_)
  · skip
    have f2 : i_rd_fault.toInt = 0 := qi_eq c_1 rfl zc_0
    refine lv_iload_n hx hb dX5_readFormula_8 rfl (lv_at hl 1 rfl) ?_
    refine lv_iconst (v := 5) hx hb dX5_readFormula_9 (by decide) ?_
    refine lv_icmp_lt (tgt := 19) hx hb dX5_readFormula_10 (by decide) (fun c_3 => ?_) (fun c_3 => absurd (by decide) c_3)
    refine lv_iload_n hx hb dX5_readFormula_19 rfl (lv_at hl 1 rfl) ?_
    refine lv_iconst (v := 2) hx hb dX5_readFormula_20 (by decide) ?_
    refine lv_icmp_ne (tgt := 39) hx hb dX5_readFormula_21 (by decide) (fun c_4 => ?_) (fun c_4 => absurd c_4 (by decide))
    refine lv_aload_n hx hb dX5_readFormula_39 rfl (lv_at hl 0 rfl) ?_
    refine lv_iload_n hx hb dX5_readFormula_40 rfl (lv_at hl 1 rfl) ?_
    refine lv_iconst (v := 1) hx hb dX5_readFormula_41 (by decide) ?_
    refine lv_iadd hx hb dX5_readFormula_42 ?_
    refine wt_c (v := 2) (by decide) ?_
    refine lv_iload_n hx hb dX5_readFormula_43 rfl (lv_at hl 2 rfl) ?_
    have hFc := frA hD hS hA
    refine va_callv (va_runV (As := [.int 2, .int 3]) (rest := []) ⟨hx, hb, hml, hown, hG⟩ (kX5_readFormula_v20 l dC dI r ct i_tapeLength i_time i_lyingCount i_rd_fault i_rd_token i_rd_kind i_sc_count i_sc_at i_A_tunes i_A_houses i_fA_length i_B_tunes i_B_houses i_fB_length i_acts_done i_acts_undone i_kn_count f_boxes f_boxKept f_trial f_offers f_A_noteCounts f_A_notes f_B_noteCounts f_B_notes f_now_where f_now_worn f_ahead_where f_ahead_worn f_acts_rows f_kn_tunes f_kn_noteTimes J L s.heap.size hI) (cwV 2 hG (goodV gw660 gw662 gw17 gw130 gw663) rfl rfl rfl hd_X5_readFormula ⟨(Nat.le_of_ble_eq_true rfl), (Nat.le_of_ble_eq_true rfl)⟩) ⟨fbW, va_recv hK hP (ci := 4) (q0 := 1) rfl rfl, pW_in hP hK hD⟩ rfl rfl hl.1 rfl (lv_room (Nat.le_of_ble_eq_true rfl)) dX5_readFormula_44 ⟨(Nat.le_of_ble_eq_true rfl), (Nat.le_of_ble_eq_true rfl)⟩) hS (fun q _ h => hFc q h) hFc (fun _ t_ H5 locs ht hvm hw hB hz1 hk1 hS => ?_)
    obtain ⟨x7, x8, x9, x10, J11, hP1, hD1, hI12⟩ := hB
    rw [ht] at hP1
    have hP := hP1
    have hD := dW hFc hD1
    obtain ⟨im13, im14, im15, im16, im17, im18, im19, im20, im21, im22, im23, im24, im25, im26, im27, im28, im29, im30, im31, im32, im33, im34, im35, im36, im37, im38, im39, im40, im41, im42, im43, im44, im45, im46, im47, im48, im49, im50, im51, im52⟩ := id hI12
    refine lv_iload_n hx hb dX5_readFormula_47 rfl (lv_at hl 1 rfl) ?_
    refine lv_iconst (v := 2) hx hb dX5_readFormula_48 (by decide) ?_
    refine lv_icmp_ne (tgt := 56) hx hb dX5_readFormula_49 (by decide) (fun c_53 => ?_) (fun c_53 => absurd c_53 (by decide))
    refine lv_sipush (v := 1600) hx hb dX5_readFormula_56 (by decide) ?_
    refine lv_istore_n (lv' := [(3, .int 1600), (0, .ref (r 1)), (1, .int 1), (2, .int 3)]) hx hb dX5_readFormula_59 rfl hl (by decide) rfl (fun ls hl => ?_)
    refine lv_iconst (v := 0) hx hb dX5_readFormula_60 (by decide) ?_
    refine lv_istore (lv' := [(4, .int 0), (3, .int 1600), (0, .ref (r 1)), (1, .int 1), (2, .int 3)]) hx hb dX5_readFormula_61 hl (by decide) rfl (fun ls hl => ?_)
    have L63 : ∀ (N63 : Nat) (y63_4 : Int32) (m63_i_rd_fault m63_i_rd_token m63_i_rd_kind m63_i_fB_length : Int32) (m63_J : Nat → Nat → Int32) (H63 : Heap) (locs : List Loc) (ls : Array Slot) (g63_0 : (0 : Int) ≤ y63_4.toInt) (g63_1 : y63_4.toInt ≤ (1600 : Int)) (g63_2 : (0 : Int) ≤ m63_i_rd_token.toInt) (g63_3 : m63_i_rd_token.toInt ≤ (1600 : Int)) (g63_4 : (0 : Int) ≤ m63_i_fB_length.toInt) (g63_5 : m63_i_fB_length.toInt ≤ (300 : Int)) (gi63_i_rd_token_lo : (0 : Int) ≤ m63_i_rd_token.toInt) (gi63_i_rd_token_hi : m63_i_rd_token.toInt ≤ (1600 : Int)) (gi63_i_fB_length_lo : (0 : Int) ≤ m63_i_fB_length.toInt) (gi63_i_fB_length_hi : m63_i_fB_length.toInt ≤ (300 : Int)) (hP : va_P (dC, dI) vwCl (WX r ct i_tapeLength i_time i_lyingCount m63_i_rd_fault m63_i_rd_token m63_i_rd_kind i_sc_count i_sc_at i_A_tunes i_A_houses i_fA_length i_B_tunes i_B_houses m63_i_fB_length i_acts_done i_acts_undone i_kn_count f_boxes f_boxKept f_trial f_offers f_A_noteCounts f_A_notes f_B_noteCounts f_B_notes f_now_where f_now_worn f_ahead_where f_ahead_worn f_acts_rows f_kn_tunes f_kn_noteTimes m63_J L) H63) (hD : va_D A (WX r ct i_tapeLength i_time i_lyingCount m63_i_rd_fault m63_i_rd_token m63_i_rd_kind i_sc_count i_sc_at i_A_tunes i_A_houses i_fA_length i_B_tunes i_B_houses m63_i_fB_length i_acts_done i_acts_undone i_kn_count f_boxes f_boxKept f_trial f_offers f_A_noteCounts f_A_notes f_B_noteCounts f_B_notes f_now_where f_now_worn f_ahead_where f_ahead_worn f_acts_rows f_kn_tunes f_kn_noteTimes m63_J L)) (hS : va_S A s.heap H63 locs) (hl : lv_has ls 6 [(0, .ref (r 1)), (1, .int 1), (2, .int 3), (3, .int 1600), (4, .int y63_4)]) (hM : -1 * y63_4.toInt + 1600 < (N63 : Int)), W p l e { frames := 72, cells := 0, slots := 0, locals := 2357 } s m ([.ref (r 1), .int 1, .int 3] : List Value).toArray below meth c0 H63 locs 0 0 Q (F0 m 63 ls []) := by
      intro N63
      induction N63 with
      | zero =>
        intro y63_4 m63_i_rd_fault m63_i_rd_token m63_i_rd_kind m63_i_fB_length m63_J H63 locs ls g63_0 g63_1 g63_2 g63_3 g63_4 g63_5 gi63_i_rd_token_lo gi63_i_rd_token_hi gi63_i_fB_length_lo gi63_i_fB_length_hi hP hD hS hl hM
        exact ((ox_794 hM g63_0 g63_1)).elim
      | succ N63 ih63 =>
        intro y63_4 m63_i_rd_fault m63_i_rd_token m63_i_rd_kind m63_i_fB_length m63_J H63 locs ls g63_0 g63_1 g63_2 g63_3 g63_4 g63_5 gi63_i_rd_token_lo gi63_i_rd_token_hi gi63_i_fB_length_lo gi63_i_fB_length_hi hP hD hS hl hM
        have hM63 := msucc hM
        refine lv_iload hx hb dX5_readFormula_63 (lv_at hl 4 rfl) ?_
        refine lv_iload_n hx hb dX5_readFormula_65 rfl (lv_at hl 3 rfl) ?_
        refine lv_icmp_ge (tgt := 123) hx hb dX5_readFormula_66 (by decide) (fun c_54 => ?_) (fun c_54 => ?_)
        · skip
          have f55 : 1600 ≤ y63_4.toInt := qi_le c_54 zc_1600 rfl
          rw [hQ]
          exact W.vret hx hb hr (fun t ht hW => ⟨⟨(), rfl, trivial, ⟨m63_i_rd_fault, m63_i_rd_token, m63_i_rd_kind, m63_i_fB_length, m63_J, by rw [ht]; exact hP, hD, ⟨ie0, ie1, ie2, ie3, ie4, ie5, gi63_i_rd_token_lo, gi63_i_rd_token_hi, ie8, ie9, ie10, ie11, ie12, ie13, ie14, ie15, ie16, ie17, ie18, ie19, ie20, ie21, gi63_i_fB_length_lo, gi63_i_fB_length_hi, ie24, ie25, ie26, ie27, ie28, ie29, ie30, ie31, ie32, ie33, ie34, ie35, ie36, ie37, ie38, ie39⟩⟩⟩, hS.F ht⟩) hS.2.2 dX5_readFormula_123
        · skip
          have f56 : y63_4.toInt < 1600 := qi_nle c_54 zc_1600 rfl
          refine lv_aload_n hx hb dX5_readFormula_69 rfl (lv_at hl 0 rfl) ?_
          refine gX_X5_43_1 hx hb hG hown hK hP dX5_readFormula_70 ?_
          refine lv_if_ne (tgt := 123) hx hb dX5_readFormula_73 (by decide) (fun c_57 => ?_) (fun c_57 => ?_)
          · skip
            have f58 : m63_i_rd_fault.toInt ≠ 0 := qi_ne c_57 rfl zc_0
            rw [hQ]
            exact W.vret hx hb hr (fun t ht hW => ⟨⟨(), rfl, trivial, ⟨m63_i_rd_fault, m63_i_rd_token, m63_i_rd_kind, m63_i_fB_length, m63_J, by rw [ht]; exact hP, hD, ⟨ie0, ie1, ie2, ie3, ie4, ie5, gi63_i_rd_token_lo, gi63_i_rd_token_hi, ie8, ie9, ie10, ie11, ie12, ie13, ie14, ie15, ie16, ie17, ie18, ie19, ie20, ie21, gi63_i_fB_length_lo, gi63_i_fB_length_hi, ie24, ie25, ie26, ie27, ie28, ie29, ie30, ie31, ie32, ie33, ie34, ie35, ie36, ie37, ie38, ie39⟩⟩⟩, hS.F ht⟩) hS.2.2 dX5_readFormula_123
          · skip
            have f59 : m63_i_rd_fault.toInt = 0 := qi_eq c_57 rfl zc_0
            refine lv_aload_n hx hb dX5_readFormula_76 rfl (lv_at hl 0 rfl) ?_
            refine gX_X5_66_1 hx hb hG hown hK hP dX5_readFormula_77 ?_
            refine va_calli (va_runS (As := [.int m63_i_rd_kind]) (rest := []) ⟨hx, hb, hml, hown, hG⟩ (kX2_levelOf l dC dI m63_i_rd_kind H63.size) (va_cwS 1 hG (goodS gw678 gw613 gw144 gw614) rfl rfl rfl hd_X2_levelOf ⟨(Nat.le_of_ble_eq_true rfl), (Nat.le_of_ble_eq_true rfl)⟩) ⟨fbR, pR_in emptyP (emptyK hK)⟩ rfl rfl hl.1 rfl (lv_room (Nat.le_of_ble_eq_true rfl)) dX5_readFormula_80 ⟨(Nat.le_of_ble_eq_true rfl), (Nat.le_of_ble_eq_true rfl)⟩) hS (fun q hq h => absurd hq (Nat.not_lt.mpr h)) (fun q h => hA q (Nat.le_trans hS.1 h)) (fun r_61 u_ t_ H60 locs ht hvm hw hB hz1 hk1 hS => ?_)
            subst hw
            have hP := wk hP hk1
            obtain ⟨f62, f63⟩ := hB
            refine lv_iload_n hx hb dX5_readFormula_83 rfl (lv_at hl 1 rfl) ?_
            refine lv_icmp_ne (tgt := 123) hx hb dX5_readFormula_84 (by decide) (fun c_64 => ?_) (fun c_64 => ?_)
            · skip
              have f65 : r_61.toInt ≠ 1 := qi_ne c_64 rfl zc_1
              rw [hQ]
              exact W.vret hx hb hr (fun t ht hW => ⟨⟨(), rfl, trivial, ⟨m63_i_rd_fault, m63_i_rd_token, m63_i_rd_kind, m63_i_fB_length, m63_J, by rw [ht]; exact hP, hD, ⟨ie0, ie1, ie2, ie3, ie4, ie5, gi63_i_rd_token_lo, gi63_i_rd_token_hi, ie8, ie9, ie10, ie11, ie12, ie13, ie14, ie15, ie16, ie17, ie18, ie19, ie20, ie21, gi63_i_fB_length_lo, gi63_i_fB_length_hi, ie24, ie25, ie26, ie27, ie28, ie29, ie30, ie31, ie32, ie33, ie34, ie35, ie36, ie37, ie38, ie39⟩⟩⟩, hS.F ht⟩) hS.2.2 dX5_readFormula_123
            · skip
              have f66 : r_61.toInt = 1 := qi_eq c_64 rfl zc_1
              refine lv_aload_n hx hb dX5_readFormula_87 rfl (lv_at hl 0 rfl) ?_
              refine gX_X5_66_1 hx hb hG hown hK hP dX5_readFormula_88 ?_
              refine lv_istore (lv' := [(5, .int m63_i_rd_kind), (0, .ref (r 1)), (1, .int 1), (2, .int 3), (3, .int 1600), (4, .int y63_4)]) hx hb dX5_readFormula_91 hl (by decide) rfl (fun ls hl => ?_)
              refine lv_aload_n hx hb dX5_readFormula_93 rfl (lv_at hl 1 rfl) ?_
              have hFc := frA hD hS hA
              refine va_callv (va_runV (As := []) (rest := []) ⟨hx, hb, hml, hown, hG⟩ (kX5_advance l dC dI r ct i_tapeLength i_time i_lyingCount m63_i_rd_fault m63_i_rd_token m63_i_rd_kind i_sc_count i_sc_at i_A_tunes i_A_houses i_fA_length i_B_tunes i_B_houses m63_i_fB_length i_acts_done i_acts_undone i_kn_count f_boxes f_boxKept f_trial f_offers f_A_noteCounts f_A_notes f_B_noteCounts f_B_notes f_now_where f_now_worn f_ahead_where f_ahead_worn f_acts_rows f_kn_tunes f_kn_noteTimes m63_J L H60.size ⟨ie0, ie1, ie2, ie3, ie4, ie5, gi63_i_rd_token_lo, gi63_i_rd_token_hi, ie8, ie9, ie10, ie11, ie12, ie13, ie14, ie15, ie16, ie17, ie18, ie19, ie20, ie21, gi63_i_fB_length_lo, gi63_i_fB_length_hi, ie24, ie25, ie26, ie27, ie28, ie29, ie30, ie31, ie32, ie33, ie34, ie35, ie36, ie37, ie38, ie39⟩) (cwV 0 hG (goodV gw635 gw637 gw11 gw130 gw638) rfl rfl rfl hd_X5_advance ⟨(Nat.le_of_ble_eq_true rfl), (Nat.le_of_ble_eq_true rfl)⟩) ⟨fbW, va_recv hK hP (ci := 4) (q0 := 1) rfl rfl, pW_in hP hK hD⟩ rfl rfl hl.1 rfl (lv_room (Nat.le_of_ble_eq_true rfl)) dX5_readFormula_94 ⟨(Nat.le_of_ble_eq_true rfl), (Nat.le_of_ble_eq_true rfl)⟩) hS (fun q _ h => hFc q h) hFc (fun _ t_ H67 locs ht hvm hw hB hz1 hk1 hS => ?_)
              obtain ⟨x69, x70, hP1, hD1, hI71⟩ := hB
              rw [ht] at hP1
              have hP := hP1
              have hD := dW hFc hD1
              obtain ⟨im72, im73, im74, im75, im76, im77, im78, im79, im80, im81, im82, im83, im84, im85, im86, im87, im88, im89, im90, im91, im92, im93, im94, im95, im96, im97, im98, im99, im100, im101, im102, im103, im104, im105, im106, im107, im108, im109, im110, im111⟩ := id hI71
              refine lv_aload_n hx hb dX5_readFormula_97 rfl (lv_at hl 1 rfl) ?_
              refine lv_iload_n hx hb dX5_readFormula_98 rfl (lv_at hl 2 rfl) ?_
              refine lv_iconst (v := 1) hx hb dX5_readFormula_99 (by decide) ?_
              refine lv_iadd hx hb dX5_readFormula_100 ?_
              refine wt_c (v := 2) (by decide) ?_
              refine lv_iload_n hx hb dX5_readFormula_101 rfl (lv_at hl 3 rfl) ?_
              have hFc := frA hD hS hA
              refine va_callv (va_runV (As := [.int 2, .int 3]) (rest := []) ⟨hx, hb, hml, hown, hG⟩ (kX5_readFormula_v20 l dC dI r ct i_tapeLength i_time i_lyingCount m63_i_rd_fault x69 x70 i_sc_count i_sc_at i_A_tunes i_A_houses i_fA_length i_B_tunes i_B_houses m63_i_fB_length i_acts_done i_acts_undone i_kn_count f_boxes f_boxKept f_trial f_offers f_A_noteCounts f_A_notes f_B_noteCounts f_B_notes f_now_where f_now_worn f_ahead_where f_ahead_worn f_acts_rows f_kn_tunes f_kn_noteTimes m63_J L H67.size hI71) (cwV 2 hG (goodV gw660 gw662 gw17 gw130 gw663) rfl rfl rfl hd_X5_readFormula ⟨(Nat.le_of_ble_eq_true rfl), (Nat.le_of_ble_eq_true rfl)⟩) ⟨fbW, va_recv hK hP (ci := 4) (q0 := 1) rfl rfl, pW_in hP hK hD⟩ rfl rfl hl.1 rfl (lv_room (Nat.le_of_ble_eq_true rfl)) dX5_readFormula_102 ⟨(Nat.le_of_ble_eq_true rfl), (Nat.le_of_ble_eq_true rfl)⟩) hS (fun q _ h => hFc q h) hFc (fun _ t_ H112 locs ht hvm hw hB hz1 hk1 hS => ?_)
              obtain ⟨x114, x115, x116, x117, J118, hP1, hD1, hI119⟩ := hB
              rw [ht] at hP1
              have hP := hP1
              have hD := dW hFc hD1
              obtain ⟨im120, im121, im122, im123, im124, im125, im126, im127, im128, im129, im130, im131, im132, im133, im134, im135, im136, im137, im138, im139, im140, im141, im142, im143, im144, im145, im146, im147, im148, im149, im150, im151, im152, im153, im154, im155, im156, im157, im158, im159⟩ := id hI119
              refine lv_aload_n hx hb dX5_readFormula_105 rfl (lv_at hl 1 rfl) ?_
              refine gX_X5_25_1 hx hb hG hown hK hP dX5_readFormula_106 ?_
              refine gX_X5_104_5 hx hb hG hown hK hP dX5_readFormula_109 ?_
              refine lv_iload hx hb dX5_readFormula_112 (lv_at hl 0 rfl) ?_
              have hFc := frA hD hS hA
              refine va_callv (va_runV (As := [.int m63_i_rd_kind]) (rest := []) ⟨hx, hb, hml, hown, hG⟩ (kX1_addOperator l dC dI r ct i_tapeLength i_time i_lyingCount x114 x115 x116 i_sc_count i_sc_at i_A_tunes i_A_houses i_fA_length i_B_tunes i_B_houses x117 i_acts_done i_acts_undone i_kn_count f_boxes f_boxKept f_trial f_offers f_A_noteCounts f_A_notes f_B_noteCounts f_B_notes f_now_where f_now_worn f_ahead_where f_ahead_worn f_acts_rows f_kn_tunes f_kn_noteTimes J118 L m63_i_rd_kind H112.size hI119) (cwV 1 hG (goodV gw677 gw231 gw232 gw133 gw233) rfl rfl rfl hd_X1_addOperator ⟨(Nat.le_of_ble_eq_true rfl), (Nat.le_of_ble_eq_true rfl)⟩) ⟨fbW, va_recv hK hP (ci := 1) (q0 := 6) rfl rfl, pW_in hP hK hD⟩ rfl rfl hl.1 rfl (lv_room (Nat.le_of_ble_eq_true rfl)) dX5_readFormula_114 ⟨(Nat.le_of_ble_eq_true rfl), (Nat.le_of_ble_eq_true rfl)⟩) hS (fun q _ h => hFc q h) hFc (fun _ t_ H160 locs ht hvm hw hB hz1 hk1 hS => ?_)
              obtain ⟨x162, J163, hP1, hD1, hI164⟩ := hB
              rw [ht] at hP1
              have hP := hP1
              have hD := dW hFc hD1
              obtain ⟨im165, im166, im167, im168, im169, im170, im171, im172, im173, im174, im175, im176, im177, im178, im179, im180, im181, im182, im183, im184, im185, im186, im187, im188, im189, im190, im191, im192, im193, im194, im195, im196, im197, im198, im199, im200, im201, im202, im203, im204⟩ := id hI164
              obtain ⟨x205, ex205⟩ : ∃ y : Int32, y = y63_4 + Int32.ofInt 1 := ⟨_, rfl⟩
              have f206 : x205.toInt = y63_4.toInt + 1 := (ox_13 (qi_add ex205 rfl (by decide) (ox_11 g63_0) (ox_12 g63_1)))
              refine lv_iinc (v := x205) (lv' := [(4, .int x205), (5, .int m63_i_rd_kind), (0, .ref (r 1)), (1, .int 1), (2, .int 3), (3, .int 1600)]) hx hb dX5_readFormula_117 hl (k := 5) rfl ex205.symm (by decide) rfl (fun ls hl => ?_)
              refine lv_goto (tgt := 63) hx hb dX5_readFormula_120 (by decide) ?_
              exact ih63 x205 x114 x115 x116 x162 J163 H160 _ _ (ox_14 g63_0 f206) (ox_15 f56 f206) (ox_18 im126 im127) (ox_19 im126 im127) (ox_973 im187 im188) (ox_974 im187 im188) im126 im127 im187 im188 hP hD hS (lv_sub hl [2, 3, 4, 5, 0] rfl) (ox_810 hM63 f206)
    exact L63 (-1 * (0 : Int32).toInt + 1600 + 1).toNat 0 x7 x8 x9 x10 J11 H5 _ _ (ox_27 zc_0) (ox_811 zc_0) (ox_18 im19 im20) (ox_19 im19 im20) (ox_973 im35 im36) (ox_974 im35 im36) im19 im20 im35 im36 hP hD hS (lv_sub hl [2, 3, 4, 1, 0] rfl) (mlt (ox_812 zc_0))
  · skip
    have f207 : i_rd_fault.toInt ≠ 0 := qi_ne c_1 rfl zc_0
    rw [hQ]
    exact W.vret hx hb hr (fun t ht hW => ⟨⟨(), rfl, trivial, ⟨i_rd_fault, i_rd_token, i_rd_kind, i_fB_length, J, by rw [ht]; exact hP, hD, hI⟩⟩, hS.F ht⟩) hS.2.2 dX5_readFormula_7
set_option maxHeartbeats 4000000 in
set_option maxRecDepth 100000 in
theorem kX5_readFormula_v18 (l : Launch) (dC : Nat → ClassId) (dI : Nat → Nat → Nat) (r : Nat → Nat) (ct : Nat → ClassId) (i_tapeLength i_time i_lyingCount i_rd_fault i_rd_token i_rd_kind i_sc_count i_sc_at i_A_tunes i_A_houses i_fA_length i_B_tunes i_B_houses i_fB_length i_acts_done i_acts_undone i_kn_count : Int32) (f_boxes f_boxKept f_trial f_offers f_A_noteCounts f_A_notes f_B_noteCounts f_B_notes f_now_where f_now_worn f_ahead_where f_ahead_worn f_acts_rows f_kn_tunes f_kn_noteTimes : Nat → Int32) (J : Nat → Nat → Int32) (L : Nat → Nat → Int64) (sz : Nat) (hI : (IX i_tapeLength i_time i_lyingCount i_rd_token i_sc_count i_sc_at i_A_tunes i_A_houses i_fA_length i_B_tunes i_B_houses i_fB_length i_acts_done i_acts_undone i_kn_count f_boxes f_A_noteCounts f_A_notes f_B_noteCounts f_B_notes f_now_worn f_ahead_worn f_acts_rows f_kn_tunes)) : Met l yX5_readFormula (.code yX5_readFormula cX5_readFormula 6 none :: GW) { frames := 74, cells := 0, slots := 0, locals := 2422 } (va_Pc [.ref (r 1), .int 0, .int 3] (pW (dC, dI) (WX r ct i_tapeLength i_time i_lyingCount i_rd_fault i_rd_token i_rd_kind i_sc_count i_sc_at i_A_tunes i_A_houses i_fA_length i_B_tunes i_B_houses i_fB_length i_acts_done i_acts_undone i_kn_count f_boxes f_boxKept f_trial f_offers f_A_noteCounts f_A_notes f_B_noteCounts f_B_notes f_now_where f_now_worn f_ahead_where f_ahead_worn f_acts_rows f_kn_tunes f_kn_noteTimes J L) (TX ct) sz)) (va_Qv (fun _ : Unit => True) (fun (_ : Unit) (t : State) => ∃ (n_i_rd_fault n_i_rd_token n_i_rd_kind n_i_fB_length : Int32) (n_J : Nat → Nat → Int32), va_P (dC, dI) vwCl (WX r ct i_tapeLength i_time i_lyingCount n_i_rd_fault n_i_rd_token n_i_rd_kind i_sc_count i_sc_at i_A_tunes i_A_houses i_fA_length i_B_tunes i_B_houses n_i_fB_length i_acts_done i_acts_undone i_kn_count f_boxes f_boxKept f_trial f_offers f_A_noteCounts f_A_notes f_B_noteCounts f_B_notes f_now_where f_now_worn f_ahead_where f_ahead_worn f_acts_rows f_kn_tunes f_kn_noteTimes n_J L) t.heap ∧ va_D (va_A (WX r ct i_tapeLength i_time i_lyingCount i_rd_fault i_rd_token i_rd_kind i_sc_count i_sc_at i_A_tunes i_A_houses i_fA_length i_B_tunes i_B_houses i_fB_length i_acts_done i_acts_undone i_kn_count f_boxes f_boxKept f_trial f_offers f_A_noteCounts f_A_notes f_B_noteCounts f_B_notes f_now_where f_now_worn f_ahead_where f_ahead_worn f_acts_rows f_kn_tunes f_kn_noteTimes J L) sz) (WX r ct i_tapeLength i_time i_lyingCount n_i_rd_fault n_i_rd_token n_i_rd_kind i_sc_count i_sc_at i_A_tunes i_A_houses i_fA_length i_B_tunes i_B_houses n_i_fB_length i_acts_done i_acts_undone i_kn_count f_boxes f_boxKept f_trial f_offers f_A_noteCounts f_A_notes f_B_noteCounts f_B_notes f_now_where f_now_worn f_ahead_where f_ahead_worn f_acts_rows f_kn_tunes f_kn_noteTimes n_J L) ∧ (IX i_tapeLength i_time i_lyingCount n_i_rd_token i_sc_count i_sc_at i_A_tunes i_A_houses i_fA_length i_B_tunes i_B_houses n_i_fB_length i_acts_done i_acts_undone i_kn_count f_boxes f_A_noteCounts f_A_notes f_B_noteCounts f_B_notes f_now_worn f_ahead_worn f_acts_rows f_kn_tunes)) (va_A (WX r ct i_tapeLength i_time i_lyingCount i_rd_fault i_rd_token i_rd_kind i_sc_count i_sc_at i_A_tunes i_A_houses i_fA_length i_B_tunes i_B_houses i_fB_length i_acts_done i_acts_undone i_kn_count f_boxes f_boxKept f_trial f_offers f_A_noteCounts f_A_notes f_B_noteCounts f_B_notes f_now_where f_now_worn f_ahead_where f_ahead_worn f_acts_rows f_kn_tunes f_kn_noteTimes J L) sz)) 0 0 (va_A (WX r ct i_tapeLength i_time i_lyingCount i_rd_fault i_rd_token i_rd_kind i_sc_count i_sc_at i_A_tunes i_A_houses i_fA_length i_B_tunes i_B_houses i_fB_length i_acts_done i_acts_undone i_kn_count f_boxes f_boxKept f_trial f_offers f_A_noteCounts f_A_notes f_B_noteCounts f_B_notes f_now_where f_now_worn f_ahead_where f_ahead_worn f_acts_rows f_kn_tunes f_kn_noteTimes J L) sz) := by
  refine Met.ofW (cc := cX5_readFormula) (maxL := 6) (ret := none) (by decide) rfl ?_
  intro p e s m args below meth c0 s₁ B hml hv
  obtain ⟨rfl, hsz, hP, hK, hD0⟩ := hv
  have hx := B.exec
  have hb := B.bytes
  have hr := B.returns
  have hts := atoms_spec (ws := .code yX5_readFormula cX5_readFormula 6 none :: GW) B.pre
  have hG : ∀ w ∈ GW, w.before _ s = true := fun w h => hts w (List.mem_cons_of_mem _ h)
  have hown : s.vm.findClass RX5 = some m.cls := findClass_of_methodNamed B.named
  subst hsz
  have hD := hD0.self (sz := s.heap.size)
  generalize hAe : va_A (WX r ct i_tapeLength i_time i_lyingCount i_rd_fault i_rd_token i_rd_kind i_sc_count i_sc_at i_A_tunes i_A_houses i_fA_length i_B_tunes i_B_houses i_fB_length i_acts_done i_acts_undone i_kn_count f_boxes f_boxKept f_trial f_offers f_A_noteCounts f_A_notes f_B_noteCounts f_B_notes f_now_where f_now_worn f_ahead_where f_ahead_worn f_acts_rows f_kn_tunes f_kn_noteTimes J L) s.heap.size = A at hD ⊢
  have hA : ∀ q : Nat, s.heap.size ≤ q → A q := fun q h => by rw [← hAe]; exact Or.inr h
  have hS : va_S A s.heap s.heap [] := va_S.rf
  have hP : va_P (dC, dI) vwCl (WX r ct i_tapeLength i_time i_lyingCount i_rd_fault i_rd_token i_rd_kind i_sc_count i_sc_at i_A_tunes i_A_houses i_fA_length i_B_tunes i_B_houses i_fB_length i_acts_done i_acts_undone i_kn_count f_boxes f_boxKept f_trial f_offers f_A_noteCounts f_A_notes f_B_noteCounts f_B_notes f_now_where f_now_worn f_ahead_where f_ahead_worn f_acts_rows f_kn_tunes f_kn_noteTimes J L) s.heap := hP
  have hl := lv_entry ([.ref (r 1), .int 0, .int 3]) (n := 6) (Nat.le_of_ble_eq_true rfl)
  rw [lg_entry_eq]
  generalize (lg_sl ([.ref (r 1), .int 0, .int 3]) ++ List.replicate (6 - (lg_sl ([.ref (r 1), .int 0, .int 3])).length) Slot.unset).toArray = ls at hl ⊢
  have hl : lv_has ls 6 [(0, .ref (r 1)), (1, .int 0), (2, .int 3)] := hl
  refine nameQ (fun Q hQ => ?_)
  obtain ⟨ie0, ie1, ie2, ie3, ie4, ie5, ie6, ie7, ie8, ie9, ie10, ie11, ie12, ie13, ie14, ie15, ie16, ie17, ie18, ie19, ie20, ie21, ie22, ie23, ie24, ie25, ie26, ie27, ie28, ie29, ie30, ie31, ie32, ie33, ie34, ie35, ie36, ie37, ie38, ie39⟩ := id hI
  refine lv_aload_n hx hb dX5_readFormula_0 rfl (lv_at hl 0 rfl) ?_
  refine gX_X5_43_1 hx hb hG hown hK hP dX5_readFormula_1 ?_
  refine lv_if_eq (tgt := 8) hx hb dX5_readFormula_4 (by decide) (fun c_1 => ?_) (fun c_1 => ?_)
  · skip
    have f2 : i_rd_fault.toInt = 0 := qi_eq c_1 rfl zc_0
    refine lv_iload_n hx hb dX5_readFormula_8 rfl (lv_at hl 1 rfl) ?_
    refine lv_iconst (v := 5) hx hb dX5_readFormula_9 (by decide) ?_
    refine lv_icmp_lt (tgt := 19) hx hb dX5_readFormula_10 (by decide) (fun c_3 => ?_) (fun c_3 => absurd (by decide) c_3)
    refine lv_iload_n hx hb dX5_readFormula_19 rfl (lv_at hl 1 rfl) ?_
    refine lv_iconst (v := 2) hx hb dX5_readFormula_20 (by decide) ?_
    refine lv_icmp_ne (tgt := 39) hx hb dX5_readFormula_21 (by decide) (fun c_4 => ?_) (fun c_4 => absurd c_4 (by decide))
    refine lv_aload_n hx hb dX5_readFormula_39 rfl (lv_at hl 0 rfl) ?_
    refine lv_iload_n hx hb dX5_readFormula_40 rfl (lv_at hl 1 rfl) ?_
    refine lv_iconst (v := 1) hx hb dX5_readFormula_41 (by decide) ?_
    refine lv_iadd hx hb dX5_readFormula_42 ?_
    refine wt_c (v := 1) (by decide) ?_
    refine lv_iload_n hx hb dX5_readFormula_43 rfl (lv_at hl 2 rfl) ?_
    have hFc := frA hD hS hA
    refine va_callv (va_runV (As := [.int 1, .int 3]) (rest := []) ⟨hx, hb, hml, hown, hG⟩ (kX5_readFormula_v19 l dC dI r ct i_tapeLength i_time i_lyingCount i_rd_fault i_rd_token i_rd_kind i_sc_count i_sc_at i_A_tunes i_A_houses i_fA_length i_B_tunes i_B_houses i_fB_length i_acts_done i_acts_undone i_kn_count f_boxes f_boxKept f_trial f_offers f_A_noteCounts f_A_notes f_B_noteCounts f_B_notes f_now_where f_now_worn f_ahead_where f_ahead_worn f_acts_rows f_kn_tunes f_kn_noteTimes J L s.heap.size hI) (cwV 2 hG (goodV gw660 gw662 gw17 gw130 gw663) rfl rfl rfl hd_X5_readFormula ⟨(Nat.le_of_ble_eq_true rfl), (Nat.le_of_ble_eq_true rfl)⟩) ⟨fbW, va_recv hK hP (ci := 4) (q0 := 1) rfl rfl, pW_in hP hK hD⟩ rfl rfl hl.1 rfl (lv_room (Nat.le_of_ble_eq_true rfl)) dX5_readFormula_44 ⟨(Nat.le_of_ble_eq_true rfl), (Nat.le_of_ble_eq_true rfl)⟩) hS (fun q _ h => hFc q h) hFc (fun _ t_ H5 locs ht hvm hw hB hz1 hk1 hS => ?_)
    obtain ⟨x7, x8, x9, x10, J11, hP1, hD1, hI12⟩ := hB
    rw [ht] at hP1
    have hP := hP1
    have hD := dW hFc hD1
    obtain ⟨im13, im14, im15, im16, im17, im18, im19, im20, im21, im22, im23, im24, im25, im26, im27, im28, im29, im30, im31, im32, im33, im34, im35, im36, im37, im38, im39, im40, im41, im42, im43, im44, im45, im46, im47, im48, im49, im50, im51, im52⟩ := id hI12
    refine lv_iload_n hx hb dX5_readFormula_47 rfl (lv_at hl 1 rfl) ?_
    refine lv_iconst (v := 2) hx hb dX5_readFormula_48 (by decide) ?_
    refine lv_icmp_ne (tgt := 56) hx hb dX5_readFormula_49 (by decide) (fun c_53 => ?_) (fun c_53 => absurd c_53 (by decide))
    refine lv_sipush (v := 1600) hx hb dX5_readFormula_56 (by decide) ?_
    refine lv_istore_n (lv' := [(3, .int 1600), (0, .ref (r 1)), (1, .int 0), (2, .int 3)]) hx hb dX5_readFormula_59 rfl hl (by decide) rfl (fun ls hl => ?_)
    refine lv_iconst (v := 0) hx hb dX5_readFormula_60 (by decide) ?_
    refine lv_istore (lv' := [(4, .int 0), (3, .int 1600), (0, .ref (r 1)), (1, .int 0), (2, .int 3)]) hx hb dX5_readFormula_61 hl (by decide) rfl (fun ls hl => ?_)
    have L63 : ∀ (N63 : Nat) (y63_4 : Int32) (m63_i_rd_fault m63_i_rd_token m63_i_rd_kind m63_i_fB_length : Int32) (m63_J : Nat → Nat → Int32) (H63 : Heap) (locs : List Loc) (ls : Array Slot) (g63_0 : (0 : Int) ≤ y63_4.toInt) (g63_1 : y63_4.toInt ≤ (1600 : Int)) (g63_2 : (0 : Int) ≤ m63_i_rd_token.toInt) (g63_3 : m63_i_rd_token.toInt ≤ (1600 : Int)) (g63_4 : (0 : Int) ≤ m63_i_fB_length.toInt) (g63_5 : m63_i_fB_length.toInt ≤ (300 : Int)) (gi63_i_rd_token_lo : (0 : Int) ≤ m63_i_rd_token.toInt) (gi63_i_rd_token_hi : m63_i_rd_token.toInt ≤ (1600 : Int)) (gi63_i_fB_length_lo : (0 : Int) ≤ m63_i_fB_length.toInt) (gi63_i_fB_length_hi : m63_i_fB_length.toInt ≤ (300 : Int)) (hP : va_P (dC, dI) vwCl (WX r ct i_tapeLength i_time i_lyingCount m63_i_rd_fault m63_i_rd_token m63_i_rd_kind i_sc_count i_sc_at i_A_tunes i_A_houses i_fA_length i_B_tunes i_B_houses m63_i_fB_length i_acts_done i_acts_undone i_kn_count f_boxes f_boxKept f_trial f_offers f_A_noteCounts f_A_notes f_B_noteCounts f_B_notes f_now_where f_now_worn f_ahead_where f_ahead_worn f_acts_rows f_kn_tunes f_kn_noteTimes m63_J L) H63) (hD : va_D A (WX r ct i_tapeLength i_time i_lyingCount m63_i_rd_fault m63_i_rd_token m63_i_rd_kind i_sc_count i_sc_at i_A_tunes i_A_houses i_fA_length i_B_tunes i_B_houses m63_i_fB_length i_acts_done i_acts_undone i_kn_count f_boxes f_boxKept f_trial f_offers f_A_noteCounts f_A_notes f_B_noteCounts f_B_notes f_now_where f_now_worn f_ahead_where f_ahead_worn f_acts_rows f_kn_tunes f_kn_noteTimes m63_J L)) (hS : va_S A s.heap H63 locs) (hl : lv_has ls 6 [(0, .ref (r 1)), (1, .int 0), (2, .int 3), (3, .int 1600), (4, .int y63_4)]) (hM : -1 * y63_4.toInt + 1600 < (N63 : Int)), W p l e { frames := 74, cells := 0, slots := 0, locals := 2422 } s m ([.ref (r 1), .int 0, .int 3] : List Value).toArray below meth c0 H63 locs 0 0 Q (F0 m 63 ls []) := by
      intro N63
      induction N63 with
      | zero =>
        intro y63_4 m63_i_rd_fault m63_i_rd_token m63_i_rd_kind m63_i_fB_length m63_J H63 locs ls g63_0 g63_1 g63_2 g63_3 g63_4 g63_5 gi63_i_rd_token_lo gi63_i_rd_token_hi gi63_i_fB_length_lo gi63_i_fB_length_hi hP hD hS hl hM
        exact ((ox_794 hM g63_0 g63_1)).elim
      | succ N63 ih63 =>
        intro y63_4 m63_i_rd_fault m63_i_rd_token m63_i_rd_kind m63_i_fB_length m63_J H63 locs ls g63_0 g63_1 g63_2 g63_3 g63_4 g63_5 gi63_i_rd_token_lo gi63_i_rd_token_hi gi63_i_fB_length_lo gi63_i_fB_length_hi hP hD hS hl hM
        have hM63 := msucc hM
        refine lv_iload hx hb dX5_readFormula_63 (lv_at hl 4 rfl) ?_
        refine lv_iload_n hx hb dX5_readFormula_65 rfl (lv_at hl 3 rfl) ?_
        refine lv_icmp_ge (tgt := 123) hx hb dX5_readFormula_66 (by decide) (fun c_54 => ?_) (fun c_54 => ?_)
        · skip
          have f55 : 1600 ≤ y63_4.toInt := qi_le c_54 zc_1600 rfl
          rw [hQ]
          exact W.vret hx hb hr (fun t ht hW => ⟨⟨(), rfl, trivial, ⟨m63_i_rd_fault, m63_i_rd_token, m63_i_rd_kind, m63_i_fB_length, m63_J, by rw [ht]; exact hP, hD, ⟨ie0, ie1, ie2, ie3, ie4, ie5, gi63_i_rd_token_lo, gi63_i_rd_token_hi, ie8, ie9, ie10, ie11, ie12, ie13, ie14, ie15, ie16, ie17, ie18, ie19, ie20, ie21, gi63_i_fB_length_lo, gi63_i_fB_length_hi, ie24, ie25, ie26, ie27, ie28, ie29, ie30, ie31, ie32, ie33, ie34, ie35, ie36, ie37, ie38, ie39⟩⟩⟩, hS.F ht⟩) hS.2.2 dX5_readFormula_123
        · skip
          have f56 : y63_4.toInt < 1600 := qi_nle c_54 zc_1600 rfl
          refine lv_aload_n hx hb dX5_readFormula_69 rfl (lv_at hl 0 rfl) ?_
          refine gX_X5_43_1 hx hb hG hown hK hP dX5_readFormula_70 ?_
          refine lv_if_ne (tgt := 123) hx hb dX5_readFormula_73 (by decide) (fun c_57 => ?_) (fun c_57 => ?_)
          · skip
            have f58 : m63_i_rd_fault.toInt ≠ 0 := qi_ne c_57 rfl zc_0
            rw [hQ]
            exact W.vret hx hb hr (fun t ht hW => ⟨⟨(), rfl, trivial, ⟨m63_i_rd_fault, m63_i_rd_token, m63_i_rd_kind, m63_i_fB_length, m63_J, by rw [ht]; exact hP, hD, ⟨ie0, ie1, ie2, ie3, ie4, ie5, gi63_i_rd_token_lo, gi63_i_rd_token_hi, ie8, ie9, ie10, ie11, ie12, ie13, ie14, ie15, ie16, ie17, ie18, ie19, ie20, ie21, gi63_i_fB_length_lo, gi63_i_fB_length_hi, ie24, ie25, ie26, ie27, ie28, ie29, ie30, ie31, ie32, ie33, ie34, ie35, ie36, ie37, ie38, ie39⟩⟩⟩, hS.F ht⟩) hS.2.2 dX5_readFormula_123
          · skip
            have f59 : m63_i_rd_fault.toInt = 0 := qi_eq c_57 rfl zc_0
            refine lv_aload_n hx hb dX5_readFormula_76 rfl (lv_at hl 0 rfl) ?_
            refine gX_X5_66_1 hx hb hG hown hK hP dX5_readFormula_77 ?_
            refine va_calli (va_runS (As := [.int m63_i_rd_kind]) (rest := []) ⟨hx, hb, hml, hown, hG⟩ (kX2_levelOf l dC dI m63_i_rd_kind H63.size) (va_cwS 1 hG (goodS gw678 gw613 gw144 gw614) rfl rfl rfl hd_X2_levelOf ⟨(Nat.le_of_ble_eq_true rfl), (Nat.le_of_ble_eq_true rfl)⟩) ⟨fbR, pR_in emptyP (emptyK hK)⟩ rfl rfl hl.1 rfl (lv_room (Nat.le_of_ble_eq_true rfl)) dX5_readFormula_80 ⟨(Nat.le_of_ble_eq_true rfl), (Nat.le_of_ble_eq_true rfl)⟩) hS (fun q hq h => absurd hq (Nat.not_lt.mpr h)) (fun q h => hA q (Nat.le_trans hS.1 h)) (fun r_61 u_ t_ H60 locs ht hvm hw hB hz1 hk1 hS => ?_)
            subst hw
            have hP := wk hP hk1
            obtain ⟨f62, f63⟩ := hB
            refine lv_iload_n hx hb dX5_readFormula_83 rfl (lv_at hl 1 rfl) ?_
            refine lv_icmp_ne (tgt := 123) hx hb dX5_readFormula_84 (by decide) (fun c_64 => ?_) (fun c_64 => ?_)
            · skip
              have f65 : r_61.toInt ≠ 0 := qi_ne c_64 rfl zc_0
              rw [hQ]
              exact W.vret hx hb hr (fun t ht hW => ⟨⟨(), rfl, trivial, ⟨m63_i_rd_fault, m63_i_rd_token, m63_i_rd_kind, m63_i_fB_length, m63_J, by rw [ht]; exact hP, hD, ⟨ie0, ie1, ie2, ie3, ie4, ie5, gi63_i_rd_token_lo, gi63_i_rd_token_hi, ie8, ie9, ie10, ie11, ie12, ie13, ie14, ie15, ie16, ie17, ie18, ie19, ie20, ie21, gi63_i_fB_length_lo, gi63_i_fB_length_hi, ie24, ie25, ie26, ie27, ie28, ie29, ie30, ie31, ie32, ie33, ie34, ie35, ie36, ie37, ie38, ie39⟩⟩⟩, hS.F ht⟩) hS.2.2 dX5_readFormula_123
            · skip
              have f66 : r_61.toInt = 0 := qi_eq c_64 rfl zc_0
              refine lv_aload_n hx hb dX5_readFormula_87 rfl (lv_at hl 0 rfl) ?_
              refine gX_X5_66_1 hx hb hG hown hK hP dX5_readFormula_88 ?_
              refine lv_istore (lv' := [(5, .int m63_i_rd_kind), (0, .ref (r 1)), (1, .int 0), (2, .int 3), (3, .int 1600), (4, .int y63_4)]) hx hb dX5_readFormula_91 hl (by decide) rfl (fun ls hl => ?_)
              refine lv_aload_n hx hb dX5_readFormula_93 rfl (lv_at hl 1 rfl) ?_
              have hFc := frA hD hS hA
              refine va_callv (va_runV (As := []) (rest := []) ⟨hx, hb, hml, hown, hG⟩ (kX5_advance l dC dI r ct i_tapeLength i_time i_lyingCount m63_i_rd_fault m63_i_rd_token m63_i_rd_kind i_sc_count i_sc_at i_A_tunes i_A_houses i_fA_length i_B_tunes i_B_houses m63_i_fB_length i_acts_done i_acts_undone i_kn_count f_boxes f_boxKept f_trial f_offers f_A_noteCounts f_A_notes f_B_noteCounts f_B_notes f_now_where f_now_worn f_ahead_where f_ahead_worn f_acts_rows f_kn_tunes f_kn_noteTimes m63_J L H60.size ⟨ie0, ie1, ie2, ie3, ie4, ie5, gi63_i_rd_token_lo, gi63_i_rd_token_hi, ie8, ie9, ie10, ie11, ie12, ie13, ie14, ie15, ie16, ie17, ie18, ie19, ie20, ie21, gi63_i_fB_length_lo, gi63_i_fB_length_hi, ie24, ie25, ie26, ie27, ie28, ie29, ie30, ie31, ie32, ie33, ie34, ie35, ie36, ie37, ie38, ie39⟩) (cwV 0 hG (goodV gw635 gw637 gw11 gw130 gw638) rfl rfl rfl hd_X5_advance ⟨(Nat.le_of_ble_eq_true rfl), (Nat.le_of_ble_eq_true rfl)⟩) ⟨fbW, va_recv hK hP (ci := 4) (q0 := 1) rfl rfl, pW_in hP hK hD⟩ rfl rfl hl.1 rfl (lv_room (Nat.le_of_ble_eq_true rfl)) dX5_readFormula_94 ⟨(Nat.le_of_ble_eq_true rfl), (Nat.le_of_ble_eq_true rfl)⟩) hS (fun q _ h => hFc q h) hFc (fun _ t_ H67 locs ht hvm hw hB hz1 hk1 hS => ?_)
              obtain ⟨x69, x70, hP1, hD1, hI71⟩ := hB
              rw [ht] at hP1
              have hP := hP1
              have hD := dW hFc hD1
              obtain ⟨im72, im73, im74, im75, im76, im77, im78, im79, im80, im81, im82, im83, im84, im85, im86, im87, im88, im89, im90, im91, im92, im93, im94, im95, im96, im97, im98, im99, im100, im101, im102, im103, im104, im105, im106, im107, im108, im109, im110, im111⟩ := id hI71
              refine lv_aload_n hx hb dX5_readFormula_97 rfl (lv_at hl 1 rfl) ?_
              refine lv_iload_n hx hb dX5_readFormula_98 rfl (lv_at hl 2 rfl) ?_
              refine lv_iconst (v := 1) hx hb dX5_readFormula_99 (by decide) ?_
              refine lv_iadd hx hb dX5_readFormula_100 ?_
              refine wt_c (v := 1) (by decide) ?_
              refine lv_iload_n hx hb dX5_readFormula_101 rfl (lv_at hl 3 rfl) ?_
              have hFc := frA hD hS hA
              refine va_callv (va_runV (As := [.int 1, .int 3]) (rest := []) ⟨hx, hb, hml, hown, hG⟩ (kX5_readFormula_v19 l dC dI r ct i_tapeLength i_time i_lyingCount m63_i_rd_fault x69 x70 i_sc_count i_sc_at i_A_tunes i_A_houses i_fA_length i_B_tunes i_B_houses m63_i_fB_length i_acts_done i_acts_undone i_kn_count f_boxes f_boxKept f_trial f_offers f_A_noteCounts f_A_notes f_B_noteCounts f_B_notes f_now_where f_now_worn f_ahead_where f_ahead_worn f_acts_rows f_kn_tunes f_kn_noteTimes m63_J L H67.size hI71) (cwV 2 hG (goodV gw660 gw662 gw17 gw130 gw663) rfl rfl rfl hd_X5_readFormula ⟨(Nat.le_of_ble_eq_true rfl), (Nat.le_of_ble_eq_true rfl)⟩) ⟨fbW, va_recv hK hP (ci := 4) (q0 := 1) rfl rfl, pW_in hP hK hD⟩ rfl rfl hl.1 rfl (lv_room (Nat.le_of_ble_eq_true rfl)) dX5_readFormula_102 ⟨(Nat.le_of_ble_eq_true rfl), (Nat.le_of_ble_eq_true rfl)⟩) hS (fun q _ h => hFc q h) hFc (fun _ t_ H112 locs ht hvm hw hB hz1 hk1 hS => ?_)
              obtain ⟨x114, x115, x116, x117, J118, hP1, hD1, hI119⟩ := hB
              rw [ht] at hP1
              have hP := hP1
              have hD := dW hFc hD1
              obtain ⟨im120, im121, im122, im123, im124, im125, im126, im127, im128, im129, im130, im131, im132, im133, im134, im135, im136, im137, im138, im139, im140, im141, im142, im143, im144, im145, im146, im147, im148, im149, im150, im151, im152, im153, im154, im155, im156, im157, im158, im159⟩ := id hI119
              refine lv_aload_n hx hb dX5_readFormula_105 rfl (lv_at hl 1 rfl) ?_
              refine gX_X5_25_1 hx hb hG hown hK hP dX5_readFormula_106 ?_
              refine gX_X5_104_5 hx hb hG hown hK hP dX5_readFormula_109 ?_
              refine lv_iload hx hb dX5_readFormula_112 (lv_at hl 0 rfl) ?_
              have hFc := frA hD hS hA
              refine va_callv (va_runV (As := [.int m63_i_rd_kind]) (rest := []) ⟨hx, hb, hml, hown, hG⟩ (kX1_addOperator l dC dI r ct i_tapeLength i_time i_lyingCount x114 x115 x116 i_sc_count i_sc_at i_A_tunes i_A_houses i_fA_length i_B_tunes i_B_houses x117 i_acts_done i_acts_undone i_kn_count f_boxes f_boxKept f_trial f_offers f_A_noteCounts f_A_notes f_B_noteCounts f_B_notes f_now_where f_now_worn f_ahead_where f_ahead_worn f_acts_rows f_kn_tunes f_kn_noteTimes J118 L m63_i_rd_kind H112.size hI119) (cwV 1 hG (goodV gw677 gw231 gw232 gw133 gw233) rfl rfl rfl hd_X1_addOperator ⟨(Nat.le_of_ble_eq_true rfl), (Nat.le_of_ble_eq_true rfl)⟩) ⟨fbW, va_recv hK hP (ci := 1) (q0 := 6) rfl rfl, pW_in hP hK hD⟩ rfl rfl hl.1 rfl (lv_room (Nat.le_of_ble_eq_true rfl)) dX5_readFormula_114 ⟨(Nat.le_of_ble_eq_true rfl), (Nat.le_of_ble_eq_true rfl)⟩) hS (fun q _ h => hFc q h) hFc (fun _ t_ H160 locs ht hvm hw hB hz1 hk1 hS => ?_)
              obtain ⟨x162, J163, hP1, hD1, hI164⟩ := hB
              rw [ht] at hP1
              have hP := hP1
              have hD := dW hFc hD1
              obtain ⟨im165, im166, im167, im168, im169, im170, im171, im172, im173, im174, im175, im176, im177, im178, im179, im180, im181, im182, im183, im184, im185, im186, im187, im188, im189, im190, im191, im192, im193, im194, im195, im196, im197, im198, im199, im200, im201, im202, im203, im204⟩ := id hI164
              obtain ⟨x205, ex205⟩ : ∃ y : Int32, y = y63_4 + Int32.ofInt 1 := ⟨_, rfl⟩
              have f206 : x205.toInt = y63_4.toInt + 1 := (ox_13 (qi_add ex205 rfl (by decide) (ox_11 g63_0) (ox_12 g63_1)))
              refine lv_iinc (v := x205) (lv' := [(4, .int x205), (5, .int m63_i_rd_kind), (0, .ref (r 1)), (1, .int 0), (2, .int 3), (3, .int 1600)]) hx hb dX5_readFormula_117 hl (k := 5) rfl ex205.symm (by decide) rfl (fun ls hl => ?_)
              refine lv_goto (tgt := 63) hx hb dX5_readFormula_120 (by decide) ?_
              exact ih63 x205 x114 x115 x116 x162 J163 H160 _ _ (ox_14 g63_0 f206) (ox_15 f56 f206) (ox_18 im126 im127) (ox_19 im126 im127) (ox_973 im187 im188) (ox_974 im187 im188) im126 im127 im187 im188 hP hD hS (lv_sub hl [2, 3, 4, 5, 0] rfl) (ox_810 hM63 f206)
    exact L63 (-1 * (0 : Int32).toInt + 1600 + 1).toNat 0 x7 x8 x9 x10 J11 H5 _ _ (ox_27 zc_0) (ox_811 zc_0) (ox_18 im19 im20) (ox_19 im19 im20) (ox_973 im35 im36) (ox_974 im35 im36) im19 im20 im35 im36 hP hD hS (lv_sub hl [2, 3, 4, 1, 0] rfl) (mlt (ox_812 zc_0))
  · skip
    have f207 : i_rd_fault.toInt ≠ 0 := qi_ne c_1 rfl zc_0
    rw [hQ]
    exact W.vret hx hb hr (fun t ht hW => ⟨⟨(), rfl, trivial, ⟨i_rd_fault, i_rd_token, i_rd_kind, i_fB_length, J, by rw [ht]; exact hP, hD, hI⟩⟩, hS.F ht⟩) hS.2.2 dX5_readFormula_7
