set_option maxHeartbeats 4000000 in
set_option maxRecDepth 100000 in
theorem kX5_readFormula_v2 (l : Launch) (dC : Nat → ClassId) (dI : Nat → Nat → Nat) (r : Nat → Nat) (ct : Nat → ClassId) (i_tapeLength i_time i_lyingCount i_rd_fault i_rd_token i_rd_kind i_sc_count i_sc_at i_A_tunes i_A_houses i_fA_length i_B_tunes i_B_houses i_fB_length i_acts_done i_acts_undone i_kn_count : Int32) (f_boxes f_boxKept f_trial f_offers f_A_noteCounts f_A_notes f_B_noteCounts f_B_notes f_now_where f_now_worn f_ahead_where f_ahead_worn f_acts_rows f_kn_tunes f_kn_noteTimes : Nat → Int32) (J : Nat → Nat → Int32) (L : Nat → Nat → Int64) (sz : Nat) (hI : (IX i_tapeLength i_time i_lyingCount i_rd_token i_sc_count i_sc_at i_A_tunes i_A_houses i_fA_length i_B_tunes i_B_houses i_fB_length i_acts_done i_acts_undone i_kn_count f_boxes f_A_noteCounts f_A_notes f_B_noteCounts f_B_notes f_now_worn f_ahead_worn f_acts_rows f_kn_tunes)) : Met l yX5_readFormula (.code yX5_readFormula cX5_readFormula 6 none :: GW) { frames := 112, cells := 0, slots := 0, locals := 3651 } (va_Pc [.ref (r 1), .int 2, .int 0] (pW (dC, dI) (WX r ct i_tapeLength i_time i_lyingCount i_rd_fault i_rd_token i_rd_kind i_sc_count i_sc_at i_A_tunes i_A_houses i_fA_length i_B_tunes i_B_houses i_fB_length i_acts_done i_acts_undone i_kn_count f_boxes f_boxKept f_trial f_offers f_A_noteCounts f_A_notes f_B_noteCounts f_B_notes f_now_where f_now_worn f_ahead_where f_ahead_worn f_acts_rows f_kn_tunes f_kn_noteTimes J L) (TX ct) sz)) (va_Qv (fun _ : Unit => True) (fun (_ : Unit) (t : State) => ∃ (n_i_rd_fault n_i_rd_token n_i_rd_kind n_i_fB_length : Int32) (n_J : Nat → Nat → Int32), va_P (dC, dI) vwCl (WX r ct i_tapeLength i_time i_lyingCount n_i_rd_fault n_i_rd_token n_i_rd_kind i_sc_count i_sc_at i_A_tunes i_A_houses i_fA_length i_B_tunes i_B_houses n_i_fB_length i_acts_done i_acts_undone i_kn_count f_boxes f_boxKept f_trial f_offers f_A_noteCounts f_A_notes f_B_noteCounts f_B_notes f_now_where f_now_worn f_ahead_where f_ahead_worn f_acts_rows f_kn_tunes f_kn_noteTimes n_J L) t.heap ∧ va_D (va_A (WX r ct i_tapeLength i_time i_lyingCount i_rd_fault i_rd_token i_rd_kind i_sc_count i_sc_at i_A_tunes i_A_houses i_fA_length i_B_tunes i_B_houses i_fB_length i_acts_done i_acts_undone i_kn_count f_boxes f_boxKept f_trial f_offers f_A_noteCounts f_A_notes f_B_noteCounts f_B_notes f_now_where f_now_worn f_ahead_where f_ahead_worn f_acts_rows f_kn_tunes f_kn_noteTimes J L) sz) (WX r ct i_tapeLength i_time i_lyingCount n_i_rd_fault n_i_rd_token n_i_rd_kind i_sc_count i_sc_at i_A_tunes i_A_houses i_fA_length i_B_tunes i_B_houses n_i_fB_length i_acts_done i_acts_undone i_kn_count f_boxes f_boxKept f_trial f_offers f_A_noteCounts f_A_notes f_B_noteCounts f_B_notes f_now_where f_now_worn f_ahead_where f_ahead_worn f_acts_rows f_kn_tunes f_kn_noteTimes n_J L) ∧ (IX i_tapeLength i_time i_lyingCount n_i_rd_token i_sc_count i_sc_at i_A_tunes i_A_houses i_fA_length i_B_tunes i_B_houses n_i_fB_length i_acts_done i_acts_undone i_kn_count f_boxes f_A_noteCounts f_A_notes f_B_noteCounts f_B_notes f_now_worn f_ahead_worn f_acts_rows f_kn_tunes)) (va_A (WX r ct i_tapeLength i_time i_lyingCount i_rd_fault i_rd_token i_rd_kind i_sc_count i_sc_at i_A_tunes i_A_houses i_fA_length i_B_tunes i_B_houses i_fB_length i_acts_done i_acts_undone i_kn_count f_boxes f_boxKept f_trial f_offers f_A_noteCounts f_A_notes f_B_noteCounts f_B_notes f_now_where f_now_worn f_ahead_where f_ahead_worn f_acts_rows f_kn_tunes f_kn_noteTimes J L) sz)) 0 0 (va_A (WX r ct i_tapeLength i_time i_lyingCount i_rd_fault i_rd_token i_rd_kind i_sc_count i_sc_at i_A_tunes i_A_houses i_fA_length i_B_tunes i_B_houses i_fB_length i_acts_done i_acts_undone i_kn_count f_boxes f_boxKept f_trial f_offers f_A_noteCounts f_A_notes f_B_noteCounts f_B_notes f_now_where f_now_worn f_ahead_where f_ahead_worn f_acts_rows f_kn_tunes f_kn_noteTimes J L) sz) := by
  refine Met.ofW (cc := cX5_readFormula) (maxL := 6) (ret := none) (by decide) rfl ?_
  intro p e s m args below meth c0 s₁ B hml hv
  obtain ⟨rfl, hsz, hP, hK, hD0⟩ := hv
  have hx := B.exec
  have hb := B.bytes
  have hr := B.returns
  have hts := atoms_spec (ws := .code yX5_readFormula cX5_readFormula 6 none :: GW) B.pre
  have hG : ∀ w ∈ GW, w.before _ s = true := fun w h => hts w (List.mem_cons_of_mem _ h)
  have hown : s.vm.findClass RX5 = some m.cls := findClass_of_methodNamed B.named
  subst hsz
  have hD := hD0.self (sz := s.heap.size)
  generalize hAe : va_A (WX r ct i_tapeLength i_time i_lyingCount i_rd_fault i_rd_token i_rd_kind i_sc_count i_sc_at i_A_tunes i_A_houses i_fA_length i_B_tunes i_B_houses i_fB_length i_acts_done i_acts_undone i_kn_count f_boxes f_boxKept f_trial f_offers f_A_noteCounts f_A_notes f_B_noteCounts f_B_notes f_now_where f_now_worn f_ahead_where f_ahead_worn f_acts_rows f_kn_tunes f_kn_noteTimes J L) s.heap.size = A at hD ⊢
  have hA : ∀ q : Nat, s.heap.size ≤ q → A q := fun q h => by rw [← hAe]; exact Or.inr h
  have hS : va_S A s.heap s.heap [] := va_S.rf
  have hP : va_P (dC, dI) vwCl (WX r ct i_tapeLength i_time i_lyingCount i_rd_fault i_rd_token i_rd_kind i_sc_count i_sc_at i_A_tunes i_A_houses i_fA_length i_B_tunes i_B_houses i_fB_length i_acts_done i_acts_undone i_kn_count f_boxes f_boxKept f_trial f_offers f_A_noteCounts f_A_notes f_B_noteCounts f_B_notes f_now_where f_now_worn f_ahead_where f_ahead_worn f_acts_rows f_kn_tunes f_kn_noteTimes J L) s.heap := hP
  have hl := lv_entry ([.ref (r 1), .int 2, .int 0]) (n := 6) (Nat.le_of_ble_eq_true rfl)
  rw [lg_entry_eq]
  generalize (lg_sl ([.ref (r 1), .int 2, .int 0]) ++ List.replicate (6 - (lg_sl ([.ref (r 1), .int 2, .int 0])).length) Slot.unset).toArray = ls at hl ⊢
  have hl : lv_has ls 6 [(0, .ref (r 1)), (1, .int 2), (2, .int 0)] := hl
  refine nameQ (fun Q hQ => ?_)
  obtain ⟨ie0, ie1, ie2, ie3, ie4, ie5, ie6, ie7, ie8, ie9, ie10, ie11, ie12, ie13, ie14, ie15, ie16, ie17, ie18, ie19, ie20, ie21, ie22, ie23, ie24, ie25, ie26, ie27, ie28, ie29, ie30, ie31, ie32, ie33, ie34, ie35, ie36, ie37, ie38, ie39⟩ := id hI
  refine lv_aload_n hx hb dX5_readFormula_0 rfl (lv_at hl 0 rfl) ?_
  refine gX_X5_43_1 hx hb hG hown hK hP dX5_readFormula_1 ?_
  refine lv_if_eq (tgt := 8) hx hb dX5_readFormula_4 (by decide) (fun c_1 => ?_) (fun c_1 => ?_)
  · skip
    have f2 : i_rd_fault.toInt = 0 := qi_eq c_1 rfl zc_0
    refine lv_iload_n hx hb dX5_readFormula_8 rfl (lv_at hl 1 rfl) ?_
    refine lv_iconst (v := 5) hx hb dX5_readFormula_9 (by decide) ?_
    refine lv_icmp_lt (tgt := 19) hx hb dX5_readFormula_10 (by decide) (fun c_3 => ?_) (fun c_3 => absurd (by decide) c_3)
    refine lv_iload_n hx hb dX5_readFormula_19 rfl (lv_at hl 1 rfl) ?_
    refine lv_iconst (v := 2) hx hb dX5_readFormula_20 (by decide) ?_
    refine lv_icmp_ne (tgt := 39) hx hb dX5_readFormula_21 (by decide) (fun c_4 => absurd (by decide) c_4) (fun c_4 => ?_)
    refine lv_aload_n hx hb dX5_readFormula_24 rfl (lv_at hl 0 rfl) ?_
    refine gX_X5_66_1 hx hb hG hown hK hP dX5_readFormula_25 ?_
    refine lv_bipush (v := 111) hx hb dX5_readFormula_28 (by decide) ?_
    refine lv_icmp_ne (tgt := 39) hx hb dX5_readFormula_30 (by decide) (fun c_5 => ?_) (fun c_5 => ?_)
    · skip
      have f6 : i_rd_kind.toInt ≠ 111 := qi_ne c_5 rfl zc_111
      refine lv_aload_n hx hb dX5_readFormula_39 rfl (lv_at hl 0 rfl) ?_
      refine lv_iload_n hx hb dX5_readFormula_40 rfl (lv_at hl 1 rfl) ?_
      refine lv_iconst (v := 1) hx hb dX5_readFormula_41 (by decide) ?_
      refine lv_iadd hx hb dX5_readFormula_42 ?_
      refine wt_c (v := 3) (by decide) ?_
      refine lv_iload_n hx hb dX5_readFormula_43 rfl (lv_at hl 2 rfl) ?_
      have hFc := frA hD hS hA
      refine va_callv (va_runV (As := [.int 3, .int 0]) (rest := []) ⟨hx, hb, hml, hown, hG⟩ (kX5_readFormula_v3 l dC dI r ct i_tapeLength i_time i_lyingCount i_rd_fault i_rd_token i_rd_kind i_sc_count i_sc_at i_A_tunes i_A_houses i_fA_length i_B_tunes i_B_houses i_fB_length i_acts_done i_acts_undone i_kn_count f_boxes f_boxKept f_trial f_offers f_A_noteCounts f_A_notes f_B_noteCounts f_B_notes f_now_where f_now_worn f_ahead_where f_ahead_worn f_acts_rows f_kn_tunes f_kn_noteTimes J L s.heap.size hI) (cwV 2 hG (goodV gw660 gw662 gw17 gw130 gw663) rfl rfl rfl hd_X5_readFormula ⟨(Nat.le_of_ble_eq_true rfl), (Nat.le_of_ble_eq_true rfl)⟩) ⟨fbW, va_recv hK hP (ci := 4) (q0 := 1) rfl rfl, pW_in hP hK hD⟩ rfl rfl hl.1 rfl (lv_room (Nat.le_of_ble_eq_true rfl)) dX5_readFormula_44 ⟨(Nat.le_of_ble_eq_true rfl), (Nat.le_of_ble_eq_true rfl)⟩) hS (fun q _ h => hFc q h) hFc (fun _ t_ H7 locs ht hvm hw hB hz1 hk1 hS => ?_)
      obtain ⟨x9, x10, x11, x12, J13, hP1, hD1, hI14⟩ := hB
      rw [ht] at hP1
      have hP := hP1
      have hD := dW hFc hD1
      obtain ⟨im15, im16, im17, im18, im19, im20, im21, im22, im23, im24, im25, im26, im27, im28, im29, im30, im31, im32, im33, im34, im35, im36, im37, im38, im39, im40, im41, im42, im43, im44, im45, im46, im47, im48, im49, im50, im51, im52, im53, im54⟩ := id hI14
      refine lv_iload_n hx hb dX5_readFormula_47 rfl (lv_at hl 1 rfl) ?_
      refine lv_iconst (v := 2) hx hb dX5_readFormula_48 (by decide) ?_
      refine lv_icmp_ne (tgt := 56) hx hb dX5_readFormula_49 (by decide) (fun c_55 => absurd (by decide) c_55) (fun c_55 => ?_)
      refine lv_iconst (v := 1) hx hb dX5_readFormula_52 (by decide) ?_
      refine lv_goto (tgt := 59) hx hb dX5_readFormula_53 (by decide) ?_
      refine lv_istore_n (lv' := [(3, .int 1), (0, .ref (r 1)), (1, .int 2), (2, .int 0)]) hx hb dX5_readFormula_59 rfl hl (by decide) rfl (fun ls hl => ?_)
      refine lv_iconst (v := 0) hx hb dX5_readFormula_60 (by decide) ?_
      refine lv_istore (lv' := [(4, .int 0), (3, .int 1), (0, .ref (r 1)), (1, .int 2), (2, .int 0)]) hx hb dX5_readFormula_61 hl (by decide) rfl (fun ls hl => ?_)
      have L63 : ∀ (N63 : Nat) (y63_4 : Int32) (m63_i_rd_fault m63_i_rd_token m63_i_rd_kind m63_i_fB_length : Int32) (m63_J : Nat → Nat → Int32) (H63 : Heap) (locs : List Loc) (ls : Array Slot) (g63_0 : (0 : Int) ≤ y63_4.toInt) (g63_1 : y63_4.toInt ≤ (1 : Int)) (g63_2 : (0 : Int) ≤ m63_i_rd_token.toInt) (g63_3 : m63_i_rd_token.toInt ≤ (1600 : Int)) (g63_4 : (0 : Int) ≤ m63_i_fB_length.toInt) (g63_5 : m63_i_fB_length.toInt ≤ (300 : Int)) (gi63_i_rd_token_lo : (0 : Int) ≤ m63_i_rd_token.toInt) (gi63_i_rd_token_hi : m63_i_rd_token.toInt ≤ (1600 : Int)) (gi63_i_fB_length_lo : (0 : Int) ≤ m63_i_fB_length.toInt) (gi63_i_fB_length_hi : m63_i_fB_length.toInt ≤ (300 : Int)) (hP : va_P (dC, dI) vwCl (WX r ct i_tapeLength i_time i_lyingCount m63_i_rd_fault m63_i_rd_token m63_i_rd_kind i_sc_count i_sc_at i_A_tunes i_A_houses i_fA_length i_B_tunes i_B_houses m63_i_fB_length i_acts_done i_acts_undone i_kn_count f_boxes f_boxKept f_trial f_offers f_A_noteCounts f_A_notes f_B_noteCounts f_B_notes f_now_where f_now_worn f_ahead_where f_ahead_worn f_acts_rows f_kn_tunes f_kn_noteTimes m63_J L) H63) (hD : va_D A (WX r ct i_tapeLength i_time i_lyingCount m63_i_rd_fault m63_i_rd_token m63_i_rd_kind i_sc_count i_sc_at i_A_tunes i_A_houses i_fA_length i_B_tunes i_B_houses m63_i_fB_length i_acts_done i_acts_undone i_kn_count f_boxes f_boxKept f_trial f_offers f_A_noteCounts f_A_notes f_B_noteCounts f_B_notes f_now_where f_now_worn f_ahead_where f_ahead_worn f_acts_rows f_kn_tunes f_kn_noteTimes m63_J L)) (hS : va_S A s.heap H63 locs) (hl : lv_has ls 6 [(0, .ref (r 1)), (1, .int 2), (2, .int 0), (3, .int 1), (4, .int y63_4)]) (hM : -1 * y63_4.toInt + 1 < (N63 : Int)), W p l e { frames := 112, cells := 0, slots := 0, locals := 3651 } s m ([.ref (r 1), .int 2, .int 0] : List Value).toArray below meth c0 H63 locs 0 0 Q (F0 m 63 ls []) := by
        intro N63
        induction N63 with
        | zero =>
          intro y63_4 m63_i_rd_fault m63_i_rd_token m63_i_rd_kind m63_i_fB_length m63_J H63 locs ls g63_0 g63_1 g63_2 g63_3 g63_4 g63_5 gi63_i_rd_token_lo gi63_i_rd_token_hi gi63_i_fB_length_lo gi63_i_fB_length_hi hP hD hS hl hM
          exact ((ox_975 hM g63_0 g63_1)).elim
        | succ N63 ih63 =>
          intro y63_4 m63_i_rd_fault m63_i_rd_token m63_i_rd_kind m63_i_fB_length m63_J H63 locs ls g63_0 g63_1 g63_2 g63_3 g63_4 g63_5 gi63_i_rd_token_lo gi63_i_rd_token_hi gi63_i_fB_length_lo gi63_i_fB_length_hi hP hD hS hl hM
          have hM63 := msucc hM
          refine lv_iload hx hb dX5_readFormula_63 (lv_at hl 4 rfl) ?_
          refine lv_iload_n hx hb dX5_readFormula_65 rfl (lv_at hl 3 rfl) ?_
          refine lv_icmp_ge (tgt := 123) hx hb dX5_readFormula_66 (by decide) (fun c_56 => ?_) (fun c_56 => ?_)
          · skip
            have f57 : 1 ≤ y63_4.toInt := qi_le c_56 zc_1 rfl
            rw [hQ]
            exact W.vret hx hb hr (fun t ht hW => ⟨⟨(), rfl, trivial, ⟨m63_i_rd_fault, m63_i_rd_token, m63_i_rd_kind, m63_i_fB_length, m63_J, by rw [ht]; exact hP, hD, ⟨ie0, ie1, ie2, ie3, ie4, ie5, gi63_i_rd_token_lo, gi63_i_rd_token_hi, ie8, ie9, ie10, ie11, ie12, ie13, ie14, ie15, ie16, ie17, ie18, ie19, ie20, ie21, gi63_i_fB_length_lo, gi63_i_fB_length_hi, ie24, ie25, ie26, ie27, ie28, ie29, ie30, ie31, ie32, ie33, ie34, ie35, ie36, ie37, ie38, ie39⟩⟩⟩, hS.F ht⟩) hS.2.2 dX5_readFormula_123
          · skip
            have f58 : y63_4.toInt < 1 := qi_nle c_56 zc_1 rfl
            refine lv_aload_n hx hb dX5_readFormula_69 rfl (lv_at hl 0 rfl) ?_
            refine gX_X5_43_1 hx hb hG hown hK hP dX5_readFormula_70 ?_
            refine lv_if_ne (tgt := 123) hx hb dX5_readFormula_73 (by decide) (fun c_59 => ?_) (fun c_59 => ?_)
            · skip
              have f60 : m63_i_rd_fault.toInt ≠ 0 := qi_ne c_59 rfl zc_0
              rw [hQ]
              exact W.vret hx hb hr (fun t ht hW => ⟨⟨(), rfl, trivial, ⟨m63_i_rd_fault, m63_i_rd_token, m63_i_rd_kind, m63_i_fB_length, m63_J, by rw [ht]; exact hP, hD, ⟨ie0, ie1, ie2, ie3, ie4, ie5, gi63_i_rd_token_lo, gi63_i_rd_token_hi, ie8, ie9, ie10, ie11, ie12, ie13, ie14, ie15, ie16, ie17, ie18, ie19, ie20, ie21, gi63_i_fB_length_lo, gi63_i_fB_length_hi, ie24, ie25, ie26, ie27, ie28, ie29, ie30, ie31, ie32, ie33, ie34, ie35, ie36, ie37, ie38, ie39⟩⟩⟩, hS.F ht⟩) hS.2.2 dX5_readFormula_123
            · skip
              have f61 : m63_i_rd_fault.toInt = 0 := qi_eq c_59 rfl zc_0
              refine lv_aload_n hx hb dX5_readFormula_76 rfl (lv_at hl 0 rfl) ?_
              refine gX_X5_66_1 hx hb hG hown hK hP dX5_readFormula_77 ?_
              refine va_calli (va_runS (As := [.int m63_i_rd_kind]) (rest := []) ⟨hx, hb, hml, hown, hG⟩ (kX2_levelOf l dC dI m63_i_rd_kind H63.size) (va_cwS 1 hG (goodS gw678 gw613 gw144 gw614) rfl rfl rfl hd_X2_levelOf ⟨(Nat.le_of_ble_eq_true rfl), (Nat.le_of_ble_eq_true rfl)⟩) ⟨fbR, pR_in emptyP (emptyK hK)⟩ rfl rfl hl.1 rfl (lv_room (Nat.le_of_ble_eq_true rfl)) dX5_readFormula_80 ⟨(Nat.le_of_ble_eq_true rfl), (Nat.le_of_ble_eq_true rfl)⟩) hS (fun q hq h => absurd hq (Nat.not_lt.mpr h)) (fun q h => hA q (Nat.le_trans hS.1 h)) (fun r_63 u_ t_ H62 locs ht hvm hw hB hz1 hk1 hS => ?_)
              subst hw
              have hP := wk hP hk1
              obtain ⟨f64, f65⟩ := hB
              refine lv_iload_n hx hb dX5_readFormula_83 rfl (lv_at hl 1 rfl) ?_
              refine lv_icmp_ne (tgt := 123) hx hb dX5_readFormula_84 (by decide) (fun c_66 => ?_) (fun c_66 => ?_)
              · skip
                have f67 : r_63.toInt ≠ 2 := qi_ne c_66 rfl zc_2
                rw [hQ]
                exact W.vret hx hb hr (fun t ht hW => ⟨⟨(), rfl, trivial, ⟨m63_i_rd_fault, m63_i_rd_token, m63_i_rd_kind, m63_i_fB_length, m63_J, by rw [ht]; exact hP, hD, ⟨ie0, ie1, ie2, ie3, ie4, ie5, gi63_i_rd_token_lo, gi63_i_rd_token_hi, ie8, ie9, ie10, ie11, ie12, ie13, ie14, ie15, ie16, ie17, ie18, ie19, ie20, ie21, gi63_i_fB_length_lo, gi63_i_fB_length_hi, ie24, ie25, ie26, ie27, ie28, ie29, ie30, ie31, ie32, ie33, ie34, ie35, ie36, ie37, ie38, ie39⟩⟩⟩, hS.F ht⟩) hS.2.2 dX5_readFormula_123
              · skip
                have f68 : r_63.toInt = 2 := qi_eq c_66 rfl zc_2
                refine lv_aload_n hx hb dX5_readFormula_87 rfl (lv_at hl 0 rfl) ?_
                refine gX_X5_66_1 hx hb hG hown hK hP dX5_readFormula_88 ?_
                refine lv_istore (lv' := [(5, .int m63_i_rd_kind), (0, .ref (r 1)), (1, .int 2), (2, .int 0), (3, .int 1), (4, .int y63_4)]) hx hb dX5_readFormula_91 hl (by decide) rfl (fun ls hl => ?_)
                refine lv_aload_n hx hb dX5_readFormula_93 rfl (lv_at hl 1 rfl) ?_
                have hFc := frA hD hS hA
                refine va_callv (va_runV (As := []) (rest := []) ⟨hx, hb, hml, hown, hG⟩ (kX5_advance l dC dI r ct i_tapeLength i_time i_lyingCount m63_i_rd_fault m63_i_rd_token m63_i_rd_kind i_sc_count i_sc_at i_A_tunes i_A_houses i_fA_length i_B_tunes i_B_houses m63_i_fB_length i_acts_done i_acts_undone i_kn_count f_boxes f_boxKept f_trial f_offers f_A_noteCounts f_A_notes f_B_noteCounts f_B_notes f_now_where f_now_worn f_ahead_where f_ahead_worn f_acts_rows f_kn_tunes f_kn_noteTimes m63_J L H62.size ⟨ie0, ie1, ie2, ie3, ie4, ie5, gi63_i_rd_token_lo, gi63_i_rd_token_hi, ie8, ie9, ie10, ie11, ie12, ie13, ie14, ie15, ie16, ie17, ie18, ie19, ie20, ie21, gi63_i_fB_length_lo, gi63_i_fB_length_hi, ie24, ie25, ie26, ie27, ie28, ie29, ie30, ie31, ie32, ie33, ie34, ie35, ie36, ie37, ie38, ie39⟩) (cwV 0 hG (goodV gw635 gw637 gw11 gw130 gw638) rfl rfl rfl hd_X5_advance ⟨(Nat.le_of_ble_eq_true rfl), (Nat.le_of_ble_eq_true rfl)⟩) ⟨fbW, va_recv hK hP (ci := 4) (q0 := 1) rfl rfl, pW_in hP hK hD⟩ rfl rfl hl.1 rfl (lv_room (Nat.le_of_ble_eq_true rfl)) dX5_readFormula_94 ⟨(Nat.le_of_ble_eq_true rfl), (Nat.le_of_ble_eq_true rfl)⟩) hS (fun q _ h => hFc q h) hFc (fun _ t_ H69 locs ht hvm hw hB hz1 hk1 hS => ?_)
                obtain ⟨x71, x72, hP1, hD1, hI73⟩ := hB
                rw [ht] at hP1
                have hP := hP1
                have hD := dW hFc hD1
                obtain ⟨im74, im75, im76, im77, im78, im79, im80, im81, im82, im83, im84, im85, im86, im87, im88, im89, im90, im91, im92, im93, im94, im95, im96, im97, im98, im99, im100, im101, im102, im103, im104, im105, im106, im107, im108, im109, im110, im111, im112, im113⟩ := id hI73
                refine lv_aload_n hx hb dX5_readFormula_97 rfl (lv_at hl 1 rfl) ?_
                refine lv_iload_n hx hb dX5_readFormula_98 rfl (lv_at hl 2 rfl) ?_
                refine lv_iconst (v := 1) hx hb dX5_readFormula_99 (by decide) ?_
                refine lv_iadd hx hb dX5_readFormula_100 ?_
                refine wt_c (v := 3) (by decide) ?_
                refine lv_iload_n hx hb dX5_readFormula_101 rfl (lv_at hl 3 rfl) ?_
                have hFc := frA hD hS hA
                refine va_callv (va_runV (As := [.int 3, .int 0]) (rest := []) ⟨hx, hb, hml, hown, hG⟩ (kX5_readFormula_v3 l dC dI r ct i_tapeLength i_time i_lyingCount m63_i_rd_fault x71 x72 i_sc_count i_sc_at i_A_tunes i_A_houses i_fA_length i_B_tunes i_B_houses m63_i_fB_length i_acts_done i_acts_undone i_kn_count f_boxes f_boxKept f_trial f_offers f_A_noteCounts f_A_notes f_B_noteCounts f_B_notes f_now_where f_now_worn f_ahead_where f_ahead_worn f_acts_rows f_kn_tunes f_kn_noteTimes m63_J L H69.size hI73) (cwV 2 hG (goodV gw660 gw662 gw17 gw130 gw663) rfl rfl rfl hd_X5_readFormula ⟨(Nat.le_of_ble_eq_true rfl), (Nat.le_of_ble_eq_true rfl)⟩) ⟨fbW, va_recv hK hP (ci := 4) (q0 := 1) rfl rfl, pW_in hP hK hD⟩ rfl rfl hl.1 rfl (lv_room (Nat.le_of_ble_eq_true rfl)) dX5_readFormula_102 ⟨(Nat.le_of_ble_eq_true rfl), (Nat.le_of_ble_eq_true rfl)⟩) hS (fun q _ h => hFc q h) hFc (fun _ t_ H114 locs ht hvm hw hB hz1 hk1 hS => ?_)
                obtain ⟨x116, x117, x118, x119, J120, hP1, hD1, hI121⟩ := hB
                rw [ht] at hP1
                have hP := hP1
                have hD := dW hFc hD1
                obtain ⟨im122, im123, im124, im125, im126, im127, im128, im129, im130, im131, im132, im133, im134, im135, im136, im137, im138, im139, im140, im141, im142, im143, im144, im145, im146, im147, im148, im149, im150, im151, im152, im153, im154, im155, im156, im157, im158, im159, im160, im161⟩ := id hI121
                refine lv_aload_n hx hb dX5_readFormula_105 rfl (lv_at hl 1 rfl) ?_
                refine gX_X5_25_1 hx hb hG hown hK hP dX5_readFormula_106 ?_
                refine gX_X5_104_5 hx hb hG hown hK hP dX5_readFormula_109 ?_
                refine lv_iload hx hb dX5_readFormula_112 (lv_at hl 0 rfl) ?_
                have hFc := frA hD hS hA
                refine va_callv (va_runV (As := [.int m63_i_rd_kind]) (rest := []) ⟨hx, hb, hml, hown, hG⟩ (kX1_addOperator l dC dI r ct i_tapeLength i_time i_lyingCount x116 x117 x118 i_sc_count i_sc_at i_A_tunes i_A_houses i_fA_length i_B_tunes i_B_houses x119 i_acts_done i_acts_undone i_kn_count f_boxes f_boxKept f_trial f_offers f_A_noteCounts f_A_notes f_B_noteCounts f_B_notes f_now_where f_now_worn f_ahead_where f_ahead_worn f_acts_rows f_kn_tunes f_kn_noteTimes J120 L m63_i_rd_kind H114.size hI121) (cwV 1 hG (goodV gw677 gw231 gw232 gw133 gw233) rfl rfl rfl hd_X1_addOperator ⟨(Nat.le_of_ble_eq_true rfl), (Nat.le_of_ble_eq_true rfl)⟩) ⟨fbW, va_recv hK hP (ci := 1) (q0 := 6) rfl rfl, pW_in hP hK hD⟩ rfl rfl hl.1 rfl (lv_room (Nat.le_of_ble_eq_true rfl)) dX5_readFormula_114 ⟨(Nat.le_of_ble_eq_true rfl), (Nat.le_of_ble_eq_true rfl)⟩) hS (fun q _ h => hFc q h) hFc (fun _ t_ H162 locs ht hvm hw hB hz1 hk1 hS => ?_)
                obtain ⟨x164, J165, hP1, hD1, hI166⟩ := hB
                rw [ht] at hP1
                have hP := hP1
                have hD := dW hFc hD1
                obtain ⟨im167, im168, im169, im170, im171, im172, im173, im174, im175, im176, im177, im178, im179, im180, im181, im182, im183, im184, im185, im186, im187, im188, im189, im190, im191, im192, im193, im194, im195, im196, im197, im198, im199, im200, im201, im202, im203, im204, im205, im206⟩ := id hI166
                obtain ⟨x207, ex207⟩ : ∃ y : Int32, y = y63_4 + Int32.ofInt 1 := ⟨_, rfl⟩
                have f208 : x207.toInt = y63_4.toInt + 1 := (ox_13 (qi_add ex207 rfl (by decide) (ox_11 g63_0) (ox_976 g63_1)))
                refine lv_iinc (v := x207) (lv' := [(4, .int x207), (5, .int m63_i_rd_kind), (0, .ref (r 1)), (1, .int 2), (2, .int 0), (3, .int 1)]) hx hb dX5_readFormula_117 hl (k := 5) rfl ex207.symm (by decide) rfl (fun ls hl => ?_)
                refine lv_goto (tgt := 63) hx hb dX5_readFormula_120 (by decide) ?_
                exact ih63 x207 x116 x117 x118 x164 J165 H162 _ _ (ox_14 g63_0 f208) (ox_977 f58 f208) (ox_18 im128 im129) (ox_19 im128 im129) (ox_973 im189 im190) (ox_974 im189 im190) im128 im129 im189 im190 hP hD hS (lv_sub hl [2, 3, 4, 5, 0] rfl) (ox_978 hM63 f208)
      exact L63 (-1 * (0 : Int32).toInt + 1 + 1).toNat 0 x9 x10 x11 x12 J13 H7 _ _ (ox_27 zc_0) (ox_28 zc_0) (ox_18 im21 im22) (ox_19 im21 im22) (ox_973 im37 im38) (ox_974 im37 im38) im21 im22 im37 im38 hP hD hS (lv_sub hl [2, 3, 4, 1, 0] rfl) (mlt (ox_979 zc_0))
    · skip
      have f209 : i_rd_kind.toInt = 111 := qi_eq c_5 rfl zc_111
      refine lv_aload_n hx hb dX5_readFormula_33 rfl (lv_at hl 0 rfl) ?_
      refine lv_iload_n hx hb dX5_readFormula_34 rfl (lv_at hl 2 rfl) ?_
      have hFc := frA hD hS hA
      refine va_callv (va_runV (As := [.int 0]) (rest := []) ⟨hx, hb, hml, hown, hG⟩ (kX5_readNot_v7 l dC dI r ct i_tapeLength i_time i_lyingCount i_rd_fault i_rd_token i_rd_kind i_sc_count i_sc_at i_A_tunes i_A_houses i_fA_length i_B_tunes i_B_houses i_fB_length i_acts_done i_acts_undone i_kn_count f_boxes f_boxKept f_trial f_offers f_A_noteCounts f_A_notes f_B_noteCounts f_B_notes f_now_where f_now_worn f_ahead_where f_ahead_worn f_acts_rows f_kn_tunes f_kn_noteTimes J L s.heap.size hI) (cwV 1 hG (goodV gw673 gw675 gw19 gw130 gw676) rfl rfl rfl hd_X5_readNot ⟨(Nat.le_of_ble_eq_true rfl), (Nat.le_of_ble_eq_true rfl)⟩) ⟨fbW, va_recv hK hP (ci := 4) (q0 := 1) rfl rfl, pW_in hP hK hD⟩ rfl rfl hl.1 rfl (lv_room (Nat.le_of_ble_eq_true rfl)) dX5_readFormula_35 ⟨(Nat.le_of_ble_eq_true rfl), (Nat.le_of_ble_eq_true rfl)⟩) hS (fun q _ h => hFc q h) hFc (fun _ t_ H210 locs ht hvm hw hB hz1 hk1 hS => ?_)
      obtain ⟨x212, x213, x214, x215, J216, hP1, hD1, hI217⟩ := hB
      rw [ht] at hP1
      have hP := hP1
      have hD := dW hFc hD1
      obtain ⟨im218, im219, im220, im221, im222, im223, im224, im225, im226, im227, im228, im229, im230, im231, im232, im233, im234, im235, im236, im237, im238, im239, im240, im241, im242, im243, im244, im245, im246, im247, im248, im249, im250, im251, im252, im253, im254, im255, im256, im257⟩ := id hI217
      rw [hQ]
      exact W.vret hx hb hr (fun t ht hW => ⟨⟨(), rfl, trivial, ⟨x212, x213, x214, x215, J216, by rw [ht]; exact hP, hD, hI217⟩⟩, hS.F ht⟩) hS.2.2 dX5_readFormula_38
  · skip
    have f258 : i_rd_fault.toInt ≠ 0 := qi_ne c_1 rfl zc_0
    rw [hQ]
    exact W.vret hx hb hr (fun t ht hW => ⟨⟨(), rfl, trivial, ⟨i_rd_fault, i_rd_token, i_rd_kind, i_fB_length, J, by rw [ht]; exact hP, hD, hI⟩⟩, hS.F ht⟩) hS.2.2 dX5_readFormula_7
set_option maxHeartbeats 4000000 in
set_option maxRecDepth 100000 in
theorem kX5_readFormula_v1 (l : Launch) (dC : Nat → ClassId) (dI : Nat → Nat → Nat) (r : Nat → Nat) (ct : Nat → ClassId) (i_tapeLength i_time i_lyingCount i_rd_fault i_rd_token i_rd_kind i_sc_count i_sc_at i_A_tunes i_A_houses i_fA_length i_B_tunes i_B_houses i_fB_length i_acts_done i_acts_undone i_kn_count : Int32) (f_boxes f_boxKept f_trial f_offers f_A_noteCounts f_A_notes f_B_noteCounts f_B_notes f_now_where f_now_worn f_ahead_where f_ahead_worn f_acts_rows f_kn_tunes f_kn_noteTimes : Nat → Int32) (J : Nat → Nat → Int32) (L : Nat → Nat → Int64) (sz : Nat) (hI : (IX i_tapeLength i_time i_lyingCount i_rd_token i_sc_count i_sc_at i_A_tunes i_A_houses i_fA_length i_B_tunes i_B_houses i_fB_length i_acts_done i_acts_undone i_kn_count f_boxes f_A_noteCounts f_A_notes f_B_noteCounts f_B_notes f_now_worn f_ahead_worn f_acts_rows f_kn_tunes)) : Met l yX5_readFormula (.code yX5_readFormula cX5_readFormula 6 none :: GW) { frames := 114, cells := 0, slots := 0, locals := 3716 } (va_Pc [.ref (r 1), .int 1, .int 0] (pW (dC, dI) (WX r ct i_tapeLength i_time i_lyingCount i_rd_fault i_rd_token i_rd_kind i_sc_count i_sc_at i_A_tunes i_A_houses i_fA_length i_B_tunes i_B_houses i_fB_length i_acts_done i_acts_undone i_kn_count f_boxes f_boxKept f_trial f_offers f_A_noteCounts f_A_notes f_B_noteCounts f_B_notes f_now_where f_now_worn f_ahead_where f_ahead_worn f_acts_rows f_kn_tunes f_kn_noteTimes J L) (TX ct) sz)) (va_Qv (fun _ : Unit => True) (fun (_ : Unit) (t : State) => ∃ (n_i_rd_fault n_i_rd_token n_i_rd_kind n_i_fB_length : Int32) (n_J : Nat → Nat → Int32), va_P (dC, dI) vwCl (WX r ct i_tapeLength i_time i_lyingCount n_i_rd_fault n_i_rd_token n_i_rd_kind i_sc_count i_sc_at i_A_tunes i_A_houses i_fA_length i_B_tunes i_B_houses n_i_fB_length i_acts_done i_acts_undone i_kn_count f_boxes f_boxKept f_trial f_offers f_A_noteCounts f_A_notes f_B_noteCounts f_B_notes f_now_where f_now_worn f_ahead_where f_ahead_worn f_acts_rows f_kn_tunes f_kn_noteTimes n_J L) t.heap ∧ va_D (va_A (WX r ct i_tapeLength i_time i_lyingCount i_rd_fault i_rd_token i_rd_kind i_sc_count i_sc_at i_A_tunes i_A_houses i_fA_length i_B_tunes i_B_houses i_fB_length i_acts_done i_acts_undone i_kn_count f_boxes f_boxKept f_trial f_offers f_A_noteCounts f_A_notes f_B_noteCounts f_B_notes f_now_where f_now_worn f_ahead_where f_ahead_worn f_acts_rows f_kn_tunes f_kn_noteTimes J L) sz) (WX r ct i_tapeLength i_time i_lyingCount n_i_rd_fault n_i_rd_token n_i_rd_kind i_sc_count i_sc_at i_A_tunes i_A_houses i_fA_length i_B_tunes i_B_houses n_i_fB_length i_acts_done i_acts_undone i_kn_count f_boxes f_boxKept f_trial f_offers f_A_noteCounts f_A_notes f_B_noteCounts f_B_notes f_now_where f_now_worn f_ahead_where f_ahead_worn f_acts_rows f_kn_tunes f_kn_noteTimes n_J L) ∧ (IX i_tapeLength i_time i_lyingCount n_i_rd_token i_sc_count i_sc_at i_A_tunes i_A_houses i_fA_length i_B_tunes i_B_houses n_i_fB_length i_acts_done i_acts_undone i_kn_count f_boxes f_A_noteCounts f_A_notes f_B_noteCounts f_B_notes f_now_worn f_ahead_worn f_acts_rows f_kn_tunes)) (va_A (WX r ct i_tapeLength i_time i_lyingCount i_rd_fault i_rd_token i_rd_kind i_sc_count i_sc_at i_A_tunes i_A_houses i_fA_length i_B_tunes i_B_houses i_fB_length i_acts_done i_acts_undone i_kn_count f_boxes f_boxKept f_trial f_offers f_A_noteCounts f_A_notes f_B_noteCounts f_B_notes f_now_where f_now_worn f_ahead_where f_ahead_worn f_acts_rows f_kn_tunes f_kn_noteTimes J L) sz)) 0 0 (va_A (WX r ct i_tapeLength i_time i_lyingCount i_rd_fault i_rd_token i_rd_kind i_sc_count i_sc_at i_A_tunes i_A_houses i_fA_length i_B_tunes i_B_houses i_fB_length i_acts_done i_acts_undone i_kn_count f_boxes f_boxKept f_trial f_offers f_A_noteCounts f_A_notes f_B_noteCounts f_B_notes f_now_where f_now_worn f_ahead_where f_ahead_worn f_acts_rows f_kn_tunes f_kn_noteTimes J L) sz) := by
  refine Met.ofW (cc := cX5_readFormula) (maxL := 6) (ret := none) (by decide) rfl ?_
  intro p e s m args below meth c0 s₁ B hml hv
  obtain ⟨rfl, hsz, hP, hK, hD0⟩ := hv
  have hx := B.exec
  have hb := B.bytes
  have hr := B.returns
  have hts := atoms_spec (ws := .code yX5_readFormula cX5_readFormula 6 none :: GW) B.pre
  have hG : ∀ w ∈ GW, w.before _ s = true := fun w h => hts w (List.mem_cons_of_mem _ h)
  have hown : s.vm.findClass RX5 = some m.cls := findClass_of_methodNamed B.named
  subst hsz
  have hD := hD0.self (sz := s.heap.size)
  generalize hAe : va_A (WX r ct i_tapeLength i_time i_lyingCount i_rd_fault i_rd_token i_rd_kind i_sc_count i_sc_at i_A_tunes i_A_houses i_fA_length i_B_tunes i_B_houses i_fB_length i_acts_done i_acts_undone i_kn_count f_boxes f_boxKept f_trial f_offers f_A_noteCounts f_A_notes f_B_noteCounts f_B_notes f_now_where f_now_worn f_ahead_where f_ahead_worn f_acts_rows f_kn_tunes f_kn_noteTimes J L) s.heap.size = A at hD ⊢
  have hA : ∀ q : Nat, s.heap.size ≤ q → A q := fun q h => by rw [← hAe]; exact Or.inr h
  have hS : va_S A s.heap s.heap [] := va_S.rf
  have hP : va_P (dC, dI) vwCl (WX r ct i_tapeLength i_time i_lyingCount i_rd_fault i_rd_token i_rd_kind i_sc_count i_sc_at i_A_tunes i_A_houses i_fA_length i_B_tunes i_B_houses i_fB_length i_acts_done i_acts_undone i_kn_count f_boxes f_boxKept f_trial f_offers f_A_noteCounts f_A_notes f_B_noteCounts f_B_notes f_now_where f_now_worn f_ahead_where f_ahead_worn f_acts_rows f_kn_tunes f_kn_noteTimes J L) s.heap := hP
  have hl := lv_entry ([.ref (r 1), .int 1, .int 0]) (n := 6) (Nat.le_of_ble_eq_true rfl)
  rw [lg_entry_eq]
  generalize (lg_sl ([.ref (r 1), .int 1, .int 0]) ++ List.replicate (6 - (lg_sl ([.ref (r 1), .int 1, .int 0])).length) Slot.unset).toArray = ls at hl ⊢
  have hl : lv_has ls 6 [(0, .ref (r 1)), (1, .int 1), (2, .int 0)] := hl
  refine nameQ (fun Q hQ => ?_)
  obtain ⟨ie0, ie1, ie2, ie3, ie4, ie5, ie6, ie7, ie8, ie9, ie10, ie11, ie12, ie13, ie14, ie15, ie16, ie17, ie18, ie19, ie20, ie21, ie22, ie23, ie24, ie25, ie26, ie27, ie28, ie29, ie30, ie31, ie32, ie33, ie34, ie35, ie36, ie37, ie38, ie39⟩ := id hI
  refine lv_aload_n hx hb dX5_readFormula_0 rfl (lv_at hl 0 rfl) ?_
  refine gX_X5_43_1 hx hb hG hown hK hP dX5_readFormula_1 ?_
  refine lv_if_eq (tgt := 8) hx hb dX5_readFormula_4 (by decide) (fun c_1 => ?_) (fun c_1 => ?_)
  · skip
    have f2 : i_rd_fault.toInt = 0 := qi_eq c_1 rfl zc_0
    refine lv_iload_n hx hb dX5_readFormula_8 rfl (lv_at hl 1 rfl) ?_
    refine lv_iconst (v := 5) hx hb dX5_readFormula_9 (by decide) ?_
    refine lv_icmp_lt (tgt := 19) hx hb dX5_readFormula_10 (by decide) (fun c_3 => ?_) (fun c_3 => absurd (by decide) c_3)
    refine lv_iload_n hx hb dX5_readFormula_19 rfl (lv_at hl 1 rfl) ?_
    refine lv_iconst (v := 2) hx hb dX5_readFormula_20 (by decide) ?_
    refine lv_icmp_ne (tgt := 39) hx hb dX5_readFormula_21 (by decide) (fun c_4 => ?_) (fun c_4 => absurd c_4 (by decide))
    refine lv_aload_n hx hb dX5_readFormula_39 rfl (lv_at hl 0 rfl) ?_
    refine lv_iload_n hx hb dX5_readFormula_40 rfl (lv_at hl 1 rfl) ?_
    refine lv_iconst (v := 1) hx hb dX5_readFormula_41 (by decide) ?_
    refine lv_iadd hx hb dX5_readFormula_42 ?_
    refine wt_c (v := 2) (by decide) ?_
    refine lv_iload_n hx hb dX5_readFormula_43 rfl (lv_at hl 2 rfl) ?_
    have hFc := frA hD hS hA
    refine va_callv (va_runV (As := [.int 2, .int 0]) (rest := []) ⟨hx, hb, hml, hown, hG⟩ (kX5_readFormula_v2 l dC dI r ct i_tapeLength i_time i_lyingCount i_rd_fault i_rd_token i_rd_kind i_sc_count i_sc_at i_A_tunes i_A_houses i_fA_length i_B_tunes i_B_houses i_fB_length i_acts_done i_acts_undone i_kn_count f_boxes f_boxKept f_trial f_offers f_A_noteCounts f_A_notes f_B_noteCounts f_B_notes f_now_where f_now_worn f_ahead_where f_ahead_worn f_acts_rows f_kn_tunes f_kn_noteTimes J L s.heap.size hI) (cwV 2 hG (goodV gw660 gw662 gw17 gw130 gw663) rfl rfl rfl hd_X5_readFormula ⟨(Nat.le_of_ble_eq_true rfl), (Nat.le_of_ble_eq_true rfl)⟩) ⟨fbW, va_recv hK hP (ci := 4) (q0 := 1) rfl rfl, pW_in hP hK hD⟩ rfl rfl hl.1 rfl (lv_room (Nat.le_of_ble_eq_true rfl)) dX5_readFormula_44 ⟨(Nat.le_of_ble_eq_true rfl), (Nat.le_of_ble_eq_true rfl)⟩) hS (fun q _ h => hFc q h) hFc (fun _ t_ H5 locs ht hvm hw hB hz1 hk1 hS => ?_)
    obtain ⟨x7, x8, x9, x10, J11, hP1, hD1, hI12⟩ := hB
    rw [ht] at hP1
    have hP := hP1
    have hD := dW hFc hD1
    obtain ⟨im13, im14, im15, im16, im17, im18, im19, im20, im21, im22, im23, im24, im25, im26, im27, im28, im29, im30, im31, im32, im33, im34, im35, im36, im37, im38, im39, im40, im41, im42, im43, im44, im45, im46, im47, im48, im49, im50, im51, im52⟩ := id hI12
    refine lv_iload_n hx hb dX5_readFormula_47 rfl (lv_at hl 1 rfl) ?_
    refine lv_iconst (v := 2) hx hb dX5_readFormula_48 (by decide) ?_
    refine lv_icmp_ne (tgt := 56) hx hb dX5_readFormula_49 (by decide) (fun c_53 => ?_) (fun c_53 => absurd c_53 (by decide))
    refine lv_sipush (v := 1600) hx hb dX5_readFormula_56 (by decide) ?_
    refine lv_istore_n (lv' := [(3, .int 1600), (0, .ref (r 1)), (1, .int 1), (2, .int 0)]) hx hb dX5_readFormula_59 rfl hl (by decide) rfl (fun ls hl => ?_)
    refine lv_iconst (v := 0) hx hb dX5_readFormula_60 (by decide) ?_
    refine lv_istore (lv' := [(4, .int 0), (3, .int 1600), (0, .ref (r 1)), (1, .int 1), (2, .int 0)]) hx hb dX5_readFormula_61 hl (by decide) rfl (fun ls hl => ?_)
    have L63 : ∀ (N63 : Nat) (y63_4 : Int32) (m63_i_rd_fault m63_i_rd_token m63_i_rd_kind m63_i_fB_length : Int32) (m63_J : Nat → Nat → Int32) (H63 : Heap) (locs : List Loc) (ls : Array Slot) (g63_0 : (0 : Int) ≤ y63_4.toInt) (g63_1 : y63_4.toInt ≤ (1600 : Int)) (g63_2 : (0 : Int) ≤ m63_i_rd_token.toInt) (g63_3 : m63_i_rd_token.toInt ≤ (1600 : Int)) (g63_4 : (0 : Int) ≤ m63_i_fB_length.toInt) (g63_5 : m63_i_fB_length.toInt ≤ (300 : Int)) (gi63_i_rd_token_lo : (0 : Int) ≤ m63_i_rd_token.toInt) (gi63_i_rd_token_hi : m63_i_rd_token.toInt ≤ (1600 : Int)) (gi63_i_fB_length_lo : (0 : Int) ≤ m63_i_fB_length.toInt) (gi63_i_fB_length_hi : m63_i_fB_length.toInt ≤ (300 : Int)) (hP : va_P (dC, dI) vwCl (WX r ct i_tapeLength i_time i_lyingCount m63_i_rd_fault m63_i_rd_token m63_i_rd_kind i_sc_count i_sc_at i_A_tunes i_A_houses i_fA_length i_B_tunes i_B_houses m63_i_fB_length i_acts_done i_acts_undone i_kn_count f_boxes f_boxKept f_trial f_offers f_A_noteCounts f_A_notes f_B_noteCounts f_B_notes f_now_where f_now_worn f_ahead_where f_ahead_worn f_acts_rows f_kn_tunes f_kn_noteTimes m63_J L) H63) (hD : va_D A (WX r ct i_tapeLength i_time i_lyingCount m63_i_rd_fault m63_i_rd_token m63_i_rd_kind i_sc_count i_sc_at i_A_tunes i_A_houses i_fA_length i_B_tunes i_B_houses m63_i_fB_length i_acts_done i_acts_undone i_kn_count f_boxes f_boxKept f_trial f_offers f_A_noteCounts f_A_notes f_B_noteCounts f_B_notes f_now_where f_now_worn f_ahead_where f_ahead_worn f_acts_rows f_kn_tunes f_kn_noteTimes m63_J L)) (hS : va_S A s.heap H63 locs) (hl : lv_has ls 6 [(0, .ref (r 1)), (1, .int 1), (2, .int 0), (3, .int 1600), (4, .int y63_4)]) (hM : -1 * y63_4.toInt + 1600 < (N63 : Int)), W p l e { frames := 114, cells := 0, slots := 0, locals := 3716 } s m ([.ref (r 1), .int 1, .int 0] : List Value).toArray below meth c0 H63 locs 0 0 Q (F0 m 63 ls []) := by
      intro N63
      induction N63 with
      | zero =>
        intro y63_4 m63_i_rd_fault m63_i_rd_token m63_i_rd_kind m63_i_fB_length m63_J H63 locs ls g63_0 g63_1 g63_2 g63_3 g63_4 g63_5 gi63_i_rd_token_lo gi63_i_rd_token_hi gi63_i_fB_length_lo gi63_i_fB_length_hi hP hD hS hl hM
        exact ((ox_794 hM g63_0 g63_1)).elim
      | succ N63 ih63 =>
        intro y63_4 m63_i_rd_fault m63_i_rd_token m63_i_rd_kind m63_i_fB_length m63_J H63 locs ls g63_0 g63_1 g63_2 g63_3 g63_4 g63_5 gi63_i_rd_token_lo gi63_i_rd_token_hi gi63_i_fB_length_lo gi63_i_fB_length_hi hP hD hS hl hM
        have hM63 := msucc hM
        refine lv_iload hx hb dX5_readFormula_63 (lv_at hl 4 rfl) ?_
        refine lv_iload_n hx hb dX5_readFormula_65 rfl (lv_at hl 3 rfl) ?_
        refine lv_icmp_ge (tgt := 123) hx hb dX5_readFormula_66 (by decide) (fun c_54 => ?_) (fun c_54 => ?_)
        · skip
          have f55 : 1600 ≤ y63_4.toInt := qi_le c_54 zc_1600 rfl
          rw [hQ]
          exact W.vret hx hb hr (fun t ht hW => ⟨⟨(), rfl, trivial, ⟨m63_i_rd_fault, m63_i_rd_token, m63_i_rd_kind, m63_i_fB_length, m63_J, by rw [ht]; exact hP, hD, ⟨ie0, ie1, ie2, ie3, ie4, ie5, gi63_i_rd_token_lo, gi63_i_rd_token_hi, ie8, ie9, ie10, ie11, ie12, ie13, ie14, ie15, ie16, ie17, ie18, ie19, ie20, ie21, gi63_i_fB_length_lo, gi63_i_fB_length_hi, ie24, ie25, ie26, ie27, ie28, ie29, ie30, ie31, ie32, ie33, ie34, ie35, ie36, ie37, ie38, ie39⟩⟩⟩, hS.F ht⟩) hS.2.2 dX5_readFormula_123
        · skip
          have f56 : y63_4.toInt < 1600 := qi_nle c_54 zc_1600 rfl
          refine lv_aload_n hx hb dX5_readFormula_69 rfl (lv_at hl 0 rfl) ?_
          refine gX_X5_43_1 hx hb hG hown hK hP dX5_readFormula_70 ?_
          refine lv_if_ne (tgt := 123) hx hb dX5_readFormula_73 (by decide) (fun c_57 => ?_) (fun c_57 => ?_)
          · skip
            have f58 : m63_i_rd_fault.toInt ≠ 0 := qi_ne c_57 rfl zc_0
            rw [hQ]
            exact W.vret hx hb hr (fun t ht hW => ⟨⟨(), rfl, trivial, ⟨m63_i_rd_fault, m63_i_rd_token, m63_i_rd_kind, m63_i_fB_length, m63_J, by rw [ht]; exact hP, hD, ⟨ie0, ie1, ie2, ie3, ie4, ie5, gi63_i_rd_token_lo, gi63_i_rd_token_hi, ie8, ie9, ie10, ie11, ie12, ie13, ie14, ie15, ie16, ie17, ie18, ie19, ie20, ie21, gi63_i_fB_length_lo, gi63_i_fB_length_hi, ie24, ie25, ie26, ie27, ie28, ie29, ie30, ie31, ie32, ie33, ie34, ie35, ie36, ie37, ie38, ie39⟩⟩⟩, hS.F ht⟩) hS.2.2 dX5_readFormula_123
          · skip
            have f59 : m63_i_rd_fault.toInt = 0 := qi_eq c_57 rfl zc_0
            refine lv_aload_n hx hb dX5_readFormula_76 rfl (lv_at hl 0 rfl) ?_
            refine gX_X5_66_1 hx hb hG hown hK hP dX5_readFormula_77 ?_
            refine va_calli (va_runS (As := [.int m63_i_rd_kind]) (rest := []) ⟨hx, hb, hml, hown, hG⟩ (kX2_levelOf l dC dI m63_i_rd_kind H63.size) (va_cwS 1 hG (goodS gw678 gw613 gw144 gw614) rfl rfl rfl hd_X2_levelOf ⟨(Nat.le_of_ble_eq_true rfl), (Nat.le_of_ble_eq_true rfl)⟩) ⟨fbR, pR_in emptyP (emptyK hK)⟩ rfl rfl hl.1 rfl (lv_room (Nat.le_of_ble_eq_true rfl)) dX5_readFormula_80 ⟨(Nat.le_of_ble_eq_true rfl), (Nat.le_of_ble_eq_true rfl)⟩) hS (fun q hq h => absurd hq (Nat.not_lt.mpr h)) (fun q h => hA q (Nat.le_trans hS.1 h)) (fun r_61 u_ t_ H60 locs ht hvm hw hB hz1 hk1 hS => ?_)
            subst hw
            have hP := wk hP hk1
            obtain ⟨f62, f63⟩ := hB
            refine lv_iload_n hx hb dX5_readFormula_83 rfl (lv_at hl 1 rfl) ?_
            refine lv_icmp_ne (tgt := 123) hx hb dX5_readFormula_84 (by decide) (fun c_64 => ?_) (fun c_64 => ?_)
            · skip
              have f65 : r_61.toInt ≠ 1 := qi_ne c_64 rfl zc_1
              rw [hQ]
              exact W.vret hx hb hr (fun t ht hW => ⟨⟨(), rfl, trivial, ⟨m63_i_rd_fault, m63_i_rd_token, m63_i_rd_kind, m63_i_fB_length, m63_J, by rw [ht]; exact hP, hD, ⟨ie0, ie1, ie2, ie3, ie4, ie5, gi63_i_rd_token_lo, gi63_i_rd_token_hi, ie8, ie9, ie10, ie11, ie12, ie13, ie14, ie15, ie16, ie17, ie18, ie19, ie20, ie21, gi63_i_fB_length_lo, gi63_i_fB_length_hi, ie24, ie25, ie26, ie27, ie28, ie29, ie30, ie31, ie32, ie33, ie34, ie35, ie36, ie37, ie38, ie39⟩⟩⟩, hS.F ht⟩) hS.2.2 dX5_readFormula_123
            · skip
              have f66 : r_61.toInt = 1 := qi_eq c_64 rfl zc_1
              refine lv_aload_n hx hb dX5_readFormula_87 rfl (lv_at hl 0 rfl) ?_
              refine gX_X5_66_1 hx hb hG hown hK hP dX5_readFormula_88 ?_
              refine lv_istore (lv' := [(5, .int m63_i_rd_kind), (0, .ref (r 1)), (1, .int 1), (2, .int 0), (3, .int 1600), (4, .int y63_4)]) hx hb dX5_readFormula_91 hl (by decide) rfl (fun ls hl => ?_)
              refine lv_aload_n hx hb dX5_readFormula_93 rfl (lv_at hl 1 rfl) ?_
              have hFc := frA hD hS hA
              refine va_callv (va_runV (As := []) (rest := []) ⟨hx, hb, hml, hown, hG⟩ (kX5_advance l dC dI r ct i_tapeLength i_time i_lyingCount m63_i_rd_fault m63_i_rd_token m63_i_rd_kind i_sc_count i_sc_at i_A_tunes i_A_houses i_fA_length i_B_tunes i_B_houses m63_i_fB_length i_acts_done i_acts_undone i_kn_count f_boxes f_boxKept f_trial f_offers f_A_noteCounts f_A_notes f_B_noteCounts f_B_notes f_now_where f_now_worn f_ahead_where f_ahead_worn f_acts_rows f_kn_tunes f_kn_noteTimes m63_J L H60.size ⟨ie0, ie1, ie2, ie3, ie4, ie5, gi63_i_rd_token_lo, gi63_i_rd_token_hi, ie8, ie9, ie10, ie11, ie12, ie13, ie14, ie15, ie16, ie17, ie18, ie19, ie20, ie21, gi63_i_fB_length_lo, gi63_i_fB_length_hi, ie24, ie25, ie26, ie27, ie28, ie29, ie30, ie31, ie32, ie33, ie34, ie35, ie36, ie37, ie38, ie39⟩) (cwV 0 hG (goodV gw635 gw637 gw11 gw130 gw638) rfl rfl rfl hd_X5_advance ⟨(Nat.le_of_ble_eq_true rfl), (Nat.le_of_ble_eq_true rfl)⟩) ⟨fbW, va_recv hK hP (ci := 4) (q0 := 1) rfl rfl, pW_in hP hK hD⟩ rfl rfl hl.1 rfl (lv_room (Nat.le_of_ble_eq_true rfl)) dX5_readFormula_94 ⟨(Nat.le_of_ble_eq_true rfl), (Nat.le_of_ble_eq_true rfl)⟩) hS (fun q _ h => hFc q h) hFc (fun _ t_ H67 locs ht hvm hw hB hz1 hk1 hS => ?_)
              obtain ⟨x69, x70, hP1, hD1, hI71⟩ := hB
              rw [ht] at hP1
              have hP := hP1
              have hD := dW hFc hD1
              obtain ⟨im72, im73, im74, im75, im76, im77, im78, im79, im80, im81, im82, im83, im84, im85, im86, im87, im88, im89, im90, im91, im92, im93, im94, im95, im96, im97, im98, im99, im100, im101, im102, im103, im104, im105, im106, im107, im108, im109, im110, im111⟩ := id hI71
              refine lv_aload_n hx hb dX5_readFormula_97 rfl (lv_at hl 1 rfl) ?_
              refine lv_iload_n hx hb dX5_readFormula_98 rfl (lv_at hl 2 rfl) ?_
              refine lv_iconst (v := 1) hx hb dX5_readFormula_99 (by decide) ?_
              refine lv_iadd hx hb dX5_readFormula_100 ?_
              refine wt_c (v := 2) (by decide) ?_
              refine lv_iload_n hx hb dX5_readFormula_101 rfl (lv_at hl 3 rfl) ?_
              have hFc := frA hD hS hA
              refine va_callv (va_runV (As := [.int 2, .int 0]) (rest := []) ⟨hx, hb, hml, hown, hG⟩ (kX5_readFormula_v2 l dC dI r ct i_tapeLength i_time i_lyingCount m63_i_rd_fault x69 x70 i_sc_count i_sc_at i_A_tunes i_A_houses i_fA_length i_B_tunes i_B_houses m63_i_fB_length i_acts_done i_acts_undone i_kn_count f_boxes f_boxKept f_trial f_offers f_A_noteCounts f_A_notes f_B_noteCounts f_B_notes f_now_where f_now_worn f_ahead_where f_ahead_worn f_acts_rows f_kn_tunes f_kn_noteTimes m63_J L H67.size hI71) (cwV 2 hG (goodV gw660 gw662 gw17 gw130 gw663) rfl rfl rfl hd_X5_readFormula ⟨(Nat.le_of_ble_eq_true rfl), (Nat.le_of_ble_eq_true rfl)⟩) ⟨fbW, va_recv hK hP (ci := 4) (q0 := 1) rfl rfl, pW_in hP hK hD⟩ rfl rfl hl.1 rfl (lv_room (Nat.le_of_ble_eq_true rfl)) dX5_readFormula_102 ⟨(Nat.le_of_ble_eq_true rfl), (Nat.le_of_ble_eq_true rfl)⟩) hS (fun q _ h => hFc q h) hFc (fun _ t_ H112 locs ht hvm hw hB hz1 hk1 hS => ?_)
              obtain ⟨x114, x115, x116, x117, J118, hP1, hD1, hI119⟩ := hB
              rw [ht] at hP1
              have hP := hP1
              have hD := dW hFc hD1
              obtain ⟨im120, im121, im122, im123, im124, im125, im126, im127, im128, im129, im130, im131, im132, im133, im134, im135, im136, im137, im138, im139, im140, im141, im142, im143, im144, im145, im146, im147, im148, im149, im150, im151, im152, im153, im154, im155, im156, im157, im158, im159⟩ := id hI119
              refine lv_aload_n hx hb dX5_readFormula_105 rfl (lv_at hl 1 rfl) ?_
              refine gX_X5_25_1 hx hb hG hown hK hP dX5_readFormula_106 ?_
              refine gX_X5_104_5 hx hb hG hown hK hP dX5_readFormula_109 ?_
              refine lv_iload hx hb dX5_readFormula_112 (lv_at hl 0 rfl) ?_
              have hFc := frA hD hS hA
              refine va_callv (va_runV (As := [.int m63_i_rd_kind]) (rest := []) ⟨hx, hb, hml, hown, hG⟩ (kX1_addOperator l dC dI r ct i_tapeLength i_time i_lyingCount x114 x115 x116 i_sc_count i_sc_at i_A_tunes i_A_houses i_fA_length i_B_tunes i_B_houses x117 i_acts_done i_acts_undone i_kn_count f_boxes f_boxKept f_trial f_offers f_A_noteCounts f_A_notes f_B_noteCounts f_B_notes f_now_where f_now_worn f_ahead_where f_ahead_worn f_acts_rows f_kn_tunes f_kn_noteTimes J118 L m63_i_rd_kind H112.size hI119) (cwV 1 hG (goodV gw677 gw231 gw232 gw133 gw233) rfl rfl rfl hd_X1_addOperator ⟨(Nat.le_of_ble_eq_true rfl), (Nat.le_of_ble_eq_true rfl)⟩) ⟨fbW, va_recv hK hP (ci := 1) (q0 := 6) rfl rfl, pW_in hP hK hD⟩ rfl rfl hl.1 rfl (lv_room (Nat.le_of_ble_eq_true rfl)) dX5_readFormula_114 ⟨(Nat.le_of_ble_eq_true rfl), (Nat.le_of_ble_eq_true rfl)⟩) hS (fun q _ h => hFc q h) hFc (fun _ t_ H160 locs ht hvm hw hB hz1 hk1 hS => ?_)
              obtain ⟨x162, J163, hP1, hD1, hI164⟩ := hB
              rw [ht] at hP1
              have hP := hP1
              have hD := dW hFc hD1
              obtain ⟨im165, im166, im167, im168, im169, im170, im171, im172, im173, im174, im175, im176, im177, im178, im179, im180, im181, im182, im183, im184, im185, im186, im187, im188, im189, im190, im191, im192, im193, im194, im195, im196, im197, im198, im199, im200, im201, im202, im203, im204⟩ := id hI164
              obtain ⟨x205, ex205⟩ : ∃ y : Int32, y = y63_4 + Int32.ofInt 1 := ⟨_, rfl⟩
              have f206 : x205.toInt = y63_4.toInt + 1 := (ox_13 (qi_add ex205 rfl (by decide) (ox_11 g63_0) (ox_12 g63_1)))
              refine lv_iinc (v := x205) (lv' := [(4, .int x205), (5, .int m63_i_rd_kind), (0, .ref (r 1)), (1, .int 1), (2, .int 0), (3, .int 1600)]) hx hb dX5_readFormula_117 hl (k := 5) rfl ex205.symm (by decide) rfl (fun ls hl => ?_)
              refine lv_goto (tgt := 63) hx hb dX5_readFormula_120 (by decide) ?_
              exact ih63 x205 x114 x115 x116 x162 J163 H160 _ _ (ox_14 g63_0 f206) (ox_15 f56 f206) (ox_18 im126 im127) (ox_19 im126 im127) (ox_973 im187 im188) (ox_974 im187 im188) im126 im127 im187 im188 hP hD hS (lv_sub hl [2, 3, 4, 5, 0] rfl) (ox_810 hM63 f206)
    exact L63 (-1 * (0 : Int32).toInt + 1600 + 1).toNat 0 x7 x8 x9 x10 J11 H5 _ _ (ox_27 zc_0) (ox_811 zc_0) (ox_18 im19 im20) (ox_19 im19 im20) (ox_973 im35 im36) (ox_974 im35 im36) im19 im20 im35 im36 hP hD hS (lv_sub hl [2, 3, 4, 1, 0] rfl) (mlt (ox_812 zc_0))
  · skip
    have f207 : i_rd_fault.toInt ≠ 0 := qi_ne c_1 rfl zc_0
    rw [hQ]
    exact W.vret hx hb hr (fun t ht hW => ⟨⟨(), rfl, trivial, ⟨i_rd_fault, i_rd_token, i_rd_kind, i_fB_length, J, by rw [ht]; exact hP, hD, hI⟩⟩, hS.F ht⟩) hS.2.2 dX5_readFormula_7
set_option maxHeartbeats 4000000 in
set_option maxRecDepth 100000 in
theorem kX5_readFormula (l : Launch) (dC : Nat → ClassId) (dI : Nat → Nat → Nat) (r : Nat → Nat) (ct : Nat → ClassId) (i_tapeLength i_time i_lyingCount i_rd_fault i_rd_token i_rd_kind i_sc_count i_sc_at i_A_tunes i_A_houses i_fA_length i_B_tunes i_B_houses i_fB_length i_acts_done i_acts_undone i_kn_count : Int32) (f_boxes f_boxKept f_trial f_offers f_A_noteCounts f_A_notes f_B_noteCounts f_B_notes f_now_where f_now_worn f_ahead_where f_ahead_worn f_acts_rows f_kn_tunes f_kn_noteTimes : Nat → Int32) (J : Nat → Nat → Int32) (L : Nat → Nat → Int64) (sz : Nat) (hI : (IX i_tapeLength i_time i_lyingCount i_rd_token i_sc_count i_sc_at i_A_tunes i_A_houses i_fA_length i_B_tunes i_B_houses i_fB_length i_acts_done i_acts_undone i_kn_count f_boxes f_A_noteCounts f_A_notes f_B_noteCounts f_B_notes f_now_worn f_ahead_worn f_acts_rows f_kn_tunes)) : Met l yX5_readFormula (.code yX5_readFormula cX5_readFormula 6 none :: GW) { frames := 116, cells := 0, slots := 0, locals := 3781 } (va_Pc [.ref (r 1), .int 0, .int 0] (pW (dC, dI) (WX r ct i_tapeLength i_time i_lyingCount i_rd_fault i_rd_token i_rd_kind i_sc_count i_sc_at i_A_tunes i_A_houses i_fA_length i_B_tunes i_B_houses i_fB_length i_acts_done i_acts_undone i_kn_count f_boxes f_boxKept f_trial f_offers f_A_noteCounts f_A_notes f_B_noteCounts f_B_notes f_now_where f_now_worn f_ahead_where f_ahead_worn f_acts_rows f_kn_tunes f_kn_noteTimes J L) (TX ct) sz)) (va_Qv (fun _ : Unit => True) (fun (_ : Unit) (t : State) => ∃ (n_i_rd_fault n_i_rd_token n_i_rd_kind n_i_fB_length : Int32) (n_J : Nat → Nat → Int32), va_P (dC, dI) vwCl (WX r ct i_tapeLength i_time i_lyingCount n_i_rd_fault n_i_rd_token n_i_rd_kind i_sc_count i_sc_at i_A_tunes i_A_houses i_fA_length i_B_tunes i_B_houses n_i_fB_length i_acts_done i_acts_undone i_kn_count f_boxes f_boxKept f_trial f_offers f_A_noteCounts f_A_notes f_B_noteCounts f_B_notes f_now_where f_now_worn f_ahead_where f_ahead_worn f_acts_rows f_kn_tunes f_kn_noteTimes n_J L) t.heap ∧ va_D (va_A (WX r ct i_tapeLength i_time i_lyingCount i_rd_fault i_rd_token i_rd_kind i_sc_count i_sc_at i_A_tunes i_A_houses i_fA_length i_B_tunes i_B_houses i_fB_length i_acts_done i_acts_undone i_kn_count f_boxes f_boxKept f_trial f_offers f_A_noteCounts f_A_notes f_B_noteCounts f_B_notes f_now_where f_now_worn f_ahead_where f_ahead_worn f_acts_rows f_kn_tunes f_kn_noteTimes J L) sz) (WX r ct i_tapeLength i_time i_lyingCount n_i_rd_fault n_i_rd_token n_i_rd_kind i_sc_count i_sc_at i_A_tunes i_A_houses i_fA_length i_B_tunes i_B_houses n_i_fB_length i_acts_done i_acts_undone i_kn_count f_boxes f_boxKept f_trial f_offers f_A_noteCounts f_A_notes f_B_noteCounts f_B_notes f_now_where f_now_worn f_ahead_where f_ahead_worn f_acts_rows f_kn_tunes f_kn_noteTimes n_J L) ∧ (IX i_tapeLength i_time i_lyingCount n_i_rd_token i_sc_count i_sc_at i_A_tunes i_A_houses i_fA_length i_B_tunes i_B_houses n_i_fB_length i_acts_done i_acts_undone i_kn_count f_boxes f_A_noteCounts f_A_notes f_B_noteCounts f_B_notes f_now_worn f_ahead_worn f_acts_rows f_kn_tunes)) (va_A (WX r ct i_tapeLength i_time i_lyingCount i_rd_fault i_rd_token i_rd_kind i_sc_count i_sc_at i_A_tunes i_A_houses i_fA_length i_B_tunes i_B_houses i_fB_length i_acts_done i_acts_undone i_kn_count f_boxes f_boxKept f_trial f_offers f_A_noteCounts f_A_notes f_B_noteCounts f_B_notes f_now_where f_now_worn f_ahead_where f_ahead_worn f_acts_rows f_kn_tunes f_kn_noteTimes J L) sz)) 0 0 (va_A (WX r ct i_tapeLength i_time i_lyingCount i_rd_fault i_rd_token i_rd_kind i_sc_count i_sc_at i_A_tunes i_A_houses i_fA_length i_B_tunes i_B_houses i_fB_length i_acts_done i_acts_undone i_kn_count f_boxes f_boxKept f_trial f_offers f_A_noteCounts f_A_notes f_B_noteCounts f_B_notes f_now_where f_now_worn f_ahead_where f_ahead_worn f_acts_rows f_kn_tunes f_kn_noteTimes J L) sz) := by
  refine Met.ofW (cc := cX5_readFormula) (maxL := 6) (ret := none) (by decide) rfl ?_
  intro p e s m args below meth c0 s₁ B hml hv
  obtain ⟨rfl, hsz, hP, hK, hD0⟩ := hv
  have hx := B.exec
  have hb := B.bytes
  have hr := B.returns
  have hts := atoms_spec (ws := .code yX5_readFormula cX5_readFormula 6 none :: GW) B.pre
  have hG : ∀ w ∈ GW, w.before _ s = true := fun w h => hts w (List.mem_cons_of_mem _ h)
  have hown : s.vm.findClass RX5 = some m.cls := findClass_of_methodNamed B.named
  subst hsz
  have hD := hD0.self (sz := s.heap.size)
  generalize hAe : va_A (WX r ct i_tapeLength i_time i_lyingCount i_rd_fault i_rd_token i_rd_kind i_sc_count i_sc_at i_A_tunes i_A_houses i_fA_length i_B_tunes i_B_houses i_fB_length i_acts_done i_acts_undone i_kn_count f_boxes f_boxKept f_trial f_offers f_A_noteCounts f_A_notes f_B_noteCounts f_B_notes f_now_where f_now_worn f_ahead_where f_ahead_worn f_acts_rows f_kn_tunes f_kn_noteTimes J L) s.heap.size = A at hD ⊢
  have hA : ∀ q : Nat, s.heap.size ≤ q → A q := fun q h => by rw [← hAe]; exact Or.inr h
  have hS : va_S A s.heap s.heap [] := va_S.rf
  have hP : va_P (dC, dI) vwCl (WX r ct i_tapeLength i_time i_lyingCount i_rd_fault i_rd_token i_rd_kind i_sc_count i_sc_at i_A_tunes i_A_houses i_fA_length i_B_tunes i_B_houses i_fB_length i_acts_done i_acts_undone i_kn_count f_boxes f_boxKept f_trial f_offers f_A_noteCounts f_A_notes f_B_noteCounts f_B_notes f_now_where f_now_worn f_ahead_where f_ahead_worn f_acts_rows f_kn_tunes f_kn_noteTimes J L) s.heap := hP
  have hl := lv_entry ([.ref (r 1), .int 0, .int 0]) (n := 6) (Nat.le_of_ble_eq_true rfl)
  rw [lg_entry_eq]
  generalize (lg_sl ([.ref (r 1), .int 0, .int 0]) ++ List.replicate (6 - (lg_sl ([.ref (r 1), .int 0, .int 0])).length) Slot.unset).toArray = ls at hl ⊢
  have hl : lv_has ls 6 [(0, .ref (r 1)), (1, .int 0), (2, .int 0)] := hl
  refine nameQ (fun Q hQ => ?_)
  obtain ⟨ie0, ie1, ie2, ie3, ie4, ie5, ie6, ie7, ie8, ie9, ie10, ie11, ie12, ie13, ie14, ie15, ie16, ie17, ie18, ie19, ie20, ie21, ie22, ie23, ie24, ie25, ie26, ie27, ie28, ie29, ie30, ie31, ie32, ie33, ie34, ie35, ie36, ie37, ie38, ie39⟩ := id hI
  refine lv_aload_n hx hb dX5_readFormula_0 rfl (lv_at hl 0 rfl) ?_
  refine gX_X5_43_1 hx hb hG hown hK hP dX5_readFormula_1 ?_
  refine lv_if_eq (tgt := 8) hx hb dX5_readFormula_4 (by decide) (fun c_1 => ?_) (fun c_1 => ?_)
  · skip
    have f2 : i_rd_fault.toInt = 0 := qi_eq c_1 rfl zc_0
    refine lv_iload_n hx hb dX5_readFormula_8 rfl (lv_at hl 1 rfl) ?_
    refine lv_iconst (v := 5) hx hb dX5_readFormula_9 (by decide) ?_
    refine lv_icmp_lt (tgt := 19) hx hb dX5_readFormula_10 (by decide) (fun c_3 => ?_) (fun c_3 => absurd (by decide) c_3)
    refine lv_iload_n hx hb dX5_readFormula_19 rfl (lv_at hl 1 rfl) ?_
    refine lv_iconst (v := 2) hx hb dX5_readFormula_20 (by decide) ?_
    refine lv_icmp_ne (tgt := 39) hx hb dX5_readFormula_21 (by decide) (fun c_4 => ?_) (fun c_4 => absurd c_4 (by decide))
    refine lv_aload_n hx hb dX5_readFormula_39 rfl (lv_at hl 0 rfl) ?_
    refine lv_iload_n hx hb dX5_readFormula_40 rfl (lv_at hl 1 rfl) ?_
    refine lv_iconst (v := 1) hx hb dX5_readFormula_41 (by decide) ?_
    refine lv_iadd hx hb dX5_readFormula_42 ?_
    refine wt_c (v := 1) (by decide) ?_
    refine lv_iload_n hx hb dX5_readFormula_43 rfl (lv_at hl 2 rfl) ?_
    have hFc := frA hD hS hA
    refine va_callv (va_runV (As := [.int 1, .int 0]) (rest := []) ⟨hx, hb, hml, hown, hG⟩ (kX5_readFormula_v1 l dC dI r ct i_tapeLength i_time i_lyingCount i_rd_fault i_rd_token i_rd_kind i_sc_count i_sc_at i_A_tunes i_A_houses i_fA_length i_B_tunes i_B_houses i_fB_length i_acts_done i_acts_undone i_kn_count f_boxes f_boxKept f_trial f_offers f_A_noteCounts f_A_notes f_B_noteCounts f_B_notes f_now_where f_now_worn f_ahead_where f_ahead_worn f_acts_rows f_kn_tunes f_kn_noteTimes J L s.heap.size hI) (cwV 2 hG (goodV gw660 gw662 gw17 gw130 gw663) rfl rfl rfl hd_X5_readFormula ⟨(Nat.le_of_ble_eq_true rfl), (Nat.le_of_ble_eq_true rfl)⟩) ⟨fbW, va_recv hK hP (ci := 4) (q0 := 1) rfl rfl, pW_in hP hK hD⟩ rfl rfl hl.1 rfl (lv_room (Nat.le_of_ble_eq_true rfl)) dX5_readFormula_44 ⟨(Nat.le_of_ble_eq_true rfl), (Nat.le_of_ble_eq_true rfl)⟩) hS (fun q _ h => hFc q h) hFc (fun _ t_ H5 locs ht hvm hw hB hz1 hk1 hS => ?_)
    obtain ⟨x7, x8, x9, x10, J11, hP1, hD1, hI12⟩ := hB
    rw [ht] at hP1
    have hP := hP1
    have hD := dW hFc hD1
    obtain ⟨im13, im14, im15, im16, im17, im18, im19, im20, im21, im22, im23, im24, im25, im26, im27, im28, im29, im30, im31, im32, im33, im34, im35, im36, im37, im38, im39, im40, im41, im42, im43, im44, im45, im46, im47, im48, im49, im50, im51, im52⟩ := id hI12
    refine lv_iload_n hx hb dX5_readFormula_47 rfl (lv_at hl 1 rfl) ?_
    refine lv_iconst (v := 2) hx hb dX5_readFormula_48 (by decide) ?_
    refine lv_icmp_ne (tgt := 56) hx hb dX5_readFormula_49 (by decide) (fun c_53 => ?_) (fun c_53 => absurd c_53 (by decide))
    refine lv_sipush (v := 1600) hx hb dX5_readFormula_56 (by decide) ?_
    refine lv_istore_n (lv' := [(3, .int 1600), (0, .ref (r 1)), (1, .int 0), (2, .int 0)]) hx hb dX5_readFormula_59 rfl hl (by decide) rfl (fun ls hl => ?_)
    refine lv_iconst (v := 0) hx hb dX5_readFormula_60 (by decide) ?_
    refine lv_istore (lv' := [(4, .int 0), (3, .int 1600), (0, .ref (r 1)), (1, .int 0), (2, .int 0)]) hx hb dX5_readFormula_61 hl (by decide) rfl (fun ls hl => ?_)
    have L63 : ∀ (N63 : Nat) (y63_4 : Int32) (m63_i_rd_fault m63_i_rd_token m63_i_rd_kind m63_i_fB_length : Int32) (m63_J : Nat → Nat → Int32) (H63 : Heap) (locs : List Loc) (ls : Array Slot) (g63_0 : (0 : Int) ≤ y63_4.toInt) (g63_1 : y63_4.toInt ≤ (1600 : Int)) (g63_2 : (0 : Int) ≤ m63_i_rd_token.toInt) (g63_3 : m63_i_rd_token.toInt ≤ (1600 : Int)) (g63_4 : (0 : Int) ≤ m63_i_fB_length.toInt) (g63_5 : m63_i_fB_length.toInt ≤ (300 : Int)) (gi63_i_rd_token_lo : (0 : Int) ≤ m63_i_rd_token.toInt) (gi63_i_rd_token_hi : m63_i_rd_token.toInt ≤ (1600 : Int)) (gi63_i_fB_length_lo : (0 : Int) ≤ m63_i_fB_length.toInt) (gi63_i_fB_length_hi : m63_i_fB_length.toInt ≤ (300 : Int)) (hP : va_P (dC, dI) vwCl (WX r ct i_tapeLength i_time i_lyingCount m63_i_rd_fault m63_i_rd_token m63_i_rd_kind i_sc_count i_sc_at i_A_tunes i_A_houses i_fA_length i_B_tunes i_B_houses m63_i_fB_length i_acts_done i_acts_undone i_kn_count f_boxes f_boxKept f_trial f_offers f_A_noteCounts f_A_notes f_B_noteCounts f_B_notes f_now_where f_now_worn f_ahead_where f_ahead_worn f_acts_rows f_kn_tunes f_kn_noteTimes m63_J L) H63) (hD : va_D A (WX r ct i_tapeLength i_time i_lyingCount m63_i_rd_fault m63_i_rd_token m63_i_rd_kind i_sc_count i_sc_at i_A_tunes i_A_houses i_fA_length i_B_tunes i_B_houses m63_i_fB_length i_acts_done i_acts_undone i_kn_count f_boxes f_boxKept f_trial f_offers f_A_noteCounts f_A_notes f_B_noteCounts f_B_notes f_now_where f_now_worn f_ahead_where f_ahead_worn f_acts_rows f_kn_tunes f_kn_noteTimes m63_J L)) (hS : va_S A s.heap H63 locs) (hl : lv_has ls 6 [(0, .ref (r 1)), (1, .int 0), (2, .int 0), (3, .int 1600), (4, .int y63_4)]) (hM : -1 * y63_4.toInt + 1600 < (N63 : Int)), W p l e { frames := 116, cells := 0, slots := 0, locals := 3781 } s m ([.ref (r 1), .int 0, .int 0] : List Value).toArray below meth c0 H63 locs 0 0 Q (F0 m 63 ls []) := by
      intro N63
      induction N63 with
      | zero =>
        intro y63_4 m63_i_rd_fault m63_i_rd_token m63_i_rd_kind m63_i_fB_length m63_J H63 locs ls g63_0 g63_1 g63_2 g63_3 g63_4 g63_5 gi63_i_rd_token_lo gi63_i_rd_token_hi gi63_i_fB_length_lo gi63_i_fB_length_hi hP hD hS hl hM
        exact ((ox_794 hM g63_0 g63_1)).elim
      | succ N63 ih63 =>
        intro y63_4 m63_i_rd_fault m63_i_rd_token m63_i_rd_kind m63_i_fB_length m63_J H63 locs ls g63_0 g63_1 g63_2 g63_3 g63_4 g63_5 gi63_i_rd_token_lo gi63_i_rd_token_hi gi63_i_fB_length_lo gi63_i_fB_length_hi hP hD hS hl hM
        have hM63 := msucc hM
        refine lv_iload hx hb dX5_readFormula_63 (lv_at hl 4 rfl) ?_
        refine lv_iload_n hx hb dX5_readFormula_65 rfl (lv_at hl 3 rfl) ?_
        refine lv_icmp_ge (tgt := 123) hx hb dX5_readFormula_66 (by decide) (fun c_54 => ?_) (fun c_54 => ?_)
        · skip
          have f55 : 1600 ≤ y63_4.toInt := qi_le c_54 zc_1600 rfl
          rw [hQ]
          exact W.vret hx hb hr (fun t ht hW => ⟨⟨(), rfl, trivial, ⟨m63_i_rd_fault, m63_i_rd_token, m63_i_rd_kind, m63_i_fB_length, m63_J, by rw [ht]; exact hP, hD, ⟨ie0, ie1, ie2, ie3, ie4, ie5, gi63_i_rd_token_lo, gi63_i_rd_token_hi, ie8, ie9, ie10, ie11, ie12, ie13, ie14, ie15, ie16, ie17, ie18, ie19, ie20, ie21, gi63_i_fB_length_lo, gi63_i_fB_length_hi, ie24, ie25, ie26, ie27, ie28, ie29, ie30, ie31, ie32, ie33, ie34, ie35, ie36, ie37, ie38, ie39⟩⟩⟩, hS.F ht⟩) hS.2.2 dX5_readFormula_123
        · skip
          have f56 : y63_4.toInt < 1600 := qi_nle c_54 zc_1600 rfl
          refine lv_aload_n hx hb dX5_readFormula_69 rfl (lv_at hl 0 rfl) ?_
          refine gX_X5_43_1 hx hb hG hown hK hP dX5_readFormula_70 ?_
          refine lv_if_ne (tgt := 123) hx hb dX5_readFormula_73 (by decide) (fun c_57 => ?_) (fun c_57 => ?_)
          · skip
            have f58 : m63_i_rd_fault.toInt ≠ 0 := qi_ne c_57 rfl zc_0
            rw [hQ]
            exact W.vret hx hb hr (fun t ht hW => ⟨⟨(), rfl, trivial, ⟨m63_i_rd_fault, m63_i_rd_token, m63_i_rd_kind, m63_i_fB_length, m63_J, by rw [ht]; exact hP, hD, ⟨ie0, ie1, ie2, ie3, ie4, ie5, gi63_i_rd_token_lo, gi63_i_rd_token_hi, ie8, ie9, ie10, ie11, ie12, ie13, ie14, ie15, ie16, ie17, ie18, ie19, ie20, ie21, gi63_i_fB_length_lo, gi63_i_fB_length_hi, ie24, ie25, ie26, ie27, ie28, ie29, ie30, ie31, ie32, ie33, ie34, ie35, ie36, ie37, ie38, ie39⟩⟩⟩, hS.F ht⟩) hS.2.2 dX5_readFormula_123
          · skip
            have f59 : m63_i_rd_fault.toInt = 0 := qi_eq c_57 rfl zc_0
            refine lv_aload_n hx hb dX5_readFormula_76 rfl (lv_at hl 0 rfl) ?_
            refine gX_X5_66_1 hx hb hG hown hK hP dX5_readFormula_77 ?_
            refine va_calli (va_runS (As := [.int m63_i_rd_kind]) (rest := []) ⟨hx, hb, hml, hown, hG⟩ (kX2_levelOf l dC dI m63_i_rd_kind H63.size) (va_cwS 1 hG (goodS gw678 gw613 gw144 gw614) rfl rfl rfl hd_X2_levelOf ⟨(Nat.le_of_ble_eq_true rfl), (Nat.le_of_ble_eq_true rfl)⟩) ⟨fbR, pR_in emptyP (emptyK hK)⟩ rfl rfl hl.1 rfl (lv_room (Nat.le_of_ble_eq_true rfl)) dX5_readFormula_80 ⟨(Nat.le_of_ble_eq_true rfl), (Nat.le_of_ble_eq_true rfl)⟩) hS (fun q hq h => absurd hq (Nat.not_lt.mpr h)) (fun q h => hA q (Nat.le_trans hS.1 h)) (fun r_61 u_ t_ H60 locs ht hvm hw hB hz1 hk1 hS => ?_)
            subst hw
            have hP := wk hP hk1
            obtain ⟨f62, f63⟩ := hB
            refine lv_iload_n hx hb dX5_readFormula_83 rfl (lv_at hl 1 rfl) ?_
            refine lv_icmp_ne (tgt := 123) hx hb dX5_readFormula_84 (by decide) (fun c_64 => ?_) (fun c_64 => ?_)
            · skip
              have f65 : r_61.toInt ≠ 0 := qi_ne c_64 rfl zc_0
              rw [hQ]
              exact W.vret hx hb hr (fun t ht hW => ⟨⟨(), rfl, trivial, ⟨m63_i_rd_fault, m63_i_rd_token, m63_i_rd_kind, m63_i_fB_length, m63_J, by rw [ht]; exact hP, hD, ⟨ie0, ie1, ie2, ie3, ie4, ie5, gi63_i_rd_token_lo, gi63_i_rd_token_hi, ie8, ie9, ie10, ie11, ie12, ie13, ie14, ie15, ie16, ie17, ie18, ie19, ie20, ie21, gi63_i_fB_length_lo, gi63_i_fB_length_hi, ie24, ie25, ie26, ie27, ie28, ie29, ie30, ie31, ie32, ie33, ie34, ie35, ie36, ie37, ie38, ie39⟩⟩⟩, hS.F ht⟩) hS.2.2 dX5_readFormula_123
            · skip
              have f66 : r_61.toInt = 0 := qi_eq c_64 rfl zc_0
              refine lv_aload_n hx hb dX5_readFormula_87 rfl (lv_at hl 0 rfl) ?_
              refine gX_X5_66_1 hx hb hG hown hK hP dX5_readFormula_88 ?_
              refine lv_istore (lv' := [(5, .int m63_i_rd_kind), (0, .ref (r 1)), (1, .int 0), (2, .int 0), (3, .int 1600), (4, .int y63_4)]) hx hb dX5_readFormula_91 hl (by decide) rfl (fun ls hl => ?_)
              refine lv_aload_n hx hb dX5_readFormula_93 rfl (lv_at hl 1 rfl) ?_
              have hFc := frA hD hS hA
              refine va_callv (va_runV (As := []) (rest := []) ⟨hx, hb, hml, hown, hG⟩ (kX5_advance l dC dI r ct i_tapeLength i_time i_lyingCount m63_i_rd_fault m63_i_rd_token m63_i_rd_kind i_sc_count i_sc_at i_A_tunes i_A_houses i_fA_length i_B_tunes i_B_houses m63_i_fB_length i_acts_done i_acts_undone i_kn_count f_boxes f_boxKept f_trial f_offers f_A_noteCounts f_A_notes f_B_noteCounts f_B_notes f_now_where f_now_worn f_ahead_where f_ahead_worn f_acts_rows f_kn_tunes f_kn_noteTimes m63_J L H60.size ⟨ie0, ie1, ie2, ie3, ie4, ie5, gi63_i_rd_token_lo, gi63_i_rd_token_hi, ie8, ie9, ie10, ie11, ie12, ie13, ie14, ie15, ie16, ie17, ie18, ie19, ie20, ie21, gi63_i_fB_length_lo, gi63_i_fB_length_hi, ie24, ie25, ie26, ie27, ie28, ie29, ie30, ie31, ie32, ie33, ie34, ie35, ie36, ie37, ie38, ie39⟩) (cwV 0 hG (goodV gw635 gw637 gw11 gw130 gw638) rfl rfl rfl hd_X5_advance ⟨(Nat.le_of_ble_eq_true rfl), (Nat.le_of_ble_eq_true rfl)⟩) ⟨fbW, va_recv hK hP (ci := 4) (q0 := 1) rfl rfl, pW_in hP hK hD⟩ rfl rfl hl.1 rfl (lv_room (Nat.le_of_ble_eq_true rfl)) dX5_readFormula_94 ⟨(Nat.le_of_ble_eq_true rfl), (Nat.le_of_ble_eq_true rfl)⟩) hS (fun q _ h => hFc q h) hFc (fun _ t_ H67 locs ht hvm hw hB hz1 hk1 hS => ?_)
              obtain ⟨x69, x70, hP1, hD1, hI71⟩ := hB
              rw [ht] at hP1
              have hP := hP1
              have hD := dW hFc hD1
              obtain ⟨im72, im73, im74, im75, im76, im77, im78, im79, im80, im81, im82, im83, im84, im85, im86, im87, im88, im89, im90, im91, im92, im93, im94, im95, im96, im97, im98, im99, im100, im101, im102, im103, im104, im105, im106, im107, im108, im109, im110, im111⟩ := id hI71
              refine lv_aload_n hx hb dX5_readFormula_97 rfl (lv_at hl 1 rfl) ?_
              refine lv_iload_n hx hb dX5_readFormula_98 rfl (lv_at hl 2 rfl) ?_
              refine lv_iconst (v := 1) hx hb dX5_readFormula_99 (by decide) ?_
              refine lv_iadd hx hb dX5_readFormula_100 ?_
              refine wt_c (v := 1) (by decide) ?_
              refine lv_iload_n hx hb dX5_readFormula_101 rfl (lv_at hl 3 rfl) ?_
              have hFc := frA hD hS hA
              refine va_callv (va_runV (As := [.int 1, .int 0]) (rest := []) ⟨hx, hb, hml, hown, hG⟩ (kX5_readFormula_v1 l dC dI r ct i_tapeLength i_time i_lyingCount m63_i_rd_fault x69 x70 i_sc_count i_sc_at i_A_tunes i_A_houses i_fA_length i_B_tunes i_B_houses m63_i_fB_length i_acts_done i_acts_undone i_kn_count f_boxes f_boxKept f_trial f_offers f_A_noteCounts f_A_notes f_B_noteCounts f_B_notes f_now_where f_now_worn f_ahead_where f_ahead_worn f_acts_rows f_kn_tunes f_kn_noteTimes m63_J L H67.size hI71) (cwV 2 hG (goodV gw660 gw662 gw17 gw130 gw663) rfl rfl rfl hd_X5_readFormula ⟨(Nat.le_of_ble_eq_true rfl), (Nat.le_of_ble_eq_true rfl)⟩) ⟨fbW, va_recv hK hP (ci := 4) (q0 := 1) rfl rfl, pW_in hP hK hD⟩ rfl rfl hl.1 rfl (lv_room (Nat.le_of_ble_eq_true rfl)) dX5_readFormula_102 ⟨(Nat.le_of_ble_eq_true rfl), (Nat.le_of_ble_eq_true rfl)⟩) hS (fun q _ h => hFc q h) hFc (fun _ t_ H112 locs ht hvm hw hB hz1 hk1 hS => ?_)
              obtain ⟨x114, x115, x116, x117, J118, hP1, hD1, hI119⟩ := hB
              rw [ht] at hP1
              have hP := hP1
              have hD := dW hFc hD1
              obtain ⟨im120, im121, im122, im123, im124, im125, im126, im127, im128, im129, im130, im131, im132, im133, im134, im135, im136, im137, im138, im139, im140, im141, im142, im143, im144, im145, im146, im147, im148, im149, im150, im151, im152, im153, im154, im155, im156, im157, im158, im159⟩ := id hI119
              refine lv_aload_n hx hb dX5_readFormula_105 rfl (lv_at hl 1 rfl) ?_
              refine gX_X5_25_1 hx hb hG hown hK hP dX5_readFormula_106 ?_
              refine gX_X5_104_5 hx hb hG hown hK hP dX5_readFormula_109 ?_
              refine lv_iload hx hb dX5_readFormula_112 (lv_at hl 0 rfl) ?_
              have hFc := frA hD hS hA
              refine va_callv (va_runV (As := [.int m63_i_rd_kind]) (rest := []) ⟨hx, hb, hml, hown, hG⟩ (kX1_addOperator l dC dI r ct i_tapeLength i_time i_lyingCount x114 x115 x116 i_sc_count i_sc_at i_A_tunes i_A_houses i_fA_length i_B_tunes i_B_houses x117 i_acts_done i_acts_undone i_kn_count f_boxes f_boxKept f_trial f_offers f_A_noteCounts f_A_notes f_B_noteCounts f_B_notes f_now_where f_now_worn f_ahead_where f_ahead_worn f_acts_rows f_kn_tunes f_kn_noteTimes J118 L m63_i_rd_kind H112.size hI119) (cwV 1 hG (goodV gw677 gw231 gw232 gw133 gw233) rfl rfl rfl hd_X1_addOperator ⟨(Nat.le_of_ble_eq_true rfl), (Nat.le_of_ble_eq_true rfl)⟩) ⟨fbW, va_recv hK hP (ci := 1) (q0 := 6) rfl rfl, pW_in hP hK hD⟩ rfl rfl hl.1 rfl (lv_room (Nat.le_of_ble_eq_true rfl)) dX5_readFormula_114 ⟨(Nat.le_of_ble_eq_true rfl), (Nat.le_of_ble_eq_true rfl)⟩) hS (fun q _ h => hFc q h) hFc (fun _ t_ H160 locs ht hvm hw hB hz1 hk1 hS => ?_)
              obtain ⟨x162, J163, hP1, hD1, hI164⟩ := hB
              rw [ht] at hP1
              have hP := hP1
              have hD := dW hFc hD1
              obtain ⟨im165, im166, im167, im168, im169, im170, im171, im172, im173, im174, im175, im176, im177, im178, im179, im180, im181, im182, im183, im184, im185, im186, im187, im188, im189, im190, im191, im192, im193, im194, im195, im196, im197, im198, im199, im200, im201, im202, im203, im204⟩ := id hI164
              obtain ⟨x205, ex205⟩ : ∃ y : Int32, y = y63_4 + Int32.ofInt 1 := ⟨_, rfl⟩
              have f206 : x205.toInt = y63_4.toInt + 1 := (ox_13 (qi_add ex205 rfl (by decide) (ox_11 g63_0) (ox_12 g63_1)))
              refine lv_iinc (v := x205) (lv' := [(4, .int x205), (5, .int m63_i_rd_kind), (0, .ref (r 1)), (1, .int 0), (2, .int 0), (3, .int 1600)]) hx hb dX5_readFormula_117 hl (k := 5) rfl ex205.symm (by decide) rfl (fun ls hl => ?_)
              refine lv_goto (tgt := 63) hx hb dX5_readFormula_120 (by decide) ?_
              exact ih63 x205 x114 x115 x116 x162 J163 H160 _ _ (ox_14 g63_0 f206) (ox_15 f56 f206) (ox_18 im126 im127) (ox_19 im126 im127) (ox_973 im187 im188) (ox_974 im187 im188) im126 im127 im187 im188 hP hD hS (lv_sub hl [2, 3, 4, 5, 0] rfl) (ox_810 hM63 f206)
    exact L63 (-1 * (0 : Int32).toInt + 1600 + 1).toNat 0 x7 x8 x9 x10 J11 H5 _ _ (ox_27 zc_0) (ox_811 zc_0) (ox_18 im19 im20) (ox_19 im19 im20) (ox_973 im35 im36) (ox_974 im35 im36) im19 im20 im35 im36 hP hD hS (lv_sub hl [2, 3, 4, 1, 0] rfl) (mlt (ox_812 zc_0))
  · skip
    have f207 : i_rd_fault.toInt ≠ 0 := qi_ne c_1 rfl zc_0
    rw [hQ]
    exact W.vret hx hb hr (fun t ht hW => ⟨⟨(), rfl, trivial, ⟨i_rd_fault, i_rd_token, i_rd_kind, i_fB_length, J, by rw [ht]; exact hP, hD, hI⟩⟩, hS.F ht⟩) hS.2.2 dX5_readFormula_7
set_option maxHeartbeats 4000000 in
set_option maxRecDepth 100000 in
theorem kX5_readLine (l : Launch) (dC : Nat → ClassId) (dI : Nat → Nat → Nat) (r : Nat → Nat) (ct : Nat → ClassId) (i_tapeLength i_time i_lyingCount i_rd_fault i_rd_token i_rd_kind i_sc_count i_sc_at i_A_tunes i_A_houses i_fA_length i_B_tunes i_B_houses i_fB_length i_acts_done i_acts_undone i_kn_count : Int32) (f_boxes f_boxKept f_trial f_offers f_A_noteCounts f_A_notes f_B_noteCounts f_B_notes f_now_where f_now_worn f_ahead_where f_ahead_worn f_acts_rows f_kn_tunes f_kn_noteTimes : Nat → Int32) (J : Nat → Nat → Int32) (L : Nat → Nat → Int64) (sz : Nat) (hI : (IX i_tapeLength i_time i_lyingCount i_rd_token i_sc_count i_sc_at i_A_tunes i_A_houses i_fA_length i_B_tunes i_B_houses i_fB_length i_acts_done i_acts_undone i_kn_count f_boxes f_A_noteCounts f_A_notes f_B_noteCounts f_B_notes f_now_worn f_ahead_worn f_acts_rows f_kn_tunes)) : Met l yX5_readLine (.code yX5_readLine cX5_readLine 2 none :: GW) { frames := 118, cells := 0, slots := 0, locals := 3846 } (va_Pc [.ref (r 1)] (pW (dC, dI) (WX r ct i_tapeLength i_time i_lyingCount i_rd_fault i_rd_token i_rd_kind i_sc_count i_sc_at i_A_tunes i_A_houses i_fA_length i_B_tunes i_B_houses i_fB_length i_acts_done i_acts_undone i_kn_count f_boxes f_boxKept f_trial f_offers f_A_noteCounts f_A_notes f_B_noteCounts f_B_notes f_now_where f_now_worn f_ahead_where f_ahead_worn f_acts_rows f_kn_tunes f_kn_noteTimes J L) (TX ct) sz)) (va_Qv (fun _ : Unit => True) (fun (_ : Unit) (t : State) => ∃ (n_i_rd_fault n_i_rd_token n_i_rd_kind n_i_B_tunes n_i_B_houses n_i_fB_length : Int32) (n_f_B_noteCounts n_f_B_notes : Nat → Int32) (n_J : Nat → Nat → Int32) (n_L : Nat → Nat → Int64), va_P (dC, dI) vwCl (WX r ct i_tapeLength i_time i_lyingCount n_i_rd_fault n_i_rd_token n_i_rd_kind i_sc_count i_sc_at i_A_tunes i_A_houses i_fA_length n_i_B_tunes n_i_B_houses n_i_fB_length i_acts_done i_acts_undone i_kn_count f_boxes f_boxKept f_trial f_offers f_A_noteCounts f_A_notes n_f_B_noteCounts n_f_B_notes f_now_where f_now_worn f_ahead_where f_ahead_worn f_acts_rows f_kn_tunes f_kn_noteTimes n_J n_L) t.heap ∧ va_D (va_A (WX r ct i_tapeLength i_time i_lyingCount i_rd_fault i_rd_token i_rd_kind i_sc_count i_sc_at i_A_tunes i_A_houses i_fA_length i_B_tunes i_B_houses i_fB_length i_acts_done i_acts_undone i_kn_count f_boxes f_boxKept f_trial f_offers f_A_noteCounts f_A_notes f_B_noteCounts f_B_notes f_now_where f_now_worn f_ahead_where f_ahead_worn f_acts_rows f_kn_tunes f_kn_noteTimes J L) sz) (WX r ct i_tapeLength i_time i_lyingCount n_i_rd_fault n_i_rd_token n_i_rd_kind i_sc_count i_sc_at i_A_tunes i_A_houses i_fA_length n_i_B_tunes n_i_B_houses n_i_fB_length i_acts_done i_acts_undone i_kn_count f_boxes f_boxKept f_trial f_offers f_A_noteCounts f_A_notes n_f_B_noteCounts n_f_B_notes f_now_where f_now_worn f_ahead_where f_ahead_worn f_acts_rows f_kn_tunes f_kn_noteTimes n_J n_L) ∧ (IX i_tapeLength i_time i_lyingCount n_i_rd_token i_sc_count i_sc_at i_A_tunes i_A_houses i_fA_length n_i_B_tunes n_i_B_houses n_i_fB_length i_acts_done i_acts_undone i_kn_count f_boxes f_A_noteCounts f_A_notes n_f_B_noteCounts n_f_B_notes f_now_worn f_ahead_worn f_acts_rows f_kn_tunes)) (va_A (WX r ct i_tapeLength i_time i_lyingCount i_rd_fault i_rd_token i_rd_kind i_sc_count i_sc_at i_A_tunes i_A_houses i_fA_length i_B_tunes i_B_houses i_fB_length i_acts_done i_acts_undone i_kn_count f_boxes f_boxKept f_trial f_offers f_A_noteCounts f_A_notes f_B_noteCounts f_B_notes f_now_where f_now_worn f_ahead_where f_ahead_worn f_acts_rows f_kn_tunes f_kn_noteTimes J L) sz)) 0 0 (va_A (WX r ct i_tapeLength i_time i_lyingCount i_rd_fault i_rd_token i_rd_kind i_sc_count i_sc_at i_A_tunes i_A_houses i_fA_length i_B_tunes i_B_houses i_fB_length i_acts_done i_acts_undone i_kn_count f_boxes f_boxKept f_trial f_offers f_A_noteCounts f_A_notes f_B_noteCounts f_B_notes f_now_where f_now_worn f_ahead_where f_ahead_worn f_acts_rows f_kn_tunes f_kn_noteTimes J L) sz) := by
  refine Met.ofW (cc := cX5_readLine) (maxL := 2) (ret := none) (by decide) rfl ?_
  intro p e s m args below meth c0 s₁ B hml hv
  obtain ⟨rfl, hsz, hP, hK, hD0⟩ := hv
  have hx := B.exec
  have hb := B.bytes
  have hr := B.returns
  have hts := atoms_spec (ws := .code yX5_readLine cX5_readLine 2 none :: GW) B.pre
  have hG : ∀ w ∈ GW, w.before _ s = true := fun w h => hts w (List.mem_cons_of_mem _ h)
  have hown : s.vm.findClass RX5 = some m.cls := findClass_of_methodNamed B.named
  subst hsz
  have hD := hD0.self (sz := s.heap.size)
  generalize hAe : va_A (WX r ct i_tapeLength i_time i_lyingCount i_rd_fault i_rd_token i_rd_kind i_sc_count i_sc_at i_A_tunes i_A_houses i_fA_length i_B_tunes i_B_houses i_fB_length i_acts_done i_acts_undone i_kn_count f_boxes f_boxKept f_trial f_offers f_A_noteCounts f_A_notes f_B_noteCounts f_B_notes f_now_where f_now_worn f_ahead_where f_ahead_worn f_acts_rows f_kn_tunes f_kn_noteTimes J L) s.heap.size = A at hD ⊢
  have hA : ∀ q : Nat, s.heap.size ≤ q → A q := fun q h => by rw [← hAe]; exact Or.inr h
  have hS : va_S A s.heap s.heap [] := va_S.rf
  have hP : va_P (dC, dI) vwCl (WX r ct i_tapeLength i_time i_lyingCount i_rd_fault i_rd_token i_rd_kind i_sc_count i_sc_at i_A_tunes i_A_houses i_fA_length i_B_tunes i_B_houses i_fB_length i_acts_done i_acts_undone i_kn_count f_boxes f_boxKept f_trial f_offers f_A_noteCounts f_A_notes f_B_noteCounts f_B_notes f_now_where f_now_worn f_ahead_where f_ahead_worn f_acts_rows f_kn_tunes f_kn_noteTimes J L) s.heap := hP
  have hl := lv_entry ([.ref (r 1)]) (n := 2) (Nat.le_of_ble_eq_true rfl)
  rw [lg_entry_eq]
  generalize (lg_sl ([.ref (r 1)]) ++ List.replicate (2 - (lg_sl ([.ref (r 1)])).length) Slot.unset).toArray = ls at hl ⊢
  have hl : lv_has ls 2 [(0, .ref (r 1))] := hl
  refine nameQ (fun Q hQ => ?_)
  obtain ⟨ie0, ie1, ie2, ie3, ie4, ie5, ie6, ie7, ie8, ie9, ie10, ie11, ie12, ie13, ie14, ie15, ie16, ie17, ie18, ie19, ie20, ie21, ie22, ie23, ie24, ie25, ie26, ie27, ie28, ie29, ie30, ie31, ie32, ie33, ie34, ie35, ie36, ie37, ie38, ie39⟩ := id hI
  refine lv_aload_n hx hb dX5_readLine_0 rfl (lv_at hl 0 rfl) ?_
  refine va_calli (va_runV (As := []) (rest := []) ⟨hx, hb, hml, hown, hG⟩ (kX5_mayBeginLine l dC dI r ct i_tapeLength i_time i_lyingCount i_rd_fault i_rd_token i_rd_kind i_sc_count i_sc_at i_A_tunes i_A_houses i_fA_length i_B_tunes i_B_houses i_fB_length i_acts_done i_acts_undone i_kn_count f_boxes f_boxKept f_trial f_offers f_A_noteCounts f_A_notes f_B_noteCounts f_B_notes f_now_where f_now_worn f_ahead_where f_ahead_worn f_acts_rows f_kn_tunes f_kn_noteTimes J L s.heap.size hI) (cwV 0 hG (goodV gw623 gw625 gw8 gw130 gw626) rfl rfl rfl hd_X5_mayBeginLine ⟨(Nat.le_of_ble_eq_true rfl), (Nat.le_of_ble_eq_true rfl)⟩) ⟨fbR, va_recv hK hP (ci := 4) (q0 := 1) rfl rfl, pR_in hP hK⟩ rfl rfl hl.1 rfl (lv_room (Nat.le_of_ble_eq_true rfl)) dX5_readLine_1 ⟨(Nat.le_of_ble_eq_true rfl), (Nat.le_of_ble_eq_true rfl)⟩) hS (fun q hq h => absurd hq (Nat.not_lt.mpr h)) (fun q h => hA q (Nat.le_trans hS.1 h)) (fun r_2 u_ t_ H1 locs ht hvm hw hB hz1 hk1 hS => ?_)
  subst hw
  have hP := wk hP hk1
  obtain ⟨f3, f4, f5, f6⟩ := hB
  refine lv_if_ne (tgt := 12) hx hb dX5_readLine_4 (by decide) (fun c_7 => ?_) (fun c_7 => ?_)
  · skip
    have f8 : r_2.toInt ≠ 0 := qi_ne c_7 rfl zc_0
    have f9 : (1 : Int) ≤ r_2.toInt := (ox_449 f3 f8)
    have f10 : (i_rd_kind.toInt = (101 : Int)) → (i_B_tunes.toInt ≤ (4 : Int)) := (ox_980 f3 f4 f5 f8)
    have f11 : (i_rd_kind.toInt = (102 : Int)) → (i_B_houses.toInt ≤ (3 : Int)) := (ox_981 f3 f4 f6 f8)
    refine lv_aload_n hx hb dX5_readLine_12 rfl (lv_at hl 0 rfl) ?_
    refine gX_X5_66_1 hx hb hG hown hK hP dX5_readLine_13 ?_
    refine lv_istore_n (lv' := [(1, .int i_rd_kind), (0, .ref (r 1))]) hx hb dX5_readLine_16 rfl hl (by decide) rfl (fun ls hl => ?_)
    refine lv_aload_n hx hb dX5_readLine_17 rfl (lv_at hl 1 rfl) ?_
    have hFc := frA hD hS hA
    refine va_callv (va_runV (As := []) (rest := []) ⟨hx, hb, hml, hown, hG⟩ (kX5_advance l dC dI r ct i_tapeLength i_time i_lyingCount i_rd_fault i_rd_token i_rd_kind i_sc_count i_sc_at i_A_tunes i_A_houses i_fA_length i_B_tunes i_B_houses i_fB_length i_acts_done i_acts_undone i_kn_count f_boxes f_boxKept f_trial f_offers f_A_noteCounts f_A_notes f_B_noteCounts f_B_notes f_now_where f_now_worn f_ahead_where f_ahead_worn f_acts_rows f_kn_tunes f_kn_noteTimes J L H1.size hI) (cwV 0 hG (goodV gw635 gw637 gw11 gw130 gw638) rfl rfl rfl hd_X5_advance ⟨(Nat.le_of_ble_eq_true rfl), (Nat.le_of_ble_eq_true rfl)⟩) ⟨fbW, va_recv hK hP (ci := 4) (q0 := 1) rfl rfl, pW_in hP hK hD⟩ rfl rfl hl.1 rfl (lv_room (Nat.le_of_ble_eq_true rfl)) dX5_readLine_18 ⟨(Nat.le_of_ble_eq_true rfl), (Nat.le_of_ble_eq_true rfl)⟩) hS (fun q _ h => hFc q h) hFc (fun _ t_ H12 locs ht hvm hw hB hz1 hk1 hS => ?_)
    obtain ⟨x14, x15, hP1, hD1, hI16⟩ := hB
    rw [ht] at hP1
    have hP := hP1
    have hD := dW hFc hD1
    obtain ⟨im17, im18, im19, im20, im21, im22, im23, im24, im25, im26, im27, im28, im29, im30, im31, im32, im33, im34, im35, im36, im37, im38, im39, im40, im41, im42, im43, im44, im45, im46, im47, im48, im49, im50, im51, im52, im53, im54, im55, im56⟩ := id hI16
    refine lv_iload_n hx hb dX5_readLine_21 rfl (lv_at hl 0 rfl) ?_
    rcases ts_100_104 i_rd_kind with hs57 | hs57 | hs57 | hs57 | hs57 | hs57
    · skip
      refine lv_tableOut (tgt := 152) hx hb dX5_readLine_22 hs57 (by decide) ?_
      refine lv_aload_n hx hb dX5_readLine_152 rfl (lv_at hl 1 rfl) ?_
      refine lv_iconst (v := 1) hx hb dX5_readLine_153 (by decide) ?_
      refine pX_X5_56_1 hx hb hG hown hK hP hD hS rfl rfl dX5_readLine_154 (fun J59 H58 locs hP hD hS => ?_)
      refine lv_aload_n hx hb dX5_readLine_157 rfl (lv_at hl 1 rfl) ?_
      refine gX_X5_25_1 hx hb hG hown hK hP dX5_readLine_158 ?_
      refine lv_aload_n hx hb dX5_readLine_161 rfl (lv_at hl 1 rfl) ?_
      refine lv_iconst (v := 0) hx hb dX5_readLine_162 (by decide) ?_
      refine lv_sipush (v := 999) hx hb dX5_readLine_163 (by decide) ?_
      have hFc := frA hD hS hA
      refine va_calli (va_runV (As := [.int 0, .int 999]) (rest := [.ref (r 5)]) ⟨hx, hb, hml, hown, hG⟩ (kX5_readNumber l dC dI r ct i_tapeLength i_time i_lyingCount i_rd_fault x14 x15 i_sc_count i_sc_at i_A_tunes i_A_houses i_fA_length i_B_tunes i_B_houses i_fB_length i_acts_done i_acts_undone i_kn_count f_boxes f_boxKept f_trial f_offers f_A_noteCounts f_A_notes f_B_noteCounts f_B_notes f_now_where f_now_worn f_ahead_where f_ahead_worn f_acts_rows f_kn_tunes f_kn_noteTimes J59 L 0 999 H58.size hI16) (cwV 2 hG (goodV gw639 gw641 gw12 gw130 gw642) rfl rfl rfl hd_X5_readNumber ⟨(Nat.le_of_ble_eq_true rfl), (Nat.le_of_ble_eq_true rfl)⟩) ⟨fbW, va_recv hK hP (ci := 4) (q0 := 1) rfl rfl, pW_in hP hK hD⟩ rfl rfl hl.1 rfl (lv_room (Nat.le_of_ble_eq_true rfl)) dX5_readLine_166 ⟨(Nat.le_of_ble_eq_true rfl), (Nat.le_of_ble_eq_true rfl)⟩) hS (fun q _ h => hFc q h) hFc (fun r_61 u_ t_ H60 locs ht hvm hw hB hz1 hk1 hS => ?_)
      subst hw
      obtain ⟨x62, x63, x64, J65, hP1, hD1, hI67, f66⟩ := hB
      rw [ht] at hP1
      have hP := hP1
      have hD := dW hFc hD1
      obtain ⟨im68, im69, im70, im71, im72, im73, im74, im75, im76, im77, im78, im79, im80, im81, im82, im83, im84, im85, im86, im87, im88, im89, im90, im91, im92, im93, im94, im95, im96, im97, im98, im99, im100, im101, im102, im103, im104, im105, im106, im107⟩ := id hI67
      refine pX_X5_120_5 hx hb hG hown hK hP hD hS dX5_readLine_169 (fun J109 H108 locs hP hD hS => ?_)
      refine lv_aload_n hx hb dX5_readLine_172 rfl (lv_at hl 1 rfl) ?_
      refine lv_bipush (v := 59) hx hb dX5_readLine_173 (by decide) ?_
      have hFc := frA hD hS hA
      refine va_callv (va_runV (As := [.int 59]) (rest := []) ⟨hx, hb, hml, hown, hG⟩ (kX5_pass l dC dI r ct i_tapeLength i_time i_lyingCount x62 x63 x64 i_sc_count i_sc_at i_A_tunes i_A_houses i_fA_length i_B_tunes i_B_houses i_fB_length i_acts_done i_acts_undone i_kn_count f_boxes f_boxKept f_trial f_offers f_A_noteCounts f_A_notes f_B_noteCounts f_B_notes f_now_where f_now_worn f_ahead_where f_ahead_worn f_acts_rows f_kn_tunes f_kn_noteTimes J109 L 59 H108.size hI67) (cwV 1 hG (goodV gw651 gw653 gw15 gw130 gw654) rfl rfl rfl hd_X5_pass ⟨(Nat.le_of_ble_eq_true rfl), (Nat.le_of_ble_eq_true rfl)⟩) ⟨fbW, va_recv hK hP (ci := 4) (q0 := 1) rfl rfl, pW_in hP hK hD⟩ rfl rfl hl.1 rfl (lv_room (Nat.le_of_ble_eq_true rfl)) dX5_readLine_175 ⟨(Nat.le_of_ble_eq_true rfl), (Nat.le_of_ble_eq_true rfl)⟩) hS (fun q _ h => hFc q h) hFc (fun _ t_ H110 locs ht hvm hw hB hz1 hk1 hS => ?_)
      obtain ⟨x112, x113, x114, J115, hP1, hD1, hI116⟩ := hB
      rw [ht] at hP1
      have hP := hP1
      have hD := dW hFc hD1
      obtain ⟨im117, im118, im119, im120, im121, im122, im123, im124, im125, im126, im127, im128, im129, im130, im131, im132, im133, im134, im135, im136, im137, im138, im139, im140, im141, im142, im143, im144, im145, im146, im147, im148, im149, im150, im151, im152, im153, im154, im155, im156⟩ := id hI116
      rw [hQ]
      exact W.vret hx hb hr (fun t ht hW => ⟨⟨(), rfl, trivial, ⟨x112, x113, x114, i_B_tunes, i_B_houses, i_fB_length, f_B_noteCounts, f_B_notes, J115, L, by rw [ht]; exact hP, hD, hI116⟩⟩, hS.F ht⟩) hS.2.2 dX5_readLine_178
    · skip
      refine lv_tableIn (off := 34) (tgt := 56) hx hb dX5_readLine_22 (by rw [hs57]; decide) (by rw [hs57]; decide) (by rw [hs57]; decide) (by decide) ?_
      have f157 : i_rd_kind.toInt = 100 := qi_eq hs57 rfl zc_100
      refine lv_aload_n hx hb dX5_readLine_56 rfl (lv_at hl 1 rfl) ?_
      refine lv_iconst (v := 1) hx hb dX5_readLine_57 (by decide) ?_
      refine pX_X5_46_1 hx hb hG hown hK hP hD hS rfl rfl dX5_readLine_58 (fun J159 H158 locs hP hD hS => ?_)
      refine lv_aload_n hx hb dX5_readLine_61 rfl (lv_at hl 1 rfl) ?_
      refine gX_X5_25_1 hx hb hG hown hK hP dX5_readLine_62 ?_
      refine lv_aload_n hx hb dX5_readLine_65 rfl (lv_at hl 1 rfl) ?_
      refine lv_iconst (v := 1) hx hb dX5_readLine_66 (by decide) ?_
      refine lv_bipush (v := 9) hx hb dX5_readLine_67 (by decide) ?_
      have hFc := frA hD hS hA
      refine va_calli (va_runV (As := [.int 1, .int 9]) (rest := [.ref (r 5)]) ⟨hx, hb, hml, hown, hG⟩ (kX5_readNumber l dC dI r ct i_tapeLength i_time i_lyingCount i_rd_fault x14 x15 i_sc_count i_sc_at i_A_tunes i_A_houses i_fA_length i_B_tunes i_B_houses i_fB_length i_acts_done i_acts_undone i_kn_count f_boxes f_boxKept f_trial f_offers f_A_noteCounts f_A_notes f_B_noteCounts f_B_notes f_now_where f_now_worn f_ahead_where f_ahead_worn f_acts_rows f_kn_tunes f_kn_noteTimes J159 L 1 9 H158.size hI16) (cwV 2 hG (goodV gw639 gw641 gw12 gw130 gw642) rfl rfl rfl hd_X5_readNumber ⟨(Nat.le_of_ble_eq_true rfl), (Nat.le_of_ble_eq_true rfl)⟩) ⟨fbW, va_recv hK hP (ci := 4) (q0 := 1) rfl rfl, pW_in hP hK hD⟩ rfl rfl hl.1 rfl (lv_room (Nat.le_of_ble_eq_true rfl)) dX5_readLine_69 ⟨(Nat.le_of_ble_eq_true rfl), (Nat.le_of_ble_eq_true rfl)⟩) hS (fun q _ h => hFc q h) hFc (fun r_161 u_ t_ H160 locs ht hvm hw hB hz1 hk1 hS => ?_)
      subst hw
      obtain ⟨x162, x163, x164, J165, hP1, hD1, hI167, f166⟩ := hB
      rw [ht] at hP1
      have hP := hP1
      have hD := dW hFc hD1
      obtain ⟨im168, im169, im170, im171, im172, im173, im174, im175, im176, im177, im178, im179, im180, im181, im182, im183, im184, im185, im186, im187, im188, im189, im190, im191, im192, im193, im194, im195, im196, im197, im198, im199, im200, im201, im202, im203, im204, im205, im206, im207⟩ := id hI167
      refine pX_X5_88_5 hx hb hG hown hK hP hD hS dX5_readLine_72 (fun J209 H208 locs hP hD hS => ?_)
      refine lv_goto (tgt := 172) hx hb dX5_readLine_75 (by decide) ?_
      refine lv_aload_n hx hb dX5_readLine_172 rfl (lv_at hl 1 rfl) ?_
      refine lv_bipush (v := 59) hx hb dX5_readLine_173 (by decide) ?_
      have hFc := frA hD hS hA
      refine va_callv (va_runV (As := [.int 59]) (rest := []) ⟨hx, hb, hml, hown, hG⟩ (kX5_pass l dC dI r ct i_tapeLength i_time i_lyingCount x162 x163 x164 i_sc_count i_sc_at i_A_tunes i_A_houses i_fA_length i_B_tunes i_B_houses i_fB_length i_acts_done i_acts_undone i_kn_count f_boxes f_boxKept f_trial f_offers f_A_noteCounts f_A_notes f_B_noteCounts f_B_notes f_now_where f_now_worn f_ahead_where f_ahead_worn f_acts_rows f_kn_tunes f_kn_noteTimes J209 L 59 H208.size hI167) (cwV 1 hG (goodV gw651 gw653 gw15 gw130 gw654) rfl rfl rfl hd_X5_pass ⟨(Nat.le_of_ble_eq_true rfl), (Nat.le_of_ble_eq_true rfl)⟩) ⟨fbW, va_recv hK hP (ci := 4) (q0 := 1) rfl rfl, pW_in hP hK hD⟩ rfl rfl hl.1 rfl (lv_room (Nat.le_of_ble_eq_true rfl)) dX5_readLine_175 ⟨(Nat.le_of_ble_eq_true rfl), (Nat.le_of_ble_eq_true rfl)⟩) hS (fun q _ h => hFc q h) hFc (fun _ t_ H210 locs ht hvm hw hB hz1 hk1 hS => ?_)
      obtain ⟨x212, x213, x214, J215, hP1, hD1, hI216⟩ := hB
      rw [ht] at hP1
      have hP := hP1
      have hD := dW hFc hD1
      obtain ⟨im217, im218, im219, im220, im221, im222, im223, im224, im225, im226, im227, im228, im229, im230, im231, im232, im233, im234, im235, im236, im237, im238, im239, im240, im241, im242, im243, im244, im245, im246, im247, im248, im249, im250, im251, im252, im253, im254, im255, im256⟩ := id hI216
      rw [hQ]
      exact W.vret hx hb hr (fun t ht hW => ⟨⟨(), rfl, trivial, ⟨x212, x213, x214, i_B_tunes, i_B_houses, i_fB_length, f_B_noteCounts, f_B_notes, J215, L, by rw [ht]; exact hP, hD, hI216⟩⟩, hS.F ht⟩) hS.2.2 dX5_readLine_178
    · skip
      refine lv_tableIn (off := 56) (tgt := 78) hx hb dX5_readLine_22 (by rw [hs57]; decide) (by rw [hs57]; decide) (by rw [hs57]; decide) (by decide) ?_
      have f257 : i_rd_kind.toInt = 101 := qi_eq hs57 rfl zc_101
      have f258 : i_B_tunes.toInt ≤ (4 : Int) := (ox_982 f3 f4 f5 f8 f257)
      refine lv_aload_n hx hb dX5_readLine_78 rfl (lv_at hl 1 rfl) ?_
      refine lv_aload_n hx hb dX5_readLine_79 rfl (lv_at hl 1 rfl) ?_
      refine gX_X5_25_1 hx hb hG hown hK hP dX5_readLine_80 ?_
      refine gX_X5_91_5 hx hb hG hown hK hP dX5_readLine_83 ?_
      have hFc := frA hD hS hA
      refine va_callv (va_runV (As := [.int i_B_tunes]) (rest := []) ⟨hx, hb, hml, hown, hG⟩ (kX5_readTune l dC dI r ct i_tapeLength i_time i_lyingCount i_rd_fault x14 x15 i_sc_count i_sc_at i_A_tunes i_A_houses i_fA_length i_B_tunes i_B_houses i_fB_length i_acts_done i_acts_undone i_kn_count f_boxes f_boxKept f_trial f_offers f_A_noteCounts f_A_notes f_B_noteCounts f_B_notes f_now_where f_now_worn f_ahead_where f_ahead_worn f_acts_rows f_kn_tunes f_kn_noteTimes J L i_B_tunes H12.size hI16 (ox_293) (ox_983 ie16 ie17 f258)) (cwV 1 hG (goodV gw643 gw645 gw13 gw130 gw646) rfl rfl rfl hd_X5_readTune ⟨(Nat.le_of_ble_eq_true rfl), (Nat.le_of_ble_eq_true rfl)⟩) ⟨fbW, va_recv hK hP (ci := 4) (q0 := 1) rfl rfl, pW_in hP hK hD⟩ rfl rfl hl.1 rfl (lv_room (Nat.le_of_ble_eq_true rfl)) dX5_readLine_86 ⟨(Nat.le_of_ble_eq_true rfl), (Nat.le_of_ble_eq_true rfl)⟩) hS (fun q _ h => hFc q h) hFc (fun _ t_ H259 locs ht hvm hw hB hz1 hk1 hS => ?_)
      obtain ⟨x261, x262, x263, x264, z265, z266, J267, L268, hP1, hD1, hI269⟩ := hB
      rw [ht] at hP1
      have hP := hP1
      have hD := dW hFc hD1
      obtain ⟨im270, im271, im272, im273, im274, im275, im276, im277, im278, im279, im280, im281, im282, im283, im284, im285, im286, im287, im288, im289, im290, im291, im292, im293, im294, im295, im296, im297, im298, im299, im300, im301, im302, im303, im304, im305, im306, im307, im308, im309⟩ := id hI269
      refine lv_goto (tgt := 172) hx hb dX5_readLine_89 (by decide) ?_
      refine lv_aload_n hx hb dX5_readLine_172 rfl (lv_at hl 1 rfl) ?_
      refine lv_bipush (v := 59) hx hb dX5_readLine_173 (by decide) ?_
      have hFc := frA hD hS hA
      refine va_callv (va_runV (As := [.int 59]) (rest := []) ⟨hx, hb, hml, hown, hG⟩ (kX5_pass l dC dI r ct i_tapeLength i_time i_lyingCount x261 x262 x263 i_sc_count i_sc_at i_A_tunes i_A_houses i_fA_length x264 i_B_houses i_fB_length i_acts_done i_acts_undone i_kn_count f_boxes f_boxKept f_trial f_offers f_A_noteCounts f_A_notes z265 z266 f_now_where f_now_worn f_ahead_where f_ahead_worn f_acts_rows f_kn_tunes f_kn_noteTimes J267 L268 59 H259.size hI269) (cwV 1 hG (goodV gw651 gw653 gw15 gw130 gw654) rfl rfl rfl hd_X5_pass ⟨(Nat.le_of_ble_eq_true rfl), (Nat.le_of_ble_eq_true rfl)⟩) ⟨fbW, va_recv hK hP (ci := 4) (q0 := 1) rfl rfl, pW_in hP hK hD⟩ rfl rfl hl.1 rfl (lv_room (Nat.le_of_ble_eq_true rfl)) dX5_readLine_175 ⟨(Nat.le_of_ble_eq_true rfl), (Nat.le_of_ble_eq_true rfl)⟩) hS (fun q _ h => hFc q h) hFc (fun _ t_ H310 locs ht hvm hw hB hz1 hk1 hS => ?_)
      obtain ⟨x312, x313, x314, J315, hP1, hD1, hI316⟩ := hB
      rw [ht] at hP1
      have hP := hP1
      have hD := dW hFc hD1
      obtain ⟨im317, im318, im319, im320, im321, im322, im323, im324, im325, im326, im327, im328, im329, im330, im331, im332, im333, im334, im335, im336, im337, im338, im339, im340, im341, im342, im343, im344, im345, im346, im347, im348, im349, im350, im351, im352, im353, im354, im355, im356⟩ := id hI316
      rw [hQ]
      exact W.vret hx hb hr (fun t ht hW => ⟨⟨(), rfl, trivial, ⟨x312, x313, x314, x264, i_B_houses, i_fB_length, z265, z266, J315, L268, by rw [ht]; exact hP, hD, hI316⟩⟩, hS.F ht⟩) hS.2.2 dX5_readLine_178
    · skip
      refine lv_tableIn (off := 70) (tgt := 92) hx hb dX5_readLine_22 (by rw [hs57]; decide) (by rw [hs57]; decide) (by rw [hs57]; decide) (by decide) ?_
      have f357 : i_rd_kind.toInt = 102 := qi_eq hs57 rfl zc_102
      have f358 : i_B_houses.toInt ≤ (3 : Int) := (ox_984 f3 f4 f6 f8 f357)
      refine lv_aload_n hx hb dX5_readLine_92 rfl (lv_at hl 1 rfl) ?_
      refine lv_aload_n hx hb dX5_readLine_93 rfl (lv_at hl 1 rfl) ?_
      refine gX_X5_25_1 hx hb hG hown hK hP dX5_readLine_94 ?_
      refine gX_X5_98_5 hx hb hG hown hK hP dX5_readLine_97 ?_
      have hFc := frA hD hS hA
      refine va_callv (va_runV (As := [.int i_B_houses]) (rest := []) ⟨hx, hb, hml, hown, hG⟩ (kX5_readHouse l dC dI r ct i_tapeLength i_time i_lyingCount i_rd_fault x14 x15 i_sc_count i_sc_at i_A_tunes i_A_houses i_fA_length i_B_tunes i_B_houses i_fB_length i_acts_done i_acts_undone i_kn_count f_boxes f_boxKept f_trial f_offers f_A_noteCounts f_A_notes f_B_noteCounts f_B_notes f_now_where f_now_worn f_ahead_where f_ahead_worn f_acts_rows f_kn_tunes f_kn_noteTimes J L i_B_houses H12.size hI16 (ox_293) (ox_985 ie18 ie19 f358)) (cwV 1 hG (goodV gw655 gw657 gw16 gw130 gw658) rfl rfl rfl hd_X5_readHouse ⟨(Nat.le_of_ble_eq_true rfl), (Nat.le_of_ble_eq_true rfl)⟩) ⟨fbW, va_recv hK hP (ci := 4) (q0 := 1) rfl rfl, pW_in hP hK hD⟩ rfl rfl hl.1 rfl (lv_room (Nat.le_of_ble_eq_true rfl)) dX5_readLine_100 ⟨(Nat.le_of_ble_eq_true rfl), (Nat.le_of_ble_eq_true rfl)⟩) hS (fun q _ h => hFc q h) hFc (fun _ t_ H359 locs ht hvm hw hB hz1 hk1 hS => ?_)
      obtain ⟨x361, x362, x363, x364, J365, L366, hP1, hD1, hI367⟩ := hB
      rw [ht] at hP1
      have hP := hP1
      have hD := dW hFc hD1
      obtain ⟨im368, im369, im370, im371, im372, im373, im374, im375, im376, im377, im378, im379, im380, im381, im382, im383, im384, im385, im386, im387, im388, im389, im390, im391, im392, im393, im394, im395, im396, im397, im398, im399, im400, im401, im402, im403, im404, im405, im406, im407⟩ := id hI367
      refine lv_goto (tgt := 172) hx hb dX5_readLine_103 (by decide) ?_
      refine lv_aload_n hx hb dX5_readLine_172 rfl (lv_at hl 1 rfl) ?_
      refine lv_bipush (v := 59) hx hb dX5_readLine_173 (by decide) ?_
      have hFc := frA hD hS hA
      refine va_callv (va_runV (As := [.int 59]) (rest := []) ⟨hx, hb, hml, hown, hG⟩ (kX5_pass l dC dI r ct i_tapeLength i_time i_lyingCount x361 x362 x363 i_sc_count i_sc_at i_A_tunes i_A_houses i_fA_length i_B_tunes x364 i_fB_length i_acts_done i_acts_undone i_kn_count f_boxes f_boxKept f_trial f_offers f_A_noteCounts f_A_notes f_B_noteCounts f_B_notes f_now_where f_now_worn f_ahead_where f_ahead_worn f_acts_rows f_kn_tunes f_kn_noteTimes J365 L366 59 H359.size hI367) (cwV 1 hG (goodV gw651 gw653 gw15 gw130 gw654) rfl rfl rfl hd_X5_pass ⟨(Nat.le_of_ble_eq_true rfl), (Nat.le_of_ble_eq_true rfl)⟩) ⟨fbW, va_recv hK hP (ci := 4) (q0 := 1) rfl rfl, pW_in hP hK hD⟩ rfl rfl hl.1 rfl (lv_room (Nat.le_of_ble_eq_true rfl)) dX5_readLine_175 ⟨(Nat.le_of_ble_eq_true rfl), (Nat.le_of_ble_eq_true rfl)⟩) hS (fun q _ h => hFc q h) hFc (fun _ t_ H408 locs ht hvm hw hB hz1 hk1 hS => ?_)
      obtain ⟨x410, x411, x412, J413, hP1, hD1, hI414⟩ := hB
      rw [ht] at hP1
      have hP := hP1
      have hD := dW hFc hD1
      obtain ⟨im415, im416, im417, im418, im419, im420, im421, im422, im423, im424, im425, im426, im427, im428, im429, im430, im431, im432, im433, im434, im435, im436, im437, im438, im439, im440, im441, im442, im443, im444, im445, im446, im447, im448, im449, im450, im451, im452, im453, im454⟩ := id hI414
      rw [hQ]
      exact W.vret hx hb hr (fun t ht hW => ⟨⟨(), rfl, trivial, ⟨x410, x411, x412, i_B_tunes, x364, i_fB_length, f_B_noteCounts, f_B_notes, J413, L366, by rw [ht]; exact hP, hD, hI414⟩⟩, hS.F ht⟩) hS.2.2 dX5_readLine_178
    · skip
      refine lv_tableIn (off := 84) (tgt := 106) hx hb dX5_readLine_22 (by rw [hs57]; decide) (by rw [hs57]; decide) (by rw [hs57]; decide) (by decide) ?_
      have f455 : i_rd_kind.toInt = 103 := qi_eq hs57 rfl zc_103
      refine lv_aload_n hx hb dX5_readLine_106 rfl (lv_at hl 1 rfl) ?_
      refine lv_iconst (v := 1) hx hb dX5_readLine_107 (by decide) ?_
      refine pX_X5_50_1 hx hb hG hown hK hP hD hS rfl rfl dX5_readLine_108 (fun J457 H456 locs hP hD hS => ?_)
      refine lv_aload_n hx hb dX5_readLine_111 rfl (lv_at hl 1 rfl) ?_
      refine gX_X5_25_1 hx hb hG hown hK hP dX5_readLine_112 ?_
      refine gX_X5_104_5 hx hb hG hown hK hP dX5_readLine_115 ?_
      have hFc := frA hD hS hA
      refine va_callv (va_runV (As := []) (rest := []) ⟨hx, hb, hml, hown, hG⟩ (kX1_empty l dC dI r ct i_tapeLength i_time i_lyingCount i_rd_fault x14 x15 i_sc_count i_sc_at i_A_tunes i_A_houses i_fA_length i_B_tunes i_B_houses i_fB_length i_acts_done i_acts_undone i_kn_count f_boxes f_boxKept f_trial f_offers f_A_noteCounts f_A_notes f_B_noteCounts f_B_notes f_now_where f_now_worn f_ahead_where f_ahead_worn f_acts_rows f_kn_tunes f_kn_noteTimes J457 L H456.size hI16) (cwV 0 hG (goodV gw659 gw215 gw216 gw133 gw217) rfl rfl rfl hd_X1_empty ⟨(Nat.le_of_ble_eq_true rfl), (Nat.le_of_ble_eq_true rfl)⟩) ⟨fbW, va_recv hK hP (ci := 1) (q0 := 6) rfl rfl, pW_in hP hK hD⟩ rfl rfl hl.1 rfl (lv_room (Nat.le_of_ble_eq_true rfl)) dX5_readLine_118 ⟨(Nat.le_of_ble_eq_true rfl), (Nat.le_of_ble_eq_true rfl)⟩) hS (fun q _ h => hFc q h) hFc (fun _ t_ H458 locs ht hvm hw hB hz1 hk1 hS => ?_)
      obtain ⟨x460, hP1, hD1, hI461⟩ := hB
      rw [ht] at hP1
      have hP := hP1
      have hD := dW hFc hD1
      obtain ⟨im462, im463, im464, im465, im466, im467, im468, im469, im470, im471, im472, im473, im474, im475, im476, im477, im478, im479, im480, im481, im482, im483, im484, im485, im486, im487, im488, im489, im490, im491, im492, im493, im494, im495, im496, im497, im498, im499, im500, im501⟩ := id hI461
      refine lv_aload_n hx hb dX5_readLine_121 rfl (lv_at hl 1 rfl) ?_
      refine lv_iconst (v := 0) hx hb dX5_readLine_122 (by decide) ?_
      refine lv_iconst (v := 0) hx hb dX5_readLine_123 (by decide) ?_
      have hFc := frA hD hS hA
      refine va_callv (va_runV (As := [.int 0, .int 0]) (rest := []) ⟨hx, hb, hml, hown, hG⟩ (kX5_readFormula l dC dI r ct i_tapeLength i_time i_lyingCount i_rd_fault x14 x15 i_sc_count i_sc_at i_A_tunes i_A_houses i_fA_length i_B_tunes i_B_houses x460 i_acts_done i_acts_undone i_kn_count f_boxes f_boxKept f_trial f_offers f_A_noteCounts f_A_notes f_B_noteCounts f_B_notes f_now_where f_now_worn f_ahead_where f_ahead_worn f_acts_rows f_kn_tunes f_kn_noteTimes J457 L H458.size hI461) (cwV 2 hG (goodV gw660 gw662 gw17 gw130 gw663) rfl rfl rfl hd_X5_readFormula ⟨(Nat.le_of_ble_eq_true rfl), (Nat.le_of_ble_eq_true rfl)⟩) ⟨fbW, va_recv hK hP (ci := 4) (q0 := 1) rfl rfl, pW_in hP hK hD⟩ rfl rfl hl.1 rfl (lv_room (Nat.le_of_ble_eq_true rfl)) dX5_readLine_124 ⟨(Nat.le_of_ble_eq_true rfl), (Nat.le_of_ble_eq_true rfl)⟩) hS (fun q _ h => hFc q h) hFc (fun _ t_ H502 locs ht hvm hw hB hz1 hk1 hS => ?_)
      obtain ⟨x504, x505, x506, x507, J508, hP1, hD1, hI509⟩ := hB
      rw [ht] at hP1
      have hP := hP1
      have hD := dW hFc hD1
      obtain ⟨im510, im511, im512, im513, im514, im515, im516, im517, im518, im519, im520, im521, im522, im523, im524, im525, im526, im527, im528, im529, im530, im531, im532, im533, im534, im535, im536, im537, im538, im539, im540, im541, im542, im543, im544, im545, im546, im547, im548, im549⟩ := id hI509
      refine lv_goto (tgt := 172) hx hb dX5_readLine_127 (by decide) ?_
      refine lv_aload_n hx hb dX5_readLine_172 rfl (lv_at hl 1 rfl) ?_
      refine lv_bipush (v := 59) hx hb dX5_readLine_173 (by decide) ?_
      have hFc := frA hD hS hA
      refine va_callv (va_runV (As := [.int 59]) (rest := []) ⟨hx, hb, hml, hown, hG⟩ (kX5_pass l dC dI r ct i_tapeLength i_time i_lyingCount x504 x505 x506 i_sc_count i_sc_at i_A_tunes i_A_houses i_fA_length i_B_tunes i_B_houses x507 i_acts_done i_acts_undone i_kn_count f_boxes f_boxKept f_trial f_offers f_A_noteCounts f_A_notes f_B_noteCounts f_B_notes f_now_where f_now_worn f_ahead_where f_ahead_worn f_acts_rows f_kn_tunes f_kn_noteTimes J508 L 59 H502.size hI509) (cwV 1 hG (goodV gw651 gw653 gw15 gw130 gw654) rfl rfl rfl hd_X5_pass ⟨(Nat.le_of_ble_eq_true rfl), (Nat.le_of_ble_eq_true rfl)⟩) ⟨fbW, va_recv hK hP (ci := 4) (q0 := 1) rfl rfl, pW_in hP hK hD⟩ rfl rfl hl.1 rfl (lv_room (Nat.le_of_ble_eq_true rfl)) dX5_readLine_175 ⟨(Nat.le_of_ble_eq_true rfl), (Nat.le_of_ble_eq_true rfl)⟩) hS (fun q _ h => hFc q h) hFc (fun _ t_ H550 locs ht hvm hw hB hz1 hk1 hS => ?_)
      obtain ⟨x552, x553, x554, J555, hP1, hD1, hI556⟩ := hB
      rw [ht] at hP1
      have hP := hP1
      have hD := dW hFc hD1
      obtain ⟨im557, im558, im559, im560, im561, im562, im563, im564, im565, im566, im567, im568, im569, im570, im571, im572, im573, im574, im575, im576, im577, im578, im579, im580, im581, im582, im583, im584, im585, im586, im587, im588, im589, im590, im591, im592, im593, im594, im595, im596⟩ := id hI556
      rw [hQ]
      exact W.vret hx hb hr (fun t ht hW => ⟨⟨(), rfl, trivial, ⟨x552, x553, x554, i_B_tunes, i_B_houses, x507, f_B_noteCounts, f_B_notes, J555, L, by rw [ht]; exact hP, hD, hI556⟩⟩, hS.F ht⟩) hS.2.2 dX5_readLine_178
    · skip
      refine lv_tableIn (off := 108) (tgt := 130) hx hb dX5_readLine_22 (by rw [hs57]; decide) (by rw [hs57]; decide) (by rw [hs57]; decide) (by decide) ?_
      have f597 : i_rd_kind.toInt = 104 := qi_eq hs57 rfl zc_104
      refine lv_aload_n hx hb dX5_readLine_130 rfl (lv_at hl 1 rfl) ?_
      refine lv_iconst (v := 1) hx hb dX5_readLine_131 (by decide) ?_
      refine pX_X5_53_1 hx hb hG hown hK hP hD hS rfl rfl dX5_readLine_132 (fun J599 H598 locs hP hD hS => ?_)
      refine lv_aload_n hx hb dX5_readLine_135 rfl (lv_at hl 1 rfl) ?_
      refine gX_X5_25_1 hx hb hG hown hK hP dX5_readLine_136 ?_
      refine lv_aload_n hx hb dX5_readLine_139 rfl (lv_at hl 1 rfl) ?_
      refine lv_iconst (v := 0) hx hb dX5_readLine_140 (by decide) ?_
      refine lv_bipush (v := 100) hx hb dX5_readLine_141 (by decide) ?_
      have hFc := frA hD hS hA
      refine va_calli (va_runV (As := [.int 0, .int 100]) (rest := [.ref (r 5)]) ⟨hx, hb, hml, hown, hG⟩ (kX5_readNumber l dC dI r ct i_tapeLength i_time i_lyingCount i_rd_fault x14 x15 i_sc_count i_sc_at i_A_tunes i_A_houses i_fA_length i_B_tunes i_B_houses i_fB_length i_acts_done i_acts_undone i_kn_count f_boxes f_boxKept f_trial f_offers f_A_noteCounts f_A_notes f_B_noteCounts f_B_notes f_now_where f_now_worn f_ahead_where f_ahead_worn f_acts_rows f_kn_tunes f_kn_noteTimes J599 L 0 100 H598.size hI16) (cwV 2 hG (goodV gw639 gw641 gw12 gw130 gw642) rfl rfl rfl hd_X5_readNumber ⟨(Nat.le_of_ble_eq_true rfl), (Nat.le_of_ble_eq_true rfl)⟩) ⟨fbW, va_recv hK hP (ci := 4) (q0 := 1) rfl rfl, pW_in hP hK hD⟩ rfl rfl hl.1 rfl (lv_room (Nat.le_of_ble_eq_true rfl)) dX5_readLine_143 ⟨(Nat.le_of_ble_eq_true rfl), (Nat.le_of_ble_eq_true rfl)⟩) hS (fun q _ h => hFc q h) hFc (fun r_601 u_ t_ H600 locs ht hvm hw hB hz1 hk1 hS => ?_)
      subst hw
      obtain ⟨x602, x603, x604, J605, hP1, hD1, hI607, f606⟩ := hB
      rw [ht] at hP1
      have hP := hP1
      have hD := dW hFc hD1
      obtain ⟨im608, im609, im610, im611, im612, im613, im614, im615, im616, im617, im618, im619, im620, im621, im622, im623, im624, im625, im626, im627, im628, im629, im630, im631, im632, im633, im634, im635, im636, im637, im638, im639, im640, im641, im642, im643, im644, im645, im646, im647⟩ := id hI607
      refine pX_X5_117_5 hx hb hG hown hK hP hD hS dX5_readLine_146 (fun J649 H648 locs hP hD hS => ?_)
      refine lv_goto (tgt := 172) hx hb dX5_readLine_149 (by decide) ?_
      refine lv_aload_n hx hb dX5_readLine_172 rfl (lv_at hl 1 rfl) ?_
      refine lv_bipush (v := 59) hx hb dX5_readLine_173 (by decide) ?_
      have hFc := frA hD hS hA
      refine va_callv (va_runV (As := [.int 59]) (rest := []) ⟨hx, hb, hml, hown, hG⟩ (kX5_pass l dC dI r ct i_tapeLength i_time i_lyingCount x602 x603 x604 i_sc_count i_sc_at i_A_tunes i_A_houses i_fA_length i_B_tunes i_B_houses i_fB_length i_acts_done i_acts_undone i_kn_count f_boxes f_boxKept f_trial f_offers f_A_noteCounts f_A_notes f_B_noteCounts f_B_notes f_now_where f_now_worn f_ahead_where f_ahead_worn f_acts_rows f_kn_tunes f_kn_noteTimes J649 L 59 H648.size hI607) (cwV 1 hG (goodV gw651 gw653 gw15 gw130 gw654) rfl rfl rfl hd_X5_pass ⟨(Nat.le_of_ble_eq_true rfl), (Nat.le_of_ble_eq_true rfl)⟩) ⟨fbW, va_recv hK hP (ci := 4) (q0 := 1) rfl rfl, pW_in hP hK hD⟩ rfl rfl hl.1 rfl (lv_room (Nat.le_of_ble_eq_true rfl)) dX5_readLine_175 ⟨(Nat.le_of_ble_eq_true rfl), (Nat.le_of_ble_eq_true rfl)⟩) hS (fun q _ h => hFc q h) hFc (fun _ t_ H650 locs ht hvm hw hB hz1 hk1 hS => ?_)
      obtain ⟨x652, x653, x654, J655, hP1, hD1, hI656⟩ := hB
      rw [ht] at hP1
      have hP := hP1
      have hD := dW hFc hD1
      obtain ⟨im657, im658, im659, im660, im661, im662, im663, im664, im665, im666, im667, im668, im669, im670, im671, im672, im673, im674, im675, im676, im677, im678, im679, im680, im681, im682, im683, im684, im685, im686, im687, im688, im689, im690, im691, im692, im693, im694, im695, im696⟩ := id hI656
      rw [hQ]
      exact W.vret hx hb hr (fun t ht hW => ⟨⟨(), rfl, trivial, ⟨x652, x653, x654, i_B_tunes, i_B_houses, i_fB_length, f_B_noteCounts, f_B_notes, J655, L, by rw [ht]; exact hP, hD, hI656⟩⟩, hS.F ht⟩) hS.2.2 dX5_readLine_178
  · skip
    have f697 : r_2.toInt = 0 := qi_eq c_7 rfl zc_0
    refine lv_aload_n hx hb dX5_readLine_7 rfl (lv_at hl 0 rfl) ?_
    have hFc := frA hD hS hA
    refine va_callv (va_runV (As := []) (rest := []) ⟨hx, hb, hml, hown, hG⟩ (kX5_refuse l dC dI r ct i_tapeLength i_time i_lyingCount i_rd_fault i_rd_token i_rd_kind i_sc_count i_sc_at i_A_tunes i_A_houses i_fA_length i_B_tunes i_B_houses i_fB_length i_acts_done i_acts_undone i_kn_count f_boxes f_boxKept f_trial f_offers f_A_noteCounts f_A_notes f_B_noteCounts f_B_notes f_now_where f_now_worn f_ahead_where f_ahead_worn f_acts_rows f_kn_tunes f_kn_noteTimes J L H1.size hI) (cwV 0 hG (goodV gw627 gw629 gw9 gw130 gw630) rfl rfl rfl hd_X5_refuse ⟨(Nat.le_of_ble_eq_true rfl), (Nat.le_of_ble_eq_true rfl)⟩) ⟨fbW, va_recv hK hP (ci := 4) (q0 := 1) rfl rfl, pW_in hP hK hD⟩ rfl rfl hl.1 rfl (lv_room (Nat.le_of_ble_eq_true rfl)) dX5_readLine_8 ⟨(Nat.le_of_ble_eq_true rfl), (Nat.le_of_ble_eq_true rfl)⟩) hS (fun q _ h => hFc q h) hFc (fun _ t_ H698 locs ht hvm hw hB hz1 hk1 hS => ?_)
    obtain ⟨x700, J701, hP1, hD1, hI702⟩ := hB
    rw [ht] at hP1
    have hP := hP1
    have hD := dW hFc hD1
    obtain ⟨im703, im704, im705, im706, im707, im708, im709, im710, im711, im712, im713, im714, im715, im716, im717, im718, im719, im720, im721, im722, im723, im724, im725, im726, im727, im728, im729, im730, im731, im732, im733, im734, im735, im736, im737, im738, im739, im740, im741, im742⟩ := id hI702
    rw [hQ]
    exact W.vret hx hb hr (fun t ht hW => ⟨⟨(), rfl, trivial, ⟨x700, i_rd_token, i_rd_kind, i_B_tunes, i_B_houses, i_fB_length, f_B_noteCounts, f_B_notes, J701, L, by rw [ht]; exact hP, hD, hI702⟩⟩, hS.F ht⟩) hS.2.2 dX5_readLine_11
set_option maxHeartbeats 4000000 in
set_option maxRecDepth 100000 in
theorem kX5_read (l : Launch) (dC : Nat → ClassId) (dI : Nat → Nat → Nat) (r : Nat → Nat) (ct : Nat → ClassId) (i_tapeLength i_time i_lyingCount i_rd_fault i_rd_token i_rd_kind i_sc_count i_sc_at i_A_tunes i_A_houses i_fA_length i_B_tunes i_B_houses i_fB_length i_acts_done i_acts_undone i_kn_count : Int32) (f_boxes f_boxKept f_trial f_offers f_A_noteCounts f_A_notes f_B_noteCounts f_B_notes f_now_where f_now_worn f_ahead_where f_ahead_worn f_acts_rows f_kn_tunes f_kn_noteTimes : Nat → Int32) (J : Nat → Nat → Int32) (L : Nat → Nat → Int64) (p1 : Int32) (adK adV : Nat) (fS : Nat → Int32) (sz : Nat) (hI : (IX i_tapeLength i_time i_lyingCount i_rd_token i_sc_count i_sc_at i_A_tunes i_A_houses i_fA_length i_B_tunes i_B_houses i_fB_length i_acts_done i_acts_undone i_kn_count f_boxes f_A_noteCounts f_A_notes f_B_noteCounts f_B_notes f_now_worn f_ahead_worn f_acts_rows f_kn_tunes)) : Met l yX5_read (.code yX5_read cX5_read 4 (some .boolean) :: GW) { frames := 120, cells := 0, slots := 0, locals := 3907 } (va_Pc [.ref (r 1), .ref (r 11), .int p1] (pS (dC, dI) (WX r ct i_tapeLength i_time i_lyingCount i_rd_fault i_rd_token i_rd_kind i_sc_count i_sc_at i_A_tunes i_A_houses i_fA_length i_B_tunes i_B_houses i_fB_length i_acts_done i_acts_undone i_kn_count f_boxes f_boxKept f_trial f_offers f_A_noteCounts f_A_notes f_B_noteCounts f_B_notes f_now_where f_now_worn f_ahead_where f_ahead_worn f_acts_rows f_kn_tunes f_kn_noteTimes J L) (TX ct) sz adK adV fS)) (va_Qi (fun (r0 : Int32) (u : Int32) => r0 = u) (fun (u : Int32) (t : State) => ∃ (n_i_rd_fault n_i_rd_token n_i_rd_kind n_i_sc_count n_i_sc_at n_i_B_tunes n_i_B_houses n_i_fB_length : Int32) (n_f_B_noteCounts n_f_B_notes : Nat → Int32) (n_J : Nat → Nat → Int32) (n_L : Nat → Nat → Int64), va_P (dC, dI) vwCl (WX r ct i_tapeLength i_time i_lyingCount n_i_rd_fault n_i_rd_token n_i_rd_kind n_i_sc_count n_i_sc_at i_A_tunes i_A_houses i_fA_length n_i_B_tunes n_i_B_houses n_i_fB_length i_acts_done i_acts_undone i_kn_count f_boxes f_boxKept f_trial f_offers f_A_noteCounts f_A_notes n_f_B_noteCounts n_f_B_notes f_now_where f_now_worn f_ahead_where f_ahead_worn f_acts_rows f_kn_tunes f_kn_noteTimes n_J n_L) t.heap ∧ va_D (va_A (WX r ct i_tapeLength i_time i_lyingCount i_rd_fault i_rd_token i_rd_kind i_sc_count i_sc_at i_A_tunes i_A_houses i_fA_length i_B_tunes i_B_houses i_fB_length i_acts_done i_acts_undone i_kn_count f_boxes f_boxKept f_trial f_offers f_A_noteCounts f_A_notes f_B_noteCounts f_B_notes f_now_where f_now_worn f_ahead_where f_ahead_worn f_acts_rows f_kn_tunes f_kn_noteTimes J L) sz) (WX r ct i_tapeLength i_time i_lyingCount n_i_rd_fault n_i_rd_token n_i_rd_kind n_i_sc_count n_i_sc_at i_A_tunes i_A_houses i_fA_length n_i_B_tunes n_i_B_houses n_i_fB_length i_acts_done i_acts_undone i_kn_count f_boxes f_boxKept f_trial f_offers f_A_noteCounts f_A_notes n_f_B_noteCounts n_f_B_notes f_now_where f_now_worn f_ahead_where f_ahead_worn f_acts_rows f_kn_tunes f_kn_noteTimes n_J n_L) ∧ (IX i_tapeLength i_time i_lyingCount n_i_rd_token n_i_sc_count n_i_sc_at i_A_tunes i_A_houses i_fA_length n_i_B_tunes n_i_B_houses n_i_fB_length i_acts_done i_acts_undone i_kn_count f_boxes f_A_noteCounts f_A_notes n_f_B_noteCounts n_f_B_notes f_now_worn f_ahead_worn f_acts_rows f_kn_tunes) ∧ ((0 : Int) ≤ u.toInt) ∧ (u.toInt ≤ (1 : Int))) (va_A (WX r ct i_tapeLength i_time i_lyingCount i_rd_fault i_rd_token i_rd_kind i_sc_count i_sc_at i_A_tunes i_A_houses i_fA_length i_B_tunes i_B_houses i_fB_length i_acts_done i_acts_undone i_kn_count f_boxes f_boxKept f_trial f_offers f_A_noteCounts f_A_notes f_B_noteCounts f_B_notes f_now_where f_now_worn f_ahead_where f_ahead_worn f_acts_rows f_kn_tunes f_kn_noteTimes J L) sz)) 0 0 (va_A (WX r ct i_tapeLength i_time i_lyingCount i_rd_fault i_rd_token i_rd_kind i_sc_count i_sc_at i_A_tunes i_A_houses i_fA_length i_B_tunes i_B_houses i_fB_length i_acts_done i_acts_undone i_kn_count f_boxes f_boxKept f_trial f_offers f_A_noteCounts f_A_notes f_B_noteCounts f_B_notes f_now_where f_now_worn f_ahead_where f_ahead_worn f_acts_rows f_kn_tunes f_kn_noteTimes J L) sz) := by
  refine Met.ofW (cc := cX5_read) (maxL := 4) (ret := (some .boolean)) (by decide) rfl ?_
  intro p e s m args below meth c0 s₁ B hml hv
  obtain ⟨rfl, hsz, hP, hK, hD0, hZ⟩ := hv
  have hx := B.exec
  have hb := B.bytes
  have hr := B.returns
  have hts := atoms_spec (ws := .code yX5_read cX5_read 4 (some .boolean) :: GW) B.pre
  have hG : ∀ w ∈ GW, w.before _ s = true := fun w h => hts w (List.mem_cons_of_mem _ h)
  have hown : s.vm.findClass RX5 = some m.cls := findClass_of_methodNamed B.named
  subst hsz
  have hD := hD0.self (sz := s.heap.size)
  generalize hAe : va_A (WX r ct i_tapeLength i_time i_lyingCount i_rd_fault i_rd_token i_rd_kind i_sc_count i_sc_at i_A_tunes i_A_houses i_fA_length i_B_tunes i_B_houses i_fB_length i_acts_done i_acts_undone i_kn_count f_boxes f_boxKept f_trial f_offers f_A_noteCounts f_A_notes f_B_noteCounts f_B_notes f_now_where f_now_worn f_ahead_where f_ahead_worn f_acts_rows f_kn_tunes f_kn_noteTimes J L) s.heap.size = A at hD hZ ⊢
  have hA : ∀ q : Nat, s.heap.size ≤ q → A q := fun q h => by rw [← hAe]; exact Or.inr h
  have hS : va_S A s.heap s.heap [] := va_S.rf
  have hP : va_P (dC, dI) vwCl (WX r ct i_tapeLength i_time i_lyingCount i_rd_fault i_rd_token i_rd_kind i_sc_count i_sc_at i_A_tunes i_A_houses i_fA_length i_B_tunes i_B_houses i_fB_length i_acts_done i_acts_undone i_kn_count f_boxes f_boxKept f_trial f_offers f_A_noteCounts f_A_notes f_B_noteCounts f_B_notes f_now_where f_now_worn f_ahead_where f_ahead_worn f_acts_rows f_kn_tunes f_kn_noteTimes J L) s.heap := hP
  have hl := lv_entry ([.ref (r 1), .ref (r 11), .int p1]) (n := 4) (Nat.le_of_ble_eq_true rfl)
  rw [lg_entry_eq]
  generalize (lg_sl ([.ref (r 1), .ref (r 11), .int p1]) ++ List.replicate (4 - (lg_sl ([.ref (r 1), .ref (r 11), .int p1])).length) Slot.unset).toArray = ls at hl ⊢
  have hl : lv_has ls 4 [(0, .ref (r 1)), (1, .ref (r 11)), (2, .int p1)] := hl
  refine nameQ (fun Q hQ => ?_)
  obtain ⟨ie0, ie1, ie2, ie3, ie4, ie5, ie6, ie7, ie8, ie9, ie10, ie11, ie12, ie13, ie14, ie15, ie16, ie17, ie18, ie19, ie20, ie21, ie22, ie23, ie24, ie25, ie26, ie27, ie28, ie29, ie30, ie31, ie32, ie33, ie34, ie35, ie36, ie37, ie38, ie39⟩ := id hI
  refine lv_aload_n hx hb dX5_read_0 rfl (lv_at hl 0 rfl) ?_
  refine gX_X5_18_1 hx hb hG hown hK hP dX5_read_1 ?_
  refine lv_aload_n hx hb dX5_read_4 rfl (lv_at hl 1 rfl) ?_
  refine lv_iload_n hx hb dX5_read_5 rfl (lv_at hl 2 rfl) ?_
  have hFc := frA hD hS hA
  refine va_callv (va_runV (As := [.ref (r 11), .int p1]) (rest := []) ⟨hx, hb, hml, hown, hG⟩ (kX6_scan l dC dI r ct i_tapeLength i_time i_lyingCount i_rd_fault i_rd_token i_rd_kind i_sc_count i_sc_at i_A_tunes i_A_houses i_fA_length i_B_tunes i_B_houses i_fB_length i_acts_done i_acts_undone i_kn_count f_boxes f_boxKept f_trial f_offers f_A_noteCounts f_A_notes f_B_noteCounts f_B_notes f_now_where f_now_worn f_ahead_where f_ahead_worn f_acts_rows f_kn_tunes f_kn_noteTimes J L p1 adK adV fS s.heap.size hI) (cwV 2 hG (goodV gw537 gw538 gw539 gw131 gw540) rfl rfl rfl hd_X6_scan ⟨(Nat.le_of_ble_eq_true rfl), (Nat.le_of_ble_eq_true rfl)⟩) ⟨fbS, va_recv hK hP (ci := 5) (q0 := 2) rfl rfl, pS_in hP hK hD hZ hS hFc⟩ rfl rfl hl.1 rfl (lv_room (Nat.le_of_ble_eq_true rfl)) dX5_read_6 ⟨(Nat.le_of_ble_eq_true rfl), (Nat.le_of_ble_eq_true rfl)⟩) hS (fun q _ h => hFc q h) hFc (fun _ t_ H1 locs ht hvm hw hB hz1 hk1 hS => ?_)
  obtain ⟨x3, x4, J5, L6, hP1, hD1, hI7⟩ := hB
  rw [ht] at hP1
  have hP := hP1
  have hD := dW hFc hD1
  obtain ⟨im8, im9, im10, im11, im12, im13, im14, im15, im16, im17, im18, im19, im20, im21, im22, im23, im24, im25, im26, im27, im28, im29, im30, im31, im32, im33, im34, im35, im36, im37, im38, im39, im40, im41, im42, im43, im44, im45, im46, im47⟩ := id hI7
  refine lv_aload_n hx hb dX5_read_9 rfl (lv_at hl 0 rfl) ?_
  refine gX_X5_25_1 hx hb hG hown hK hP dX5_read_10 ?_
  have hFc := frA hD hS hA
  refine va_callv (va_runV (As := []) (rest := []) ⟨hx, hb, hml, hown, hG⟩ (kX4_clear l dC dI r ct i_tapeLength i_time i_lyingCount i_rd_fault i_rd_token i_rd_kind x3 x4 i_A_tunes i_A_houses i_fA_length i_B_tunes i_B_houses i_fB_length i_acts_done i_acts_undone i_kn_count f_boxes f_boxKept f_trial f_offers f_A_noteCounts f_A_notes f_B_noteCounts f_B_notes f_now_where f_now_worn f_ahead_where f_ahead_worn f_acts_rows f_kn_tunes f_kn_noteTimes J5 L6 H1.size hI7) (cwV 0 hG (goodV gw615 gw616 gw617 gw132 gw618) rfl rfl rfl hd_X4_clear ⟨(Nat.le_of_ble_eq_true rfl), (Nat.le_of_ble_eq_true rfl)⟩) ⟨fbW, va_recv hK hP (ci := 3) (q0 := 5) rfl rfl, pW_in hP hK hD⟩ rfl rfl hl.1 rfl (lv_room (Nat.le_of_ble_eq_true rfl)) dX5_read_13 ⟨(Nat.le_of_ble_eq_true rfl), (Nat.le_of_ble_eq_true rfl)⟩) hS (fun q _ h => hFc q h) hFc (fun _ t_ H48 locs ht hvm hw hB hz1 hk1 hS => ?_)
  obtain ⟨x50, x51, x52, J53, hP1, hD1, hI54⟩ := hB
  rw [ht] at hP1
  have hP := hP1
  have hD := dW hFc hD1
  obtain ⟨im55, im56, im57, im58, im59, im60, im61, im62, im63, im64, im65, im66, im67, im68, im69, im70, im71, im72, im73, im74, im75, im76, im77, im78, im79, im80, im81, im82, im83, im84, im85, im86, im87, im88, im89, im90, im91, im92, im93, im94⟩ := id hI54
  refine lv_aload_n hx hb dX5_read_16 rfl (lv_at hl 0 rfl) ?_
  refine lv_iconst (v := 0) hx hb dX5_read_17 (by decide) ?_
  refine pX_X5_43_1 hx hb hG hown hK hP hD hS dX5_read_18 (fun H95 locs hP hD hS => ?_)
  refine lv_aload_n hx hb dX5_read_21 rfl (lv_at hl 0 rfl) ?_
  refine lv_iconst (v := (-1)) hx hb dX5_read_22 (by decide) ?_
  refine pX_X5_9_1 hx hb hG hown hK hP hD hS dX5_read_23 (fun J97 H96 locs hP hD hS => ?_)
  refine lv_aload_n hx hb dX5_read_26 rfl (lv_at hl 0 rfl) ?_
  refine lv_iconst (v := 0) hx hb dX5_read_27 (by decide) ?_
  refine pX_X5_46_1 hx hb hG hown hK hP hD hS rfl rfl dX5_read_28 (fun J99 H98 locs hP hD hS => ?_)
  refine lv_aload_n hx hb dX5_read_31 rfl (lv_at hl 0 rfl) ?_
  refine lv_iconst (v := 0) hx hb dX5_read_32 (by decide) ?_
  refine pX_X5_50_1 hx hb hG hown hK hP hD hS rfl rfl dX5_read_33 (fun J101 H100 locs hP hD hS => ?_)
  refine lv_aload_n hx hb dX5_read_36 rfl (lv_at hl 0 rfl) ?_
  refine lv_iconst (v := 0) hx hb dX5_read_37 (by decide) ?_
  refine pX_X5_53_1 hx hb hG hown hK hP hD hS rfl rfl dX5_read_38 (fun J103 H102 locs hP hD hS => ?_)
  refine lv_aload_n hx hb dX5_read_41 rfl (lv_at hl 0 rfl) ?_
  refine lv_iconst (v := 0) hx hb dX5_read_42 (by decide) ?_
  refine pX_X5_56_1 hx hb hG hown hK hP hD hS rfl rfl dX5_read_43 (fun J105 H104 locs hP hD hS => ?_)
  refine lv_aload_n hx hb dX5_read_46 rfl (lv_at hl 0 rfl) ?_
  refine lv_iconst (v := 0) hx hb dX5_read_47 (by decide) ?_
  refine pX_X5_59_1 hx hb hG hown hK hP hD hS dX5_read_48 (fun H106 locs hP hD hS => ?_)
  refine lv_aload_n hx hb dX5_read_51 rfl (lv_at hl 0 rfl) ?_
  refine lv_aload_n hx hb dX5_read_52 rfl (lv_at hl 0 rfl) ?_
  refine gX_X5_18_1 hx hb hG hown hK hP dX5_read_53 ?_
  refine gX_X5_62_2 hx hb hG hown hK hP dX5_read_56 ?_
  refine lv_iconst (v := 0) hx hb dX5_read_59 (by decide) ?_
  refine ldX_20 (mm := (0 : Int)) hx hb hK hP zc_0 (ox_143) (ox_986) dX5_read_60 (fun x107 => ?_)
  refine pX_X5_66_1 hx hb hG hown hK hP hD hS dX5_read_61 (fun H108 locs hP hD hS => ?_)
  refine lv_iconst (v := 0) hx hb dX5_read_64 (by decide) ?_
  refine lv_istore_n (lv' := [(3, .int 0), (0, .ref (r 1)), (1, .ref (r 11)), (2, .int p1)]) hx hb dX5_read_65 rfl hl (by decide) rfl (fun ls hl => ?_)
  have L66 : ∀ (N66 : Nat) (y66_3 : Int32) (m66_i_rd_fault m66_i_rd_token m66_i_rd_kind m66_i_B_tunes m66_i_B_houses m66_i_fB_length : Int32) (m66_f_B_noteCounts m66_f_B_notes : Nat → Int32) (m66_J : Nat → Nat → Int32) (m66_L : Nat → Nat → Int64) (H66 : Heap) (locs : List Loc) (ls : Array Slot) (g66_0 : (0 : Int) ≤ y66_3.toInt) (g66_1 : y66_3.toInt ≤ (1600 : Int)) (g66_2 : (0 : Int) ≤ m66_i_rd_token.toInt) (g66_3 : m66_i_rd_token.toInt ≤ (1600 : Int)) (g66_4 : (0 : Int) ≤ m66_i_B_tunes.toInt) (g66_5 : m66_i_B_tunes.toInt ≤ (5 : Int)) (g66_6 : (0 : Int) ≤ m66_i_B_houses.toInt) (g66_7 : m66_i_B_houses.toInt ≤ (4 : Int)) (g66_8 : (0 : Int) ≤ m66_i_fB_length.toInt) (g66_9 : m66_i_fB_length.toInt ≤ (300 : Int)) (gi66_i_rd_token_lo : (0 : Int) ≤ m66_i_rd_token.toInt) (gi66_i_rd_token_hi : m66_i_rd_token.toInt ≤ (1600 : Int)) (gi66_i_B_tunes_lo : (0 : Int) ≤ m66_i_B_tunes.toInt) (gi66_i_B_tunes_hi : m66_i_B_tunes.toInt ≤ (5 : Int)) (gi66_i_B_houses_lo : (0 : Int) ≤ m66_i_B_houses.toInt) (gi66_i_B_houses_hi : m66_i_B_houses.toInt ≤ (4 : Int)) (gi66_i_fB_length_lo : (0 : Int) ≤ m66_i_fB_length.toInt) (gi66_i_fB_length_hi : m66_i_fB_length.toInt ≤ (300 : Int)) (gi66_f_B_noteCounts_p : EB 0 8 m66_f_B_noteCounts) (gi66_f_B_notes_p : EB 0 6 m66_f_B_notes) (gi66_N3B : N3 m66_i_B_tunes m66_f_B_noteCounts) (hP : va_P (dC, dI) vwCl (WX r ct i_tapeLength i_time i_lyingCount m66_i_rd_fault m66_i_rd_token m66_i_rd_kind x3 x4 i_A_tunes i_A_houses i_fA_length m66_i_B_tunes m66_i_B_houses m66_i_fB_length i_acts_done i_acts_undone i_kn_count f_boxes f_boxKept f_trial f_offers f_A_noteCounts f_A_notes m66_f_B_noteCounts m66_f_B_notes f_now_where f_now_worn f_ahead_where f_ahead_worn f_acts_rows f_kn_tunes f_kn_noteTimes m66_J m66_L) H66) (hD : va_D A (WX r ct i_tapeLength i_time i_lyingCount m66_i_rd_fault m66_i_rd_token m66_i_rd_kind x3 x4 i_A_tunes i_A_houses i_fA_length m66_i_B_tunes m66_i_B_houses m66_i_fB_length i_acts_done i_acts_undone i_kn_count f_boxes f_boxKept f_trial f_offers f_A_noteCounts f_A_notes m66_f_B_noteCounts m66_f_B_notes f_now_where f_now_worn f_ahead_where f_ahead_worn f_acts_rows f_kn_tunes f_kn_noteTimes m66_J m66_L)) (hS : va_S A s.heap H66 locs) (hl : lv_has ls 4 [(0, .ref (r 1)), (1, .ref (r 11)), (2, .int p1), (3, .int y66_3)]) (hM : -1 * y66_3.toInt + 1600 < (N66 : Int)), W p l e { frames := 120, cells := 0, slots := 0, locals := 3907 } s m ([.ref (r 1), .ref (r 11), .int p1] : List Value).toArray below meth c0 H66 locs 0 0 Q (F0 m 66 ls []) := by
    intro N66
    induction N66 with
    | zero =>
      intro y66_3 m66_i_rd_fault m66_i_rd_token m66_i_rd_kind m66_i_B_tunes m66_i_B_houses m66_i_fB_length m66_f_B_noteCounts m66_f_B_notes m66_J m66_L H66 locs ls g66_0 g66_1 g66_2 g66_3 g66_4 g66_5 g66_6 g66_7 g66_8 g66_9 gi66_i_rd_token_lo gi66_i_rd_token_hi gi66_i_B_tunes_lo gi66_i_B_tunes_hi gi66_i_B_houses_lo gi66_i_B_houses_hi gi66_i_fB_length_lo gi66_i_fB_length_hi gi66_f_B_noteCounts_p gi66_f_B_notes_p gi66_N3B hP hD hS hl hM
      exact ((ox_794 hM g66_0 g66_1)).elim
    | succ N66 ih66 =>
      intro y66_3 m66_i_rd_fault m66_i_rd_token m66_i_rd_kind m66_i_B_tunes m66_i_B_houses m66_i_fB_length m66_f_B_noteCounts m66_f_B_notes m66_J m66_L H66 locs ls g66_0 g66_1 g66_2 g66_3 g66_4 g66_5 g66_6 g66_7 g66_8 g66_9 gi66_i_rd_token_lo gi66_i_rd_token_hi gi66_i_B_tunes_lo gi66_i_B_tunes_hi gi66_i_B_houses_lo gi66_i_B_houses_hi gi66_i_fB_length_lo gi66_i_fB_length_hi gi66_f_B_noteCounts_p gi66_f_B_notes_p gi66_N3B hP hD hS hl hM
      have hM66 := msucc hM
      refine lv_iload_n hx hb dX5_read_66 rfl (lv_at hl 3 rfl) ?_
      refine lv_sipush (v := 1600) hx hb dX5_read_67 (by decide) ?_
      refine lv_icmp_ge (tgt := 98) hx hb dX5_read_70 (by decide) (fun c_109 => ?_) (fun c_109 => ?_)
      · skip
        have f110 : 1600 ≤ y66_3.toInt := qi_le c_109 zc_1600 rfl
        refine lv_aload_n hx hb dX5_read_98 rfl (lv_at hl 0 rfl) ?_
        refine gX_X5_43_1 hx hb hG hown hK hP dX5_read_99 ?_
        refine lv_if_ne (tgt := 109) hx hb dX5_read_102 (by decide) (fun c_111 => ?_) (fun c_111 => ?_)
        · skip
          have f112 : m66_i_rd_fault.toInt ≠ 0 := qi_ne c_111 rfl zc_0
          refine lv_iconst (v := 0) hx hb dX5_read_109 (by decide) ?_
          rw [hQ]
          exact W.zret (v := 0) hx hb hr (by decide) (fun t ht hW => ⟨⟨0, 0, rfl, rfl, ⟨m66_i_rd_fault, m66_i_rd_token, m66_i_rd_kind, x3, x4, m66_i_B_tunes, m66_i_B_houses, m66_i_fB_length, m66_f_B_noteCounts, m66_f_B_notes, m66_J, m66_L, by rw [ht]; exact hP, hD, ⟨ie0, ie1, ie2, ie3, ie4, ie5, gi66_i_rd_token_lo, gi66_i_rd_token_hi, im16, im17, im18, im19, ie12, ie13, ie14, ie15, gi66_i_B_tunes_lo, gi66_i_B_tunes_hi, gi66_i_B_houses_lo, gi66_i_B_houses_hi, ie20, ie21, gi66_i_fB_length_lo, gi66_i_fB_length_hi, ie24, ie25, ie26, ie27, ie28, ie29, ie30, ie31, ie32, ie33, gi66_f_B_noteCounts_p, gi66_f_B_notes_p, ie36, ie37, ie38, gi66_N3B⟩, (ox_27 zc_0), (ox_28 zc_0)⟩⟩, hS.F ht⟩) hS.2.2 dX5_read_110
        · skip
          have f113 : m66_i_rd_fault.toInt = 0 := qi_eq c_111 rfl zc_0
          refine lv_iconst (v := 1) hx hb dX5_read_105 (by decide) ?_
          refine lv_goto (tgt := 110) hx hb dX5_read_106 (by decide) ?_
          rw [hQ]
          exact W.zret (v := 1) hx hb hr (by decide) (fun t ht hW => ⟨⟨1, 1, rfl, rfl, ⟨m66_i_rd_fault, m66_i_rd_token, m66_i_rd_kind, x3, x4, m66_i_B_tunes, m66_i_B_houses, m66_i_fB_length, m66_f_B_noteCounts, m66_f_B_notes, m66_J, m66_L, by rw [ht]; exact hP, hD, ⟨ie0, ie1, ie2, ie3, ie4, ie5, gi66_i_rd_token_lo, gi66_i_rd_token_hi, im16, im17, im18, im19, ie12, ie13, ie14, ie15, gi66_i_B_tunes_lo, gi66_i_B_tunes_hi, gi66_i_B_houses_lo, gi66_i_B_houses_hi, ie20, ie21, gi66_i_fB_length_lo, gi66_i_fB_length_hi, ie24, ie25, ie26, ie27, ie28, ie29, ie30, ie31, ie32, ie33, gi66_f_B_noteCounts_p, gi66_f_B_notes_p, ie36, ie37, ie38, gi66_N3B⟩, (ox_31 zc_1), (ox_32 zc_1)⟩⟩, hS.F ht⟩) hS.2.2 dX5_read_110
      · skip
        have f114 : y66_3.toInt < 1600 := qi_nle c_109 zc_1600 rfl
        refine lv_aload_n hx hb dX5_read_73 rfl (lv_at hl 0 rfl) ?_
        refine gX_X5_43_1 hx hb hG hown hK hP dX5_read_74 ?_
        refine lv_if_ne (tgt := 98) hx hb dX5_read_77 (by decide) (fun c_115 => ?_) (fun c_115 => ?_)
        · skip
          have f116 : m66_i_rd_fault.toInt ≠ 0 := qi_ne c_115 rfl zc_0
          refine lv_aload_n hx hb dX5_read_98 rfl (lv_at hl 0 rfl) ?_
          refine gX_X5_43_1 hx hb hG hown hK hP dX5_read_99 ?_
          refine lv_if_ne (tgt := 109) hx hb dX5_read_102 (by decide) (fun c_117 => ?_) (fun c_117 => ((ox_987 (qi_eq c_117 rfl zc_0) f116)).elim)
          have f118 : m66_i_rd_fault.toInt ≠ 0 := qi_ne c_117 rfl zc_0
          refine lv_iconst (v := 0) hx hb dX5_read_109 (by decide) ?_
          rw [hQ]
          exact W.zret (v := 0) hx hb hr (by decide) (fun t ht hW => ⟨⟨0, 0, rfl, rfl, ⟨m66_i_rd_fault, m66_i_rd_token, m66_i_rd_kind, x3, x4, m66_i_B_tunes, m66_i_B_houses, m66_i_fB_length, m66_f_B_noteCounts, m66_f_B_notes, m66_J, m66_L, by rw [ht]; exact hP, hD, ⟨ie0, ie1, ie2, ie3, ie4, ie5, gi66_i_rd_token_lo, gi66_i_rd_token_hi, im16, im17, im18, im19, ie12, ie13, ie14, ie15, gi66_i_B_tunes_lo, gi66_i_B_tunes_hi, gi66_i_B_houses_lo, gi66_i_B_houses_hi, ie20, ie21, gi66_i_fB_length_lo, gi66_i_fB_length_hi, ie24, ie25, ie26, ie27, ie28, ie29, ie30, ie31, ie32, ie33, gi66_f_B_noteCounts_p, gi66_f_B_notes_p, ie36, ie37, ie38, gi66_N3B⟩, (ox_27 zc_0), (ox_28 zc_0)⟩⟩, hS.F ht⟩) hS.2.2 dX5_read_110
        · skip
          have f119 : m66_i_rd_fault.toInt = 0 := qi_eq c_115 rfl zc_0
          refine lv_aload_n hx hb dX5_read_80 rfl (lv_at hl 0 rfl) ?_
          refine gX_X5_66_1 hx hb hG hown hK hP dX5_read_81 ?_
          refine lv_iconst (v := 1) hx hb dX5_read_84 (by decide) ?_
          refine lv_icmp_eq (tgt := 98) hx hb dX5_read_85 (by decide) (fun c_120 => ?_) (fun c_120 => ?_)
          · skip
            have f121 : m66_i_rd_kind.toInt = 1 := qi_eq c_120 rfl zc_1
            refine lv_aload_n hx hb dX5_read_98 rfl (lv_at hl 0 rfl) ?_
            refine gX_X5_43_1 hx hb hG hown hK hP dX5_read_99 ?_
            refine lv_if_ne (tgt := 109) hx hb dX5_read_102 (by decide) (fun c_122 => ((ox_988 (qi_ne c_122 rfl zc_0) f119)).elim) (fun c_122 => ?_)
            have f123 : m66_i_rd_fault.toInt = 0 := qi_eq c_122 rfl zc_0
            refine lv_iconst (v := 1) hx hb dX5_read_105 (by decide) ?_
            refine lv_goto (tgt := 110) hx hb dX5_read_106 (by decide) ?_
            rw [hQ]
            exact W.zret (v := 1) hx hb hr (by decide) (fun t ht hW => ⟨⟨1, 1, rfl, rfl, ⟨m66_i_rd_fault, m66_i_rd_token, m66_i_rd_kind, x3, x4, m66_i_B_tunes, m66_i_B_houses, m66_i_fB_length, m66_f_B_noteCounts, m66_f_B_notes, m66_J, m66_L, by rw [ht]; exact hP, hD, ⟨ie0, ie1, ie2, ie3, ie4, ie5, gi66_i_rd_token_lo, gi66_i_rd_token_hi, im16, im17, im18, im19, ie12, ie13, ie14, ie15, gi66_i_B_tunes_lo, gi66_i_B_tunes_hi, gi66_i_B_houses_lo, gi66_i_B_houses_hi, ie20, ie21, gi66_i_fB_length_lo, gi66_i_fB_length_hi, ie24, ie25, ie26, ie27, ie28, ie29, ie30, ie31, ie32, ie33, gi66_f_B_noteCounts_p, gi66_f_B_notes_p, ie36, ie37, ie38, gi66_N3B⟩, (ox_31 zc_1), (ox_32 zc_1)⟩⟩, hS.F ht⟩) hS.2.2 dX5_read_110
          · skip
            have f124 : m66_i_rd_kind.toInt ≠ 1 := qi_ne c_120 rfl zc_1
            refine lv_aload_n hx hb dX5_read_88 rfl (lv_at hl 0 rfl) ?_
            have hFc := frA hD hS hA
            refine va_callv (va_runV (As := []) (rest := []) ⟨hx, hb, hml, hown, hG⟩ (kX5_readLine l dC dI r ct i_tapeLength i_time i_lyingCount m66_i_rd_fault m66_i_rd_token m66_i_rd_kind x3 x4 i_A_tunes i_A_houses i_fA_length m66_i_B_tunes m66_i_B_houses m66_i_fB_length i_acts_done i_acts_undone i_kn_count f_boxes f_boxKept f_trial f_offers f_A_noteCounts f_A_notes m66_f_B_noteCounts m66_f_B_notes f_now_where f_now_worn f_ahead_where f_ahead_worn f_acts_rows f_kn_tunes f_kn_noteTimes m66_J m66_L H66.size ⟨ie0, ie1, ie2, ie3, ie4, ie5, gi66_i_rd_token_lo, gi66_i_rd_token_hi, im16, im17, im18, im19, ie12, ie13, ie14, ie15, gi66_i_B_tunes_lo, gi66_i_B_tunes_hi, gi66_i_B_houses_lo, gi66_i_B_houses_hi, ie20, ie21, gi66_i_fB_length_lo, gi66_i_fB_length_hi, ie24, ie25, ie26, ie27, ie28, ie29, ie30, ie31, ie32, ie33, gi66_f_B_noteCounts_p, gi66_f_B_notes_p, ie36, ie37, ie38, gi66_N3B⟩) (cwV 0 hG (goodV gw619 gw621 gw7 gw130 gw622) rfl rfl rfl hd_X5_readLine ⟨(Nat.le_of_ble_eq_true rfl), (Nat.le_of_ble_eq_true rfl)⟩) ⟨fbW, va_recv hK hP (ci := 4) (q0 := 1) rfl rfl, pW_in hP hK hD⟩ rfl rfl hl.1 rfl (lv_room (Nat.le_of_ble_eq_true rfl)) dX5_read_89 ⟨(Nat.le_of_ble_eq_true rfl), (Nat.le_of_ble_eq_true rfl)⟩) hS (fun q _ h => hFc q h) hFc (fun _ t_ H125 locs ht hvm hw hB hz1 hk1 hS => ?_)
            obtain ⟨x127, x128, x129, x130, x131, x132, z133, z134, J135, L136, hP1, hD1, hI137⟩ := hB
            rw [ht] at hP1
            have hP := hP1
            have hD := dW hFc hD1
            obtain ⟨im138, im139, im140, im141, im142, im143, im144, im145, im146, im147, im148, im149, im150, im151, im152, im153, im154, im155, im156, im157, im158, im159, im160, im161, im162, im163, im164, im165, im166, im167, im168, im169, im170, im171, im172, im173, im174, im175, im176, im177⟩ := id hI137
            obtain ⟨x178, ex178⟩ : ∃ y : Int32, y = y66_3 + Int32.ofInt 1 := ⟨_, rfl⟩
            have f179 : x178.toInt = y66_3.toInt + 1 := (ox_13 (qi_add ex178 rfl (by decide) (ox_11 g66_0) (ox_12 g66_1)))
            refine lv_iinc (v := x178) (lv' := [(3, .int x178), (0, .ref (r 1)), (1, .ref (r 11)), (2, .int p1)]) hx hb dX5_read_92 hl (k := 3) rfl ex178.symm (by decide) rfl (fun ls hl => ?_)
            refine lv_goto (tgt := 66) hx hb dX5_read_95 (by decide) ?_
            exact ih66 x178 x127 x128 x129 x130 x131 x132 z133 z134 J135 L136 H125 _ _ (ox_14 g66_0 f179) (ox_15 f114 f179) (ox_18 im144 im145) (ox_19 im144 im145) (ox_989 im154 im155) (ox_990 im154 im155) (ox_103 im156 im157) (ox_104 im156 im157) (ox_973 im160 im161) (ox_974 im160 im161) im144 im145 im154 im155 im156 im157 im160 im161 im172 im173 im177 hP hD hS (lv_sub hl [1, 2, 3, 0] rfl) (ox_810 hM66 f179)
  exact L66 (-1 * (0 : Int32).toInt + 1600 + 1).toNat 0 0 0 x107 x50 x51 x52 f_B_noteCounts f_B_notes J105 L6 H108 _ _ (ox_27 zc_0) (ox_811 zc_0) (ox_27 zc_0) (ox_811 zc_0) (ox_989 im71 im72) (ox_990 im71 im72) (ox_103 im73 im74) (ox_104 im73 im74) (ox_973 im77 im78) (ox_974 im77 im78) (ox_27 zc_0) (ox_811 zc_0) im71 im72 im73 im74 im77 im78 ie34 ie35 im94 hP hD hS (lv_sub hl [1, 2, 3, 0] rfl) (mlt (ox_812 zc_0))
set_option maxHeartbeats 4000000 in
set_option maxRecDepth 100000 in
theorem kX7_begin (l : Launch) (dC : Nat → ClassId) (dI : Nat → Nat → Nat) (r : Nat → Nat) (ct : Nat → ClassId) (i_tapeLength i_time i_lyingCount i_rd_fault i_rd_token i_rd_kind i_sc_count i_sc_at i_A_tunes i_A_houses i_fA_length i_B_tunes i_B_houses i_fB_length i_acts_done i_acts_undone i_kn_count : Int32) (f_boxes f_boxKept f_trial f_offers f_A_noteCounts f_A_notes f_B_noteCounts f_B_notes f_now_where f_now_worn f_ahead_where f_ahead_worn f_acts_rows f_kn_tunes f_kn_noteTimes : Nat → Int32) (J : Nat → Nat → Int32) (L : Nat → Nat → Int64) (sz : Nat) (hI : (IX i_tapeLength i_time i_lyingCount i_rd_token i_sc_count i_sc_at i_A_tunes i_A_houses i_fA_length i_B_tunes i_B_houses i_fB_length i_acts_done i_acts_undone i_kn_count f_boxes f_A_noteCounts f_A_notes f_B_noteCounts f_B_notes f_now_worn f_ahead_worn f_acts_rows f_kn_tunes)) : Met l yX7_begin (.code yX7_begin cX7_begin 3 none :: GW) { frames := 4, cells := 0, slots := 0, locals := 161 } (va_Pc [.ref (r 7), .ref (r 3)] (pW (dC, dI) (WX r ct i_tapeLength i_time i_lyingCount i_rd_fault i_rd_token i_rd_kind i_sc_count i_sc_at i_A_tunes i_A_houses i_fA_length i_B_tunes i_B_houses i_fB_length i_acts_done i_acts_undone i_kn_count f_boxes f_boxKept f_trial f_offers f_A_noteCounts f_A_notes f_B_noteCounts f_B_notes f_now_where f_now_worn f_ahead_where f_ahead_worn f_acts_rows f_kn_tunes f_kn_noteTimes J L) (TX ct) sz)) (va_Qv (fun _ : Unit => True) (fun (_ : Unit) (t : State) => ∃ (n_f_now_where n_f_now_worn : Nat → Int32) (n_J : Nat → Nat → Int32), va_P (dC, dI) vwCl (WX r ct i_tapeLength i_time i_lyingCount i_rd_fault i_rd_token i_rd_kind i_sc_count i_sc_at i_A_tunes i_A_houses i_fA_length i_B_tunes i_B_houses i_fB_length i_acts_done i_acts_undone i_kn_count f_boxes f_boxKept f_trial f_offers f_A_noteCounts f_A_notes f_B_noteCounts f_B_notes n_f_now_where n_f_now_worn f_ahead_where f_ahead_worn f_acts_rows f_kn_tunes f_kn_noteTimes n_J L) t.heap ∧ va_D (va_A (WX r ct i_tapeLength i_time i_lyingCount i_rd_fault i_rd_token i_rd_kind i_sc_count i_sc_at i_A_tunes i_A_houses i_fA_length i_B_tunes i_B_houses i_fB_length i_acts_done i_acts_undone i_kn_count f_boxes f_boxKept f_trial f_offers f_A_noteCounts f_A_notes f_B_noteCounts f_B_notes f_now_where f_now_worn f_ahead_where f_ahead_worn f_acts_rows f_kn_tunes f_kn_noteTimes J L) sz) (WX r ct i_tapeLength i_time i_lyingCount i_rd_fault i_rd_token i_rd_kind i_sc_count i_sc_at i_A_tunes i_A_houses i_fA_length i_B_tunes i_B_houses i_fB_length i_acts_done i_acts_undone i_kn_count f_boxes f_boxKept f_trial f_offers f_A_noteCounts f_A_notes f_B_noteCounts f_B_notes n_f_now_where n_f_now_worn f_ahead_where f_ahead_worn f_acts_rows f_kn_tunes f_kn_noteTimes n_J L) ∧ (IX i_tapeLength i_time i_lyingCount i_rd_token i_sc_count i_sc_at i_A_tunes i_A_houses i_fA_length i_B_tunes i_B_houses i_fB_length i_acts_done i_acts_undone i_kn_count f_boxes f_A_noteCounts f_A_notes f_B_noteCounts f_B_notes n_f_now_worn f_ahead_worn f_acts_rows f_kn_tunes) ∧ (WB i_A_tunes n_f_now_where)) (va_A (WX r ct i_tapeLength i_time i_lyingCount i_rd_fault i_rd_token i_rd_kind i_sc_count i_sc_at i_A_tunes i_A_houses i_fA_length i_B_tunes i_B_houses i_fB_length i_acts_done i_acts_undone i_kn_count f_boxes f_boxKept f_trial f_offers f_A_noteCounts f_A_notes f_B_noteCounts f_B_notes f_now_where f_now_worn f_ahead_where f_ahead_worn f_acts_rows f_kn_tunes f_kn_noteTimes J L) sz)) 0 0 (va_A (WX r ct i_tapeLength i_time i_lyingCount i_rd_fault i_rd_token i_rd_kind i_sc_count i_sc_at i_A_tunes i_A_houses i_fA_length i_B_tunes i_B_houses i_fB_length i_acts_done i_acts_undone i_kn_count f_boxes f_boxKept f_trial f_offers f_A_noteCounts f_A_notes f_B_noteCounts f_B_notes f_now_where f_now_worn f_ahead_where f_ahead_worn f_acts_rows f_kn_tunes f_kn_noteTimes J L) sz) := by
  refine Met.ofW (cc := cX7_begin) (maxL := 3) (ret := none) (by decide) rfl ?_
  intro p e s m args below meth c0 s₁ B hml hv
  obtain ⟨rfl, hsz, hP, hK, hD0⟩ := hv
  have hx := B.exec
  have hb := B.bytes
  have hr := B.returns
  have hts := atoms_spec (ws := .code yX7_begin cX7_begin 3 none :: GW) B.pre
  have hG : ∀ w ∈ GW, w.before _ s = true := fun w h => hts w (List.mem_cons_of_mem _ h)
  have hown : s.vm.findClass RX7 = some m.cls := findClass_of_methodNamed B.named
  subst hsz
  have hD := hD0.self (sz := s.heap.size)
  generalize hAe : va_A (WX r ct i_tapeLength i_time i_lyingCount i_rd_fault i_rd_token i_rd_kind i_sc_count i_sc_at i_A_tunes i_A_houses i_fA_length i_B_tunes i_B_houses i_fB_length i_acts_done i_acts_undone i_kn_count f_boxes f_boxKept f_trial f_offers f_A_noteCounts f_A_notes f_B_noteCounts f_B_notes f_now_where f_now_worn f_ahead_where f_ahead_worn f_acts_rows f_kn_tunes f_kn_noteTimes J L) s.heap.size = A at hD ⊢
  have hA : ∀ q : Nat, s.heap.size ≤ q → A q := fun q h => by rw [← hAe]; exact Or.inr h
  have hS : va_S A s.heap s.heap [] := va_S.rf
  have hP : va_P (dC, dI) vwCl (WX r ct i_tapeLength i_time i_lyingCount i_rd_fault i_rd_token i_rd_kind i_sc_count i_sc_at i_A_tunes i_A_houses i_fA_length i_B_tunes i_B_houses i_fB_length i_acts_done i_acts_undone i_kn_count f_boxes f_boxKept f_trial f_offers f_A_noteCounts f_A_notes f_B_noteCounts f_B_notes f_now_where f_now_worn f_ahead_where f_ahead_worn f_acts_rows f_kn_tunes f_kn_noteTimes J L) s.heap := hP
  have hl := lv_entry ([.ref (r 7), .ref (r 3)]) (n := 3) (Nat.le_of_ble_eq_true rfl)
  rw [lg_entry_eq]
  generalize (lg_sl ([.ref (r 7), .ref (r 3)]) ++ List.replicate (3 - (lg_sl ([.ref (r 7), .ref (r 3)])).length) Slot.unset).toArray = ls at hl ⊢
  have hl : lv_has ls 3 [(0, .ref (r 7)), (1, .ref (r 3))] := hl
  refine nameQ (fun Q hQ => ?_)
  obtain ⟨ie0, ie1, ie2, ie3, ie4, ie5, ie6, ie7, ie8, ie9, ie10, ie11, ie12, ie13, ie14, ie15, ie16, ie17, ie18, ie19, ie20, ie21, ie22, ie23, ie24, ie25, ie26, ie27, ie28, ie29, ie30, ie31, ie32, ie33, ie34, ie35, ie36, ie37, ie38, ie39⟩ := id hI
  refine lv_iconst (v := 0) hx hb dX7_begin_0 (by decide) ?_
  refine lv_istore_n (lv' := [(2, .int 0), (0, .ref (r 7)), (1, .ref (r 3))]) hx hb dX7_begin_1 rfl hl (by decide) rfl (fun ls hl => ?_)
  have L2 : ∀ (N2 : Nat) (y2_2 : Int32) (m2_f_now_where m2_f_now_worn : Nat → Int32) (m2_J : Nat → Nat → Int32) (H2 : Heap) (locs : List Loc) (ls : Array Slot) (g2_0 : (0 : Int) ≤ y2_2.toInt) (g2_1 : y2_2.toInt ≤ (5 : Int)) (gi2_f_now_worn_p : EB 0 99 m2_f_now_worn) (gr2_0 : RGP 0 y2_2.toInt (-1) (-1) m2_f_now_where) (hP : va_P (dC, dI) vwCl (WX r ct i_tapeLength i_time i_lyingCount i_rd_fault i_rd_token i_rd_kind i_sc_count i_sc_at i_A_tunes i_A_houses i_fA_length i_B_tunes i_B_houses i_fB_length i_acts_done i_acts_undone i_kn_count f_boxes f_boxKept f_trial f_offers f_A_noteCounts f_A_notes f_B_noteCounts f_B_notes m2_f_now_where m2_f_now_worn f_ahead_where f_ahead_worn f_acts_rows f_kn_tunes f_kn_noteTimes m2_J L) H2) (hD : va_D A (WX r ct i_tapeLength i_time i_lyingCount i_rd_fault i_rd_token i_rd_kind i_sc_count i_sc_at i_A_tunes i_A_houses i_fA_length i_B_tunes i_B_houses i_fB_length i_acts_done i_acts_undone i_kn_count f_boxes f_boxKept f_trial f_offers f_A_noteCounts f_A_notes f_B_noteCounts f_B_notes m2_f_now_where m2_f_now_worn f_ahead_where f_ahead_worn f_acts_rows f_kn_tunes f_kn_noteTimes m2_J L)) (hS : va_S A s.heap H2 locs) (hl : lv_has ls 3 [(0, .ref (r 7)), (1, .ref (r 3)), (2, .int y2_2)]) (hM : -1 * y2_2.toInt + 5 < (N2 : Int)), W p l e { frames := 4, cells := 0, slots := 0, locals := 161 } s m ([.ref (r 7), .ref (r 3)] : List Value).toArray below meth c0 H2 locs 0 0 Q (F0 m 2 ls []) := by
    intro N2
    induction N2 with
    | zero =>
      intro y2_2 m2_f_now_where m2_f_now_worn m2_J H2 locs ls g2_0 g2_1 gi2_f_now_worn_p gr2_0 hP hD hS hl hM
      exact ((ox_82 hM g2_0 g2_1)).elim
    | succ N2 ih2 =>
      intro y2_2 m2_f_now_where m2_f_now_worn m2_J H2 locs ls g2_0 g2_1 gi2_f_now_worn_p gr2_0 hP hD hS hl hM
      have hM2 := msucc hM
      refine lv_iload_n hx hb dX7_begin_2 rfl (lv_at hl 2 rfl) ?_
      refine lv_iconst (v := 5) hx hb dX7_begin_3 (by decide) ?_
      refine lv_icmp_ge (tgt := 25) hx hb dX7_begin_4 (by decide) (fun c_1 => ?_) (fun c_1 => ?_)
      · skip
        have f2 : 5 ≤ y2_2.toInt := qi_le c_1 zc_5 rfl
        refine lv_iconst (v := 0) hx hb dX7_begin_25 (by decide) ?_
        refine lv_istore_n (lv' := [(2, .int 0), (0, .ref (r 7)), (1, .ref (r 3))]) hx hb dX7_begin_26 rfl hl (by decide) rfl (fun ls hl => ?_)
        have L27 : ∀ (N27 : Nat) (y27_2 : Int32) (m27_J : Nat → Nat → Int32) (H27 : Heap) (locs : List Loc) (ls : Array Slot) (g27_0 : (0 : Int) ≤ y27_2.toInt) (g27_1 : y27_2.toInt ≤ (4 : Int)) (hP : va_P (dC, dI) vwCl (WX r ct i_tapeLength i_time i_lyingCount i_rd_fault i_rd_token i_rd_kind i_sc_count i_sc_at i_A_tunes i_A_houses i_fA_length i_B_tunes i_B_houses i_fB_length i_acts_done i_acts_undone i_kn_count f_boxes f_boxKept f_trial f_offers f_A_noteCounts f_A_notes f_B_noteCounts f_B_notes m2_f_now_where m2_f_now_worn f_ahead_where f_ahead_worn f_acts_rows f_kn_tunes f_kn_noteTimes m27_J L) H27) (hD : va_D A (WX r ct i_tapeLength i_time i_lyingCount i_rd_fault i_rd_token i_rd_kind i_sc_count i_sc_at i_A_tunes i_A_houses i_fA_length i_B_tunes i_B_houses i_fB_length i_acts_done i_acts_undone i_kn_count f_boxes f_boxKept f_trial f_offers f_A_noteCounts f_A_notes f_B_noteCounts f_B_notes m2_f_now_where m2_f_now_worn f_ahead_where f_ahead_worn f_acts_rows f_kn_tunes f_kn_noteTimes m27_J L)) (hS : va_S A s.heap H27 locs) (hl : lv_has ls 3 [(0, .ref (r 7)), (1, .ref (r 3)), (2, .int y27_2)]) (hM : -1 * y27_2.toInt + 4 < (N27 : Int)), W p l e { frames := 4, cells := 0, slots := 0, locals := 161 } s m ([.ref (r 7), .ref (r 3)] : List Value).toArray below meth c0 H27 locs 0 0 Q (F0 m 27 ls []) := by
          intro N27
          induction N27 with
          | zero =>
            intro y27_2 m27_J H27 locs ls g27_0 g27_1 hP hD hS hl hM
            exact ((ox_218 hM g27_0 g27_1)).elim
          | succ N27 ih27 =>
            intro y27_2 m27_J H27 locs ls g27_0 g27_1 hP hD hS hl hM
            have hM27 := msucc hM
            refine lv_iload_n hx hb dX7_begin_27 rfl (lv_at hl 2 rfl) ?_
            refine lv_iconst (v := 4) hx hb dX7_begin_28 (by decide) ?_
            refine lv_icmp_ge (tgt := 62) hx hb dX7_begin_29 (by decide) (fun c_3 => ?_) (fun c_3 => ?_)
            · skip
              have f4 : 4 ≤ y27_2.toInt := qi_le c_3 zc_4 rfl
              refine lv_aload_n hx hb dX7_begin_62 rfl (lv_at hl 0 rfl) ?_
              refine lv_iconst (v := 0) hx hb dX7_begin_63 (by decide) ?_
              refine pX_X7_38_7 hx hb hG hown hK hP hD hS dX7_begin_64 (fun J6 H5 locs hP hD hS => ?_)
              refine lv_aload_n hx hb dX7_begin_67 rfl (lv_at hl 0 rfl) ?_
              refine lv_aload_n hx hb dX7_begin_68 rfl (lv_at hl 1 rfl) ?_
              refine gX_X7_41_3 hx hb hG hown hK hP dX7_begin_69 (fun x7 => ?_)
              refine pX_X7_44_7 hx hb hG hown hK hP hD hS dX7_begin_72 (fun J9 H8 locs hP hD hS => ?_)
              rw [hQ]
              exact W.vret hx hb hr (fun t ht hW => ⟨⟨(), rfl, trivial, ⟨m2_f_now_where, m2_f_now_worn, J9, by rw [ht]; exact hP, hD, ⟨ie0, ie1, ie2, ie3, ie4, ie5, ie6, ie7, ie8, ie9, ie10, ie11, ie12, ie13, ie14, ie15, ie16, ie17, ie18, ie19, ie20, ie21, ie22, ie23, ie24, ie25, ie26, ie27, ie28, ie29, ie30, ie31, ie32, ie33, ie34, ie35, gi2_f_now_worn_p, ie37, ie38, ie39⟩, (WB_all (RGP_sub gr2_0 (ox_451) (ox_991 f2)) (ox_276 ie12 ie13))⟩⟩, hS.F ht⟩) hS.2.2 dX7_begin_75
            · skip
              have f10 : y27_2.toInt < 4 := qi_nle c_3 zc_4 rfl
              refine lv_aload_n hx hb dX7_begin_32 rfl (lv_at hl 0 rfl) ?_
              refine gX_X7_24_7 hx hb hG hown hK hP dX7_begin_33 ?_
              refine lv_iload_n hx hb dX7_begin_36 rfl (lv_at hl 2 rfl) ?_
              refine lv_iload_n hx hb dX7_begin_37 rfl (lv_at hl 2 rfl) ?_
              refine lv_aload_n hx hb dX7_begin_38 rfl (lv_at hl 1 rfl) ?_
              refine gX_X7_31_3 hx hb hG hown hK hP dX7_begin_39 ?_
              refine lv_icmp_ge (tgt := 54) hx hb dX7_begin_42 (by decide) (fun c_11 => ?_) (fun c_11 => ?_)
              · skip
                have f12 : i_A_houses.toInt ≤ y27_2.toInt := qi_le c_11 rfl rfl
                refine lv_iconst (v := 0) hx hb dX7_begin_54 (by decide) ?_
                refine stX_45 (mm := y27_2.toInt) hx hb hK hP hD hS rfl (ox_9 g27_0) (ox_992 f10) dX7_begin_55 (fun J14 H13 locs hP hD hS => ?_)
                obtain ⟨x15, ex15⟩ : ∃ y : Int32, y = y27_2 + Int32.ofInt 1 := ⟨_, rfl⟩
                have f16 : x15.toInt = y27_2.toInt + 1 := (ox_13 (qi_add ex15 rfl (by decide) (ox_11 g27_0) (ox_219 g27_1)))
                refine lv_iinc (v := x15) (lv' := [(2, .int x15), (0, .ref (r 7)), (1, .ref (r 3))]) hx hb dX7_begin_56 hl (k := 2) rfl ex15.symm (by decide) rfl (fun ls hl => ?_)
                refine lv_goto (tgt := 27) hx hb dX7_begin_59 (by decide) ?_
                exact ih27 x15 J14 H13 _ _ (ox_14 g27_0 f16) (ox_993 f10 f16) hP hD hS (lv_sub hl [1, 2, 0] rfl) (ox_221 hM27 f16)
              · skip
                have f17 : y27_2.toInt < i_A_houses.toInt := qi_nle c_11 rfl rfl
                refine lv_aload_n hx hb dX7_begin_45 rfl (lv_at hl 1 rfl) ?_
                refine gX_X7_37_3 hx hb hG hown hK hP dX7_begin_46 ?_
                refine lv_iload_n hx hb dX7_begin_49 rfl (lv_at hl 2 rfl) ?_
                refine ldX_27 (mm := y27_2.toInt) hx hb hK hP rfl (ox_9 g27_0) (ox_992 f10) dX7_begin_50 (fun x18 => ?_)
                refine lv_goto (tgt := 55) hx hb dX7_begin_51 (by decide) ?_
                refine stX_45 (mm := y27_2.toInt) hx hb hK hP hD hS rfl (ox_9 g27_0) (ox_992 f10) dX7_begin_55 (fun J20 H19 locs hP hD hS => ?_)
                obtain ⟨x21, ex21⟩ : ∃ y : Int32, y = y27_2 + Int32.ofInt 1 := ⟨_, rfl⟩
                have f22 : x21.toInt = y27_2.toInt + 1 := (ox_13 (qi_add ex21 rfl (by decide) (ox_11 g27_0) (ox_219 g27_1)))
                refine lv_iinc (v := x21) (lv' := [(2, .int x21), (0, .ref (r 7)), (1, .ref (r 3))]) hx hb dX7_begin_56 hl (k := 2) rfl ex21.symm (by decide) rfl (fun ls hl => ?_)
                refine lv_goto (tgt := 27) hx hb dX7_begin_59 (by decide) ?_
                exact ih27 x21 J20 H19 _ _ (ox_14 g27_0 f22) (ox_993 f10 f22) hP hD hS (lv_sub hl [1, 2, 0] rfl) (ox_221 hM27 f22)
        exact L27 (-1 * (0 : Int32).toInt + 4 + 1).toNat 0 m2_J H2 _ _ (ox_27 zc_0) (ox_224 zc_0) hP hD hS (lv_sub hl [1, 2, 0] rfl) (mlt (ox_225 zc_0))
      · skip
        have f23 : y2_2.toInt < 5 := qi_nle c_1 zc_5 rfl
        refine lv_aload_n hx hb dX7_begin_7 rfl (lv_at hl 0 rfl) ?_
        refine lv_iload_n hx hb dX7_begin_8 rfl (lv_at hl 2 rfl) ?_
        have hFc := frA hD hS hA
        refine va_callv (va_runV (As := [.int y2_2]) (rest := []) ⟨hx, hb, hml, hown, hG⟩ (kX7_backOnCart l dC dI r ct i_tapeLength i_time i_lyingCount i_rd_fault i_rd_token i_rd_kind i_sc_count i_sc_at i_A_tunes i_A_houses i_fA_length i_B_tunes i_B_houses i_fB_length i_acts_done i_acts_undone i_kn_count f_boxes f_boxKept f_trial f_offers f_A_noteCounts f_A_notes f_B_noteCounts f_B_notes m2_f_now_where m2_f_now_worn f_ahead_where f_ahead_worn f_acts_rows f_kn_tunes f_kn_noteTimes m2_J L y2_2 H2.size ⟨ie0, ie1, ie2, ie3, ie4, ie5, ie6, ie7, ie8, ie9, ie10, ie11, ie12, ie13, ie14, ie15, ie16, ie17, ie18, ie19, ie20, ie21, ie22, ie23, ie24, ie25, ie26, ie27, ie28, ie29, ie30, ie31, ie32, ie33, ie34, ie35, gi2_f_now_worn_p, ie37, ie38, ie39⟩ (ox_6 g2_0) (ox_90 f23)) (cwV 1 hG (goodV gw453 gw454 gw455 gw134 gw456) rfl rfl rfl hd_X7_backOnCart ⟨(Nat.le_of_ble_eq_true rfl), (Nat.le_of_ble_eq_true rfl)⟩) ⟨fbW, va_recv hK hP (ci := 6) (q0 := 7) rfl rfl, pW_in hP hK hD⟩ rfl rfl hl.1 rfl (lv_room (Nat.le_of_ble_eq_true rfl)) dX7_begin_9 ⟨(Nat.le_of_ble_eq_true rfl), (Nat.le_of_ble_eq_true rfl)⟩) hS (fun q _ h => hFc q h) hFc (fun _ t_ H24 locs ht hvm hw hB hz1 hk1 hS => ?_)
        obtain ⟨z26, J27, hP1, hD1, hI29, f28⟩ := hB
        rw [ht] at hP1
        have hP := hP1
        have hD := dW hFc hD1
        obtain ⟨im30, im31, im32, im33, im34, im35, im36, im37, im38, im39, im40, im41, im42, im43, im44, im45, im46, im47, im48, im49, im50, im51, im52, im53, im54, im55, im56, im57, im58, im59, im60, im61, im62, im63, im64, im65, im66, im67, im68, im69⟩ := id hI29
        refine lv_aload_n hx hb dX7_begin_12 rfl (lv_at hl 0 rfl) ?_
        refine gX_X7_18_7 hx hb hG hown hK hP dX7_begin_13 ?_
        refine lv_iload_n hx hb dX7_begin_16 rfl (lv_at hl 2 rfl) ?_
        refine lv_iconst (v := 0) hx hb dX7_begin_17 (by decide) ?_
        refine stX_43 (mm := y2_2.toInt) hx hb hK hP hD hS rfl (ox_9 g2_0) (ox_86 f23) dX7_begin_18 (fun z71 H70 locs ez71 hP hD hS => ?_)
        have g72 : EB 0 99 z71 := ez71 ▸ EB_upd gi2_f_now_worn_p (by decide) (by decide)
        obtain ⟨x73, ex73⟩ : ∃ y : Int32, y = y2_2 + Int32.ofInt 1 := ⟨_, rfl⟩
        have f74 : x73.toInt = y2_2.toInt + 1 := (ox_13 (qi_add ex73 rfl (by decide) (ox_11 g2_0) (ox_87 g2_1)))
        refine lv_iinc (v := x73) (lv' := [(2, .int x73), (0, .ref (r 7)), (1, .ref (r 3))]) hx hb dX7_begin_19 hl (k := 2) rfl ex73.symm (by decide) rfl (fun ls hl => ?_)
        refine lv_goto (tgt := 2) hx hb dX7_begin_22 (by decide) ?_
        exact ih2 x73 z26 z71 J27 H70 _ _ (ox_14 g2_0 f74) (ox_88 f23 f74) g72 (RGP_up gr2_0 f28 (ox_451) (ox_9 g2_0) (ox_293) (ox_13 f74) (ox_994 zc_m1) (ox_995 zc_m1)) hP hD hS (lv_sub hl [1, 2, 0] rfl) (ox_89 hM2 f74)
  exact L2 (-1 * (0 : Int32).toInt + 5 + 1).toNat 0 f_now_where f_now_worn J s.heap _ _ (ox_27 zc_0) (ox_95 zc_0) ie36 (RGP_nil (ox_460 zc_0)) hP hD hS (lv_sub hl [1, 2, 0] rfl) (mlt (ox_96 zc_0))
