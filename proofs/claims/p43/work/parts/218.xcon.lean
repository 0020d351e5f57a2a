set_option maxHeartbeats 4000000 in
set_option maxRecDepth 100000 in
theorem kX8_sale (l : Launch) (dC : Nat → ClassId) (dI : Nat → Nat → Nat) (r : Nat → Nat) (ct : Nat → ClassId) (i_tapeLength i_time i_lyingCount i_rd_fault i_rd_token i_rd_kind i_sc_count i_sc_at i_A_tunes i_A_houses i_fA_length i_B_tunes i_B_houses i_fB_length i_acts_done i_acts_undone i_kn_count : Int32) (f_boxes f_boxKept f_trial f_offers f_A_noteCounts f_A_notes f_B_noteCounts f_B_notes f_now_where f_now_worn f_ahead_where f_ahead_worn f_acts_rows f_kn_tunes f_kn_noteTimes : Nat → Int32) (J : Nat → Nat → Int32) (L : Nat → Nat → Int64) (p0 p1 : Int32) (sz : Nat) (hI : (IX i_tapeLength i_time i_lyingCount i_rd_token i_sc_count i_sc_at i_A_tunes i_A_houses i_fA_length i_B_tunes i_B_houses i_fB_length i_acts_done i_acts_undone i_kn_count f_boxes f_A_noteCounts f_A_notes f_B_noteCounts f_B_notes f_now_worn f_ahead_worn f_acts_rows f_kn_tunes)) : Met l yX8_sale (.code yX8_sale cX8_sale 10 (some .int) :: GW) { frames := 16, cells := 0, slots := 0, locals := 552 } (va_Pc [.ref (r 0), .int p0, .int p1] (pW (dC, dI) (WX r ct i_tapeLength i_time i_lyingCount i_rd_fault i_rd_token i_rd_kind i_sc_count i_sc_at i_A_tunes i_A_houses i_fA_length i_B_tunes i_B_houses i_fB_length i_acts_done i_acts_undone i_kn_count f_boxes f_boxKept f_trial f_offers f_A_noteCounts f_A_notes f_B_noteCounts f_B_notes f_now_where f_now_worn f_ahead_where f_ahead_worn f_acts_rows f_kn_tunes f_kn_noteTimes J L) (TX ct) sz)) (va_Qi (fun (r0 : Int32) (u : Int32) => r0 = u) (fun (u : Int32) (t : State) => ∃ (n_J : Nat → Nat → Int32), va_P (dC, dI) vwCl (WX r ct i_tapeLength i_time i_lyingCount i_rd_fault i_rd_token i_rd_kind i_sc_count i_sc_at i_A_tunes i_A_houses i_fA_length i_B_tunes i_B_houses i_fB_length i_acts_done i_acts_undone i_kn_count f_boxes f_boxKept f_trial f_offers f_A_noteCounts f_A_notes f_B_noteCounts f_B_notes f_now_where f_now_worn f_ahead_where f_ahead_worn f_acts_rows f_kn_tunes f_kn_noteTimes n_J L) t.heap ∧ va_D (va_A (WX r ct i_tapeLength i_time i_lyingCount i_rd_fault i_rd_token i_rd_kind i_sc_count i_sc_at i_A_tunes i_A_houses i_fA_length i_B_tunes i_B_houses i_fB_length i_acts_done i_acts_undone i_kn_count f_boxes f_boxKept f_trial f_offers f_A_noteCounts f_A_notes f_B_noteCounts f_B_notes f_now_where f_now_worn f_ahead_where f_ahead_worn f_acts_rows f_kn_tunes f_kn_noteTimes J L) sz) (WX r ct i_tapeLength i_time i_lyingCount i_rd_fault i_rd_token i_rd_kind i_sc_count i_sc_at i_A_tunes i_A_houses i_fA_length i_B_tunes i_B_houses i_fB_length i_acts_done i_acts_undone i_kn_count f_boxes f_boxKept f_trial f_offers f_A_noteCounts f_A_notes f_B_noteCounts f_B_notes f_now_where f_now_worn f_ahead_where f_ahead_worn f_acts_rows f_kn_tunes f_kn_noteTimes n_J L) ∧ (IX i_tapeLength i_time i_lyingCount i_rd_token i_sc_count i_sc_at i_A_tunes i_A_houses i_fA_length i_B_tunes i_B_houses i_fB_length i_acts_done i_acts_undone i_kn_count f_boxes f_A_noteCounts f_A_notes f_B_noteCounts f_B_notes f_now_worn f_ahead_worn f_acts_rows f_kn_tunes)) (va_A (WX r ct i_tapeLength i_time i_lyingCount i_rd_fault i_rd_token i_rd_kind i_sc_count i_sc_at i_A_tunes i_A_houses i_fA_length i_B_tunes i_B_houses i_fB_length i_acts_done i_acts_undone i_kn_count f_boxes f_boxKept f_trial f_offers f_A_noteCounts f_A_notes f_B_noteCounts f_B_notes f_now_where f_now_worn f_ahead_where f_ahead_worn f_acts_rows f_kn_tunes f_kn_noteTimes J L) sz)) 0 0 (va_A (WX r ct i_tapeLength i_time i_lyingCount i_rd_fault i_rd_token i_rd_kind i_sc_count i_sc_at i_A_tunes i_A_houses i_fA_length i_B_tunes i_B_houses i_fB_length i_acts_done i_acts_undone i_kn_count f_boxes f_boxKept f_trial f_offers f_A_noteCounts f_A_notes f_B_noteCounts f_B_notes f_now_where f_now_worn f_ahead_where f_ahead_worn f_acts_rows f_kn_tunes f_kn_noteTimes J L) sz) := by
  refine Met.ofW (cc := cX8_sale) (maxL := 10) (ret := (some .int)) (by decide) rfl ?_
  intro p e s m args below meth c0 s₁ B hml hv
  obtain ⟨rfl, hsz, hP, hK, hD0⟩ := hv
  have hx := B.exec
  have hb := B.bytes
  have hr := B.returns
  have hts := atoms_spec (ws := .code yX8_sale cX8_sale 10 (some .int) :: GW) B.pre
  have hG : ∀ w ∈ GW, w.before _ s = true := fun w h => hts w (List.mem_cons_of_mem _ h)
  have hown : s.vm.findClass RX8 = some m.cls := findClass_of_methodNamed B.named
  subst hsz
  have hD := hD0.self (sz := s.heap.size)
  generalize hAe : va_A (WX r ct i_tapeLength i_time i_lyingCount i_rd_fault i_rd_token i_rd_kind i_sc_count i_sc_at i_A_tunes i_A_houses i_fA_length i_B_tunes i_B_houses i_fB_length i_acts_done i_acts_undone i_kn_count f_boxes f_boxKept f_trial f_offers f_A_noteCounts f_A_notes f_B_noteCounts f_B_notes f_now_where f_now_worn f_ahead_where f_ahead_worn f_acts_rows f_kn_tunes f_kn_noteTimes J L) s.heap.size = A at hD ⊢
  have hA : ∀ q : Nat, s.heap.size ≤ q → A q := fun q h => by rw [← hAe]; exact Or.inr h
  have hS : va_S A s.heap s.heap [] := va_S.rf
  have hP : va_P (dC, dI) vwCl (WX r ct i_tapeLength i_time i_lyingCount i_rd_fault i_rd_token i_rd_kind i_sc_count i_sc_at i_A_tunes i_A_houses i_fA_length i_B_tunes i_B_houses i_fB_length i_acts_done i_acts_undone i_kn_count f_boxes f_boxKept f_trial f_offers f_A_noteCounts f_A_notes f_B_noteCounts f_B_notes f_now_where f_now_worn f_ahead_where f_ahead_worn f_acts_rows f_kn_tunes f_kn_noteTimes J L) s.heap := hP
  have hl := lv_entry ([.ref (r 0), .int p0, .int p1]) (n := 10) (Nat.le_of_ble_eq_true rfl)
  rw [lg_entry_eq]
  generalize (lg_sl ([.ref (r 0), .int p0, .int p1]) ++ List.replicate (10 - (lg_sl ([.ref (r 0), .int p0, .int p1])).length) Slot.unset).toArray = ls at hl ⊢
  have hl : lv_has ls 10 [(0, .ref (r 0)), (1, .int p0), (2, .int p1)] := hl
  refine nameQ (fun Q hQ => ?_)
  obtain ⟨ie0, ie1, ie2, ie3, ie4, ie5, ie6, ie7, ie8, ie9, ie10, ie11, ie12, ie13, ie14, ie15, ie16, ie17, ie18, ie19, ie20, ie21, ie22, ie23, ie24, ie25, ie26, ie27, ie28, ie29, ie30, ie31, ie32, ie33, ie34, ie35, ie36, ie37, ie38, ie39⟩ := id hI
  refine lv_aload_n hx hb dX8_sale_0 rfl (lv_at hl 0 rfl) ?_
  refine lv_iload_n hx hb dX8_sale_1 rfl (lv_at hl 1 rfl) ?_
  refine va_calli (va_runV (As := [.int p0]) (rest := []) ⟨hx, hb, hml, hown, hG⟩ (kX8_isHouse l dC dI r ct i_tapeLength i_time i_lyingCount i_rd_fault i_rd_token i_rd_kind i_sc_count i_sc_at i_A_tunes i_A_houses i_fA_length i_B_tunes i_B_houses i_fB_length i_acts_done i_acts_undone i_kn_count f_boxes f_boxKept f_trial f_offers f_A_noteCounts f_A_notes f_B_noteCounts f_B_notes f_now_where f_now_worn f_ahead_where f_ahead_worn f_acts_rows f_kn_tunes f_kn_noteTimes J L p0 s.heap.size hI) (cwV 1 hG (goodV gw716 gw718 gw21 gw129 gw719) rfl rfl rfl hd_X8_isHouse ⟨(Nat.le_of_ble_eq_true rfl), (Nat.le_of_ble_eq_true rfl)⟩) ⟨fbR, va_recv hK hP (ci := 7) (q0 := 0) rfl rfl, pR_in hP hK⟩ rfl rfl hl.1 rfl (lv_room (Nat.le_of_ble_eq_true rfl)) dX8_sale_2 ⟨(Nat.le_of_ble_eq_true rfl), (Nat.le_of_ble_eq_true rfl)⟩) hS (fun q hq h => absurd hq (Nat.not_lt.mpr h)) (fun q h => hA q (Nat.le_trans hS.1 h)) (fun r_2 u_ t_ H1 locs ht hvm hw hB hz1 hk1 hS => ?_)
  subst hw
  have hP := wk hP hk1
  obtain ⟨f3, f4, f5⟩ := hB
  refine lv_if_eq (tgt := 17) hx hb dX8_sale_5 (by decide) (fun c_6 => ?_) (fun c_6 => ?_)
  · skip
    have f7 : r_2.toInt = 0 := qi_eq c_6 rfl zc_0
    refine lv_iconst (v := (-1)) hx hb dX8_sale_17 (by decide) ?_
    rw [hQ]
    exact W.iret (v := (-1)) hx hb hr (fun t ht hW => ⟨⟨(-1), (-1), rfl, rfl, ⟨J, by rw [ht]; exact hP, hD, hI⟩⟩, hS.F ht⟩) hS.2.2 dX8_sale_18
  · skip
    have f8 : r_2.toInt ≠ 0 := qi_ne c_6 rfl zc_0
    have f9 : (0 : Int) ≤ p0.toInt := (ox_50 f3 f8)
    have f10 : p0.toInt + 1 ≤ i_A_houses.toInt := (ox_51 f3 f8)
    have f11 : r_2.toInt = (1 : Int) := (ox_52 f3 f8)
    have f12 : (1 : Int) ≤ r_2.toInt := (ox_53 f4 f5 f11)
    refine lv_iload_n hx hb dX8_sale_8 rfl (lv_at hl 2 rfl) ?_
    refine lv_if_lt (tgt := 17) hx hb dX8_sale_9 (by decide) (fun c_13 => ?_) (fun c_13 => ?_)
    · skip
      have f14 : p1.toInt < 0 := qi_lt c_13 rfl zc_0
      refine lv_iconst (v := (-1)) hx hb dX8_sale_17 (by decide) ?_
      rw [hQ]
      exact W.iret (v := (-1)) hx hb hr (fun t ht hW => ⟨⟨(-1), (-1), rfl, rfl, ⟨J, by rw [ht]; exact hP, hD, hI⟩⟩, hS.F ht⟩) hS.2.2 dX8_sale_18
    · skip
      have f15 : 0 ≤ p1.toInt := qi_nlt c_13 rfl zc_0
      refine lv_iload_n hx hb dX8_sale_12 rfl (lv_at hl 2 rfl) ?_
      refine lv_iconst (v := 1) hx hb dX8_sale_13 (by decide) ?_
      refine lv_icmp_le (tgt := 19) hx hb dX8_sale_14 (by decide) (fun c_16 => ?_) (fun c_16 => ?_)
      · skip
        have f17 : p1.toInt ≤ 1 := qi_le c_16 rfl zc_1
        refine lv_aload_n hx hb dX8_sale_19 rfl (lv_at hl 0 rfl) ?_
        refine va_calli (va_runV (As := []) (rest := []) ⟨hx, hb, hml, hown, hG⟩ (kX8_onCart l dC dI r ct i_tapeLength i_time i_lyingCount i_rd_fault i_rd_token i_rd_kind i_sc_count i_sc_at i_A_tunes i_A_houses i_fA_length i_B_tunes i_B_houses i_fB_length i_acts_done i_acts_undone i_kn_count f_boxes f_boxKept f_trial f_offers f_A_noteCounts f_A_notes f_B_noteCounts f_B_notes f_now_where f_now_worn f_ahead_where f_ahead_worn f_acts_rows f_kn_tunes f_kn_noteTimes J L H1.size hI) (cwV 0 hG (goodV gw895 gw897 gw30 gw129 gw898) rfl rfl rfl hd_X8_onCart ⟨(Nat.le_of_ble_eq_true rfl), (Nat.le_of_ble_eq_true rfl)⟩) ⟨fbR, va_recv hK hP (ci := 7) (q0 := 0) rfl rfl, pR_in hP hK⟩ rfl rfl hl.1 rfl (lv_room (Nat.le_of_ble_eq_true rfl)) dX8_sale_20 ⟨(Nat.le_of_ble_eq_true rfl), (Nat.le_of_ble_eq_true rfl)⟩) hS (fun q hq h => absurd hq (Nat.not_lt.mpr h)) (fun q h => hA q (Nat.le_trans hS.1 h)) (fun r_19 u_ t_ H18 locs ht hvm hw hB hz1 hk1 hS => ?_)
        subst hw
        have hP := wk hP hk1
        refine lv_aload_n hx hb dX8_sale_23 rfl (lv_at hl 0 rfl) ?_
        refine lv_iload_n hx hb dX8_sale_24 rfl (lv_at hl 1 rfl) ?_
        have hFc := frA hD hS hA
        refine va_calli (va_runV (As := [.int p0]) (rest := [.int r_19]) ⟨hx, hb, hml, hown, hG⟩ (kX8_takenNow l dC dI r ct i_tapeLength i_time i_lyingCount i_rd_fault i_rd_token i_rd_kind i_sc_count i_sc_at i_A_tunes i_A_houses i_fA_length i_B_tunes i_B_houses i_fB_length i_acts_done i_acts_undone i_kn_count f_boxes f_boxKept f_trial f_offers f_A_noteCounts f_A_notes f_B_noteCounts f_B_notes f_now_where f_now_worn f_ahead_where f_ahead_worn f_acts_rows f_kn_tunes f_kn_noteTimes J L p0 H18.size hI (ox_54 f9 f10) (ox_55 f10)) (cwV 1 hG (goodV gw861 gw863 gw27 gw129 gw864) rfl rfl rfl hd_X8_takenNow ⟨(Nat.le_of_ble_eq_true rfl), (Nat.le_of_ble_eq_true rfl)⟩) ⟨fbW, va_recv hK hP (ci := 7) (q0 := 0) rfl rfl, pW_in hP hK hD⟩ rfl rfl hl.1 rfl (lv_room (Nat.le_of_ble_eq_true rfl)) dX8_sale_25 ⟨(Nat.le_of_ble_eq_true rfl), (Nat.le_of_ble_eq_true rfl)⟩) hS (fun q _ h => hFc q h) hFc (fun r_21 u_ t_ H20 locs ht hvm hw hB hz1 hk1 hS => ?_)
        subst hw
        obtain ⟨J22, hP1, hD1, hI23⟩ := hB
        rw [ht] at hP1
        have hP := hP1
        have hD := dW hFc hD1
        obtain ⟨im24, im25, im26, im27, im28, im29, im30, im31, im32, im33, im34, im35, im36, im37, im38, im39, im40, im41, im42, im43, im44, im45, im46, im47, im48, im49, im50, im51, im52, im53, im54, im55, im56, im57, im58, im59, im60, im61, im62, im63⟩ := id hI23
        refine lv_iand hx hb dX8_sale_28 ?_
        refine lv_topi (fun x64 ex64 => ?_)
        refine lv_istore_n (lv' := [(3, .int x64), (0, .ref (r 0)), (1, .int p0), (2, .int p1)]) hx hb dX8_sale_29 rfl hl (by decide) rfl (fun ls hl => ?_)
        refine lv_iconst (v := 0) hx hb dX8_sale_30 (by decide) ?_
        refine lv_istore (lv' := [(4, .int 0), (3, .int x64), (0, .ref (r 0)), (1, .int p0), (2, .int p1)]) hx hb dX8_sale_31 hl (by decide) rfl (fun ls hl => ?_)
        refine lv_iconst (v := 0) hx hb dX8_sale_33 (by decide) ?_
        refine lv_istore (lv' := [(5, .int 0), (4, .int 0), (3, .int x64), (0, .ref (r 0)), (1, .int p0), (2, .int p1)]) hx hb dX8_sale_34 hl (by decide) rfl (fun ls hl => ?_)
        refine lv_iconst (v := 1) hx hb dX8_sale_36 (by decide) ?_
        refine lv_istore (lv' := [(6, .int 1), (5, .int 0), (4, .int 0), (3, .int x64), (0, .ref (r 0)), (1, .int p0), (2, .int p1)]) hx hb dX8_sale_37 hl (by decide) rfl (fun ls hl => ?_)
        have L39 : ∀ (N39 : Nat) (y39_4 y39_5 y39_6 : Int32) (H39 : Heap) (locs : List Loc) (ls : Array Slot) (g39_0 : (0 : Int) ≤ y39_4.toInt) (g39_1 : (0 : Int) ≤ y39_5.toInt) (g39_2 : (1 : Int) ≤ y39_6.toInt) (g39_3 : y39_6.toInt ≤ (2147483647 : Int)) (hP : va_P (dC, dI) vwCl (WX r ct i_tapeLength i_time i_lyingCount i_rd_fault i_rd_token i_rd_kind i_sc_count i_sc_at i_A_tunes i_A_houses i_fA_length i_B_tunes i_B_houses i_fB_length i_acts_done i_acts_undone i_kn_count f_boxes f_boxKept f_trial f_offers f_A_noteCounts f_A_notes f_B_noteCounts f_B_notes f_now_where f_now_worn f_ahead_where f_ahead_worn f_acts_rows f_kn_tunes f_kn_noteTimes J22 L) H39) (hD : va_D A (WX r ct i_tapeLength i_time i_lyingCount i_rd_fault i_rd_token i_rd_kind i_sc_count i_sc_at i_A_tunes i_A_houses i_fA_length i_B_tunes i_B_houses i_fB_length i_acts_done i_acts_undone i_kn_count f_boxes f_boxKept f_trial f_offers f_A_noteCounts f_A_notes f_B_noteCounts f_B_notes f_now_where f_now_worn f_ahead_where f_ahead_worn f_acts_rows f_kn_tunes f_kn_noteTimes J22 L)) (hS : va_S A s.heap H39 locs) (hl : lv_has ls 10 [(0, .ref (r 0)), (1, .int p0), (2, .int p1), (3, .int x64), (4, .int y39_4), (5, .int y39_5), (6, .int y39_6)]) (hM : -1 * y39_6.toInt + 2147483647 < (N39 : Int)), W p l e { frames := 16, cells := 0, slots := 0, locals := 552 } s m ([.ref (r 0), .int p0, .int p1] : List Value).toArray below meth c0 H39 locs 0 0 Q (F0 m 39 ls []) := by
          intro N39
          induction N39 with
          | zero =>
            intro y39_4 y39_5 y39_6 H39 locs ls g39_0 g39_1 g39_2 g39_3 hP hD hS hl hM
            exact ((ox_499 hM g39_2 g39_3)).elim
          | succ N39 ih39 =>
            intro y39_4 y39_5 y39_6 H39 locs ls g39_0 g39_1 g39_2 g39_3 hP hD hS hl hM
            have hM39 := msucc hM
            refine lv_iload hx hb dX8_sale_39 (lv_at hl 6 rfl) ?_
            refine lv_iconst (v := 1) hx hb dX8_sale_41 (by decide) ?_
            refine lv_aload_n hx hb dX8_sale_42 rfl (lv_at hl 0 rfl) ?_
            refine gX_X8_23_0 hx hb hG hown hK hP dX8_sale_43 ?_
            refine gX_X8_108_3 hx hb hG hown hK hP dX8_sale_46 ?_
            refine lv_ishl hx hb dX8_sale_49 ?_
            refine lv_topi (fun x65 ex65 => ?_)
            refine lv_icmp_ge (tgt := 149) hx hb dX8_sale_50 (by decide) (fun c_66 => ?_) (fun c_66 => ?_)
            · skip
              have f67 : x65.toInt ≤ y39_6.toInt := qi_le c_66 rfl rfl
              refine lv_iload_n hx hb dX8_sale_149 rfl (lv_at hl 2 rfl) ?_
              refine lv_if_ne (tgt := 158) hx hb dX8_sale_150 (by decide) (fun c_68 => ?_) (fun c_68 => ?_)
              · skip
                have f69 : p1.toInt ≠ 0 := qi_ne c_68 rfl zc_0
                have f70 : (1 : Int) ≤ p1.toInt := (ox_382 f15 f17 f69)
                refine lv_iload hx hb dX8_sale_158 (lv_at hl 4 rfl) ?_
                rw [hQ]
                exact W.iret (v := y39_4) hx hb hr (fun t ht hW => ⟨⟨y39_4, y39_4, rfl, rfl, ⟨J22, by rw [ht]; exact hP, hD, hI23⟩⟩, hS.F ht⟩) hS.2.2 dX8_sale_160
              · skip
                have f71 : p1.toInt = 0 := qi_eq c_68 rfl zc_0
                refine lv_iload hx hb dX8_sale_153 (lv_at hl 5 rfl) ?_
                refine lv_goto (tgt := 160) hx hb dX8_sale_155 (by decide) ?_
                rw [hQ]
                exact W.iret (v := y39_5) hx hb hr (fun t ht hW => ⟨⟨y39_5, y39_5, rfl, rfl, ⟨J22, by rw [ht]; exact hP, hD, hI23⟩⟩, hS.F ht⟩) hS.2.2 dX8_sale_160
            · skip
              have f72 : y39_6.toInt < x65.toInt := qi_nle c_66 rfl rfl
              refine lv_aload_n hx hb dX8_sale_53 rfl (lv_at hl 0 rfl) ?_
              refine lv_iload hx hb dX8_sale_54 (lv_at hl 6 rfl) ?_
              refine va_calli (va_runV (As := [.int y39_6]) (rest := []) ⟨hx, hb, hml, hown, hG⟩ (kX8_priceOf l dC dI r ct i_tapeLength i_time i_lyingCount i_rd_fault i_rd_token i_rd_kind i_sc_count i_sc_at i_A_tunes i_A_houses i_fA_length i_B_tunes i_B_houses i_fB_length i_acts_done i_acts_undone i_kn_count f_boxes f_boxKept f_trial f_offers f_A_noteCounts f_A_notes f_B_noteCounts f_B_notes f_now_where f_now_worn f_ahead_where f_ahead_worn f_acts_rows f_kn_tunes f_kn_noteTimes J22 L y39_6 H39.size hI23) (cwV 1 hG (goodV gw985 gw987 gw45 gw129 gw988) rfl rfl rfl hd_X8_priceOf ⟨(Nat.le_of_ble_eq_true rfl), (Nat.le_of_ble_eq_true rfl)⟩) ⟨fbR, va_recv hK hP (ci := 7) (q0 := 0) rfl rfl, pR_in hP hK⟩ rfl rfl hl.1 rfl (lv_room (Nat.le_of_ble_eq_true rfl)) dX8_sale_56 ⟨(Nat.le_of_ble_eq_true rfl), (Nat.le_of_ble_eq_true rfl)⟩) hS (fun q hq h => absurd hq (Nat.not_lt.mpr h)) (fun q h => hA q (Nat.le_trans hS.1 h)) (fun r_74 u_ t_ H73 locs ht hvm hw hB hz1 hk1 hS => ?_)
              subst hw
              have hP := wk hP hk1
              refine lv_istore (lv' := [(7, .int r_74), (0, .ref (r 0)), (1, .int p0), (2, .int p1), (3, .int x64), (4, .int y39_4), (5, .int y39_5), (6, .int y39_6)]) hx hb dX8_sale_59 hl (by decide) rfl (fun ls hl => ?_)
              refine lv_iload hx hb dX8_sale_61 (lv_at hl 7 rfl) ?_
              refine lv_iload_n hx hb dX8_sale_63 rfl (lv_at hl 4 rfl) ?_
              refine lv_iconst (v := (-1)) hx hb dX8_sale_64 (by decide) ?_
              refine lv_ixor hx hb dX8_sale_65 ?_
              refine lv_topi (fun x75 ex75 => ?_)
              refine lv_iand hx hb dX8_sale_66 ?_
              refine lv_topi (fun x76 ex76 => ?_)
              refine lv_if_ne (tgt := 88) hx hb dX8_sale_67 (by decide) (fun c_77 => ?_) (fun c_77 => ?_)
              · skip
                have f78 : x76.toInt ≠ 0 := qi_ne c_77 rfl zc_0
                refine lv_iconst (v := 0) hx hb dX8_sale_88 (by decide) ?_
                refine lv_istore (lv' := [(8, .int 0), (7, .int r_74), (0, .ref (r 0)), (1, .int p0), (2, .int p1), (3, .int x64), (4, .int y39_4), (5, .int y39_5), (6, .int y39_6)]) hx hb dX8_sale_89 hl (by decide) rfl (fun ls hl => ?_)
                refine lv_iload hx hb dX8_sale_91 (lv_at hl 8 rfl) ?_
                refine va_calli (va_runS (As := [.int y39_6]) (rest := []) ⟨hx, hb, hml, hown, hG⟩ (kJ6_bitCount_0f7a4 l dC dI y39_6 H73.size) (va_cwS 1 hG (goodS gw877 gw878 gw145 gw879) rfl rfl rfl hd_J6_bitCount_0f7a4 ⟨(Nat.le_of_ble_eq_true rfl), (Nat.le_of_ble_eq_true rfl)⟩) ⟨fbR, pR_in emptyP (emptyK hK)⟩ rfl rfl hl.1 rfl (lv_room (Nat.le_of_ble_eq_true rfl)) dX8_sale_93 ⟨(Nat.le_of_ble_eq_true rfl), (Nat.le_of_ble_eq_true rfl)⟩) hS (fun q hq h => absurd hq (Nat.not_lt.mpr h)) (fun q h => hA q (Nat.le_trans hS.1 h)) (fun r_80 u_ t_ H79 locs ht hvm hw hB hz1 hk1 hS => ?_)
                subst hw
                have hP := wk hP hk1
                refine lv_iload hx hb dX8_sale_96 (lv_at hl 6 rfl) ?_
                refine va_calli (va_runS (As := [.int y39_4]) (rest := [.int r_80]) ⟨hx, hb, hml, hown, hG⟩ (kJ6_bitCount_0f7a4 l dC dI y39_4 H79.size) (va_cwS 1 hG (goodS gw877 gw878 gw145 gw879) rfl rfl rfl hd_J6_bitCount_0f7a4 ⟨(Nat.le_of_ble_eq_true rfl), (Nat.le_of_ble_eq_true rfl)⟩) ⟨fbR, pR_in emptyP (emptyK hK)⟩ rfl rfl hl.1 rfl (lv_room (Nat.le_of_ble_eq_true rfl)) dX8_sale_98 ⟨(Nat.le_of_ble_eq_true rfl), (Nat.le_of_ble_eq_true rfl)⟩) hS (fun q hq h => absurd hq (Nat.not_lt.mpr h)) (fun q h => hA q (Nat.le_trans hS.1 h)) (fun r_82 u_ t_ H81 locs ht hvm hw hB hz1 hk1 hS => ?_)
                subst hw
                have hP := wk hP hk1
                refine lv_icmp_ge (tgt := 108) hx hb dX8_sale_101 (by decide) (fun c_83 => ?_) (fun c_83 => ?_)
                · skip
                  have f84 : r_82.toInt ≤ r_80.toInt := qi_le c_83 rfl rfl
                  refine lv_iconst (v := 0) hx hb dX8_sale_108 (by decide) ?_
                  refine lv_istore (lv' := [(9, .int 0), (8, .int 0), (7, .int r_74), (0, .ref (r 0)), (1, .int p0), (2, .int p1), (3, .int x64), (4, .int y39_4), (5, .int y39_5), (6, .int y39_6)]) hx hb dX8_sale_109 hl (by decide) rfl (fun ls hl => ?_)
                  refine lv_iload hx hb dX8_sale_111 (lv_at hl 1 rfl) ?_
                  refine lv_if_eq (tgt := 143) hx hb dX8_sale_113 (by decide) (fun c_85 => ?_) (fun c_85 => absurd (by decide) c_85)
                  obtain ⟨x86, ex86⟩ : ∃ y : Int32, y = y39_6 + Int32.ofInt 1 := ⟨_, rfl⟩
                  have f87 : (-2147483648) ≤ x65.toInt ∧ x65.toInt ≤ 2147483647 := i32_rg _
                  have f88 : (-2147483648) ≤ y39_6.toInt ∧ y39_6.toInt ≤ 2147483647 := i32_rg _
                  have f89 : x86.toInt = y39_6.toInt + 1 := (ox_13 (qi_add ex86 rfl (by decide) (ox_478 g39_2) (ox_384 f72 f87)))
                  refine lv_iinc (v := x86) (lv' := [(6, .int x86), (9, .int 0), (8, .int 0), (7, .int r_74), (0, .ref (r 0)), (1, .int p0), (2, .int p1), (3, .int x64), (4, .int y39_4), (5, .int y39_5)]) hx hb dX8_sale_143 hl (k := 9) rfl ex86.symm (by decide) rfl (fun ls hl => ?_)
                  refine lv_goto (tgt := 39) hx hb dX8_sale_146 (by decide) ?_
                  exact ih39 y39_4 y39_5 x86 H81 _ _ (ox_6 g39_0) (ox_6 g39_1) (ox_481 g39_2 f89) (ox_386 f72 f87 f89) hP hD hS (lv_sub hl [4, 5, 6, 7, 8, 9, 0] rfl) (ox_387 hM39 f89)
                · skip
                  have f90 : r_80.toInt < r_82.toInt := qi_nle c_83 rfl rfl
                  refine lv_iconst (v := 1) hx hb dX8_sale_104 (by decide) ?_
                  refine lv_goto (tgt := 109) hx hb dX8_sale_105 (by decide) ?_
                  refine lv_istore (lv' := [(9, .int 1), (8, .int 0), (7, .int r_74), (0, .ref (r 0)), (1, .int p0), (2, .int p1), (3, .int x64), (4, .int y39_4), (5, .int y39_5), (6, .int y39_6)]) hx hb dX8_sale_109 hl (by decide) rfl (fun ls hl => ?_)
                  refine lv_iload hx hb dX8_sale_111 (lv_at hl 1 rfl) ?_
                  refine lv_if_eq (tgt := 143) hx hb dX8_sale_113 (by decide) (fun c_91 => ?_) (fun c_91 => absurd (by decide) c_91)
                  obtain ⟨x92, ex92⟩ : ∃ y : Int32, y = y39_6 + Int32.ofInt 1 := ⟨_, rfl⟩
                  have f93 : (-2147483648) ≤ x65.toInt ∧ x65.toInt ≤ 2147483647 := i32_rg _
                  have f94 : (-2147483648) ≤ y39_6.toInt ∧ y39_6.toInt ≤ 2147483647 := i32_rg _
                  have f95 : x92.toInt = y39_6.toInt + 1 := (ox_13 (qi_add ex92 rfl (by decide) (ox_478 g39_2) (ox_384 f72 f93)))
                  refine lv_iinc (v := x92) (lv' := [(6, .int x92), (9, .int 1), (8, .int 0), (7, .int r_74), (0, .ref (r 0)), (1, .int p0), (2, .int p1), (3, .int x64), (4, .int y39_4), (5, .int y39_5)]) hx hb dX8_sale_143 hl (k := 9) rfl ex92.symm (by decide) rfl (fun ls hl => ?_)
                  refine lv_goto (tgt := 39) hx hb dX8_sale_146 (by decide) ?_
                  exact ih39 y39_4 y39_5 x92 H81 _ _ (ox_6 g39_0) (ox_6 g39_1) (ox_481 g39_2 f95) (ox_386 f72 f93 f95) hP hD hS (lv_sub hl [4, 5, 6, 7, 8, 9, 0] rfl) (ox_387 hM39 f95)
              · skip
                have f96 : x76.toInt = 0 := qi_eq c_77 rfl zc_0
                refine lv_iload hx hb dX8_sale_70 (lv_at hl 0 rfl) ?_
                refine lv_aload_n hx hb dX8_sale_72 rfl (lv_at hl 1 rfl) ?_
                refine gX_X8_30_0 hx hb hG hown hK hP dX8_sale_73 ?_
                refine gX_X8_144_7 hx hb hG hown hK hP dX8_sale_76 ?_
                refine lv_iload_n hx hb dX8_sale_79 rfl (lv_at hl 2 rfl) ?_
                refine ldX_45 (mm := p0.toInt) hx hb hK hP rfl (ox_33 f9 f10) (ox_100 ie15 f10) dX8_sale_80 (fun x97 => ?_)
                refine lv_icmp_gt (tgt := 88) hx hb dX8_sale_81 (by decide) (fun c_98 => ?_) (fun c_98 => ?_)
                · skip
                  have f99 : x97.toInt < r_74.toInt := qi_lt c_98 rfl rfl
                  refine lv_iconst (v := 0) hx hb dX8_sale_88 (by decide) ?_
                  refine lv_istore (lv' := [(8, .int 0), (7, .int r_74), (0, .ref (r 0)), (1, .int p0), (2, .int p1), (3, .int x64), (4, .int y39_4), (5, .int y39_5), (6, .int y39_6)]) hx hb dX8_sale_89 hl (by decide) rfl (fun ls hl => ?_)
                  refine lv_iload hx hb dX8_sale_91 (lv_at hl 8 rfl) ?_
                  refine va_calli (va_runS (As := [.int y39_6]) (rest := []) ⟨hx, hb, hml, hown, hG⟩ (kJ6_bitCount_0f7a4 l dC dI y39_6 H73.size) (va_cwS 1 hG (goodS gw877 gw878 gw145 gw879) rfl rfl rfl hd_J6_bitCount_0f7a4 ⟨(Nat.le_of_ble_eq_true rfl), (Nat.le_of_ble_eq_true rfl)⟩) ⟨fbR, pR_in emptyP (emptyK hK)⟩ rfl rfl hl.1 rfl (lv_room (Nat.le_of_ble_eq_true rfl)) dX8_sale_93 ⟨(Nat.le_of_ble_eq_true rfl), (Nat.le_of_ble_eq_true rfl)⟩) hS (fun q hq h => absurd hq (Nat.not_lt.mpr h)) (fun q h => hA q (Nat.le_trans hS.1 h)) (fun r_101 u_ t_ H100 locs ht hvm hw hB hz1 hk1 hS => ?_)
                  subst hw
                  have hP := wk hP hk1
                  refine lv_iload hx hb dX8_sale_96 (lv_at hl 6 rfl) ?_
                  refine va_calli (va_runS (As := [.int y39_4]) (rest := [.int r_101]) ⟨hx, hb, hml, hown, hG⟩ (kJ6_bitCount_0f7a4 l dC dI y39_4 H100.size) (va_cwS 1 hG (goodS gw877 gw878 gw145 gw879) rfl rfl rfl hd_J6_bitCount_0f7a4 ⟨(Nat.le_of_ble_eq_true rfl), (Nat.le_of_ble_eq_true rfl)⟩) ⟨fbR, pR_in emptyP (emptyK hK)⟩ rfl rfl hl.1 rfl (lv_room (Nat.le_of_ble_eq_true rfl)) dX8_sale_98 ⟨(Nat.le_of_ble_eq_true rfl), (Nat.le_of_ble_eq_true rfl)⟩) hS (fun q hq h => absurd hq (Nat.not_lt.mpr h)) (fun q h => hA q (Nat.le_trans hS.1 h)) (fun r_103 u_ t_ H102 locs ht hvm hw hB hz1 hk1 hS => ?_)
                  subst hw
                  have hP := wk hP hk1
                  refine lv_icmp_ge (tgt := 108) hx hb dX8_sale_101 (by decide) (fun c_104 => ?_) (fun c_104 => ?_)
                  · skip
                    have f105 : r_103.toInt ≤ r_101.toInt := qi_le c_104 rfl rfl
                    refine lv_iconst (v := 0) hx hb dX8_sale_108 (by decide) ?_
                    refine lv_istore (lv' := [(9, .int 0), (8, .int 0), (7, .int r_74), (0, .ref (r 0)), (1, .int p0), (2, .int p1), (3, .int x64), (4, .int y39_4), (5, .int y39_5), (6, .int y39_6)]) hx hb dX8_sale_109 hl (by decide) rfl (fun ls hl => ?_)
                    refine lv_iload hx hb dX8_sale_111 (lv_at hl 1 rfl) ?_
                    refine lv_if_eq (tgt := 143) hx hb dX8_sale_113 (by decide) (fun c_106 => ?_) (fun c_106 => absurd (by decide) c_106)
                    obtain ⟨x107, ex107⟩ : ∃ y : Int32, y = y39_6 + Int32.ofInt 1 := ⟨_, rfl⟩
                    have f108 : (-2147483648) ≤ x65.toInt ∧ x65.toInt ≤ 2147483647 := i32_rg _
                    have f109 : (-2147483648) ≤ y39_6.toInt ∧ y39_6.toInt ≤ 2147483647 := i32_rg _
                    have f110 : x107.toInt = y39_6.toInt + 1 := (ox_13 (qi_add ex107 rfl (by decide) (ox_478 g39_2) (ox_384 f72 f108)))
                    refine lv_iinc (v := x107) (lv' := [(6, .int x107), (9, .int 0), (8, .int 0), (7, .int r_74), (0, .ref (r 0)), (1, .int p0), (2, .int p1), (3, .int x64), (4, .int y39_4), (5, .int y39_5)]) hx hb dX8_sale_143 hl (k := 9) rfl ex107.symm (by decide) rfl (fun ls hl => ?_)
                    refine lv_goto (tgt := 39) hx hb dX8_sale_146 (by decide) ?_
                    exact ih39 y39_4 y39_5 x107 H102 _ _ (ox_6 g39_0) (ox_6 g39_1) (ox_481 g39_2 f110) (ox_386 f72 f108 f110) hP hD hS (lv_sub hl [4, 5, 6, 7, 8, 9, 0] rfl) (ox_387 hM39 f110)
                  · skip
                    have f111 : r_101.toInt < r_103.toInt := qi_nle c_104 rfl rfl
                    refine lv_iconst (v := 1) hx hb dX8_sale_104 (by decide) ?_
                    refine lv_goto (tgt := 109) hx hb dX8_sale_105 (by decide) ?_
                    refine lv_istore (lv' := [(9, .int 1), (8, .int 0), (7, .int r_74), (0, .ref (r 0)), (1, .int p0), (2, .int p1), (3, .int x64), (4, .int y39_4), (5, .int y39_5), (6, .int y39_6)]) hx hb dX8_sale_109 hl (by decide) rfl (fun ls hl => ?_)
                    refine lv_iload hx hb dX8_sale_111 (lv_at hl 1 rfl) ?_
                    refine lv_if_eq (tgt := 143) hx hb dX8_sale_113 (by decide) (fun c_112 => ?_) (fun c_112 => absurd (by decide) c_112)
                    obtain ⟨x113, ex113⟩ : ∃ y : Int32, y = y39_6 + Int32.ofInt 1 := ⟨_, rfl⟩
                    have f114 : (-2147483648) ≤ x65.toInt ∧ x65.toInt ≤ 2147483647 := i32_rg _
                    have f115 : (-2147483648) ≤ y39_6.toInt ∧ y39_6.toInt ≤ 2147483647 := i32_rg _
                    have f116 : x113.toInt = y39_6.toInt + 1 := (ox_13 (qi_add ex113 rfl (by decide) (ox_478 g39_2) (ox_384 f72 f114)))
                    refine lv_iinc (v := x113) (lv' := [(6, .int x113), (9, .int 1), (8, .int 0), (7, .int r_74), (0, .ref (r 0)), (1, .int p0), (2, .int p1), (3, .int x64), (4, .int y39_4), (5, .int y39_5)]) hx hb dX8_sale_143 hl (k := 9) rfl ex113.symm (by decide) rfl (fun ls hl => ?_)
                    refine lv_goto (tgt := 39) hx hb dX8_sale_146 (by decide) ?_
                    exact ih39 y39_4 y39_5 x113 H102 _ _ (ox_6 g39_0) (ox_6 g39_1) (ox_481 g39_2 f116) (ox_386 f72 f114 f116) hP hD hS (lv_sub hl [4, 5, 6, 7, 8, 9, 0] rfl) (ox_387 hM39 f116)
                · skip
                  have f117 : r_74.toInt ≤ x97.toInt := qi_nlt c_98 rfl rfl
                  refine lv_iconst (v := 1) hx hb dX8_sale_84 (by decide) ?_
                  refine lv_goto (tgt := 89) hx hb dX8_sale_85 (by decide) ?_
                  refine lv_istore (lv' := [(8, .int 1), (7, .int r_74), (0, .ref (r 0)), (1, .int p0), (2, .int p1), (3, .int x64), (4, .int y39_4), (5, .int y39_5), (6, .int y39_6)]) hx hb dX8_sale_89 hl (by decide) rfl (fun ls hl => ?_)
                  refine lv_iload hx hb dX8_sale_91 (lv_at hl 8 rfl) ?_
                  refine va_calli (va_runS (As := [.int y39_6]) (rest := []) ⟨hx, hb, hml, hown, hG⟩ (kJ6_bitCount_0f7a4 l dC dI y39_6 H73.size) (va_cwS 1 hG (goodS gw877 gw878 gw145 gw879) rfl rfl rfl hd_J6_bitCount_0f7a4 ⟨(Nat.le_of_ble_eq_true rfl), (Nat.le_of_ble_eq_true rfl)⟩) ⟨fbR, pR_in emptyP (emptyK hK)⟩ rfl rfl hl.1 rfl (lv_room (Nat.le_of_ble_eq_true rfl)) dX8_sale_93 ⟨(Nat.le_of_ble_eq_true rfl), (Nat.le_of_ble_eq_true rfl)⟩) hS (fun q hq h => absurd hq (Nat.not_lt.mpr h)) (fun q h => hA q (Nat.le_trans hS.1 h)) (fun r_119 u_ t_ H118 locs ht hvm hw hB hz1 hk1 hS => ?_)
                  subst hw
                  have hP := wk hP hk1
                  refine lv_iload hx hb dX8_sale_96 (lv_at hl 6 rfl) ?_
                  refine va_calli (va_runS (As := [.int y39_4]) (rest := [.int r_119]) ⟨hx, hb, hml, hown, hG⟩ (kJ6_bitCount_0f7a4 l dC dI y39_4 H118.size) (va_cwS 1 hG (goodS gw877 gw878 gw145 gw879) rfl rfl rfl hd_J6_bitCount_0f7a4 ⟨(Nat.le_of_ble_eq_true rfl), (Nat.le_of_ble_eq_true rfl)⟩) ⟨fbR, pR_in emptyP (emptyK hK)⟩ rfl rfl hl.1 rfl (lv_room (Nat.le_of_ble_eq_true rfl)) dX8_sale_98 ⟨(Nat.le_of_ble_eq_true rfl), (Nat.le_of_ble_eq_true rfl)⟩) hS (fun q hq h => absurd hq (Nat.not_lt.mpr h)) (fun q h => hA q (Nat.le_trans hS.1 h)) (fun r_121 u_ t_ H120 locs ht hvm hw hB hz1 hk1 hS => ?_)
                  subst hw
                  have hP := wk hP hk1
                  refine lv_icmp_ge (tgt := 108) hx hb dX8_sale_101 (by decide) (fun c_122 => ?_) (fun c_122 => ?_)
                  · skip
                    have f123 : r_121.toInt ≤ r_119.toInt := qi_le c_122 rfl rfl
                    refine lv_iconst (v := 0) hx hb dX8_sale_108 (by decide) ?_
                    refine lv_istore (lv' := [(9, .int 0), (8, .int 1), (7, .int r_74), (0, .ref (r 0)), (1, .int p0), (2, .int p1), (3, .int x64), (4, .int y39_4), (5, .int y39_5), (6, .int y39_6)]) hx hb dX8_sale_109 hl (by decide) rfl (fun ls hl => ?_)
                    refine lv_iload hx hb dX8_sale_111 (lv_at hl 1 rfl) ?_
                    refine lv_if_eq (tgt := 143) hx hb dX8_sale_113 (by decide) (fun c_124 => absurd c_124 (by decide)) (fun c_124 => ?_)
                    refine lv_iload hx hb dX8_sale_116 (lv_at hl 2 rfl) ?_
                    refine lv_iload hx hb dX8_sale_118 (lv_at hl 8 rfl) ?_
                    refine lv_icmp_gt (tgt := 135) hx hb dX8_sale_120 (by decide) (fun c_125 => ?_) (fun c_125 => ?_)
                    · skip
                      have f126 : y39_5.toInt < r_74.toInt := qi_lt c_125 rfl rfl
                      refine lv_iload hx hb dX8_sale_135 (lv_at hl 9 rfl) ?_
                      refine lv_istore (lv' := [(4, .int y39_6), (9, .int 0), (8, .int 1), (7, .int r_74), (0, .ref (r 0)), (1, .int p0), (2, .int p1), (3, .int x64), (5, .int y39_5), (6, .int y39_6)]) hx hb dX8_sale_137 hl (by decide) rfl (fun ls hl => ?_)
                      refine lv_iload hx hb dX8_sale_139 (lv_at hl 3 rfl) ?_
                      refine lv_istore (lv' := [(5, .int r_74), (4, .int y39_6), (9, .int 0), (8, .int 1), (7, .int r_74), (0, .ref (r 0)), (1, .int p0), (2, .int p1), (3, .int x64), (6, .int y39_6)]) hx hb dX8_sale_141 hl (by decide) rfl (fun ls hl => ?_)
                      obtain ⟨x127, ex127⟩ : ∃ y : Int32, y = y39_6 + Int32.ofInt 1 := ⟨_, rfl⟩
                      have f128 : (-2147483648) ≤ x65.toInt ∧ x65.toInt ≤ 2147483647 := i32_rg _
                      have f129 : (-2147483648) ≤ y39_6.toInt ∧ y39_6.toInt ≤ 2147483647 := i32_rg _
                      have f130 : x127.toInt = y39_6.toInt + 1 := (ox_13 (qi_add ex127 rfl (by decide) (ox_478 g39_2) (ox_384 f72 f128)))
                      refine lv_iinc (v := x127) (lv' := [(6, .int x127), (5, .int r_74), (4, .int y39_6), (9, .int 0), (8, .int 1), (7, .int r_74), (0, .ref (r 0)), (1, .int p0), (2, .int p1), (3, .int x64)]) hx hb dX8_sale_143 hl (k := 9) rfl ex127.symm (by decide) rfl (fun ls hl => ?_)
                      refine lv_goto (tgt := 39) hx hb dX8_sale_146 (by decide) ?_
                      exact ih39 y39_6 r_74 x127 H120 _ _ (ox_477 g39_2) (ox_500 g39_1 f117 f126) (ox_481 g39_2 f130) (ox_386 f72 f128 f130) hP hD hS (lv_sub hl [6, 7, 8, 9, 2, 1, 0] rfl) (ox_387 hM39 f130)
                    · skip
                      have f131 : r_74.toInt ≤ y39_5.toInt := qi_nlt c_125 rfl rfl
                      refine lv_iload hx hb dX8_sale_123 (lv_at hl 2 rfl) ?_
                      refine lv_iload hx hb dX8_sale_125 (lv_at hl 8 rfl) ?_
                      refine lv_icmp_ne (tgt := 143) hx hb dX8_sale_127 (by decide) (fun c_132 => ?_) (fun c_132 => ?_)
                      · skip
                        have f133 : r_74.toInt ≠ y39_5.toInt := qi_ne c_132 rfl rfl
                        have f134 : r_74.toInt + 1 ≤ y39_5.toInt := (ox_388 f131 f133)
                        obtain ⟨x135, ex135⟩ : ∃ y : Int32, y = y39_6 + Int32.ofInt 1 := ⟨_, rfl⟩
                        have f136 : (-2147483648) ≤ x65.toInt ∧ x65.toInt ≤ 2147483647 := i32_rg _
                        have f137 : (-2147483648) ≤ y39_6.toInt ∧ y39_6.toInt ≤ 2147483647 := i32_rg _
                        have f138 : x135.toInt = y39_6.toInt + 1 := (ox_13 (qi_add ex135 rfl (by decide) (ox_478 g39_2) (ox_384 f72 f136)))
                        refine lv_iinc (v := x135) (lv' := [(6, .int x135), (9, .int 0), (8, .int 1), (7, .int r_74), (0, .ref (r 0)), (1, .int p0), (2, .int p1), (3, .int x64), (4, .int y39_4), (5, .int y39_5)]) hx hb dX8_sale_143 hl (k := 9) rfl ex135.symm (by decide) rfl (fun ls hl => ?_)
                        refine lv_goto (tgt := 39) hx hb dX8_sale_146 (by decide) ?_
                        exact ih39 y39_4 y39_5 x135 H120 _ _ (ox_6 g39_0) (ox_501 g39_1 f131 f134) (ox_481 g39_2 f138) (ox_386 f72 f136 f138) hP hD hS (lv_sub hl [4, 5, 6, 7, 8, 9, 0] rfl) (ox_387 hM39 f138)
                      · skip
                        have f139 : r_74.toInt = y39_5.toInt := qi_eq c_132 rfl rfl
                        refine lv_iload hx hb dX8_sale_130 (lv_at hl 0 rfl) ?_
                        refine lv_if_eq (tgt := 143) hx hb dX8_sale_132 (by decide) (fun c_140 => ?_) (fun c_140 => absurd (by decide) c_140)
                        obtain ⟨x141, ex141⟩ : ∃ y : Int32, y = y39_6 + Int32.ofInt 1 := ⟨_, rfl⟩
                        have f142 : (-2147483648) ≤ x65.toInt ∧ x65.toInt ≤ 2147483647 := i32_rg _
                        have f143 : (-2147483648) ≤ y39_6.toInt ∧ y39_6.toInt ≤ 2147483647 := i32_rg _
                        have f144 : x141.toInt = y39_6.toInt + 1 := (ox_13 (qi_add ex141 rfl (by decide) (ox_478 g39_2) (ox_384 f72 f142)))
                        refine lv_iinc (v := x141) (lv' := [(6, .int x141), (9, .int 0), (8, .int 1), (7, .int r_74), (0, .ref (r 0)), (1, .int p0), (2, .int p1), (3, .int x64), (4, .int y39_4), (5, .int y39_5)]) hx hb dX8_sale_143 hl (k := 9) rfl ex141.symm (by decide) rfl (fun ls hl => ?_)
                        refine lv_goto (tgt := 39) hx hb dX8_sale_146 (by decide) ?_
                        exact ih39 y39_4 y39_5 x141 H120 _ _ (ox_6 g39_0) (ox_502 g39_1 f131 f139) (ox_481 g39_2 f144) (ox_386 f72 f142 f144) hP hD hS (lv_sub hl [4, 5, 6, 7, 8, 9, 0] rfl) (ox_387 hM39 f144)
                  · skip
                    have f145 : r_119.toInt < r_121.toInt := qi_nle c_122 rfl rfl
                    refine lv_iconst (v := 1) hx hb dX8_sale_104 (by decide) ?_
                    refine lv_goto (tgt := 109) hx hb dX8_sale_105 (by decide) ?_
                    refine lv_istore (lv' := [(9, .int 1), (8, .int 1), (7, .int r_74), (0, .ref (r 0)), (1, .int p0), (2, .int p1), (3, .int x64), (4, .int y39_4), (5, .int y39_5), (6, .int y39_6)]) hx hb dX8_sale_109 hl (by decide) rfl (fun ls hl => ?_)
                    refine lv_iload hx hb dX8_sale_111 (lv_at hl 1 rfl) ?_
                    refine lv_if_eq (tgt := 143) hx hb dX8_sale_113 (by decide) (fun c_146 => absurd c_146 (by decide)) (fun c_146 => ?_)
                    refine lv_iload hx hb dX8_sale_116 (lv_at hl 2 rfl) ?_
                    refine lv_iload hx hb dX8_sale_118 (lv_at hl 8 rfl) ?_
                    refine lv_icmp_gt (tgt := 135) hx hb dX8_sale_120 (by decide) (fun c_147 => ?_) (fun c_147 => ?_)
                    · skip
                      have f148 : y39_5.toInt < r_74.toInt := qi_lt c_147 rfl rfl
                      refine lv_iload hx hb dX8_sale_135 (lv_at hl 9 rfl) ?_
                      refine lv_istore (lv' := [(4, .int y39_6), (9, .int 1), (8, .int 1), (7, .int r_74), (0, .ref (r 0)), (1, .int p0), (2, .int p1), (3, .int x64), (5, .int y39_5), (6, .int y39_6)]) hx hb dX8_sale_137 hl (by decide) rfl (fun ls hl => ?_)
                      refine lv_iload hx hb dX8_sale_139 (lv_at hl 3 rfl) ?_
                      refine lv_istore (lv' := [(5, .int r_74), (4, .int y39_6), (9, .int 1), (8, .int 1), (7, .int r_74), (0, .ref (r 0)), (1, .int p0), (2, .int p1), (3, .int x64), (6, .int y39_6)]) hx hb dX8_sale_141 hl (by decide) rfl (fun ls hl => ?_)
                      obtain ⟨x149, ex149⟩ : ∃ y : Int32, y = y39_6 + Int32.ofInt 1 := ⟨_, rfl⟩
                      have f150 : (-2147483648) ≤ x65.toInt ∧ x65.toInt ≤ 2147483647 := i32_rg _
                      have f151 : (-2147483648) ≤ y39_6.toInt ∧ y39_6.toInt ≤ 2147483647 := i32_rg _
                      have f152 : x149.toInt = y39_6.toInt + 1 := (ox_13 (qi_add ex149 rfl (by decide) (ox_478 g39_2) (ox_384 f72 f150)))
                      refine lv_iinc (v := x149) (lv' := [(6, .int x149), (5, .int r_74), (4, .int y39_6), (9, .int 1), (8, .int 1), (7, .int r_74), (0, .ref (r 0)), (1, .int p0), (2, .int p1), (3, .int x64)]) hx hb dX8_sale_143 hl (k := 9) rfl ex149.symm (by decide) rfl (fun ls hl => ?_)
                      refine lv_goto (tgt := 39) hx hb dX8_sale_146 (by decide) ?_
                      exact ih39 y39_6 r_74 x149 H120 _ _ (ox_477 g39_2) (ox_500 g39_1 f117 f148) (ox_481 g39_2 f152) (ox_386 f72 f150 f152) hP hD hS (lv_sub hl [6, 7, 8, 9, 2, 1, 0] rfl) (ox_387 hM39 f152)
                    · skip
                      have f153 : r_74.toInt ≤ y39_5.toInt := qi_nlt c_147 rfl rfl
                      refine lv_iload hx hb dX8_sale_123 (lv_at hl 2 rfl) ?_
                      refine lv_iload hx hb dX8_sale_125 (lv_at hl 8 rfl) ?_
                      refine lv_icmp_ne (tgt := 143) hx hb dX8_sale_127 (by decide) (fun c_154 => ?_) (fun c_154 => ?_)
                      · skip
                        have f155 : r_74.toInt ≠ y39_5.toInt := qi_ne c_154 rfl rfl
                        have f156 : r_74.toInt + 1 ≤ y39_5.toInt := (ox_388 f153 f155)
                        obtain ⟨x157, ex157⟩ : ∃ y : Int32, y = y39_6 + Int32.ofInt 1 := ⟨_, rfl⟩
                        have f158 : (-2147483648) ≤ x65.toInt ∧ x65.toInt ≤ 2147483647 := i32_rg _
                        have f159 : (-2147483648) ≤ y39_6.toInt ∧ y39_6.toInt ≤ 2147483647 := i32_rg _
                        have f160 : x157.toInt = y39_6.toInt + 1 := (ox_13 (qi_add ex157 rfl (by decide) (ox_478 g39_2) (ox_384 f72 f158)))
                        refine lv_iinc (v := x157) (lv' := [(6, .int x157), (9, .int 1), (8, .int 1), (7, .int r_74), (0, .ref (r 0)), (1, .int p0), (2, .int p1), (3, .int x64), (4, .int y39_4), (5, .int y39_5)]) hx hb dX8_sale_143 hl (k := 9) rfl ex157.symm (by decide) rfl (fun ls hl => ?_)
                        refine lv_goto (tgt := 39) hx hb dX8_sale_146 (by decide) ?_
                        exact ih39 y39_4 y39_5 x157 H120 _ _ (ox_6 g39_0) (ox_501 g39_1 f153 f156) (ox_481 g39_2 f160) (ox_386 f72 f158 f160) hP hD hS (lv_sub hl [4, 5, 6, 7, 8, 9, 0] rfl) (ox_387 hM39 f160)
                      · skip
                        have f161 : r_74.toInt = y39_5.toInt := qi_eq c_154 rfl rfl
                        refine lv_iload hx hb dX8_sale_130 (lv_at hl 0 rfl) ?_
                        refine lv_if_eq (tgt := 143) hx hb dX8_sale_132 (by decide) (fun c_162 => absurd c_162 (by decide)) (fun c_162 => ?_)
                        refine lv_iload hx hb dX8_sale_135 (lv_at hl 9 rfl) ?_
                        refine lv_istore (lv' := [(4, .int y39_6), (9, .int 1), (8, .int 1), (7, .int r_74), (0, .ref (r 0)), (1, .int p0), (2, .int p1), (3, .int x64), (5, .int y39_5), (6, .int y39_6)]) hx hb dX8_sale_137 hl (by decide) rfl (fun ls hl => ?_)
                        refine lv_iload hx hb dX8_sale_139 (lv_at hl 3 rfl) ?_
                        refine lv_istore (lv' := [(5, .int r_74), (4, .int y39_6), (9, .int 1), (8, .int 1), (7, .int r_74), (0, .ref (r 0)), (1, .int p0), (2, .int p1), (3, .int x64), (6, .int y39_6)]) hx hb dX8_sale_141 hl (by decide) rfl (fun ls hl => ?_)
                        obtain ⟨x163, ex163⟩ : ∃ y : Int32, y = y39_6 + Int32.ofInt 1 := ⟨_, rfl⟩
                        have f164 : (-2147483648) ≤ x65.toInt ∧ x65.toInt ≤ 2147483647 := i32_rg _
                        have f165 : (-2147483648) ≤ y39_6.toInt ∧ y39_6.toInt ≤ 2147483647 := i32_rg _
                        have f166 : x163.toInt = y39_6.toInt + 1 := (ox_13 (qi_add ex163 rfl (by decide) (ox_478 g39_2) (ox_384 f72 f164)))
                        refine lv_iinc (v := x163) (lv' := [(6, .int x163), (5, .int r_74), (4, .int y39_6), (9, .int 1), (8, .int 1), (7, .int r_74), (0, .ref (r 0)), (1, .int p0), (2, .int p1), (3, .int x64)]) hx hb dX8_sale_143 hl (k := 9) rfl ex163.symm (by decide) rfl (fun ls hl => ?_)
                        refine lv_goto (tgt := 39) hx hb dX8_sale_146 (by decide) ?_
                        exact ih39 y39_6 r_74 x163 H120 _ _ (ox_477 g39_2) (ox_503 g39_1 f161) (ox_481 g39_2 f166) (ox_386 f72 f164 f166) hP hD hS (lv_sub hl [6, 7, 8, 9, 2, 1, 0] rfl) (ox_387 hM39 f166)
        exact L39 (-1 * (1 : Int32).toInt + 2147483647 + 1).toNat 0 0 1 H20 _ _ (ox_27 zc_0) (ox_27 zc_0) (ox_484 zc_1) (ox_504 zc_1) hP hD hS (lv_sub hl [4, 5, 6, 3, 2, 1, 0] rfl) (mlt (ox_505 zc_1))
      · skip
        have f167 : 1 < p1.toInt := qi_nle c_16 rfl zc_1
        refine lv_iconst (v := (-1)) hx hb dX8_sale_17 (by decide) ?_
        rw [hQ]
        exact W.iret (v := (-1)) hx hb hr (fun t ht hW => ⟨⟨(-1), (-1), rfl, rfl, ⟨J, by rw [ht]; exact hP, hD, hI⟩⟩, hS.F ht⟩) hS.2.2 dX8_sale_18
set_option maxHeartbeats 4000000 in
set_option maxRecDepth 100000 in
theorem kX8_bothGladder (l : Launch) (dC : Nat → ClassId) (dI : Nat → Nat → Nat) (r : Nat → Nat) (ct : Nat → ClassId) (i_tapeLength i_time i_lyingCount i_rd_fault i_rd_token i_rd_kind i_sc_count i_sc_at i_A_tunes i_A_houses i_fA_length i_B_tunes i_B_houses i_fB_length i_acts_done i_acts_undone i_kn_count : Int32) (f_boxes f_boxKept f_trial f_offers f_A_noteCounts f_A_notes f_B_noteCounts f_B_notes f_now_where f_now_worn f_ahead_where f_ahead_worn f_acts_rows f_kn_tunes f_kn_noteTimes : Nat → Int32) (J : Nat → Nat → Int32) (L : Nat → Nat → Int64) (p0 p1 : Int32) (sz : Nat) (hI : (IX i_tapeLength i_time i_lyingCount i_rd_token i_sc_count i_sc_at i_A_tunes i_A_houses i_fA_length i_B_tunes i_B_houses i_fB_length i_acts_done i_acts_undone i_kn_count f_boxes f_A_noteCounts f_A_notes f_B_noteCounts f_B_notes f_now_worn f_ahead_worn f_acts_rows f_kn_tunes)) (hp0 : (0 : Int) ≤ p0.toInt) (hp1 : p0.toInt + 1 ≤ i_A_houses.toInt) (hp2 : (0 : Int) ≤ p1.toInt) (hp3 : p1.toInt + 1 ≤ i_A_houses.toInt) (hp4 : WB i_A_tunes f_now_where) : Met l yX8_bothGladder (.code yX8_bothGladder cX8_bothGladder 5 (some .boolean) :: GW) { frames := 12, cells := 0, slots := 0, locals := 428 } (va_Pc [.ref (r 0), .int p0, .int p1] (pW (dC, dI) (WX r ct i_tapeLength i_time i_lyingCount i_rd_fault i_rd_token i_rd_kind i_sc_count i_sc_at i_A_tunes i_A_houses i_fA_length i_B_tunes i_B_houses i_fB_length i_acts_done i_acts_undone i_kn_count f_boxes f_boxKept f_trial f_offers f_A_noteCounts f_A_notes f_B_noteCounts f_B_notes f_now_where f_now_worn f_ahead_where f_ahead_worn f_acts_rows f_kn_tunes f_kn_noteTimes J L) (TX ct) sz)) (va_Qi (fun (r0 : Int32) (u : Int32) => r0 = u) (fun (u : Int32) (t : State) => ∃ (n_J : Nat → Nat → Int32), va_P (dC, dI) vwCl (WX r ct i_tapeLength i_time i_lyingCount i_rd_fault i_rd_token i_rd_kind i_sc_count i_sc_at i_A_tunes i_A_houses i_fA_length i_B_tunes i_B_houses i_fB_length i_acts_done i_acts_undone i_kn_count f_boxes f_boxKept f_trial f_offers f_A_noteCounts f_A_notes f_B_noteCounts f_B_notes f_now_where f_now_worn f_ahead_where f_ahead_worn f_acts_rows f_kn_tunes f_kn_noteTimes n_J L) t.heap ∧ va_D (va_A (WX r ct i_tapeLength i_time i_lyingCount i_rd_fault i_rd_token i_rd_kind i_sc_count i_sc_at i_A_tunes i_A_houses i_fA_length i_B_tunes i_B_houses i_fB_length i_acts_done i_acts_undone i_kn_count f_boxes f_boxKept f_trial f_offers f_A_noteCounts f_A_notes f_B_noteCounts f_B_notes f_now_where f_now_worn f_ahead_where f_ahead_worn f_acts_rows f_kn_tunes f_kn_noteTimes J L) sz) (WX r ct i_tapeLength i_time i_lyingCount i_rd_fault i_rd_token i_rd_kind i_sc_count i_sc_at i_A_tunes i_A_houses i_fA_length i_B_tunes i_B_houses i_fB_length i_acts_done i_acts_undone i_kn_count f_boxes f_boxKept f_trial f_offers f_A_noteCounts f_A_notes f_B_noteCounts f_B_notes f_now_where f_now_worn f_ahead_where f_ahead_worn f_acts_rows f_kn_tunes f_kn_noteTimes n_J L) ∧ (IX i_tapeLength i_time i_lyingCount i_rd_token i_sc_count i_sc_at i_A_tunes i_A_houses i_fA_length i_B_tunes i_B_houses i_fB_length i_acts_done i_acts_undone i_kn_count f_boxes f_A_noteCounts f_A_notes f_B_noteCounts f_B_notes f_now_worn f_ahead_worn f_acts_rows f_kn_tunes) ∧ (((u.toInt = (0 : Int))) ∨ ((u.toInt = (1 : Int)))) ∧ ((0 : Int) ≤ u.toInt) ∧ (u.toInt ≤ (1 : Int))) (va_A (WX r ct i_tapeLength i_time i_lyingCount i_rd_fault i_rd_token i_rd_kind i_sc_count i_sc_at i_A_tunes i_A_houses i_fA_length i_B_tunes i_B_houses i_fB_length i_acts_done i_acts_undone i_kn_count f_boxes f_boxKept f_trial f_offers f_A_noteCounts f_A_notes f_B_noteCounts f_B_notes f_now_where f_now_worn f_ahead_where f_ahead_worn f_acts_rows f_kn_tunes f_kn_noteTimes J L) sz)) 0 0 (va_A (WX r ct i_tapeLength i_time i_lyingCount i_rd_fault i_rd_token i_rd_kind i_sc_count i_sc_at i_A_tunes i_A_houses i_fA_length i_B_tunes i_B_houses i_fB_length i_acts_done i_acts_undone i_kn_count f_boxes f_boxKept f_trial f_offers f_A_noteCounts f_A_notes f_B_noteCounts f_B_notes f_now_where f_now_worn f_ahead_where f_ahead_worn f_acts_rows f_kn_tunes f_kn_noteTimes J L) sz) := by
  refine Met.ofW (cc := cX8_bothGladder) (maxL := 5) (ret := (some .boolean)) (by decide) rfl ?_
  intro p e s m args below meth c0 s₁ B hml hv
  obtain ⟨rfl, hsz, hP, hK, hD0⟩ := hv
  have hx := B.exec
  have hb := B.bytes
  have hr := B.returns
  have hts := atoms_spec (ws := .code yX8_bothGladder cX8_bothGladder 5 (some .boolean) :: GW) B.pre
  have hG : ∀ w ∈ GW, w.before _ s = true := fun w h => hts w (List.mem_cons_of_mem _ h)
  have hown : s.vm.findClass RX8 = some m.cls := findClass_of_methodNamed B.named
  subst hsz
  have hD := hD0.self (sz := s.heap.size)
  generalize hAe : va_A (WX r ct i_tapeLength i_time i_lyingCount i_rd_fault i_rd_token i_rd_kind i_sc_count i_sc_at i_A_tunes i_A_houses i_fA_length i_B_tunes i_B_houses i_fB_length i_acts_done i_acts_undone i_kn_count f_boxes f_boxKept f_trial f_offers f_A_noteCounts f_A_notes f_B_noteCounts f_B_notes f_now_where f_now_worn f_ahead_where f_ahead_worn f_acts_rows f_kn_tunes f_kn_noteTimes J L) s.heap.size = A at hD ⊢
  have hA : ∀ q : Nat, s.heap.size ≤ q → A q := fun q h => by rw [← hAe]; exact Or.inr h
  have hS : va_S A s.heap s.heap [] := va_S.rf
  have hP : va_P (dC, dI) vwCl (WX r ct i_tapeLength i_time i_lyingCount i_rd_fault i_rd_token i_rd_kind i_sc_count i_sc_at i_A_tunes i_A_houses i_fA_length i_B_tunes i_B_houses i_fB_length i_acts_done i_acts_undone i_kn_count f_boxes f_boxKept f_trial f_offers f_A_noteCounts f_A_notes f_B_noteCounts f_B_notes f_now_where f_now_worn f_ahead_where f_ahead_worn f_acts_rows f_kn_tunes f_kn_noteTimes J L) s.heap := hP
  have hl := lv_entry ([.ref (r 0), .int p0, .int p1]) (n := 5) (Nat.le_of_ble_eq_true rfl)
  rw [lg_entry_eq]
  generalize (lg_sl ([.ref (r 0), .int p0, .int p1]) ++ List.replicate (5 - (lg_sl ([.ref (r 0), .int p0, .int p1])).length) Slot.unset).toArray = ls at hl ⊢
  have hl : lv_has ls 5 [(0, .ref (r 0)), (1, .int p0), (2, .int p1)] := hl
  refine nameQ (fun Q hQ => ?_)
  obtain ⟨ie0, ie1, ie2, ie3, ie4, ie5, ie6, ie7, ie8, ie9, ie10, ie11, ie12, ie13, ie14, ie15, ie16, ie17, ie18, ie19, ie20, ie21, ie22, ie23, ie24, ie25, ie26, ie27, ie28, ie29, ie30, ie31, ie32, ie33, ie34, ie35, ie36, ie37, ie38, ie39⟩ := id hI
  refine lv_aload_n hx hb dX8_bothGladder_0 rfl (lv_at hl 0 rfl) ?_
  refine gX_X8_30_0 hx hb hG hown hK hP dX8_bothGladder_1 ?_
  refine lv_iload_n hx hb dX8_bothGladder_4 rfl (lv_at hl 1 rfl) ?_
  refine va_calli (va_runV (As := [.int p0]) (rest := []) ⟨hx, hb, hml, hown, hG⟩ (kX7_onApprovalIn l dC dI r ct i_tapeLength i_time i_lyingCount i_rd_fault i_rd_token i_rd_kind i_sc_count i_sc_at i_A_tunes i_A_houses i_fA_length i_B_tunes i_B_houses i_fB_length i_acts_done i_acts_undone i_kn_count f_boxes f_boxKept f_trial f_offers f_A_noteCounts f_A_notes f_B_noteCounts f_B_notes f_now_where f_now_worn f_ahead_where f_ahead_worn f_acts_rows f_kn_tunes f_kn_noteTimes J L p0 s.heap.size hI (ox_54 hp0 hp1) hp4) (cwV 1 hG (goodV gw720 gw721 gw722 gw134 gw723) rfl rfl rfl hd_X7_onApprovalIn ⟨(Nat.le_of_ble_eq_true rfl), (Nat.le_of_ble_eq_true rfl)⟩) ⟨fbR, va_recv hK hP (ci := 6) (q0 := 7) rfl rfl, pR_in hP hK⟩ rfl rfl hl.1 rfl (lv_room (Nat.le_of_ble_eq_true rfl)) dX8_bothGladder_5 ⟨(Nat.le_of_ble_eq_true rfl), (Nat.le_of_ble_eq_true rfl)⟩) hS (fun q hq h => absurd hq (Nat.not_lt.mpr h)) (fun q h => hA q (Nat.le_trans hS.1 h)) (fun r_2 u_ t_ H1 locs ht hvm hw hB hz1 hk1 hS => ?_)
  subst hw
  have hP := wk hP hk1
  obtain ⟨f3, f4, f5⟩ := hB
  refine lv_istore_n (lv' := [(3, .int r_2), (0, .ref (r 0)), (1, .int p0), (2, .int p1)]) hx hb dX8_bothGladder_8 rfl hl (by decide) rfl (fun ls hl => ?_)
  refine lv_aload_n hx hb dX8_bothGladder_9 rfl (lv_at hl 1 rfl) ?_
  refine gX_X8_30_0 hx hb hG hown hK hP dX8_bothGladder_10 ?_
  refine lv_iload_n hx hb dX8_bothGladder_13 rfl (lv_at hl 3 rfl) ?_
  refine va_calli (va_runV (As := [.int p1]) (rest := []) ⟨hx, hb, hml, hown, hG⟩ (kX7_onApprovalIn l dC dI r ct i_tapeLength i_time i_lyingCount i_rd_fault i_rd_token i_rd_kind i_sc_count i_sc_at i_A_tunes i_A_houses i_fA_length i_B_tunes i_B_houses i_fB_length i_acts_done i_acts_undone i_kn_count f_boxes f_boxKept f_trial f_offers f_A_noteCounts f_A_notes f_B_noteCounts f_B_notes f_now_where f_now_worn f_ahead_where f_ahead_worn f_acts_rows f_kn_tunes f_kn_noteTimes J L p1 H1.size hI (ox_54 hp2 hp3) hp4) (cwV 1 hG (goodV gw720 gw721 gw722 gw134 gw723) rfl rfl rfl hd_X7_onApprovalIn ⟨(Nat.le_of_ble_eq_true rfl), (Nat.le_of_ble_eq_true rfl)⟩) ⟨fbR, va_recv hK hP (ci := 6) (q0 := 7) rfl rfl, pR_in hP hK⟩ rfl rfl hl.1 rfl (lv_room (Nat.le_of_ble_eq_true rfl)) dX8_bothGladder_14 ⟨(Nat.le_of_ble_eq_true rfl), (Nat.le_of_ble_eq_true rfl)⟩) hS (fun q hq h => absurd hq (Nat.not_lt.mpr h)) (fun q h => hA q (Nat.le_trans hS.1 h)) (fun r_7 u_ t_ H6 locs ht hvm hw hB hz1 hk1 hS => ?_)
  subst hw
  have hP := wk hP hk1
  obtain ⟨f8, f9, f10⟩ := hB
  refine lv_istore (lv' := [(4, .int r_7), (3, .int r_2), (0, .ref (r 0)), (1, .int p0), (2, .int p1)]) hx hb dX8_bothGladder_17 hl (by decide) rfl (fun ls hl => ?_)
  refine lv_iload_n hx hb dX8_bothGladder_19 rfl (lv_at hl 1 rfl) ?_
  refine lv_iconst (v := (-1)) hx hb dX8_bothGladder_20 (by decide) ?_
  refine lv_icmp_eq (tgt := 66) hx hb dX8_bothGladder_21 (by decide) (fun c_11 => ?_) (fun c_11 => ?_)
  · skip
    have f12 : r_2.toInt = (-1) := qi_eq c_11 rfl zc_m1
    refine lv_iconst (v := 0) hx hb dX8_bothGladder_66 (by decide) ?_
    rw [hQ]
    exact W.zret (v := 0) hx hb hr (by decide) (fun t ht hW => ⟨⟨0, 0, rfl, rfl, ⟨J, by rw [ht]; exact hP, hD, hI, (ox_80 zc_0), (ox_27 zc_0), (ox_28 zc_0)⟩⟩, hS.F ht⟩) hS.2.2 dX8_bothGladder_67
  · skip
    have f13 : r_2.toInt ≠ (-1) := qi_ne c_11 rfl zc_m1
    have f14 : (0 : Int) ≤ r_2.toInt := (ox_222 f3 f13)
    refine lv_iload hx hb dX8_bothGladder_24 (lv_at hl 0 rfl) ?_
    refine lv_iconst (v := (-1)) hx hb dX8_bothGladder_26 (by decide) ?_
    refine lv_icmp_eq (tgt := 66) hx hb dX8_bothGladder_27 (by decide) (fun c_15 => ?_) (fun c_15 => ?_)
    · skip
      have f16 : r_7.toInt = (-1) := qi_eq c_15 rfl zc_m1
      refine lv_iconst (v := 0) hx hb dX8_bothGladder_66 (by decide) ?_
      rw [hQ]
      exact W.zret (v := 0) hx hb hr (by decide) (fun t ht hW => ⟨⟨0, 0, rfl, rfl, ⟨J, by rw [ht]; exact hP, hD, hI, (ox_80 zc_0), (ox_27 zc_0), (ox_28 zc_0)⟩⟩, hS.F ht⟩) hS.2.2 dX8_bothGladder_67
    · skip
      have f17 : r_7.toInt ≠ (-1) := qi_ne c_15 rfl zc_m1
      have f18 : (0 : Int) ≤ r_7.toInt := (ox_222 f8 f17)
      refine lv_aload_n hx hb dX8_bothGladder_30 rfl (lv_at hl 2 rfl) ?_
      refine lv_iload_n hx hb dX8_bothGladder_31 rfl (lv_at hl 3 rfl) ?_
      refine lv_iload hx hb dX8_bothGladder_32 (lv_at hl 0 rfl) ?_
      have hFc := frA hD hS hA
      refine va_calli (va_runV (As := [.int p0, .int r_7]) (rest := []) ⟨hx, hb, hml, hown, hG⟩ (kX8_gladNow l dC dI r ct i_tapeLength i_time i_lyingCount i_rd_fault i_rd_token i_rd_kind i_sc_count i_sc_at i_A_tunes i_A_houses i_fA_length i_B_tunes i_B_houses i_fB_length i_acts_done i_acts_undone i_kn_count f_boxes f_boxKept f_trial f_offers f_A_noteCounts f_A_notes f_B_noteCounts f_B_notes f_now_where f_now_worn f_ahead_where f_ahead_worn f_acts_rows f_kn_tunes f_kn_noteTimes J L p0 r_7 H6.size hI (ox_54 hp0 hp1) (ox_55 hp1) (ox_6 f18) (ox_55 f9)) (cwV 2 hG (goodV gw737 gw739 gw23 gw129 gw740) rfl rfl rfl hd_X8_gladNow ⟨(Nat.le_of_ble_eq_true rfl), (Nat.le_of_ble_eq_true rfl)⟩) ⟨fbW, va_recv hK hP (ci := 7) (q0 := 0) rfl rfl, pW_in hP hK hD⟩ rfl rfl hl.1 rfl (lv_room (Nat.le_of_ble_eq_true rfl)) dX8_bothGladder_34 ⟨(Nat.le_of_ble_eq_true rfl), (Nat.le_of_ble_eq_true rfl)⟩) hS (fun q _ h => hFc q h) hFc (fun r_20 u_ t_ H19 locs ht hvm hw hB hz1 hk1 hS => ?_)
      subst hw
      obtain ⟨J21, hP1, hD1, hI22⟩ := hB
      rw [ht] at hP1
      have hP := hP1
      have hD := dW hFc hD1
      obtain ⟨im23, im24, im25, im26, im27, im28, im29, im30, im31, im32, im33, im34, im35, im36, im37, im38, im39, im40, im41, im42, im43, im44, im45, im46, im47, im48, im49, im50, im51, im52, im53, im54, im55, im56, im57, im58, im59, im60, im61, im62⟩ := id hI22
      refine lv_aload_n hx hb dX8_bothGladder_37 rfl (lv_at hl 2 rfl) ?_
      refine lv_iload_n hx hb dX8_bothGladder_38 rfl (lv_at hl 3 rfl) ?_
      refine lv_iload_n hx hb dX8_bothGladder_39 rfl (lv_at hl 1 rfl) ?_
      have hFc := frA hD hS hA
      refine va_calli (va_runV (As := [.int p0, .int r_2]) (rest := [.int r_20]) ⟨hx, hb, hml, hown, hG⟩ (kX8_gladNow l dC dI r ct i_tapeLength i_time i_lyingCount i_rd_fault i_rd_token i_rd_kind i_sc_count i_sc_at i_A_tunes i_A_houses i_fA_length i_B_tunes i_B_houses i_fB_length i_acts_done i_acts_undone i_kn_count f_boxes f_boxKept f_trial f_offers f_A_noteCounts f_A_notes f_B_noteCounts f_B_notes f_now_where f_now_worn f_ahead_where f_ahead_worn f_acts_rows f_kn_tunes f_kn_noteTimes J21 L p0 r_2 H19.size hI22 (ox_54 hp0 hp1) (ox_55 hp1) (ox_6 f14) (ox_55 f4)) (cwV 2 hG (goodV gw737 gw739 gw23 gw129 gw740) rfl rfl rfl hd_X8_gladNow ⟨(Nat.le_of_ble_eq_true rfl), (Nat.le_of_ble_eq_true rfl)⟩) ⟨fbW, va_recv hK hP (ci := 7) (q0 := 0) rfl rfl, pW_in hP hK hD⟩ rfl rfl hl.1 rfl (lv_room (Nat.le_of_ble_eq_true rfl)) dX8_bothGladder_40 ⟨(Nat.le_of_ble_eq_true rfl), (Nat.le_of_ble_eq_true rfl)⟩) hS (fun q _ h => hFc q h) hFc (fun r_64 u_ t_ H63 locs ht hvm hw hB hz1 hk1 hS => ?_)
      subst hw
      obtain ⟨J65, hP1, hD1, hI66⟩ := hB
      rw [ht] at hP1
      have hP := hP1
      have hD := dW hFc hD1
      obtain ⟨im67, im68, im69, im70, im71, im72, im73, im74, im75, im76, im77, im78, im79, im80, im81, im82, im83, im84, im85, im86, im87, im88, im89, im90, im91, im92, im93, im94, im95, im96, im97, im98, im99, im100, im101, im102, im103, im104, im105, im106⟩ := id hI66
      refine lv_icmp_le (tgt := 66) hx hb dX8_bothGladder_43 (by decide) (fun c_107 => ?_) (fun c_107 => ?_)
      · skip
        have f108 : r_20.toInt ≤ r_64.toInt := qi_le c_107 rfl rfl
        refine lv_iconst (v := 0) hx hb dX8_bothGladder_66 (by decide) ?_
        rw [hQ]
        exact W.zret (v := 0) hx hb hr (by decide) (fun t ht hW => ⟨⟨0, 0, rfl, rfl, ⟨J65, by rw [ht]; exact hP, hD, hI66, (ox_80 zc_0), (ox_27 zc_0), (ox_28 zc_0)⟩⟩, hS.F ht⟩) hS.2.2 dX8_bothGladder_67
      · skip
        have f109 : r_64.toInt < r_20.toInt := qi_nle c_107 rfl rfl
        refine lv_aload_n hx hb dX8_bothGladder_46 rfl (lv_at hl 2 rfl) ?_
        refine lv_iload_n hx hb dX8_bothGladder_47 rfl (lv_at hl 4 rfl) ?_
        refine lv_iload_n hx hb dX8_bothGladder_48 rfl (lv_at hl 1 rfl) ?_
        have hFc := frA hD hS hA
        refine va_calli (va_runV (As := [.int p1, .int r_2]) (rest := []) ⟨hx, hb, hml, hown, hG⟩ (kX8_gladNow l dC dI r ct i_tapeLength i_time i_lyingCount i_rd_fault i_rd_token i_rd_kind i_sc_count i_sc_at i_A_tunes i_A_houses i_fA_length i_B_tunes i_B_houses i_fB_length i_acts_done i_acts_undone i_kn_count f_boxes f_boxKept f_trial f_offers f_A_noteCounts f_A_notes f_B_noteCounts f_B_notes f_now_where f_now_worn f_ahead_where f_ahead_worn f_acts_rows f_kn_tunes f_kn_noteTimes J65 L p1 r_2 H63.size hI66 (ox_54 hp2 hp3) (ox_55 hp3) (ox_6 f14) (ox_55 f4)) (cwV 2 hG (goodV gw737 gw739 gw23 gw129 gw740) rfl rfl rfl hd_X8_gladNow ⟨(Nat.le_of_ble_eq_true rfl), (Nat.le_of_ble_eq_true rfl)⟩) ⟨fbW, va_recv hK hP (ci := 7) (q0 := 0) rfl rfl, pW_in hP hK hD⟩ rfl rfl hl.1 rfl (lv_room (Nat.le_of_ble_eq_true rfl)) dX8_bothGladder_49 ⟨(Nat.le_of_ble_eq_true rfl), (Nat.le_of_ble_eq_true rfl)⟩) hS (fun q _ h => hFc q h) hFc (fun r_111 u_ t_ H110 locs ht hvm hw hB hz1 hk1 hS => ?_)
        subst hw
        obtain ⟨J112, hP1, hD1, hI113⟩ := hB
        rw [ht] at hP1
        have hP := hP1
        have hD := dW hFc hD1
        obtain ⟨im114, im115, im116, im117, im118, im119, im120, im121, im122, im123, im124, im125, im126, im127, im128, im129, im130, im131, im132, im133, im134, im135, im136, im137, im138, im139, im140, im141, im142, im143, im144, im145, im146, im147, im148, im149, im150, im151, im152, im153⟩ := id hI113
        refine lv_aload_n hx hb dX8_bothGladder_52 rfl (lv_at hl 2 rfl) ?_
        refine lv_iload_n hx hb dX8_bothGladder_53 rfl (lv_at hl 4 rfl) ?_
        refine lv_iload hx hb dX8_bothGladder_54 (lv_at hl 0 rfl) ?_
        have hFc := frA hD hS hA
        refine va_calli (va_runV (As := [.int p1, .int r_7]) (rest := [.int r_111]) ⟨hx, hb, hml, hown, hG⟩ (kX8_gladNow l dC dI r ct i_tapeLength i_time i_lyingCount i_rd_fault i_rd_token i_rd_kind i_sc_count i_sc_at i_A_tunes i_A_houses i_fA_length i_B_tunes i_B_houses i_fB_length i_acts_done i_acts_undone i_kn_count f_boxes f_boxKept f_trial f_offers f_A_noteCounts f_A_notes f_B_noteCounts f_B_notes f_now_where f_now_worn f_ahead_where f_ahead_worn f_acts_rows f_kn_tunes f_kn_noteTimes J112 L p1 r_7 H110.size hI113 (ox_54 hp2 hp3) (ox_55 hp3) (ox_6 f18) (ox_55 f9)) (cwV 2 hG (goodV gw737 gw739 gw23 gw129 gw740) rfl rfl rfl hd_X8_gladNow ⟨(Nat.le_of_ble_eq_true rfl), (Nat.le_of_ble_eq_true rfl)⟩) ⟨fbW, va_recv hK hP (ci := 7) (q0 := 0) rfl rfl, pW_in hP hK hD⟩ rfl rfl hl.1 rfl (lv_room (Nat.le_of_ble_eq_true rfl)) dX8_bothGladder_56 ⟨(Nat.le_of_ble_eq_true rfl), (Nat.le_of_ble_eq_true rfl)⟩) hS (fun q _ h => hFc q h) hFc (fun r_155 u_ t_ H154 locs ht hvm hw hB hz1 hk1 hS => ?_)
        subst hw
        obtain ⟨J156, hP1, hD1, hI157⟩ := hB
        rw [ht] at hP1
        have hP := hP1
        have hD := dW hFc hD1
        obtain ⟨im158, im159, im160, im161, im162, im163, im164, im165, im166, im167, im168, im169, im170, im171, im172, im173, im174, im175, im176, im177, im178, im179, im180, im181, im182, im183, im184, im185, im186, im187, im188, im189, im190, im191, im192, im193, im194, im195, im196, im197⟩ := id hI157
        refine lv_icmp_le (tgt := 66) hx hb dX8_bothGladder_59 (by decide) (fun c_198 => ?_) (fun c_198 => ?_)
        · skip
          have f199 : r_111.toInt ≤ r_155.toInt := qi_le c_198 rfl rfl
          refine lv_iconst (v := 0) hx hb dX8_bothGladder_66 (by decide) ?_
          rw [hQ]
          exact W.zret (v := 0) hx hb hr (by decide) (fun t ht hW => ⟨⟨0, 0, rfl, rfl, ⟨J156, by rw [ht]; exact hP, hD, hI157, (ox_80 zc_0), (ox_27 zc_0), (ox_28 zc_0)⟩⟩, hS.F ht⟩) hS.2.2 dX8_bothGladder_67
        · skip
          have f200 : r_155.toInt < r_111.toInt := qi_nle c_198 rfl rfl
          refine lv_iconst (v := 1) hx hb dX8_bothGladder_62 (by decide) ?_
          refine lv_goto (tgt := 67) hx hb dX8_bothGladder_63 (by decide) ?_
          rw [hQ]
          exact W.zret (v := 1) hx hb hr (by decide) (fun t ht hW => ⟨⟨1, 1, rfl, rfl, ⟨J156, by rw [ht]; exact hP, hD, hI157, (ox_81 zc_1), (ox_31 zc_1), (ox_32 zc_1)⟩⟩, hS.F ht⟩) hS.2.2 dX8_bothGladder_67
set_option maxHeartbeats 4000000 in
set_option maxRecDepth 100000 in
theorem kX8_swap (l : Launch) (dC : Nat → ClassId) (dI : Nat → Nat → Nat) (r : Nat → Nat) (ct : Nat → ClassId) (i_tapeLength i_time i_lyingCount i_rd_fault i_rd_token i_rd_kind i_sc_count i_sc_at i_A_tunes i_A_houses i_fA_length i_B_tunes i_B_houses i_fB_length i_acts_done i_acts_undone i_kn_count : Int32) (f_boxes f_boxKept f_trial f_offers f_A_noteCounts f_A_notes f_B_noteCounts f_B_notes f_now_where f_now_worn f_ahead_where f_ahead_worn f_acts_rows f_kn_tunes f_kn_noteTimes : Nat → Int32) (J : Nat → Nat → Int32) (L : Nat → Nat → Int64) (p0 : Int32) (sz : Nat) (hI : (IX i_tapeLength i_time i_lyingCount i_rd_token i_sc_count i_sc_at i_A_tunes i_A_houses i_fA_length i_B_tunes i_B_houses i_fB_length i_acts_done i_acts_undone i_kn_count f_boxes f_A_noteCounts f_A_notes f_B_noteCounts f_B_notes f_now_worn f_ahead_worn f_acts_rows f_kn_tunes)) (hp0 : WB i_A_tunes f_now_where) : Met l yX8_swap (.code yX8_swap cX8_swap 4 (some .int) :: GW) { frames := 14, cells := 0, slots := 0, locals := 492 } (va_Pc [.ref (r 0), .int p0] (pW (dC, dI) (WX r ct i_tapeLength i_time i_lyingCount i_rd_fault i_rd_token i_rd_kind i_sc_count i_sc_at i_A_tunes i_A_houses i_fA_length i_B_tunes i_B_houses i_fB_length i_acts_done i_acts_undone i_kn_count f_boxes f_boxKept f_trial f_offers f_A_noteCounts f_A_notes f_B_noteCounts f_B_notes f_now_where f_now_worn f_ahead_where f_ahead_worn f_acts_rows f_kn_tunes f_kn_noteTimes J L) (TX ct) sz)) (va_Qi (fun (r0 : Int32) (u : Int32) => r0 = u) (fun (u : Int32) (t : State) => ∃ (n_J : Nat → Nat → Int32), va_P (dC, dI) vwCl (WX r ct i_tapeLength i_time i_lyingCount i_rd_fault i_rd_token i_rd_kind i_sc_count i_sc_at i_A_tunes i_A_houses i_fA_length i_B_tunes i_B_houses i_fB_length i_acts_done i_acts_undone i_kn_count f_boxes f_boxKept f_trial f_offers f_A_noteCounts f_A_notes f_B_noteCounts f_B_notes f_now_where f_now_worn f_ahead_where f_ahead_worn f_acts_rows f_kn_tunes f_kn_noteTimes n_J L) t.heap ∧ va_D (va_A (WX r ct i_tapeLength i_time i_lyingCount i_rd_fault i_rd_token i_rd_kind i_sc_count i_sc_at i_A_tunes i_A_houses i_fA_length i_B_tunes i_B_houses i_fB_length i_acts_done i_acts_undone i_kn_count f_boxes f_boxKept f_trial f_offers f_A_noteCounts f_A_notes f_B_noteCounts f_B_notes f_now_where f_now_worn f_ahead_where f_ahead_worn f_acts_rows f_kn_tunes f_kn_noteTimes J L) sz) (WX r ct i_tapeLength i_time i_lyingCount i_rd_fault i_rd_token i_rd_kind i_sc_count i_sc_at i_A_tunes i_A_houses i_fA_length i_B_tunes i_B_houses i_fB_length i_acts_done i_acts_undone i_kn_count f_boxes f_boxKept f_trial f_offers f_A_noteCounts f_A_notes f_B_noteCounts f_B_notes f_now_where f_now_worn f_ahead_where f_ahead_worn f_acts_rows f_kn_tunes f_kn_noteTimes n_J L) ∧ (IX i_tapeLength i_time i_lyingCount i_rd_token i_sc_count i_sc_at i_A_tunes i_A_houses i_fA_length i_B_tunes i_B_houses i_fB_length i_acts_done i_acts_undone i_kn_count f_boxes f_A_noteCounts f_A_notes f_B_noteCounts f_B_notes f_now_worn f_ahead_worn f_acts_rows f_kn_tunes)) (va_A (WX r ct i_tapeLength i_time i_lyingCount i_rd_fault i_rd_token i_rd_kind i_sc_count i_sc_at i_A_tunes i_A_houses i_fA_length i_B_tunes i_B_houses i_fB_length i_acts_done i_acts_undone i_kn_count f_boxes f_boxKept f_trial f_offers f_A_noteCounts f_A_notes f_B_noteCounts f_B_notes f_now_where f_now_worn f_ahead_where f_ahead_worn f_acts_rows f_kn_tunes f_kn_noteTimes J L) sz)) 0 0 (va_A (WX r ct i_tapeLength i_time i_lyingCount i_rd_fault i_rd_token i_rd_kind i_sc_count i_sc_at i_A_tunes i_A_houses i_fA_length i_B_tunes i_B_houses i_fB_length i_acts_done i_acts_undone i_kn_count f_boxes f_boxKept f_trial f_offers f_A_noteCounts f_A_notes f_B_noteCounts f_B_notes f_now_where f_now_worn f_ahead_where f_ahead_worn f_acts_rows f_kn_tunes f_kn_noteTimes J L) sz) := by
  refine Met.ofW (cc := cX8_swap) (maxL := 4) (ret := (some .int)) (by decide) rfl ?_
  intro p e s m args below meth c0 s₁ B hml hv
  obtain ⟨rfl, hsz, hP, hK, hD0⟩ := hv
  have hx := B.exec
  have hb := B.bytes
  have hr := B.returns
  have hts := atoms_spec (ws := .code yX8_swap cX8_swap 4 (some .int) :: GW) B.pre
  have hG : ∀ w ∈ GW, w.before _ s = true := fun w h => hts w (List.mem_cons_of_mem _ h)
  have hown : s.vm.findClass RX8 = some m.cls := findClass_of_methodNamed B.named
  subst hsz
  have hD := hD0.self (sz := s.heap.size)
  generalize hAe : va_A (WX r ct i_tapeLength i_time i_lyingCount i_rd_fault i_rd_token i_rd_kind i_sc_count i_sc_at i_A_tunes i_A_houses i_fA_length i_B_tunes i_B_houses i_fB_length i_acts_done i_acts_undone i_kn_count f_boxes f_boxKept f_trial f_offers f_A_noteCounts f_A_notes f_B_noteCounts f_B_notes f_now_where f_now_worn f_ahead_where f_ahead_worn f_acts_rows f_kn_tunes f_kn_noteTimes J L) s.heap.size = A at hD ⊢
  have hA : ∀ q : Nat, s.heap.size ≤ q → A q := fun q h => by rw [← hAe]; exact Or.inr h
  have hS : va_S A s.heap s.heap [] := va_S.rf
  have hP : va_P (dC, dI) vwCl (WX r ct i_tapeLength i_time i_lyingCount i_rd_fault i_rd_token i_rd_kind i_sc_count i_sc_at i_A_tunes i_A_houses i_fA_length i_B_tunes i_B_houses i_fB_length i_acts_done i_acts_undone i_kn_count f_boxes f_boxKept f_trial f_offers f_A_noteCounts f_A_notes f_B_noteCounts f_B_notes f_now_where f_now_worn f_ahead_where f_ahead_worn f_acts_rows f_kn_tunes f_kn_noteTimes J L) s.heap := hP
  have hl := lv_entry ([.ref (r 0), .int p0]) (n := 4) (Nat.le_of_ble_eq_true rfl)
  rw [lg_entry_eq]
  generalize (lg_sl ([.ref (r 0), .int p0]) ++ List.replicate (4 - (lg_sl ([.ref (r 0), .int p0])).length) Slot.unset).toArray = ls at hl ⊢
  have hl : lv_has ls 4 [(0, .ref (r 0)), (1, .int p0)] := hl
  refine nameQ (fun Q hQ => ?_)
  obtain ⟨ie0, ie1, ie2, ie3, ie4, ie5, ie6, ie7, ie8, ie9, ie10, ie11, ie12, ie13, ie14, ie15, ie16, ie17, ie18, ie19, ie20, ie21, ie22, ie23, ie24, ie25, ie26, ie27, ie28, ie29, ie30, ie31, ie32, ie33, ie34, ie35, ie36, ie37, ie38, ie39⟩ := id hI
  refine lv_iload_n hx hb dX8_swap_0 rfl (lv_at hl 1 rfl) ?_
  refine lv_if_lt (tgt := 9) hx hb dX8_swap_1 (by decide) (fun c_1 => ?_) (fun c_1 => ?_)
  · skip
    have f2 : p0.toInt < 0 := qi_lt c_1 rfl zc_0
    refine lv_iconst (v := (-1)) hx hb dX8_swap_9 (by decide) ?_
    rw [hQ]
    exact W.iret (v := (-1)) hx hb hr (fun t ht hW => ⟨⟨(-1), (-1), rfl, rfl, ⟨J, by rw [ht]; exact hP, hD, hI⟩⟩, hS.F ht⟩) hS.2.2 dX8_swap_10
  · skip
    have f3 : 0 ≤ p0.toInt := qi_nlt c_1 rfl zc_0
    refine lv_iload_n hx hb dX8_swap_4 rfl (lv_at hl 1 rfl) ?_
    refine lv_iconst (v := 1) hx hb dX8_swap_5 (by decide) ?_
    refine lv_icmp_le (tgt := 11) hx hb dX8_swap_6 (by decide) (fun c_4 => ?_) (fun c_4 => ?_)
    · skip
      have f5 : p0.toInt ≤ 1 := qi_le c_4 rfl zc_1
      refine lv_iconst (v := 0) hx hb dX8_swap_11 (by decide) ?_
      refine lv_istore_n (lv' := [(2, .int 0), (0, .ref (r 0)), (1, .int p0)]) hx hb dX8_swap_12 rfl hl (by decide) rfl (fun ls hl => ?_)
      have L13 : ∀ (N13 : Nat) (y13_2 : Int32) (m13_J : Nat → Nat → Int32) (H13 : Heap) (locs : List Loc) (ls : Array Slot) (g13_0 : (0 : Int) ≤ y13_2.toInt) (g13_1 : y13_2.toInt ≤ (4 : Int)) (hP : va_P (dC, dI) vwCl (WX r ct i_tapeLength i_time i_lyingCount i_rd_fault i_rd_token i_rd_kind i_sc_count i_sc_at i_A_tunes i_A_houses i_fA_length i_B_tunes i_B_houses i_fB_length i_acts_done i_acts_undone i_kn_count f_boxes f_boxKept f_trial f_offers f_A_noteCounts f_A_notes f_B_noteCounts f_B_notes f_now_where f_now_worn f_ahead_where f_ahead_worn f_acts_rows f_kn_tunes f_kn_noteTimes m13_J L) H13) (hD : va_D A (WX r ct i_tapeLength i_time i_lyingCount i_rd_fault i_rd_token i_rd_kind i_sc_count i_sc_at i_A_tunes i_A_houses i_fA_length i_B_tunes i_B_houses i_fB_length i_acts_done i_acts_undone i_kn_count f_boxes f_boxKept f_trial f_offers f_A_noteCounts f_A_notes f_B_noteCounts f_B_notes f_now_where f_now_worn f_ahead_where f_ahead_worn f_acts_rows f_kn_tunes f_kn_noteTimes m13_J L)) (hS : va_S A s.heap H13 locs) (hl : lv_has ls 4 [(0, .ref (r 0)), (1, .int p0), (2, .int y13_2)]) (hM : -1 * y13_2.toInt + 4 < (N13 : Int)), W p l e { frames := 14, cells := 0, slots := 0, locals := 492 } s m ([.ref (r 0), .int p0] : List Value).toArray below meth c0 H13 locs 0 0 Q (F0 m 13 ls []) := by
        intro N13
        induction N13 with
        | zero =>
          intro y13_2 m13_J H13 locs ls g13_0 g13_1 hP hD hS hl hM
          exact ((ox_218 hM g13_0 g13_1)).elim
        | succ N13 ih13 =>
          intro y13_2 m13_J H13 locs ls g13_0 g13_1 hP hD hS hl hM
          have hM13 := msucc hM
          refine lv_iload_n hx hb dX8_swap_13 rfl (lv_at hl 2 rfl) ?_
          refine lv_aload_n hx hb dX8_swap_14 rfl (lv_at hl 0 rfl) ?_
          refine gX_X8_23_0 hx hb hG hown hK hP dX8_swap_15 ?_
          refine gX_X8_99_3 hx hb hG hown hK hP dX8_swap_18 ?_
          refine lv_icmp_ge (tgt := 70) hx hb dX8_swap_21 (by decide) (fun c_6 => ?_) (fun c_6 => ?_)
          · skip
            have f7 : i_A_houses.toInt ≤ y13_2.toInt := qi_le c_6 rfl rfl
            refine lv_iconst (v := (-1)) hx hb dX8_swap_70 (by decide) ?_
            rw [hQ]
            exact W.iret (v := (-1)) hx hb hr (fun t ht hW => ⟨⟨(-1), (-1), rfl, rfl, ⟨m13_J, by rw [ht]; exact hP, hD, hI⟩⟩, hS.F ht⟩) hS.2.2 dX8_swap_71
          · skip
            have f8 : y13_2.toInt < i_A_houses.toInt := qi_nle c_6 rfl rfl
            refine lv_iload_n hx hb dX8_swap_24 rfl (lv_at hl 2 rfl) ?_
            refine lv_iconst (v := 1) hx hb dX8_swap_25 (by decide) ?_
            refine lv_iadd hx hb dX8_swap_26 ?_
            refine lv_topi (fun x9 ex9 => ?_)
            have f10 : x9.toInt = y13_2.toInt + 1 := (ox_13 (qi_add ex9 rfl zc_1 (ox_11 g13_0) (ox_219 g13_1)))
            refine lv_istore_n (lv' := [(3, .int x9), (0, .ref (r 0)), (1, .int p0), (2, .int y13_2)]) hx hb dX8_swap_27 rfl hl (by decide) rfl (fun ls hl => ?_)
            have L28 : ∀ (N28 : Nat) (y28_3 : Int32) (m28_J : Nat → Nat → Int32) (H28 : Heap) (locs : List Loc) (ls : Array Slot) (g28_0 : (1 : Int) ≤ y28_3.toInt) (g28_1 : y28_3.toInt ≤ (4 : Int)) (hP : va_P (dC, dI) vwCl (WX r ct i_tapeLength i_time i_lyingCount i_rd_fault i_rd_token i_rd_kind i_sc_count i_sc_at i_A_tunes i_A_houses i_fA_length i_B_tunes i_B_houses i_fB_length i_acts_done i_acts_undone i_kn_count f_boxes f_boxKept f_trial f_offers f_A_noteCounts f_A_notes f_B_noteCounts f_B_notes f_now_where f_now_worn f_ahead_where f_ahead_worn f_acts_rows f_kn_tunes f_kn_noteTimes m28_J L) H28) (hD : va_D A (WX r ct i_tapeLength i_time i_lyingCount i_rd_fault i_rd_token i_rd_kind i_sc_count i_sc_at i_A_tunes i_A_houses i_fA_length i_B_tunes i_B_houses i_fB_length i_acts_done i_acts_undone i_kn_count f_boxes f_boxKept f_trial f_offers f_A_noteCounts f_A_notes f_B_noteCounts f_B_notes f_now_where f_now_worn f_ahead_where f_ahead_worn f_acts_rows f_kn_tunes f_kn_noteTimes m28_J L)) (hS : va_S A s.heap H28 locs) (hl : lv_has ls 4 [(0, .ref (r 0)), (1, .int p0), (2, .int y13_2), (3, .int y28_3)]) (hM : -1 * y28_3.toInt + 4 < (N28 : Int)), W p l e { frames := 14, cells := 0, slots := 0, locals := 492 } s m ([.ref (r 0), .int p0] : List Value).toArray below meth c0 H28 locs 0 0 Q (F0 m 28 ls []) := by
              intro N28
              induction N28 with
              | zero =>
                intro y28_3 m28_J H28 locs ls g28_0 g28_1 hP hD hS hl hM
                exact ((ox_476 hM g28_0 g28_1)).elim
              | succ N28 ih28 =>
                intro y28_3 m28_J H28 locs ls g28_0 g28_1 hP hD hS hl hM
                have hM28 := msucc hM
                refine lv_iload_n hx hb dX8_swap_28 rfl (lv_at hl 3 rfl) ?_
                refine lv_aload_n hx hb dX8_swap_29 rfl (lv_at hl 0 rfl) ?_
                refine gX_X8_23_0 hx hb hG hown hK hP dX8_swap_30 ?_
                refine gX_X8_99_3 hx hb hG hown hK hP dX8_swap_33 ?_
                refine lv_icmp_ge (tgt := 64) hx hb dX8_swap_36 (by decide) (fun c_11 => ?_) (fun c_11 => ?_)
                · skip
                  have f12 : i_A_houses.toInt ≤ y28_3.toInt := qi_le c_11 rfl rfl
                  obtain ⟨x13, ex13⟩ : ∃ y : Int32, y = y13_2 + Int32.ofInt 1 := ⟨_, rfl⟩
                  have f14 : x13.toInt = y13_2.toInt + 1 := (ox_13 (qi_add ex13 rfl (by decide) (ox_11 g13_0) (ox_219 g13_1)))
                  refine lv_iinc (v := x13) (lv' := [(2, .int x13), (0, .ref (r 0)), (1, .int p0), (3, .int y28_3)]) hx hb dX8_swap_64 hl (k := 2) rfl ex13.symm (by decide) rfl (fun ls hl => ?_)
                  refine lv_goto (tgt := 13) hx hb dX8_swap_67 (by decide) ?_
                  exact ih13 x13 m28_J H28 _ _ (ox_14 g13_0 f14) (ox_220 ie15 f8 f14) hP hD hS (lv_sub hl [1, 2, 0] rfl) (ox_221 hM13 f14)
                · skip
                  have f15 : y28_3.toInt < i_A_houses.toInt := qi_nle c_11 rfl rfl
                  refine lv_aload_n hx hb dX8_swap_39 rfl (lv_at hl 0 rfl) ?_
                  refine lv_iload_n hx hb dX8_swap_40 rfl (lv_at hl 2 rfl) ?_
                  refine lv_iload_n hx hb dX8_swap_41 rfl (lv_at hl 3 rfl) ?_
                  have hFc := frA hD hS hA
                  refine va_calli (va_runV (As := [.int y13_2, .int y28_3]) (rest := []) ⟨hx, hb, hml, hown, hG⟩ (kX8_bothGladder l dC dI r ct i_tapeLength i_time i_lyingCount i_rd_fault i_rd_token i_rd_kind i_sc_count i_sc_at i_A_tunes i_A_houses i_fA_length i_B_tunes i_B_houses i_fB_length i_acts_done i_acts_undone i_kn_count f_boxes f_boxKept f_trial f_offers f_A_noteCounts f_A_notes f_B_noteCounts f_B_notes f_now_where f_now_worn f_ahead_where f_ahead_worn f_acts_rows f_kn_tunes f_kn_noteTimes m28_J L y13_2 y28_3 H28.size hI (ox_6 g13_0) (ox_223 f8) (ox_477 g28_0) (ox_223 f15) hp0) (cwV 2 hG (goodV gw965 gw967 gw42 gw129 gw968) rfl rfl rfl hd_X8_bothGladder ⟨(Nat.le_of_ble_eq_true rfl), (Nat.le_of_ble_eq_true rfl)⟩) ⟨fbW, va_recv hK hP (ci := 7) (q0 := 0) rfl rfl, pW_in hP hK hD⟩ rfl rfl hl.1 rfl (lv_room (Nat.le_of_ble_eq_true rfl)) dX8_swap_42 ⟨(Nat.le_of_ble_eq_true rfl), (Nat.le_of_ble_eq_true rfl)⟩) hS (fun q _ h => hFc q h) hFc (fun r_17 u_ t_ H16 locs ht hvm hw hB hz1 hk1 hS => ?_)
                  subst hw
                  obtain ⟨J18, hP1, hD1, hI22, f19, f20, f21⟩ := hB
                  rw [ht] at hP1
                  have hP := hP1
                  have hD := dW hFc hD1
                  obtain ⟨im23, im24, im25, im26, im27, im28, im29, im30, im31, im32, im33, im34, im35, im36, im37, im38, im39, im40, im41, im42, im43, im44, im45, im46, im47, im48, im49, im50, im51, im52, im53, im54, im55, im56, im57, im58, im59, im60, im61, im62⟩ := id hI22
                  refine lv_if_eq (tgt := 58) hx hb dX8_swap_45 (by decide) (fun c_63 => ?_) (fun c_63 => ?_)
                  · skip
                    have f64 : r_17.toInt = 0 := qi_eq c_63 rfl zc_0
                    have f65 : r_17.toInt = (0 : Int) := (ox_92 f20 f21 f64)
                    obtain ⟨x66, ex66⟩ : ∃ y : Int32, y = y28_3 + Int32.ofInt 1 := ⟨_, rfl⟩
                    have f67 : x66.toInt = y28_3.toInt + 1 := (ox_13 (qi_add ex66 rfl (by decide) (ox_478 g28_0) (ox_219 g28_1)))
                    refine lv_iinc (v := x66) (lv' := [(3, .int x66), (0, .ref (r 0)), (1, .int p0), (2, .int y13_2)]) hx hb dX8_swap_58 hl (k := 3) rfl ex66.symm (by decide) rfl (fun ls hl => ?_)
                    refine lv_goto (tgt := 28) hx hb dX8_swap_61 (by decide) ?_
                    exact ih28 x66 J18 H16 _ _ (ox_481 g28_0 f67) (ox_220 ie15 f15 f67) hP hD hS (lv_sub hl [1, 2, 3, 0] rfl) (ox_221 hM28 f67)
                  · skip
                    have f68 : r_17.toInt ≠ 0 := qi_ne c_63 rfl zc_0
                    have f69 : r_17.toInt = (1 : Int) := (ox_91 f19 f68)
                    have f70 : (1 : Int) ≤ r_17.toInt := (ox_53 f20 f21 f69)
                    refine lv_iload_n hx hb dX8_swap_48 rfl (lv_at hl 1 rfl) ?_
                    refine lv_if_ne (tgt := 56) hx hb dX8_swap_49 (by decide) (fun c_71 => ?_) (fun c_71 => ?_)
                    · skip
                      have f72 : p0.toInt ≠ 0 := qi_ne c_71 rfl zc_0
                      have f73 : (1 : Int) ≤ p0.toInt := (ox_382 f3 f5 f72)
                      refine lv_iload_n hx hb dX8_swap_56 rfl (lv_at hl 3 rfl) ?_
                      rw [hQ]
                      exact W.iret (v := y28_3) hx hb hr (fun t ht hW => ⟨⟨y28_3, y28_3, rfl, rfl, ⟨J18, by rw [ht]; exact hP, hD, hI22⟩⟩, hS.F ht⟩) hS.2.2 dX8_swap_57
                    · skip
                      have f74 : p0.toInt = 0 := qi_eq c_71 rfl zc_0
                      refine lv_iload_n hx hb dX8_swap_52 rfl (lv_at hl 2 rfl) ?_
                      refine lv_goto (tgt := 57) hx hb dX8_swap_53 (by decide) ?_
                      rw [hQ]
                      exact W.iret (v := y13_2) hx hb hr (fun t ht hW => ⟨⟨y13_2, y13_2, rfl, rfl, ⟨J18, by rw [ht]; exact hP, hD, hI22⟩⟩, hS.F ht⟩) hS.2.2 dX8_swap_57
            exact L28 (-1 * x9.toInt + 4 + 1).toNat x9 m13_J H13 _ _ (ox_506 g13_0 f10) (ox_220 ie15 f8 f10) hP hD hS (lv_sub hl [1, 2, 3, 0] rfl) (mlt (ox_507 ie15 f8 f10))
      exact L13 (-1 * (0 : Int32).toInt + 4 + 1).toNat 0 J s.heap _ _ (ox_27 zc_0) (ox_224 zc_0) hP hD hS (lv_sub hl [1, 2, 0] rfl) (mlt (ox_225 zc_0))
    · skip
      have f75 : 1 < p0.toInt := qi_nle c_4 rfl zc_1
      refine lv_iconst (v := (-1)) hx hb dX8_swap_9 (by decide) ?_
      rw [hQ]
      exact W.iret (v := (-1)) hx hb hr (fun t ht hW => ⟨⟨(-1), (-1), rfl, rfl, ⟨J, by rw [ht]; exact hP, hD, hI⟩⟩, hS.F ht⟩) hS.2.2 dX8_swap_10
set_option maxHeartbeats 4000000 in
set_option maxRecDepth 100000 in
theorem kX8_idle (l : Launch) (dC : Nat → ClassId) (dI : Nat → Nat → Nat) (r : Nat → Nat) (ct : Nat → ClassId) (i_tapeLength i_time i_lyingCount i_rd_fault i_rd_token i_rd_kind i_sc_count i_sc_at i_A_tunes i_A_houses i_fA_length i_B_tunes i_B_houses i_fB_length i_acts_done i_acts_undone i_kn_count : Int32) (f_boxes f_boxKept f_trial f_offers f_A_noteCounts f_A_notes f_B_noteCounts f_B_notes f_now_where f_now_worn f_ahead_where f_ahead_worn f_acts_rows f_kn_tunes f_kn_noteTimes : Nat → Int32) (J : Nat → Nat → Int32) (L : Nat → Nat → Int64) (sz : Nat) (hI : (IX i_tapeLength i_time i_lyingCount i_rd_token i_sc_count i_sc_at i_A_tunes i_A_houses i_fA_length i_B_tunes i_B_houses i_fB_length i_acts_done i_acts_undone i_kn_count f_boxes f_A_noteCounts f_A_notes f_B_noteCounts f_B_notes f_now_worn f_ahead_worn f_acts_rows f_kn_tunes)) (hp0 : WB i_A_tunes f_now_where) : Met l yX8_idle (.code yX8_idle cX8_idle 3 (some .int) :: GW) { frames := 6, cells := 0, slots := 0, locals := 223 } (va_Pc [.ref (r 0)] (pR (dC, dI) (WX r ct i_tapeLength i_time i_lyingCount i_rd_fault i_rd_token i_rd_kind i_sc_count i_sc_at i_A_tunes i_A_houses i_fA_length i_B_tunes i_B_houses i_fB_length i_acts_done i_acts_undone i_kn_count f_boxes f_boxKept f_trial f_offers f_A_noteCounts f_A_notes f_B_noteCounts f_B_notes f_now_where f_now_worn f_ahead_where f_ahead_worn f_acts_rows f_kn_tunes f_kn_noteTimes J L) (TX ct) sz)) (va_Qi (fun (r0 : Int32) (u : Int32) => r0 = u) (fun (u : Int32) (t : State) => True) (fun q => sz ≤ q)) 0 0 (fun q => sz ≤ q) := by
  refine Met.ofW (cc := cX8_idle) (maxL := 3) (ret := (some .int)) (by decide) rfl ?_
  intro p e s m args below meth c0 s₁ B hml hv
  obtain ⟨rfl, hsz, hP, hK⟩ := hv
  have hx := B.exec
  have hb := B.bytes
  have hr := B.returns
  have hts := atoms_spec (ws := .code yX8_idle cX8_idle 3 (some .int) :: GW) B.pre
  have hG : ∀ w ∈ GW, w.before _ s = true := fun w h => hts w (List.mem_cons_of_mem _ h)
  have hown : s.vm.findClass RX8 = some m.cls := findClass_of_methodNamed B.named
  subst hsz
  have hS : va_S (fun q => s.heap.size ≤ q) s.heap s.heap [] := va_S.rf
  have hP : va_P (dC, dI) vwCl (WX r ct i_tapeLength i_time i_lyingCount i_rd_fault i_rd_token i_rd_kind i_sc_count i_sc_at i_A_tunes i_A_houses i_fA_length i_B_tunes i_B_houses i_fB_length i_acts_done i_acts_undone i_kn_count f_boxes f_boxKept f_trial f_offers f_A_noteCounts f_A_notes f_B_noteCounts f_B_notes f_now_where f_now_worn f_ahead_where f_ahead_worn f_acts_rows f_kn_tunes f_kn_noteTimes J L) s.heap := hP
  have hl := lv_entry ([.ref (r 0)]) (n := 3) (Nat.le_of_ble_eq_true rfl)
  rw [lg_entry_eq]
  generalize (lg_sl ([.ref (r 0)]) ++ List.replicate (3 - (lg_sl ([.ref (r 0)])).length) Slot.unset).toArray = ls at hl ⊢
  have hl : lv_has ls 3 [(0, .ref (r 0))] := hl
  refine nameQ (fun Q hQ => ?_)
  obtain ⟨ie0, ie1, ie2, ie3, ie4, ie5, ie6, ie7, ie8, ie9, ie10, ie11, ie12, ie13, ie14, ie15, ie16, ie17, ie18, ie19, ie20, ie21, ie22, ie23, ie24, ie25, ie26, ie27, ie28, ie29, ie30, ie31, ie32, ie33, ie34, ie35, ie36, ie37, ie38, ie39⟩ := id hI
  refine lv_iconst (v := 0) hx hb dX8_idle_0 (by decide) ?_
  refine lv_istore_n (lv' := [(1, .int 0), (0, .ref (r 0))]) hx hb dX8_idle_1 rfl hl (by decide) rfl (fun ls hl => ?_)
  refine lv_iconst (v := 0) hx hb dX8_idle_2 (by decide) ?_
  refine lv_istore_n (lv' := [(2, .int 0), (1, .int 0), (0, .ref (r 0))]) hx hb dX8_idle_3 rfl hl (by decide) rfl (fun ls hl => ?_)
  have L4 : ∀ (N4 : Nat) (y4_1 y4_2 : Int32) (H4 : Heap) (locs : List Loc) (ls : Array Slot) (g4_0 : (0 : Int) ≤ y4_2.toInt) (g4_1 : y4_2.toInt ≤ (4 : Int)) (hP : va_P (dC, dI) vwCl (WX r ct i_tapeLength i_time i_lyingCount i_rd_fault i_rd_token i_rd_kind i_sc_count i_sc_at i_A_tunes i_A_houses i_fA_length i_B_tunes i_B_houses i_fB_length i_acts_done i_acts_undone i_kn_count f_boxes f_boxKept f_trial f_offers f_A_noteCounts f_A_notes f_B_noteCounts f_B_notes f_now_where f_now_worn f_ahead_where f_ahead_worn f_acts_rows f_kn_tunes f_kn_noteTimes J L) H4) (hS : va_S (fun q => s.heap.size ≤ q) s.heap H4 locs) (hl : lv_has ls 3 [(0, .ref (r 0)), (1, .int y4_1), (2, .int y4_2)]) (hM : -1 * y4_2.toInt + 4 < (N4 : Int)), W p l e { frames := 6, cells := 0, slots := 0, locals := 223 } s m ([.ref (r 0)] : List Value).toArray below meth c0 H4 locs 0 0 Q (F0 m 4 ls []) := by
    intro N4
    induction N4 with
    | zero =>
      intro y4_1 y4_2 H4 locs ls g4_0 g4_1 hP hS hl hM
      exact ((ox_218 hM g4_0 g4_1)).elim
    | succ N4 ih4 =>
      intro y4_1 y4_2 H4 locs ls g4_0 g4_1 hP hS hl hM
      have hM4 := msucc hM
      refine lv_iload_n hx hb dX8_idle_4 rfl (lv_at hl 2 rfl) ?_
      refine lv_aload_n hx hb dX8_idle_5 rfl (lv_at hl 0 rfl) ?_
      refine gX_X8_23_0 hx hb hG hown hK hP dX8_idle_6 ?_
      refine gX_X8_99_3 hx hb hG hown hK hP dX8_idle_9 ?_
      refine lv_icmp_ge (tgt := 39) hx hb dX8_idle_12 (by decide) (fun c_1 => ?_) (fun c_1 => ?_)
      · skip
        have f2 : i_A_houses.toInt ≤ y4_2.toInt := qi_le c_1 rfl rfl
        refine lv_iload_n hx hb dX8_idle_39 rfl (lv_at hl 1 rfl) ?_
        rw [hQ]
        exact W.iret (v := y4_1) hx hb hr (fun t ht hW => ⟨⟨y4_1, y4_1, rfl, rfl, trivial⟩, hS.F ht⟩) hS.2.2 dX8_idle_40
      · skip
        have f3 : y4_2.toInt < i_A_houses.toInt := qi_nle c_1 rfl rfl
        refine lv_aload_n hx hb dX8_idle_15 rfl (lv_at hl 0 rfl) ?_
        refine gX_X8_30_0 hx hb hG hown hK hP dX8_idle_16 ?_
        refine lv_iload_n hx hb dX8_idle_19 rfl (lv_at hl 2 rfl) ?_
        refine va_calli (va_runV (As := [.int y4_2]) (rest := []) ⟨hx, hb, hml, hown, hG⟩ (kX7_onApprovalIn l dC dI r ct i_tapeLength i_time i_lyingCount i_rd_fault i_rd_token i_rd_kind i_sc_count i_sc_at i_A_tunes i_A_houses i_fA_length i_B_tunes i_B_houses i_fB_length i_acts_done i_acts_undone i_kn_count f_boxes f_boxKept f_trial f_offers f_A_noteCounts f_A_notes f_B_noteCounts f_B_notes f_now_where f_now_worn f_ahead_where f_ahead_worn f_acts_rows f_kn_tunes f_kn_noteTimes J L y4_2 H4.size hI (ox_6 g4_0) hp0) (cwV 1 hG (goodV gw720 gw721 gw722 gw134 gw723) rfl rfl rfl hd_X7_onApprovalIn ⟨(Nat.le_of_ble_eq_true rfl), (Nat.le_of_ble_eq_true rfl)⟩) ⟨fbR, va_recv hK hP (ci := 6) (q0 := 7) rfl rfl, pR_in hP hK⟩ rfl rfl hl.1 rfl (lv_room (Nat.le_of_ble_eq_true rfl)) dX8_idle_20 ⟨(Nat.le_of_ble_eq_true rfl), (Nat.le_of_ble_eq_true rfl)⟩) hS (fun q hq h => absurd hq (Nat.not_lt.mpr h)) (fun q h => Nat.le_trans hS.1 h) (fun r_5 u_ t_ H4 locs ht hvm hw hB hz1 hk1 hS => ?_)
        subst hw
        have hP := wk hP hk1
        obtain ⟨f6, f7, f8⟩ := hB
        refine lv_iconst (v := (-1)) hx hb dX8_idle_23 (by decide) ?_
        refine lv_icmp_ne (tgt := 33) hx hb dX8_idle_24 (by decide) (fun c_9 => ?_) (fun c_9 => ?_)
        · skip
          have f10 : r_5.toInt ≠ (-1) := qi_ne c_9 rfl zc_m1
          have f11 : (0 : Int) ≤ r_5.toInt := (ox_222 f6 f10)
          obtain ⟨x12, ex12⟩ : ∃ y : Int32, y = y4_2 + Int32.ofInt 1 := ⟨_, rfl⟩
          have f13 : x12.toInt = y4_2.toInt + 1 := (ox_13 (qi_add ex12 rfl (by decide) (ox_11 g4_0) (ox_219 g4_1)))
          refine lv_iinc (v := x12) (lv' := [(2, .int x12), (0, .ref (r 0)), (1, .int y4_1)]) hx hb dX8_idle_33 hl (k := 2) rfl ex12.symm (by decide) rfl (fun ls hl => ?_)
          refine lv_goto (tgt := 4) hx hb dX8_idle_36 (by decide) ?_
          exact ih4 y4_1 x12 H4 _ _ (ox_14 g4_0 f13) (ox_220 ie15 f3 f13) hP hS (lv_sub hl [1, 2, 0] rfl) (ox_221 hM4 f13)
        · skip
          have f14 : r_5.toInt = (-1) := qi_eq c_9 rfl zc_m1
          refine lv_iload_n hx hb dX8_idle_27 rfl (lv_at hl 1 rfl) ?_
          refine lv_iconst (v := 1) hx hb dX8_idle_28 (by decide) ?_
          refine lv_iload_n hx hb dX8_idle_29 rfl (lv_at hl 2 rfl) ?_
          refine lv_ishl hx hb dX8_idle_30 ?_
          refine lv_topi (fun x15 ex15 => ?_)
          refine lv_ior hx hb dX8_idle_31 ?_
          refine lv_topi (fun x16 ex16 => ?_)
          refine lv_istore_n (lv' := [(1, .int x16), (0, .ref (r 0)), (2, .int y4_2)]) hx hb dX8_idle_32 rfl hl (by decide) rfl (fun ls hl => ?_)
          obtain ⟨x17, ex17⟩ : ∃ y : Int32, y = y4_2 + Int32.ofInt 1 := ⟨_, rfl⟩
          have f18 : x17.toInt = y4_2.toInt + 1 := (ox_13 (qi_add ex17 rfl (by decide) (ox_11 g4_0) (ox_219 g4_1)))
          refine lv_iinc (v := x17) (lv' := [(2, .int x17), (1, .int x16), (0, .ref (r 0))]) hx hb dX8_idle_33 hl (k := 2) rfl ex17.symm (by decide) rfl (fun ls hl => ?_)
          refine lv_goto (tgt := 4) hx hb dX8_idle_36 (by decide) ?_
          exact ih4 x16 x17 H4 _ _ (ox_14 g4_0 f18) (ox_220 ie15 f3 f18) hP hS (lv_sub hl [2, 1, 0] rfl) (ox_221 hM4 f18)
  exact L4 (-1 * (0 : Int32).toInt + 4 + 1).toNat 0 0 s.heap _ _ (ox_27 zc_0) (ox_224 zc_0) hP hS (lv_sub hl [2, 1, 0] rfl) (mlt (ox_225 zc_0))
set_option maxHeartbeats 4000000 in
set_option maxRecDepth 100000 in
theorem kX8_fashion (l : Launch) (dC : Nat → ClassId) (dI : Nat → Nat → Nat) (r : Nat → Nat) (ct : Nat → ClassId) (i_tapeLength i_time i_lyingCount i_rd_fault i_rd_token i_rd_kind i_sc_count i_sc_at i_A_tunes i_A_houses i_fA_length i_B_tunes i_B_houses i_fB_length i_acts_done i_acts_undone i_kn_count : Int32) (f_boxes f_boxKept f_trial f_offers f_A_noteCounts f_A_notes f_B_noteCounts f_B_notes f_now_where f_now_worn f_ahead_where f_ahead_worn f_acts_rows f_kn_tunes f_kn_noteTimes : Nat → Int32) (J : Nat → Nat → Int32) (L : Nat → Nat → Int64) (sz : Nat) (hI : (IX i_tapeLength i_time i_lyingCount i_rd_token i_sc_count i_sc_at i_A_tunes i_A_houses i_fA_length i_B_tunes i_B_houses i_fB_length i_acts_done i_acts_undone i_kn_count f_boxes f_A_noteCounts f_A_notes f_B_noteCounts f_B_notes f_now_worn f_ahead_worn f_acts_rows f_kn_tunes)) : Met l yX8_fashion (.code yX8_fashion cX8_fashion 6 (some .int) :: GW) { frames := 4, cells := 0, slots := 0, locals := 163 } (va_Pc [.ref (r 0)] (pR (dC, dI) (WX r ct i_tapeLength i_time i_lyingCount i_rd_fault i_rd_token i_rd_kind i_sc_count i_sc_at i_A_tunes i_A_houses i_fA_length i_B_tunes i_B_houses i_fB_length i_acts_done i_acts_undone i_kn_count f_boxes f_boxKept f_trial f_offers f_A_noteCounts f_A_notes f_B_noteCounts f_B_notes f_now_where f_now_worn f_ahead_where f_ahead_worn f_acts_rows f_kn_tunes f_kn_noteTimes J L) (TX ct) sz)) (va_Qi (fun (r0 : Int32) (u : Int32) => r0 = u) (fun (u : Int32) (t : State) => True) (fun q => sz ≤ q)) 0 0 (fun q => sz ≤ q) := by
  refine Met.ofW (cc := cX8_fashion) (maxL := 6) (ret := (some .int)) (by decide) rfl ?_
  intro p e s m args below meth c0 s₁ B hml hv
  obtain ⟨rfl, hsz, hP, hK⟩ := hv
  have hx := B.exec
  have hb := B.bytes
  have hr := B.returns
  have hts := atoms_spec (ws := .code yX8_fashion cX8_fashion 6 (some .int) :: GW) B.pre
  have hG : ∀ w ∈ GW, w.before _ s = true := fun w h => hts w (List.mem_cons_of_mem _ h)
  have hown : s.vm.findClass RX8 = some m.cls := findClass_of_methodNamed B.named
  subst hsz
  have hS : va_S (fun q => s.heap.size ≤ q) s.heap s.heap [] := va_S.rf
  have hP : va_P (dC, dI) vwCl (WX r ct i_tapeLength i_time i_lyingCount i_rd_fault i_rd_token i_rd_kind i_sc_count i_sc_at i_A_tunes i_A_houses i_fA_length i_B_tunes i_B_houses i_fB_length i_acts_done i_acts_undone i_kn_count f_boxes f_boxKept f_trial f_offers f_A_noteCounts f_A_notes f_B_noteCounts f_B_notes f_now_where f_now_worn f_ahead_where f_ahead_worn f_acts_rows f_kn_tunes f_kn_noteTimes J L) s.heap := hP
  have hl := lv_entry ([.ref (r 0)]) (n := 6) (Nat.le_of_ble_eq_true rfl)
  rw [lg_entry_eq]
  generalize (lg_sl ([.ref (r 0)]) ++ List.replicate (6 - (lg_sl ([.ref (r 0)])).length) Slot.unset).toArray = ls at hl ⊢
  have hl : lv_has ls 6 [(0, .ref (r 0))] := hl
  refine nameQ (fun Q hQ => ?_)
  obtain ⟨ie0, ie1, ie2, ie3, ie4, ie5, ie6, ie7, ie8, ie9, ie10, ie11, ie12, ie13, ie14, ie15, ie16, ie17, ie18, ie19, ie20, ie21, ie22, ie23, ie24, ie25, ie26, ie27, ie28, ie29, ie30, ie31, ie32, ie33, ie34, ie35, ie36, ie37, ie38, ie39⟩ := id hI
  refine lv_iconst (v := (-1)) hx hb dX8_fashion_0 (by decide) ?_
  refine lv_istore_n (lv' := [(1, .int (-1)), (0, .ref (r 0))]) hx hb dX8_fashion_1 rfl hl (by decide) rfl (fun ls hl => ?_)
  refine lv_iconst (v := 0) hx hb dX8_fashion_2 (by decide) ?_
  refine lv_istore_n (lv' := [(2, .int 0), (1, .int (-1)), (0, .ref (r 0))]) hx hb dX8_fashion_3 rfl hl (by decide) rfl (fun ls hl => ?_)
  refine lv_iconst (v := 0) hx hb dX8_fashion_4 (by decide) ?_
  refine lv_istore_n (lv' := [(3, .int 0), (2, .int 0), (1, .int (-1)), (0, .ref (r 0))]) hx hb dX8_fashion_5 rfl hl (by decide) rfl (fun ls hl => ?_)
  have L6 : ∀ (N6 : Nat) (y6_1 y6_2 y6_3 : Int32) (H6 : Heap) (locs : List Loc) (ls : Array Slot) (g6_0 : (0 : Int) ≤ y6_1.toInt + 1) (g6_1 : y6_1.toInt ≤ (1048576 : Int)) (g6_2 : (0 : Int) ≤ y6_2.toInt) (g6_3 : (0 : Int) ≤ y6_3.toInt) (g6_4 : y6_3.toInt ≤ (7 : Int)) (hP : va_P (dC, dI) vwCl (WX r ct i_tapeLength i_time i_lyingCount i_rd_fault i_rd_token i_rd_kind i_sc_count i_sc_at i_A_tunes i_A_houses i_fA_length i_B_tunes i_B_houses i_fB_length i_acts_done i_acts_undone i_kn_count f_boxes f_boxKept f_trial f_offers f_A_noteCounts f_A_notes f_B_noteCounts f_B_notes f_now_where f_now_worn f_ahead_where f_ahead_worn f_acts_rows f_kn_tunes f_kn_noteTimes J L) H6) (hS : va_S (fun q => s.heap.size ≤ q) s.heap H6 locs) (hl : lv_has ls 6 [(0, .ref (r 0)), (1, .int y6_1), (2, .int y6_2), (3, .int y6_3)]) (hM : -1 * y6_3.toInt + 7 < (N6 : Int)), W p l e { frames := 4, cells := 0, slots := 0, locals := 163 } s m ([.ref (r 0)] : List Value).toArray below meth c0 H6 locs 0 0 Q (F0 m 6 ls []) := by
    intro N6
    induction N6 with
    | zero =>
      intro y6_1 y6_2 y6_3 H6 locs ls g6_0 g6_1 g6_2 g6_3 g6_4 hP hS hl hM
      exact ((ox_508 hM g6_3 g6_4)).elim
    | succ N6 ih6 =>
      intro y6_1 y6_2 y6_3 H6 locs ls g6_0 g6_1 g6_2 g6_3 g6_4 hP hS hl hM
      have hM6 := msucc hM
      refine lv_iload_n hx hb dX8_fashion_6 rfl (lv_at hl 3 rfl) ?_
      refine lv_bipush (v := 7) hx hb dX8_fashion_7 (by decide) ?_
      refine lv_icmp_ge (tgt := 69) hx hb dX8_fashion_9 (by decide) (fun c_1 => ?_) (fun c_1 => ?_)
      · skip
        have f2 : 7 ≤ y6_3.toInt := qi_le c_1 zc_7 rfl
        refine lv_iload_n hx hb dX8_fashion_69 rfl (lv_at hl 1 rfl) ?_
        rw [hQ]
        exact W.iret (v := y6_1) hx hb hr (fun t ht hW => ⟨⟨y6_1, y6_1, rfl, rfl, trivial⟩, hS.F ht⟩) hS.2.2 dX8_fashion_70
      · skip
        have f3 : y6_3.toInt < 7 := qi_nle c_1 zc_7 rfl
        refine lv_iconst (v := 0) hx hb dX8_fashion_12 (by decide) ?_
        refine lv_istore (lv' := [(4, .int 0), (0, .ref (r 0)), (1, .int y6_1), (2, .int y6_2), (3, .int y6_3)]) hx hb dX8_fashion_13 hl (by decide) rfl (fun ls hl => ?_)
        refine lv_iconst (v := 0) hx hb dX8_fashion_15 (by decide) ?_
        refine lv_istore (lv' := [(5, .int 0), (4, .int 0), (0, .ref (r 0)), (1, .int y6_1), (2, .int y6_2), (3, .int y6_3)]) hx hb dX8_fashion_16 hl (by decide) rfl (fun ls hl => ?_)
        have L18 : ∀ (N18 : Nat) (y18_4 y18_5 : Int32) (H18 : Heap) (locs : List Loc) (ls : Array Slot) (g18_0 : (0 : Int) ≤ y18_5.toInt) (g18_1 : y18_5.toInt ≤ (4 : Int)) (hP : va_P (dC, dI) vwCl (WX r ct i_tapeLength i_time i_lyingCount i_rd_fault i_rd_token i_rd_kind i_sc_count i_sc_at i_A_tunes i_A_houses i_fA_length i_B_tunes i_B_houses i_fB_length i_acts_done i_acts_undone i_kn_count f_boxes f_boxKept f_trial f_offers f_A_noteCounts f_A_notes f_B_noteCounts f_B_notes f_now_where f_now_worn f_ahead_where f_ahead_worn f_acts_rows f_kn_tunes f_kn_noteTimes J L) H18) (hS : va_S (fun q => s.heap.size ≤ q) s.heap H18 locs) (hl : lv_has ls 6 [(0, .ref (r 0)), (1, .int y6_1), (2, .int y6_2), (3, .int y6_3), (4, .int y18_4), (5, .int y18_5)]) (hM : -1 * y18_5.toInt + 4 < (N18 : Int)), W p l e { frames := 4, cells := 0, slots := 0, locals := 163 } s m ([.ref (r 0)] : List Value).toArray below meth c0 H18 locs 0 0 Q (F0 m 18 ls []) := by
          intro N18
          induction N18 with
          | zero =>
            intro y18_4 y18_5 H18 locs ls g18_0 g18_1 hP hS hl hM
            exact ((ox_218 hM g18_0 g18_1)).elim
          | succ N18 ih18 =>
            intro y18_4 y18_5 H18 locs ls g18_0 g18_1 hP hS hl hM
            have hM18 := msucc hM
            refine lv_iload hx hb dX8_fashion_18 (lv_at hl 5 rfl) ?_
            refine lv_aload_n hx hb dX8_fashion_20 rfl (lv_at hl 0 rfl) ?_
            refine gX_X8_23_0 hx hb hG hown hK hP dX8_fashion_21 ?_
            refine gX_X8_99_3 hx hb hG hown hK hP dX8_fashion_24 ?_
            refine lv_icmp_ge (tgt := 52) hx hb dX8_fashion_27 (by decide) (fun c_4 => ?_) (fun c_4 => ?_)
            · skip
              have f5 : i_A_houses.toInt ≤ y18_5.toInt := qi_le c_4 rfl rfl
              refine lv_iload hx hb dX8_fashion_52 (lv_at hl 4 rfl) ?_
              refine lv_iload_n hx hb dX8_fashion_54 rfl (lv_at hl 2 rfl) ?_
              refine lv_icmp_le (tgt := 63) hx hb dX8_fashion_55 (by decide) (fun c_6 => ?_) (fun c_6 => ?_)
              · skip
                have f7 : y18_4.toInt ≤ y6_2.toInt := qi_le c_6 rfl rfl
                obtain ⟨x8, ex8⟩ : ∃ y : Int32, y = y6_3 + Int32.ofInt 1 := ⟨_, rfl⟩
                have f9 : x8.toInt = y6_3.toInt + 1 := (ox_13 (qi_add ex8 rfl (by decide) (ox_11 g6_3) (ox_509 g6_4)))
                refine lv_iinc (v := x8) (lv' := [(3, .int x8), (0, .ref (r 0)), (1, .int y6_1), (2, .int y6_2), (4, .int y18_4), (5, .int y18_5)]) hx hb dX8_fashion_63 hl (k := 3) rfl ex8.symm (by decide) rfl (fun ls hl => ?_)
                refine lv_goto (tgt := 6) hx hb dX8_fashion_66 (by decide) ?_
                exact ih6 y6_1 y6_2 x8 H18 _ _ (ox_510 g6_0 g6_1) (ox_511 g6_0 g6_1) (ox_512 g6_2 f7) (ox_14 g6_3 f9) (ox_513 f3 f9) hP hS (lv_sub hl [1, 2, 3, 0] rfl) (ox_514 hM6 f9)
              · skip
                have f10 : y6_2.toInt < y18_4.toInt := qi_nle c_6 rfl rfl
                refine lv_iload hx hb dX8_fashion_58 (lv_at hl 4 rfl) ?_
                refine lv_istore_n (lv' := [(2, .int y18_4), (0, .ref (r 0)), (1, .int y6_1), (3, .int y6_3), (4, .int y18_4), (5, .int y18_5)]) hx hb dX8_fashion_60 rfl hl (by decide) rfl (fun ls hl => ?_)
                refine lv_iload_n hx hb dX8_fashion_61 rfl (lv_at hl 3 rfl) ?_
                refine lv_istore_n (lv' := [(1, .int y6_3), (2, .int y18_4), (0, .ref (r 0)), (3, .int y6_3), (4, .int y18_4), (5, .int y18_5)]) hx hb dX8_fashion_62 rfl hl (by decide) rfl (fun ls hl => ?_)
                obtain ⟨x11, ex11⟩ : ∃ y : Int32, y = y6_3 + Int32.ofInt 1 := ⟨_, rfl⟩
                have f12 : x11.toInt = y6_3.toInt + 1 := (ox_13 (qi_add ex11 rfl (by decide) (ox_11 g6_3) (ox_509 g6_4)))
                refine lv_iinc (v := x11) (lv' := [(3, .int x11), (1, .int y6_3), (2, .int y18_4), (0, .ref (r 0)), (4, .int y18_4), (5, .int y18_5)]) hx hb dX8_fashion_63 hl (k := 3) rfl ex11.symm (by decide) rfl (fun ls hl => ?_)
                refine lv_goto (tgt := 6) hx hb dX8_fashion_66 (by decide) ?_
                exact ih6 y6_3 y18_4 x11 H18 _ _ (ox_93 g6_3) (ox_515 g6_4) (ox_516 g6_2 f10) (ox_14 g6_3 f12) (ox_513 f3 f12) hP hS (lv_sub hl [3, 1, 2, 0] rfl) (ox_514 hM6 f12)
            · skip
              have f13 : y18_5.toInt < i_A_houses.toInt := qi_nle c_4 rfl rfl
              refine lv_aload_n hx hb dX8_fashion_30 rfl (lv_at hl 0 rfl) ?_
              refine gX_X8_23_0 hx hb hG hown hK hP dX8_fashion_31 ?_
              refine lv_iload hx hb dX8_fashion_34 (lv_at hl 5 rfl) ?_
              refine lv_iload_n hx hb dX8_fashion_36 rfl (lv_at hl 3 rfl) ?_
              refine va_calli (va_runV (As := [.int y18_5, .int y6_3]) (rest := []) ⟨hx, hb, hml, hown, hG⟩ (kX4_doesLike l dC dI r ct i_tapeLength i_time i_lyingCount i_rd_fault i_rd_token i_rd_kind i_sc_count i_sc_at i_A_tunes i_A_houses i_fA_length i_B_tunes i_B_houses i_fB_length i_acts_done i_acts_undone i_kn_count f_boxes f_boxKept f_trial f_offers f_A_noteCounts f_A_notes f_B_noteCounts f_B_notes f_now_where f_now_worn f_ahead_where f_ahead_worn f_acts_rows f_kn_tunes f_kn_noteTimes J L y18_5 y6_3 H18.size hI (ox_6 g18_0) (ox_444 ie15 f13)) (cwV 2 hG (goodV gw1029 gw755 gw756 gw132 gw757) rfl rfl rfl hd_X4_doesLike ⟨(Nat.le_of_ble_eq_true rfl), (Nat.le_of_ble_eq_true rfl)⟩) ⟨fbR, va_recv hK hP (ci := 3) (q0 := 3) rfl rfl, pR_in hP hK⟩ rfl rfl hl.1 rfl (lv_room (Nat.le_of_ble_eq_true rfl)) dX8_fashion_37 ⟨(Nat.le_of_ble_eq_true rfl), (Nat.le_of_ble_eq_true rfl)⟩) hS (fun q hq h => absurd hq (Nat.not_lt.mpr h)) (fun q h => Nat.le_trans hS.1 h) (fun r_15 u_ t_ H14 locs ht hvm hw hB hz1 hk1 hS => ?_)
              subst hw
              have hP := wk hP hk1
              obtain ⟨f16, f17, f18⟩ := hB
              refine lv_if_eq (tgt := 46) hx hb dX8_fashion_40 (by decide) (fun c_19 => ?_) (fun c_19 => ?_)
              · skip
                have f20 : r_15.toInt = 0 := qi_eq c_19 rfl zc_0
                have f21 : r_15.toInt = (0 : Int) := (ox_92 f17 f18 f20)
                obtain ⟨x22, ex22⟩ : ∃ y : Int32, y = y18_5 + Int32.ofInt 1 := ⟨_, rfl⟩
                have f23 : x22.toInt = y18_5.toInt + 1 := (ox_13 (qi_add ex22 rfl (by decide) (ox_11 g18_0) (ox_219 g18_1)))
                refine lv_iinc (v := x22) (lv' := [(5, .int x22), (0, .ref (r 0)), (1, .int y6_1), (2, .int y6_2), (3, .int y6_3), (4, .int y18_4)]) hx hb dX8_fashion_46 hl (k := 5) rfl ex22.symm (by decide) rfl (fun ls hl => ?_)
                refine lv_goto (tgt := 18) hx hb dX8_fashion_49 (by decide) ?_
                exact ih18 y18_4 x22 H14 _ _ (ox_14 g18_0 f23) (ox_220 ie15 f13 f23) hP hS (lv_sub hl [1, 2, 3, 4, 5, 0] rfl) (ox_221 hM18 f23)
              · skip
                have f24 : r_15.toInt ≠ 0 := qi_ne c_19 rfl zc_0
                have f25 : r_15.toInt = (1 : Int) := (ox_209 f16 f24)
                have f26 : (1 : Int) ≤ r_15.toInt := (ox_53 f17 f18 f25)
                obtain ⟨x27, ex27⟩ : ∃ y : Int32, y = y18_4 + Int32.ofInt 1 := ⟨_, rfl⟩
                have f28 : (-2147483648) ≤ y18_4.toInt ∧ y18_4.toInt ≤ 2147483647 := i32_rg _
                refine lv_iinc (v := x27) (lv' := [(4, .int x27), (0, .ref (r 0)), (1, .int y6_1), (2, .int y6_2), (3, .int y6_3), (5, .int y18_5)]) hx hb dX8_fashion_43 hl (k := 4) rfl ex27.symm (by decide) rfl (fun ls hl => ?_)
                obtain ⟨x29, ex29⟩ : ∃ y : Int32, y = y18_5 + Int32.ofInt 1 := ⟨_, rfl⟩
                have f30 : x29.toInt = y18_5.toInt + 1 := (ox_13 (qi_add ex29 rfl (by decide) (ox_11 g18_0) (ox_219 g18_1)))
                refine lv_iinc (v := x29) (lv' := [(5, .int x29), (4, .int x27), (0, .ref (r 0)), (1, .int y6_1), (2, .int y6_2), (3, .int y6_3)]) hx hb dX8_fashion_46 hl (k := 5) rfl ex29.symm (by decide) rfl (fun ls hl => ?_)
                refine lv_goto (tgt := 18) hx hb dX8_fashion_49 (by decide) ?_
                exact ih18 x27 x29 H14 _ _ (ox_14 g18_0 f30) (ox_220 ie15 f13 f30) hP hS (lv_sub hl [2, 3, 4, 5, 1, 0] rfl) (ox_221 hM18 f30)
        exact L18 (-1 * (0 : Int32).toInt + 4 + 1).toNat 0 0 H6 _ _ (ox_27 zc_0) (ox_224 zc_0) hP hS (lv_sub hl [2, 3, 4, 5, 1, 0] rfl) (mlt (ox_225 zc_0))
  exact L6 (-1 * (0 : Int32).toInt + 7 + 1).toNat (-1) 0 0 s.heap _ _ (ox_83 zc_m1) (ox_517 zc_m1) (ox_27 zc_0) (ox_27 zc_0) (ox_518 zc_0) hP hS (lv_sub hl [3, 2, 1, 0] rfl) (mlt (ox_519 zc_0))
set_option maxHeartbeats 4000000 in
set_option maxRecDepth 100000 in
theorem kX8_due (l : Launch) (dC : Nat → ClassId) (dI : Nat → Nat → Nat) (r : Nat → Nat) (ct : Nat → ClassId) (i_tapeLength i_time i_lyingCount i_rd_fault i_rd_token i_rd_kind i_sc_count i_sc_at i_A_tunes i_A_houses i_fA_length i_B_tunes i_B_houses i_fB_length i_acts_done i_acts_undone i_kn_count : Int32) (f_boxes f_boxKept f_trial f_offers f_A_noteCounts f_A_notes f_B_noteCounts f_B_notes f_now_where f_now_worn f_ahead_where f_ahead_worn f_acts_rows f_kn_tunes f_kn_noteTimes : Nat → Int32) (J : Nat → Nat → Int32) (L : Nat → Nat → Int64) (p0 : Int32) (sz : Nat) (hI : (IX i_tapeLength i_time i_lyingCount i_rd_token i_sc_count i_sc_at i_A_tunes i_A_houses i_fA_length i_B_tunes i_B_houses i_fB_length i_acts_done i_acts_undone i_kn_count f_boxes f_A_noteCounts f_A_notes f_B_noteCounts f_B_notes f_now_worn f_ahead_worn f_acts_rows f_kn_tunes)) : Met l yX8_due (.code yX8_due cX8_due 2 (some .int) :: GW) { frames := 6, cells := 0, slots := 0, locals := 222 } (va_Pc [.ref (r 0), .int p0] (pR (dC, dI) (WX r ct i_tapeLength i_time i_lyingCount i_rd_fault i_rd_token i_rd_kind i_sc_count i_sc_at i_A_tunes i_A_houses i_fA_length i_B_tunes i_B_houses i_fB_length i_acts_done i_acts_undone i_kn_count f_boxes f_boxKept f_trial f_offers f_A_noteCounts f_A_notes f_B_noteCounts f_B_notes f_now_where f_now_worn f_ahead_where f_ahead_worn f_acts_rows f_kn_tunes f_kn_noteTimes J L) (TX ct) sz)) (va_Qi (fun (r0 : Int32) (u : Int32) => r0 = u) (fun (u : Int32) (t : State) => True) (fun q => sz ≤ q)) 0 0 (fun q => sz ≤ q) := by
  refine Met.ofW (cc := cX8_due) (maxL := 2) (ret := (some .int)) (by decide) rfl ?_
  intro p e s m args below meth c0 s₁ B hml hv
  obtain ⟨rfl, hsz, hP, hK⟩ := hv
  have hx := B.exec
  have hb := B.bytes
  have hr := B.returns
  have hts := atoms_spec (ws := .code yX8_due cX8_due 2 (some .int) :: GW) B.pre
  have hG : ∀ w ∈ GW, w.before _ s = true := fun w h => hts w (List.mem_cons_of_mem _ h)
  have hown : s.vm.findClass RX8 = some m.cls := findClass_of_methodNamed B.named
  subst hsz
  have hS : va_S (fun q => s.heap.size ≤ q) s.heap s.heap [] := va_S.rf
  have hP : va_P (dC, dI) vwCl (WX r ct i_tapeLength i_time i_lyingCount i_rd_fault i_rd_token i_rd_kind i_sc_count i_sc_at i_A_tunes i_A_houses i_fA_length i_B_tunes i_B_houses i_fB_length i_acts_done i_acts_undone i_kn_count f_boxes f_boxKept f_trial f_offers f_A_noteCounts f_A_notes f_B_noteCounts f_B_notes f_now_where f_now_worn f_ahead_where f_ahead_worn f_acts_rows f_kn_tunes f_kn_noteTimes J L) s.heap := hP
  have hl := lv_entry ([.ref (r 0), .int p0]) (n := 2) (Nat.le_of_ble_eq_true rfl)
  rw [lg_entry_eq]
  generalize (lg_sl ([.ref (r 0), .int p0]) ++ List.replicate (2 - (lg_sl ([.ref (r 0), .int p0])).length) Slot.unset).toArray = ls at hl ⊢
  have hl : lv_has ls 2 [(0, .ref (r 0)), (1, .int p0)] := hl
  refine nameQ (fun Q hQ => ?_)
  obtain ⟨ie0, ie1, ie2, ie3, ie4, ie5, ie6, ie7, ie8, ie9, ie10, ie11, ie12, ie13, ie14, ie15, ie16, ie17, ie18, ie19, ie20, ie21, ie22, ie23, ie24, ie25, ie26, ie27, ie28, ie29, ie30, ie31, ie32, ie33, ie34, ie35, ie36, ie37, ie38, ie39⟩ := id hI
  refine lv_aload_n hx hb dX8_due_0 rfl (lv_at hl 0 rfl) ?_
  refine lv_iload_n hx hb dX8_due_1 rfl (lv_at hl 1 rfl) ?_
  refine va_calli (va_runV (As := [.int p0]) (rest := []) ⟨hx, hb, hml, hown, hG⟩ (kX8_isTune l dC dI r ct i_tapeLength i_time i_lyingCount i_rd_fault i_rd_token i_rd_kind i_sc_count i_sc_at i_A_tunes i_A_houses i_fA_length i_B_tunes i_B_houses i_fB_length i_acts_done i_acts_undone i_kn_count f_boxes f_boxKept f_trial f_offers f_A_noteCounts f_A_notes f_B_noteCounts f_B_notes f_now_where f_now_worn f_ahead_where f_ahead_worn f_acts_rows f_kn_tunes f_kn_noteTimes J L p0 s.heap.size hI) (cwV 1 hG (goodV gw695 gw697 gw20 gw129 gw698) rfl rfl rfl hd_X8_isTune ⟨(Nat.le_of_ble_eq_true rfl), (Nat.le_of_ble_eq_true rfl)⟩) ⟨fbR, va_recv hK hP (ci := 7) (q0 := 0) rfl rfl, pR_in hP hK⟩ rfl rfl hl.1 rfl (lv_room (Nat.le_of_ble_eq_true rfl)) dX8_due_2 ⟨(Nat.le_of_ble_eq_true rfl), (Nat.le_of_ble_eq_true rfl)⟩) hS (fun q hq h => absurd hq (Nat.not_lt.mpr h)) (fun q h => Nat.le_trans hS.1 h) (fun r_2 u_ t_ H1 locs ht hvm hw hB hz1 hk1 hS => ?_)
  subst hw
  have hP := wk hP hk1
  obtain ⟨f3, f4, f5⟩ := hB
  refine lv_if_eq (tgt := 19) hx hb dX8_due_5 (by decide) (fun c_6 => ?_) (fun c_6 => ?_)
  · skip
    have f7 : r_2.toInt = 0 := qi_eq c_6 rfl zc_0
    refine lv_iconst (v := (-1)) hx hb dX8_due_19 (by decide) ?_
    rw [hQ]
    exact W.iret (v := (-1)) hx hb hr (fun t ht hW => ⟨⟨(-1), (-1), rfl, rfl, trivial⟩, hS.F ht⟩) hS.2.2 dX8_due_20
  · skip
    have f8 : r_2.toInt ≠ 0 := qi_ne c_6 rfl zc_0
    have f9 : (0 : Int) ≤ p0.toInt := (ox_50 f3 f8)
    have f10 : p0.toInt + 1 ≤ i_A_tunes.toInt := (ox_51 f3 f8)
    have f11 : r_2.toInt = (1 : Int) := (ox_52 f3 f8)
    have f12 : (1 : Int) ≤ r_2.toInt := (ox_53 f4 f5 f11)
    refine lv_aload_n hx hb dX8_due_8 rfl (lv_at hl 0 rfl) ?_
    refine gX_X8_30_0 hx hb hG hown hK hP dX8_due_9 ?_
    refine lv_iload_n hx hb dX8_due_12 rfl (lv_at hl 1 rfl) ?_
    refine va_calli (va_runV (As := [.int p0]) (rest := []) ⟨hx, hb, hml, hown, hG⟩ (kX7_isOnApproval l dC dI r ct i_tapeLength i_time i_lyingCount i_rd_fault i_rd_token i_rd_kind i_sc_count i_sc_at i_A_tunes i_A_houses i_fA_length i_B_tunes i_B_houses i_fB_length i_acts_done i_acts_undone i_kn_count f_boxes f_boxKept f_trial f_offers f_A_noteCounts f_A_notes f_B_noteCounts f_B_notes f_now_where f_now_worn f_ahead_where f_ahead_worn f_acts_rows f_kn_tunes f_kn_noteTimes J L p0 H1.size hI (ox_54 f9 f10) (ox_211 ie13 f10)) (cwV 1 hG (goodV gw741 gw742 gw743 gw134 gw744) rfl rfl rfl hd_X7_isOnApproval ⟨(Nat.le_of_ble_eq_true rfl), (Nat.le_of_ble_eq_true rfl)⟩) ⟨fbR, va_recv hK hP (ci := 6) (q0 := 7) rfl rfl, pR_in hP hK⟩ rfl rfl hl.1 rfl (lv_room (Nat.le_of_ble_eq_true rfl)) dX8_due_13 ⟨(Nat.le_of_ble_eq_true rfl), (Nat.le_of_ble_eq_true rfl)⟩) hS (fun q hq h => absurd hq (Nat.not_lt.mpr h)) (fun q h => Nat.le_trans hS.1 h) (fun r_14 u_ t_ H13 locs ht hvm hw hB hz1 hk1 hS => ?_)
    subst hw
    have hP := wk hP hk1
    obtain ⟨f15, f16, f17⟩ := hB
    refine lv_if_ne (tgt := 21) hx hb dX8_due_16 (by decide) (fun c_18 => ?_) (fun c_18 => ?_)
    · skip
      have f19 : r_14.toInt ≠ 0 := qi_ne c_18 rfl zc_0
      have f20 : r_14.toInt = (1 : Int) := (ox_91 f15 f19)
      have f21 : (1 : Int) ≤ r_14.toInt := (ox_53 f16 f17 f20)
      refine lv_iconst (v := 1) hx hb dX8_due_21 (by decide) ?_
      refine lv_aload_n hx hb dX8_due_22 rfl (lv_at hl 0 rfl) ?_
      refine gX_X8_23_0 hx hb hG hown hK hP dX8_due_23 ?_
      refine gX_X8_188_3 hx hb hG hown hK hP dX8_due_26 (fun x22 => ?_)
      refine lv_aload_n hx hb dX8_due_29 rfl (lv_at hl 0 rfl) ?_
      refine gX_X8_30_0 hx hb hG hown hK hP dX8_due_30 ?_
      refine gX_X8_131_7 hx hb hG hown hK hP dX8_due_33 ?_
      refine lv_iload_n hx hb dX8_due_36 rfl (lv_at hl 1 rfl) ?_
      refine ldX_44 (mm := p0.toInt) hx hb hK hP rfl (ox_33 f9 f10) (ox_34 ie13 f10) dX8_due_37 (fun x23 => ?_)
      refine lv_isub hx hb dX8_due_38 ?_
      refine lv_topi (fun x24 ex24 => ?_)
      refine va_mmax hx hb (hml.trans hl.1.symm) hown (hG _ gw948) (hG _ gw775) (hG _ gw139) (hG _ gw776) (Nat.le_of_ble_eq_true rfl) (Nat.le_of_ble_eq_true rfl) (Nat.le_of_ble_eq_true rfl) (Nat.le_of_ble_eq_true rfl) dX8_due_39 ?_
      refine lv_topi (fun x25 ex25 => ?_)
      have f26 : (x24.toInt ≤ 1 ∧ x25.toInt = 1) ∨ (1 ≤ x24.toInt ∧ x25.toInt = x24.toInt) := mmax_or2 ex25 zc_1 rfl
      rw [hQ]
      exact W.iret (v := x25) hx hb hr (fun t ht hW => ⟨⟨x25, x25, rfl, rfl, trivial⟩, hS.F ht⟩) hS.2.2 dX8_due_42
    · skip
      have f27 : r_14.toInt = 0 := qi_eq c_18 rfl zc_0
      have f28 : r_14.toInt = (0 : Int) := (ox_92 f16 f17 f27)
      refine lv_iconst (v := (-1)) hx hb dX8_due_19 (by decide) ?_
      rw [hQ]
      exact W.iret (v := (-1)) hx hb hr (fun t ht hW => ⟨⟨(-1), (-1), rfl, rfl, trivial⟩, hS.F ht⟩) hS.2.2 dX8_due_20
set_option maxHeartbeats 4000000 in
set_option maxRecDepth 100000 in
theorem kX8_along (l : Launch) (dC : Nat → ClassId) (dI : Nat → Nat → Nat) (r : Nat → Nat) (ct : Nat → ClassId) (i_tapeLength i_time i_lyingCount i_rd_fault i_rd_token i_rd_kind i_sc_count i_sc_at i_A_tunes i_A_houses i_fA_length i_B_tunes i_B_houses i_fB_length i_acts_done i_acts_undone i_kn_count : Int32) (f_boxes f_boxKept f_trial f_offers f_A_noteCounts f_A_notes f_B_noteCounts f_B_notes f_now_where f_now_worn f_ahead_where f_ahead_worn f_acts_rows f_kn_tunes f_kn_noteTimes : Nat → Int32) (J : Nat → Nat → Int32) (L : Nat → Nat → Int64) (p0 p1 : Int32) (sz : Nat) (hI : (IX i_tapeLength i_time i_lyingCount i_rd_token i_sc_count i_sc_at i_A_tunes i_A_houses i_fA_length i_B_tunes i_B_houses i_fB_length i_acts_done i_acts_undone i_kn_count f_boxes f_A_noteCounts f_A_notes f_B_noteCounts f_B_notes f_now_worn f_ahead_worn f_acts_rows f_kn_tunes)) : Met l yX8_along (.code yX8_along cX8_along 6 (some .int) :: GW) { frames := 4, cells := 0, slots := 0, locals := 160 } (va_Pc [.ref (r 0), .int p0, .int p1] (pR (dC, dI) (WX r ct i_tapeLength i_time i_lyingCount i_rd_fault i_rd_token i_rd_kind i_sc_count i_sc_at i_A_tunes i_A_houses i_fA_length i_B_tunes i_B_houses i_fB_length i_acts_done i_acts_undone i_kn_count f_boxes f_boxKept f_trial f_offers f_A_noteCounts f_A_notes f_B_noteCounts f_B_notes f_now_where f_now_worn f_ahead_where f_ahead_worn f_acts_rows f_kn_tunes f_kn_noteTimes J L) (TX ct) sz)) (va_Qi (fun (r0 : Int32) (u : Int32) => r0 = u) (fun (u : Int32) (t : State) => True) (fun q => sz ≤ q)) 0 0 (fun q => sz ≤ q) := by
  refine Met.ofW (cc := cX8_along) (maxL := 6) (ret := (some .int)) (by decide) rfl ?_
  intro p e s m args below meth c0 s₁ B hml hv
  obtain ⟨rfl, hsz, hP, hK⟩ := hv
  have hx := B.exec
  have hb := B.bytes
  have hr := B.returns
  have hts := atoms_spec (ws := .code yX8_along cX8_along 6 (some .int) :: GW) B.pre
  have hG : ∀ w ∈ GW, w.before _ s = true := fun w h => hts w (List.mem_cons_of_mem _ h)
  have hown : s.vm.findClass RX8 = some m.cls := findClass_of_methodNamed B.named
  subst hsz
  have hS : va_S (fun q => s.heap.size ≤ q) s.heap s.heap [] := va_S.rf
  have hP : va_P (dC, dI) vwCl (WX r ct i_tapeLength i_time i_lyingCount i_rd_fault i_rd_token i_rd_kind i_sc_count i_sc_at i_A_tunes i_A_houses i_fA_length i_B_tunes i_B_houses i_fB_length i_acts_done i_acts_undone i_kn_count f_boxes f_boxKept f_trial f_offers f_A_noteCounts f_A_notes f_B_noteCounts f_B_notes f_now_where f_now_worn f_ahead_where f_ahead_worn f_acts_rows f_kn_tunes f_kn_noteTimes J L) s.heap := hP
  have hl := lv_entry ([.ref (r 0), .int p0, .int p1]) (n := 6) (Nat.le_of_ble_eq_true rfl)
  rw [lg_entry_eq]
  generalize (lg_sl ([.ref (r 0), .int p0, .int p1]) ++ List.replicate (6 - (lg_sl ([.ref (r 0), .int p0, .int p1])).length) Slot.unset).toArray = ls at hl ⊢
  have hl : lv_has ls 6 [(0, .ref (r 0)), (1, .int p0), (2, .int p1)] := hl
  refine nameQ (fun Q hQ => ?_)
  obtain ⟨ie0, ie1, ie2, ie3, ie4, ie5, ie6, ie7, ie8, ie9, ie10, ie11, ie12, ie13, ie14, ie15, ie16, ie17, ie18, ie19, ie20, ie21, ie22, ie23, ie24, ie25, ie26, ie27, ie28, ie29, ie30, ie31, ie32, ie33, ie34, ie35, ie36, ie37, ie38, ie39⟩ := id hI
  refine lv_iload_n hx hb dX8_along_0 rfl (lv_at hl 1 rfl) ?_
  refine va_calli (va_runS (As := [.int p0]) (rest := []) ⟨hx, hb, hml, hown, hG⟩ (kX8_isPlace l dC dI p0 s.heap.size) (va_cwS 1 hG (goodS gw926 gw927 gw129 gw928) rfl rfl rfl hd_X8_isPlace ⟨(Nat.le_of_ble_eq_true rfl), (Nat.le_of_ble_eq_true rfl)⟩) ⟨fbR, pR_in emptyP (emptyK hK)⟩ rfl rfl hl.1 rfl (lv_room (Nat.le_of_ble_eq_true rfl)) dX8_along_1 ⟨(Nat.le_of_ble_eq_true rfl), (Nat.le_of_ble_eq_true rfl)⟩) hS (fun q hq h => absurd hq (Nat.not_lt.mpr h)) (fun q h => Nat.le_trans hS.1 h) (fun r_2 u_ t_ H1 locs ht hvm hw hB hz1 hk1 hS => ?_)
  subst hw
  have hP := wk hP hk1
  obtain ⟨f3, f4, f5⟩ := hB
  refine lv_if_eq (tgt := 14) hx hb dX8_along_4 (by decide) (fun c_6 => ?_) (fun c_6 => ?_)
  · skip
    have f7 : r_2.toInt = 0 := qi_eq c_6 rfl zc_0
    refine lv_iconst (v := (-1)) hx hb dX8_along_14 (by decide) ?_
    rw [hQ]
    exact W.iret (v := (-1)) hx hb hr (fun t ht hW => ⟨⟨(-1), (-1), rfl, rfl, trivial⟩, hS.F ht⟩) hS.2.2 dX8_along_15
  · skip
    have f8 : r_2.toInt ≠ 0 := qi_ne c_6 rfl zc_0
    have f9 : (0 : Int) ≤ p0.toInt := (ox_412 f3 f8)
    have f10 : p0.toInt ≤ (99 : Int) := (ox_413 f3 f8)
    have f11 : r_2.toInt = (1 : Int) := (ox_414 f3 f8)
    have f12 : (1 : Int) ≤ r_2.toInt := (ox_53 f4 f5 f11)
    refine lv_iload_n hx hb dX8_along_7 rfl (lv_at hl 2 rfl) ?_
    refine va_calli (va_runS (As := [.int p1]) (rest := []) ⟨hx, hb, hml, hown, hG⟩ (kX8_isPlace l dC dI p1 H1.size) (va_cwS 1 hG (goodS gw926 gw927 gw129 gw928) rfl rfl rfl hd_X8_isPlace ⟨(Nat.le_of_ble_eq_true rfl), (Nat.le_of_ble_eq_true rfl)⟩) ⟨fbR, pR_in emptyP (emptyK hK)⟩ rfl rfl hl.1 rfl (lv_room (Nat.le_of_ble_eq_true rfl)) dX8_along_8 ⟨(Nat.le_of_ble_eq_true rfl), (Nat.le_of_ble_eq_true rfl)⟩) hS (fun q hq h => absurd hq (Nat.not_lt.mpr h)) (fun q h => Nat.le_trans hS.1 h) (fun r_14 u_ t_ H13 locs ht hvm hw hB hz1 hk1 hS => ?_)
    subst hw
    have hP := wk hP hk1
    obtain ⟨f15, f16, f17⟩ := hB
    refine lv_if_ne (tgt := 16) hx hb dX8_along_11 (by decide) (fun c_18 => ?_) (fun c_18 => ?_)
    · skip
      have f19 : r_14.toInt ≠ 0 := qi_ne c_18 rfl zc_0
      have f20 : (0 : Int) ≤ p1.toInt := (ox_412 f15 f19)
      have f21 : p1.toInt ≤ (99 : Int) := (ox_413 f15 f19)
      have f22 : r_14.toInt = (1 : Int) := (ox_414 f15 f19)
      have f23 : (1 : Int) ≤ r_14.toInt := (ox_53 f16 f17 f22)
      refine lv_iconst (v := 0) hx hb dX8_along_16 (by decide) ?_
      refine lv_istore_n (lv' := [(3, .int 0), (0, .ref (r 0)), (1, .int p0), (2, .int p1)]) hx hb dX8_along_17 rfl hl (by decide) rfl (fun ls hl => ?_)
      refine lv_iconst (v := 0) hx hb dX8_along_18 (by decide) ?_
      refine lv_istore (lv' := [(4, .int 0), (3, .int 0), (0, .ref (r 0)), (1, .int p0), (2, .int p1)]) hx hb dX8_along_19 hl (by decide) rfl (fun ls hl => ?_)
      have L21 : ∀ (N21 : Nat) (y21_3 y21_4 : Int32) (H21 : Heap) (locs : List Loc) (ls : Array Slot) (g21_0 : (0 : Int) ≤ y21_4.toInt) (g21_1 : y21_4.toInt ≤ (4 : Int)) (hP : va_P (dC, dI) vwCl (WX r ct i_tapeLength i_time i_lyingCount i_rd_fault i_rd_token i_rd_kind i_sc_count i_sc_at i_A_tunes i_A_houses i_fA_length i_B_tunes i_B_houses i_fB_length i_acts_done i_acts_undone i_kn_count f_boxes f_boxKept f_trial f_offers f_A_noteCounts f_A_notes f_B_noteCounts f_B_notes f_now_where f_now_worn f_ahead_where f_ahead_worn f_acts_rows f_kn_tunes f_kn_noteTimes J L) H21) (hS : va_S (fun q => s.heap.size ≤ q) s.heap H21 locs) (hl : lv_has ls 6 [(0, .ref (r 0)), (1, .int p0), (2, .int p1), (3, .int y21_3), (4, .int y21_4)]) (hM : -1 * y21_4.toInt + 4 < (N21 : Int)), W p l e { frames := 4, cells := 0, slots := 0, locals := 160 } s m ([.ref (r 0), .int p0, .int p1] : List Value).toArray below meth c0 H21 locs 0 0 Q (F0 m 21 ls []) := by
        intro N21
        induction N21 with
        | zero =>
          intro y21_3 y21_4 H21 locs ls g21_0 g21_1 hP hS hl hM
          exact ((ox_218 hM g21_0 g21_1)).elim
        | succ N21 ih21 =>
          intro y21_3 y21_4 H21 locs ls g21_0 g21_1 hP hS hl hM
          have hM21 := msucc hM
          refine lv_iload hx hb dX8_along_21 (lv_at hl 4 rfl) ?_
          refine lv_aload_n hx hb dX8_along_23 rfl (lv_at hl 0 rfl) ?_
          refine gX_X8_23_0 hx hb hG hown hK hP dX8_along_24 ?_
          refine gX_X8_99_3 hx hb hG hown hK hP dX8_along_27 ?_
          refine lv_icmp_ge (tgt := 78) hx hb dX8_along_30 (by decide) (fun c_24 => ?_) (fun c_24 => ?_)
          · skip
            have f25 : i_A_houses.toInt ≤ y21_4.toInt := qi_le c_24 rfl rfl
            refine lv_iload_n hx hb dX8_along_78 rfl (lv_at hl 3 rfl) ?_
            rw [hQ]
            exact W.iret (v := y21_3) hx hb hr (fun t ht hW => ⟨⟨y21_3, y21_3, rfl, rfl, trivial⟩, hS.F ht⟩) hS.2.2 dX8_along_79
          · skip
            have f26 : y21_4.toInt < i_A_houses.toInt := qi_nle c_24 rfl rfl
            refine lv_aload_n hx hb dX8_along_33 rfl (lv_at hl 0 rfl) ?_
            refine gX_X8_23_0 hx hb hG hown hK hP dX8_along_34 ?_
            refine gX_X8_141_3 hx hb hG hown hK hP dX8_along_37 ?_
            refine lv_iload hx hb dX8_along_40 (lv_at hl 4 rfl) ?_
            refine ldX_26 (mm := y21_4.toInt) hx hb hK hP rfl (ox_9 g21_0) (ox_376 ie15 f26) dX8_along_42 (fun x27 => ?_)
            refine lv_istore (lv' := [(5, .int x27), (0, .ref (r 0)), (1, .int p0), (2, .int p1), (3, .int y21_3), (4, .int y21_4)]) hx hb dX8_along_43 hl (by decide) rfl (fun ls hl => ?_)
            refine lv_iload hx hb dX8_along_45 (lv_at hl 0 rfl) ?_
            refine lv_iload_n hx hb dX8_along_47 rfl (lv_at hl 2 rfl) ?_
            refine lv_iload_n hx hb dX8_along_48 rfl (lv_at hl 3 rfl) ?_
            refine va_mmin hx hb (hml.trans hl.1.symm) hown (hG _ gw795) (hG _ gw542) (hG _ gw139) (hG _ gw543) (Nat.le_of_ble_eq_true rfl) (Nat.le_of_ble_eq_true rfl) (Nat.le_of_ble_eq_true rfl) (Nat.le_of_ble_eq_true rfl) dX8_along_49 ?_
            refine lv_topi (fun x28 ex28 => ?_)
            have f29 : (p0.toInt ≤ p1.toInt ∧ x28.toInt = p0.toInt) ∨ (p1.toInt ≤ p0.toInt ∧ x28.toInt = p1.toInt) := mmin_or2 ex28 rfl rfl
            refine lv_icmp_lt (tgt := 72) hx hb dX8_along_52 (by decide) (fun c_30 => ?_) (fun c_30 => ?_)
            · skip
              have f31 : x27.toInt < x28.toInt := qi_lt c_30 rfl rfl
              obtain ⟨x32, ex32⟩ : ∃ y : Int32, y = y21_4 + Int32.ofInt 1 := ⟨_, rfl⟩
              have f33 : x32.toInt = y21_4.toInt + 1 := (ox_13 (qi_add ex32 rfl (by decide) (ox_11 g21_0) (ox_219 g21_1)))
              refine lv_iinc (v := x32) (lv' := [(4, .int x32), (5, .int x27), (0, .ref (r 0)), (1, .int p0), (2, .int p1), (3, .int y21_3)]) hx hb dX8_along_72 hl (k := 5) rfl ex32.symm (by decide) rfl (fun ls hl => ?_)
              refine lv_goto (tgt := 21) hx hb dX8_along_75 (by decide) ?_
              exact ih21 y21_3 x32 H21 _ _ (ox_14 g21_0 f33) (ox_220 ie15 f26 f33) hP hS (lv_sub hl [2, 3, 4, 5, 0] rfl) (ox_221 hM21 f33)
            · skip
              have f34 : x28.toInt ≤ x27.toInt := qi_nlt c_30 rfl rfl
              refine lv_iload hx hb dX8_along_55 (lv_at hl 0 rfl) ?_
              refine lv_iload_n hx hb dX8_along_57 rfl (lv_at hl 2 rfl) ?_
              refine lv_iload_n hx hb dX8_along_58 rfl (lv_at hl 3 rfl) ?_
              refine va_mmax hx hb (hml.trans hl.1.symm) hown (hG _ gw948) (hG _ gw775) (hG _ gw139) (hG _ gw776) (Nat.le_of_ble_eq_true rfl) (Nat.le_of_ble_eq_true rfl) (Nat.le_of_ble_eq_true rfl) (Nat.le_of_ble_eq_true rfl) dX8_along_59 ?_
              refine lv_topi (fun x35 ex35 => ?_)
              have f36 : (p1.toInt ≤ p0.toInt ∧ x35.toInt = p0.toInt) ∨ (p0.toInt ≤ p1.toInt ∧ x35.toInt = p1.toInt) := mmax_or2 ex35 rfl rfl
              refine lv_icmp_gt (tgt := 72) hx hb dX8_along_62 (by decide) (fun c_37 => ?_) (fun c_37 => ?_)
              · skip
                have f38 : x35.toInt < x27.toInt := qi_lt c_37 rfl rfl
                obtain ⟨x39, ex39⟩ : ∃ y : Int32, y = y21_4 + Int32.ofInt 1 := ⟨_, rfl⟩
                have f40 : x39.toInt = y21_4.toInt + 1 := (ox_13 (qi_add ex39 rfl (by decide) (ox_11 g21_0) (ox_219 g21_1)))
                refine lv_iinc (v := x39) (lv' := [(4, .int x39), (5, .int x27), (0, .ref (r 0)), (1, .int p0), (2, .int p1), (3, .int y21_3)]) hx hb dX8_along_72 hl (k := 5) rfl ex39.symm (by decide) rfl (fun ls hl => ?_)
                refine lv_goto (tgt := 21) hx hb dX8_along_75 (by decide) ?_
                exact ih21 y21_3 x39 H21 _ _ (ox_14 g21_0 f40) (ox_220 ie15 f26 f40) hP hS (lv_sub hl [2, 3, 4, 5, 0] rfl) (ox_221 hM21 f40)
              · skip
                have f41 : x27.toInt ≤ x35.toInt := qi_nlt c_37 rfl rfl
                refine lv_iload_n hx hb dX8_along_65 rfl (lv_at hl 4 rfl) ?_
                refine lv_iconst (v := 1) hx hb dX8_along_66 (by decide) ?_
                refine lv_iload hx hb dX8_along_67 (lv_at hl 5 rfl) ?_
                refine lv_ishl hx hb dX8_along_69 ?_
                refine lv_topi (fun x42 ex42 => ?_)
                refine lv_ior hx hb dX8_along_70 ?_
                refine lv_topi (fun x43 ex43 => ?_)
                refine lv_istore_n (lv' := [(3, .int x43), (5, .int x27), (0, .ref (r 0)), (1, .int p0), (2, .int p1), (4, .int y21_4)]) hx hb dX8_along_71 rfl hl (by decide) rfl (fun ls hl => ?_)
                obtain ⟨x44, ex44⟩ : ∃ y : Int32, y = y21_4 + Int32.ofInt 1 := ⟨_, rfl⟩
                have f45 : x44.toInt = y21_4.toInt + 1 := (ox_13 (qi_add ex44 rfl (by decide) (ox_11 g21_0) (ox_219 g21_1)))
                refine lv_iinc (v := x44) (lv' := [(4, .int x44), (3, .int x43), (5, .int x27), (0, .ref (r 0)), (1, .int p0), (2, .int p1)]) hx hb dX8_along_72 hl (k := 5) rfl ex44.symm (by decide) rfl (fun ls hl => ?_)
                refine lv_goto (tgt := 21) hx hb dX8_along_75 (by decide) ?_
                exact ih21 x43 x44 H21 _ _ (ox_14 g21_0 f45) (ox_220 ie15 f26 f45) hP hS (lv_sub hl [3, 4, 5, 1, 0] rfl) (ox_221 hM21 f45)
      exact L21 (-1 * (0 : Int32).toInt + 4 + 1).toNat 0 0 H13 _ _ (ox_27 zc_0) (ox_224 zc_0) hP hS (lv_sub hl [2, 3, 4, 1, 0] rfl) (mlt (ox_225 zc_0))
    · skip
      have f46 : r_14.toInt = 0 := qi_eq c_18 rfl zc_0
      refine lv_iconst (v := (-1)) hx hb dX8_along_14 (by decide) ?_
      rw [hQ]
      exact W.iret (v := (-1)) hx hb hr (fun t ht hW => ⟨⟨(-1), (-1), rfl, rfl, trivial⟩, hS.F ht⟩) hS.2.2 dX8_along_15
set_option maxHeartbeats 4000000 in
set_option maxRecDepth 100000 in
theorem kX8_alike (l : Launch) (dC : Nat → ClassId) (dI : Nat → Nat → Nat) (r : Nat → Nat) (ct : Nat → ClassId) (i_tapeLength i_time i_lyingCount i_rd_fault i_rd_token i_rd_kind i_sc_count i_sc_at i_A_tunes i_A_houses i_fA_length i_B_tunes i_B_houses i_fB_length i_acts_done i_acts_undone i_kn_count : Int32) (f_boxes f_boxKept f_trial f_offers f_A_noteCounts f_A_notes f_B_noteCounts f_B_notes f_now_where f_now_worn f_ahead_where f_ahead_worn f_acts_rows f_kn_tunes f_kn_noteTimes : Nat → Int32) (J : Nat → Nat → Int32) (L : Nat → Nat → Int64) (p0 p1 : Int32) (sz : Nat) (hI : (IX i_tapeLength i_time i_lyingCount i_rd_token i_sc_count i_sc_at i_A_tunes i_A_houses i_fA_length i_B_tunes i_B_houses i_fB_length i_acts_done i_acts_undone i_kn_count f_boxes f_A_noteCounts f_A_notes f_B_noteCounts f_B_notes f_now_worn f_ahead_worn f_acts_rows f_kn_tunes)) : Met l yX8_alike (.code yX8_alike cX8_alike 8 (some .int) :: GW) { frames := 6, cells := 0, slots := 0, locals := 227 } (va_Pc [.ref (r 0), .int p0, .int p1] (pR (dC, dI) (WX r ct i_tapeLength i_time i_lyingCount i_rd_fault i_rd_token i_rd_kind i_sc_count i_sc_at i_A_tunes i_A_houses i_fA_length i_B_tunes i_B_houses i_fB_length i_acts_done i_acts_undone i_kn_count f_boxes f_boxKept f_trial f_offers f_A_noteCounts f_A_notes f_B_noteCounts f_B_notes f_now_where f_now_worn f_ahead_where f_ahead_worn f_acts_rows f_kn_tunes f_kn_noteTimes J L) (TX ct) sz)) (va_Qi (fun (r0 : Int32) (u : Int32) => r0 = u) (fun (u : Int32) (t : State) => True) (fun q => sz ≤ q)) 0 0 (fun q => sz ≤ q) := by
  refine Met.ofW (cc := cX8_alike) (maxL := 8) (ret := (some .int)) (by decide) rfl ?_
  intro p e s m args below meth c0 s₁ B hml hv
  obtain ⟨rfl, hsz, hP, hK⟩ := hv
  have hx := B.exec
  have hb := B.bytes
  have hr := B.returns
  have hts := atoms_spec (ws := .code yX8_alike cX8_alike 8 (some .int) :: GW) B.pre
  have hG : ∀ w ∈ GW, w.before _ s = true := fun w h => hts w (List.mem_cons_of_mem _ h)
  have hown : s.vm.findClass RX8 = some m.cls := findClass_of_methodNamed B.named
  subst hsz
  have hS : va_S (fun q => s.heap.size ≤ q) s.heap s.heap [] := va_S.rf
  have hP : va_P (dC, dI) vwCl (WX r ct i_tapeLength i_time i_lyingCount i_rd_fault i_rd_token i_rd_kind i_sc_count i_sc_at i_A_tunes i_A_houses i_fA_length i_B_tunes i_B_houses i_fB_length i_acts_done i_acts_undone i_kn_count f_boxes f_boxKept f_trial f_offers f_A_noteCounts f_A_notes f_B_noteCounts f_B_notes f_now_where f_now_worn f_ahead_where f_ahead_worn f_acts_rows f_kn_tunes f_kn_noteTimes J L) s.heap := hP
  have hl := lv_entry ([.ref (r 0), .int p0, .int p1]) (n := 8) (Nat.le_of_ble_eq_true rfl)
  rw [lg_entry_eq]
  generalize (lg_sl ([.ref (r 0), .int p0, .int p1]) ++ List.replicate (8 - (lg_sl ([.ref (r 0), .int p0, .int p1])).length) Slot.unset).toArray = ls at hl ⊢
  have hl : lv_has ls 8 [(0, .ref (r 0)), (1, .int p0), (2, .int p1)] := hl
  refine nameQ (fun Q hQ => ?_)
  obtain ⟨ie0, ie1, ie2, ie3, ie4, ie5, ie6, ie7, ie8, ie9, ie10, ie11, ie12, ie13, ie14, ie15, ie16, ie17, ie18, ie19, ie20, ie21, ie22, ie23, ie24, ie25, ie26, ie27, ie28, ie29, ie30, ie31, ie32, ie33, ie34, ie35, ie36, ie37, ie38, ie39⟩ := id hI
  refine lv_aload_n hx hb dX8_alike_0 rfl (lv_at hl 0 rfl) ?_
  refine lv_iload_n hx hb dX8_alike_1 rfl (lv_at hl 1 rfl) ?_
  refine va_calli (va_runV (As := [.int p0]) (rest := []) ⟨hx, hb, hml, hown, hG⟩ (kX8_isTune l dC dI r ct i_tapeLength i_time i_lyingCount i_rd_fault i_rd_token i_rd_kind i_sc_count i_sc_at i_A_tunes i_A_houses i_fA_length i_B_tunes i_B_houses i_fB_length i_acts_done i_acts_undone i_kn_count f_boxes f_boxKept f_trial f_offers f_A_noteCounts f_A_notes f_B_noteCounts f_B_notes f_now_where f_now_worn f_ahead_where f_ahead_worn f_acts_rows f_kn_tunes f_kn_noteTimes J L p0 s.heap.size hI) (cwV 1 hG (goodV gw695 gw697 gw20 gw129 gw698) rfl rfl rfl hd_X8_isTune ⟨(Nat.le_of_ble_eq_true rfl), (Nat.le_of_ble_eq_true rfl)⟩) ⟨fbR, va_recv hK hP (ci := 7) (q0 := 0) rfl rfl, pR_in hP hK⟩ rfl rfl hl.1 rfl (lv_room (Nat.le_of_ble_eq_true rfl)) dX8_alike_2 ⟨(Nat.le_of_ble_eq_true rfl), (Nat.le_of_ble_eq_true rfl)⟩) hS (fun q hq h => absurd hq (Nat.not_lt.mpr h)) (fun q h => Nat.le_trans hS.1 h) (fun r_2 u_ t_ H1 locs ht hvm hw hB hz1 hk1 hS => ?_)
  subst hw
  have hP := wk hP hk1
  obtain ⟨f3, f4, f5⟩ := hB
  refine lv_if_eq (tgt := 16) hx hb dX8_alike_5 (by decide) (fun c_6 => ?_) (fun c_6 => ?_)
  · skip
    have f7 : r_2.toInt = 0 := qi_eq c_6 rfl zc_0
    refine lv_iconst (v := (-1)) hx hb dX8_alike_16 (by decide) ?_
    rw [hQ]
    exact W.iret (v := (-1)) hx hb hr (fun t ht hW => ⟨⟨(-1), (-1), rfl, rfl, trivial⟩, hS.F ht⟩) hS.2.2 dX8_alike_17
  · skip
    have f8 : r_2.toInt ≠ 0 := qi_ne c_6 rfl zc_0
    have f9 : (0 : Int) ≤ p0.toInt := (ox_50 f3 f8)
    have f10 : p0.toInt + 1 ≤ i_A_tunes.toInt := (ox_51 f3 f8)
    have f11 : r_2.toInt = (1 : Int) := (ox_52 f3 f8)
    have f12 : (1 : Int) ≤ r_2.toInt := (ox_53 f4 f5 f11)
    refine lv_aload_n hx hb dX8_alike_8 rfl (lv_at hl 0 rfl) ?_
    refine lv_iload_n hx hb dX8_alike_9 rfl (lv_at hl 2 rfl) ?_
    refine va_calli (va_runV (As := [.int p1]) (rest := []) ⟨hx, hb, hml, hown, hG⟩ (kX8_isTune l dC dI r ct i_tapeLength i_time i_lyingCount i_rd_fault i_rd_token i_rd_kind i_sc_count i_sc_at i_A_tunes i_A_houses i_fA_length i_B_tunes i_B_houses i_fB_length i_acts_done i_acts_undone i_kn_count f_boxes f_boxKept f_trial f_offers f_A_noteCounts f_A_notes f_B_noteCounts f_B_notes f_now_where f_now_worn f_ahead_where f_ahead_worn f_acts_rows f_kn_tunes f_kn_noteTimes J L p1 H1.size hI) (cwV 1 hG (goodV gw695 gw697 gw20 gw129 gw698) rfl rfl rfl hd_X8_isTune ⟨(Nat.le_of_ble_eq_true rfl), (Nat.le_of_ble_eq_true rfl)⟩) ⟨fbR, va_recv hK hP (ci := 7) (q0 := 0) rfl rfl, pR_in hP hK⟩ rfl rfl hl.1 rfl (lv_room (Nat.le_of_ble_eq_true rfl)) dX8_alike_10 ⟨(Nat.le_of_ble_eq_true rfl), (Nat.le_of_ble_eq_true rfl)⟩) hS (fun q hq h => absurd hq (Nat.not_lt.mpr h)) (fun q h => Nat.le_trans hS.1 h) (fun r_14 u_ t_ H13 locs ht hvm hw hB hz1 hk1 hS => ?_)
    subst hw
    have hP := wk hP hk1
    obtain ⟨f15, f16, f17⟩ := hB
    refine lv_if_ne (tgt := 18) hx hb dX8_alike_13 (by decide) (fun c_18 => ?_) (fun c_18 => ?_)
    · skip
      have f19 : r_14.toInt ≠ 0 := qi_ne c_18 rfl zc_0
      have f20 : (0 : Int) ≤ p1.toInt := (ox_50 f15 f19)
      have f21 : p1.toInt + 1 ≤ i_A_tunes.toInt := (ox_51 f15 f19)
      have f22 : r_14.toInt = (1 : Int) := (ox_52 f15 f19)
      have f23 : (1 : Int) ≤ r_14.toInt := (ox_53 f16 f17 f22)
      refine lv_aload_n hx hb dX8_alike_18 rfl (lv_at hl 0 rfl) ?_
      refine gX_X8_23_0 hx hb hG hown hK hP dX8_alike_19 ?_
      refine lv_iload_n hx hb dX8_alike_22 rfl (lv_at hl 1 rfl) ?_
      refine lv_aload_n hx hb dX8_alike_23 rfl (lv_at hl 0 rfl) ?_
      refine gX_X8_30_0 hx hb hG hown hK hP dX8_alike_24 ?_
      refine gX_X8_118_7 hx hb hG hown hK hP dX8_alike_27 ?_
      refine lv_iload_n hx hb dX8_alike_30 rfl (lv_at hl 1 rfl) ?_
      refine ldX_43 (mm := p0.toInt) hx hb hK hP rfl (ox_33 f9 f10) (ox_34 ie13 f10) dX8_alike_31 ?_
      have f24 : 0 ≤ (f_now_worn (p0.toInt).toNat).toInt ∧ (f_now_worn (p0.toInt).toNat).toInt ≤ 99 := ie36 (p0.toInt)
      refine va_calli (va_runV (As := [.int p0, .int (f_now_worn (p0.toInt).toNat)]) (rest := []) ⟨hx, hb, hml, hown, hG⟩ (kX4_left l dC dI r ct i_tapeLength i_time i_lyingCount i_rd_fault i_rd_token i_rd_kind i_sc_count i_sc_at i_A_tunes i_A_houses i_fA_length i_B_tunes i_B_houses i_fB_length i_acts_done i_acts_undone i_kn_count f_boxes f_boxKept f_trial f_offers f_A_noteCounts f_A_notes f_B_noteCounts f_B_notes f_now_where f_now_worn f_ahead_where f_ahead_worn f_acts_rows f_kn_tunes f_kn_noteTimes J L p0 (f_now_worn (p0.toInt).toNat) H13.size hI (ox_54 f9 f10) (ox_55 f10) (ox_56 f24) (ox_57 f24)) (cwV 2 hG (goodV gw699 gw700 gw701 gw132 gw702) rfl rfl rfl hd_X4_left ⟨(Nat.le_of_ble_eq_true rfl), (Nat.le_of_ble_eq_true rfl)⟩) ⟨fbR, va_recv hK hP (ci := 3) (q0 := 3) rfl rfl, pR_in hP hK⟩ rfl rfl hl.1 rfl (lv_room (Nat.le_of_ble_eq_true rfl)) dX8_alike_32 ⟨(Nat.le_of_ble_eq_true rfl), (Nat.le_of_ble_eq_true rfl)⟩) hS (fun q hq h => absurd hq (Nat.not_lt.mpr h)) (fun q h => Nat.le_trans hS.1 h) (fun r_26 u_ t_ H25 locs ht hvm hw hB hz1 hk1 hS => ?_)
      subst hw
      have hP := wk hP hk1
      obtain ⟨f27, f28, f29, f30, f31⟩ := hB
      refine lv_istore_n (lv' := [(3, .int r_26), (0, .ref (r 0)), (1, .int p0), (2, .int p1)]) hx hb dX8_alike_35 rfl hl (by decide) rfl (fun ls hl => ?_)
      refine lv_aload_n hx hb dX8_alike_36 rfl (lv_at hl 1 rfl) ?_
      refine gX_X8_23_0 hx hb hG hown hK hP dX8_alike_37 ?_
      refine lv_iload_n hx hb dX8_alike_40 rfl (lv_at hl 3 rfl) ?_
      refine lv_aload_n hx hb dX8_alike_41 rfl (lv_at hl 1 rfl) ?_
      refine gX_X8_30_0 hx hb hG hown hK hP dX8_alike_42 ?_
      refine gX_X8_118_7 hx hb hG hown hK hP dX8_alike_45 ?_
      refine lv_iload_n hx hb dX8_alike_48 rfl (lv_at hl 3 rfl) ?_
      refine ldX_43 (mm := p1.toInt) hx hb hK hP rfl (ox_33 f20 f21) (ox_34 ie13 f21) dX8_alike_49 ?_
      have f32 : 0 ≤ (f_now_worn (p1.toInt).toNat).toInt ∧ (f_now_worn (p1.toInt).toNat).toInt ≤ 99 := ie36 (p1.toInt)
      refine va_calli (va_runV (As := [.int p1, .int (f_now_worn (p1.toInt).toNat)]) (rest := []) ⟨hx, hb, hml, hown, hG⟩ (kX4_left l dC dI r ct i_tapeLength i_time i_lyingCount i_rd_fault i_rd_token i_rd_kind i_sc_count i_sc_at i_A_tunes i_A_houses i_fA_length i_B_tunes i_B_houses i_fB_length i_acts_done i_acts_undone i_kn_count f_boxes f_boxKept f_trial f_offers f_A_noteCounts f_A_notes f_B_noteCounts f_B_notes f_now_where f_now_worn f_ahead_where f_ahead_worn f_acts_rows f_kn_tunes f_kn_noteTimes J L p1 (f_now_worn (p1.toInt).toNat) H25.size hI (ox_54 f20 f21) (ox_55 f21) (ox_56 f32) (ox_57 f32)) (cwV 2 hG (goodV gw699 gw700 gw701 gw132 gw702) rfl rfl rfl hd_X4_left ⟨(Nat.le_of_ble_eq_true rfl), (Nat.le_of_ble_eq_true rfl)⟩) ⟨fbR, va_recv hK hP (ci := 3) (q0 := 3) rfl rfl, pR_in hP hK⟩ rfl rfl hl.1 rfl (lv_room (Nat.le_of_ble_eq_true rfl)) dX8_alike_50 ⟨(Nat.le_of_ble_eq_true rfl), (Nat.le_of_ble_eq_true rfl)⟩) hS (fun q hq h => absurd hq (Nat.not_lt.mpr h)) (fun q h => Nat.le_trans hS.1 h) (fun r_34 u_ t_ H33 locs ht hvm hw hB hz1 hk1 hS => ?_)
      subst hw
      have hP := wk hP hk1
      obtain ⟨f35, f36, f37, f38, f39⟩ := hB
      refine lv_istore (lv' := [(4, .int r_34), (3, .int r_26), (0, .ref (r 0)), (1, .int p0), (2, .int p1)]) hx hb dX8_alike_53 hl (by decide) rfl (fun ls hl => ?_)
      refine lv_iconst (v := 0) hx hb dX8_alike_55 (by decide) ?_
      refine lv_istore (lv' := [(5, .int 0), (4, .int r_34), (3, .int r_26), (0, .ref (r 0)), (1, .int p0), (2, .int p1)]) hx hb dX8_alike_56 hl (by decide) rfl (fun ls hl => ?_)
      refine lv_iconst (v := 1) hx hb dX8_alike_58 (by decide) ?_
      refine lv_istore (lv' := [(6, .int 1), (5, .int 0), (4, .int r_34), (3, .int r_26), (0, .ref (r 0)), (1, .int p0), (2, .int p1)]) hx hb dX8_alike_59 hl (by decide) rfl (fun ls hl => ?_)
      have L61 : ∀ (N61 : Nat) (y61_5 y61_6 : Int32) (H61 : Heap) (locs : List Loc) (ls : Array Slot) (g61_0 : (0 : Int) ≤ y61_5.toInt) (g61_1 : y61_5.toInt ≤ (8 : Int)) (g61_2 : (1 : Int) ≤ y61_6.toInt) (g61_3 : y61_6.toInt ≤ (9 : Int)) (hP : va_P (dC, dI) vwCl (WX r ct i_tapeLength i_time i_lyingCount i_rd_fault i_rd_token i_rd_kind i_sc_count i_sc_at i_A_tunes i_A_houses i_fA_length i_B_tunes i_B_houses i_fB_length i_acts_done i_acts_undone i_kn_count f_boxes f_boxKept f_trial f_offers f_A_noteCounts f_A_notes f_B_noteCounts f_B_notes f_now_where f_now_worn f_ahead_where f_ahead_worn f_acts_rows f_kn_tunes f_kn_noteTimes J L) H61) (hS : va_S (fun q => s.heap.size ≤ q) s.heap H61 locs) (hl : lv_has ls 8 [(0, .ref (r 0)), (1, .int p0), (2, .int p1), (3, .int r_26), (4, .int r_34), (5, .int y61_5), (6, .int y61_6)]) (hM : -1 * y61_6.toInt + 9 < (N61 : Int)), W p l e { frames := 6, cells := 0, slots := 0, locals := 227 } s m ([.ref (r 0), .int p0, .int p1] : List Value).toArray below meth c0 H61 locs 0 0 Q (F0 m 61 ls []) := by
        intro N61
        induction N61 with
        | zero =>
          intro y61_5 y61_6 H61 locs ls g61_0 g61_1 g61_2 g61_3 hP hS hl hM
          exact ((ox_520 hM g61_2 g61_3)).elim
        | succ N61 ih61 =>
          intro y61_5 y61_6 H61 locs ls g61_0 g61_1 g61_2 g61_3 hP hS hl hM
          have hM61 := msucc hM
          refine lv_iload hx hb dX8_alike_61 (lv_at hl 6 rfl) ?_
          refine lv_iload_n hx hb dX8_alike_63 rfl (lv_at hl 3 rfl) ?_
          refine lv_icmp_gt (tgt := 137) hx hb dX8_alike_64 (by decide) (fun c_40 => ?_) (fun c_40 => ?_)
          · skip
            have f41 : r_26.toInt < y61_6.toInt := qi_lt c_40 rfl rfl
            refine lv_iload hx hb dX8_alike_137 (lv_at hl 5 rfl) ?_
            rw [hQ]
            exact W.iret (v := y61_5) hx hb hr (fun t ht hW => ⟨⟨y61_5, y61_5, rfl, rfl, trivial⟩, hS.F ht⟩) hS.2.2 dX8_alike_139
          · skip
            have f42 : y61_6.toInt ≤ r_26.toInt := qi_nlt c_40 rfl rfl
            refine lv_iload hx hb dX8_alike_67 (lv_at hl 6 rfl) ?_
            refine lv_iload hx hb dX8_alike_69 (lv_at hl 4 rfl) ?_
            refine lv_icmp_gt (tgt := 137) hx hb dX8_alike_71 (by decide) (fun c_43 => ?_) (fun c_43 => ?_)
            · skip
              have f44 : r_34.toInt < y61_6.toInt := qi_lt c_43 rfl rfl
              refine lv_iload hx hb dX8_alike_137 (lv_at hl 5 rfl) ?_
              rw [hQ]
              exact W.iret (v := y61_5) hx hb hr (fun t ht hW => ⟨⟨y61_5, y61_5, rfl, rfl, trivial⟩, hS.F ht⟩) hS.2.2 dX8_alike_139
            · skip
              have f45 : y61_6.toInt ≤ r_34.toInt := qi_nlt c_43 rfl rfl
              refine lv_aload_n hx hb dX8_alike_74 rfl (lv_at hl 0 rfl) ?_
              refine gX_X8_23_0 hx hb hG hown hK hP dX8_alike_75 ?_
              refine lv_iload_n hx hb dX8_alike_78 rfl (lv_at hl 1 rfl) ?_
              refine lv_aload_n hx hb dX8_alike_79 rfl (lv_at hl 0 rfl) ?_
              refine gX_X8_30_0 hx hb hG hown hK hP dX8_alike_80 ?_
              refine gX_X8_118_7 hx hb hG hown hK hP dX8_alike_83 ?_
              refine lv_iload_n hx hb dX8_alike_86 rfl (lv_at hl 1 rfl) ?_
              refine ldX_43 (mm := p0.toInt) hx hb hK hP rfl (ox_33 f9 f10) (ox_34 ie13 f10) dX8_alike_87 ?_
              refine lv_iload_n hx hb dX8_alike_88 rfl (lv_at hl 3 rfl) ?_
              refine lv_iload hx hb dX8_alike_89 (lv_at hl 6 rfl) ?_
              refine lv_isub hx hb dX8_alike_91 ?_
              refine lv_topi (fun x46 ex46 => ?_)
              have f47 : x46.toInt = r_26.toInt + -1 * y61_6.toInt := (ox_39 (qi_sub ex46 rfl rfl (ox_521 f27 g61_3) (ox_522 f28 g61_2)))
              refine va_calli (va_runV (As := [.int p0, .int (f_now_worn (p0.toInt).toNat), .int x46]) (rest := []) ⟨hx, hb, hml, hown, hG⟩ (kX4_noteLeft l dC dI r ct i_tapeLength i_time i_lyingCount i_rd_fault i_rd_token i_rd_kind i_sc_count i_sc_at i_A_tunes i_A_houses i_fA_length i_B_tunes i_B_houses i_fB_length i_acts_done i_acts_undone i_kn_count f_boxes f_boxKept f_trial f_offers f_A_noteCounts f_A_notes f_B_noteCounts f_B_notes f_now_where f_now_worn f_ahead_where f_ahead_worn f_acts_rows f_kn_tunes f_kn_noteTimes J L p0 (f_now_worn (p0.toInt).toNat) x46 H61.size hI (ox_54 f9 f10) (ox_55 f10) (ox_56 f24) (ox_57 f24) (ox_523 f42 f47) (ox_524 f31 g61_2 f47)) (cwV 3 hG (goodV gw707 gw708 gw709 gw132 gw710) rfl rfl rfl hd_X4_noteLeft ⟨(Nat.le_of_ble_eq_true rfl), (Nat.le_of_ble_eq_true rfl)⟩) ⟨fbR, va_recv hK hP (ci := 3) (q0 := 3) rfl rfl, pR_in hP hK⟩ rfl rfl hl.1 rfl (lv_room (Nat.le_of_ble_eq_true rfl)) dX8_alike_92 ⟨(Nat.le_of_ble_eq_true rfl), (Nat.le_of_ble_eq_true rfl)⟩) hS (fun q hq h => absurd hq (Nat.not_lt.mpr h)) (fun q h => Nat.le_trans hS.1 h) (fun r_49 u_ t_ H48 locs ht hvm hw hB hz1 hk1 hS => ?_)
              subst hw
              have hP := wk hP hk1
              obtain ⟨f50, f51⟩ := hB
              refine lv_istore (lv' := [(7, .int r_49), (0, .ref (r 0)), (1, .int p0), (2, .int p1), (3, .int r_26), (4, .int r_34), (5, .int y61_5), (6, .int y61_6)]) hx hb dX8_alike_95 hl (by decide) rfl (fun ls hl => ?_)
              refine lv_iload hx hb dX8_alike_97 (lv_at hl 0 rfl) ?_
              refine lv_aload_n hx hb dX8_alike_99 rfl (lv_at hl 1 rfl) ?_
              refine gX_X8_23_0 hx hb hG hown hK hP dX8_alike_100 ?_
              refine lv_iload_n hx hb dX8_alike_103 rfl (lv_at hl 3 rfl) ?_
              refine lv_aload_n hx hb dX8_alike_104 rfl (lv_at hl 1 rfl) ?_
              refine gX_X8_30_0 hx hb hG hown hK hP dX8_alike_105 ?_
              refine gX_X8_118_7 hx hb hG hown hK hP dX8_alike_108 ?_
              refine lv_iload_n hx hb dX8_alike_111 rfl (lv_at hl 3 rfl) ?_
              refine ldX_43 (mm := p1.toInt) hx hb hK hP rfl (ox_33 f20 f21) (ox_34 ie13 f21) dX8_alike_112 ?_
              refine lv_iload hx hb dX8_alike_113 (lv_at hl 5 rfl) ?_
              refine lv_iload hx hb dX8_alike_115 (lv_at hl 7 rfl) ?_
              refine lv_isub hx hb dX8_alike_117 ?_
              refine lv_topi (fun x52 ex52 => ?_)
              have f53 : x52.toInt = r_34.toInt + -1 * y61_6.toInt := (ox_39 (qi_sub ex52 rfl rfl (ox_521 f35 g61_3) (ox_522 f36 g61_2)))
              refine va_calli (va_runV (As := [.int p1, .int (f_now_worn (p1.toInt).toNat), .int x52]) (rest := [.int r_49]) ⟨hx, hb, hml, hown, hG⟩ (kX4_noteLeft l dC dI r ct i_tapeLength i_time i_lyingCount i_rd_fault i_rd_token i_rd_kind i_sc_count i_sc_at i_A_tunes i_A_houses i_fA_length i_B_tunes i_B_houses i_fB_length i_acts_done i_acts_undone i_kn_count f_boxes f_boxKept f_trial f_offers f_A_noteCounts f_A_notes f_B_noteCounts f_B_notes f_now_where f_now_worn f_ahead_where f_ahead_worn f_acts_rows f_kn_tunes f_kn_noteTimes J L p1 (f_now_worn (p1.toInt).toNat) x52 H48.size hI (ox_54 f20 f21) (ox_55 f21) (ox_56 f32) (ox_57 f32) (ox_523 f45 f53) (ox_524 f39 g61_2 f53)) (cwV 3 hG (goodV gw707 gw708 gw709 gw132 gw710) rfl rfl rfl hd_X4_noteLeft ⟨(Nat.le_of_ble_eq_true rfl), (Nat.le_of_ble_eq_true rfl)⟩) ⟨fbR, va_recv hK hP (ci := 3) (q0 := 3) rfl rfl, pR_in hP hK⟩ rfl rfl hl.1 rfl (lv_room (Nat.le_of_ble_eq_true rfl)) dX8_alike_118 ⟨(Nat.le_of_ble_eq_true rfl), (Nat.le_of_ble_eq_true rfl)⟩) hS (fun q hq h => absurd hq (Nat.not_lt.mpr h)) (fun q h => Nat.le_trans hS.1 h) (fun r_55 u_ t_ H54 locs ht hvm hw hB hz1 hk1 hS => ?_)
              subst hw
              have hP := wk hP hk1
              obtain ⟨f56, f57⟩ := hB
              refine lv_icmp_eq (tgt := 127) hx hb dX8_alike_121 (by decide) (fun c_58 => ?_) (fun c_58 => ?_)
              · skip
                have f59 : r_49.toInt = r_55.toInt := qi_eq c_58 rfl rfl
                refine lv_iload hx hb dX8_alike_127 (lv_at hl 7 rfl) ?_
                refine lv_istore (lv' := [(5, .int y61_6), (7, .int r_49), (0, .ref (r 0)), (1, .int p0), (2, .int p1), (3, .int r_26), (4, .int r_34), (6, .int y61_6)]) hx hb dX8_alike_129 hl (by decide) rfl (fun ls hl => ?_)
                obtain ⟨x60, ex60⟩ : ∃ y : Int32, y = y61_6 + Int32.ofInt 1 := ⟨_, rfl⟩
                have f61 : x60.toInt = y61_6.toInt + 1 := (ox_13 (qi_add ex60 rfl (by decide) (ox_478 g61_2) (ox_525 g61_3)))
                refine lv_iinc (v := x60) (lv' := [(6, .int x60), (5, .int y61_6), (7, .int r_49), (0, .ref (r 0)), (1, .int p0), (2, .int p1), (3, .int r_26), (4, .int r_34)]) hx hb dX8_alike_131 hl (k := 7) rfl ex60.symm (by decide) rfl (fun ls hl => ?_)
                refine lv_goto (tgt := 61) hx hb dX8_alike_134 (by decide) ?_
                exact ih61 y61_6 x60 H54 _ _ (ox_477 g61_2) (ox_526 f28 f42) (ox_481 g61_2 f61) (ox_527 f28 f42 f61) hP hS (lv_sub hl [3, 4, 5, 6, 7, 1, 0] rfl) (ox_528 hM61 f61)
              · skip
                have f62 : r_49.toInt ≠ r_55.toInt := qi_ne c_58 rfl rfl
                refine lv_goto (tgt := 137) hx hb dX8_alike_124 (by decide) ?_
                refine lv_iload hx hb dX8_alike_137 (lv_at hl 6 rfl) ?_
                rw [hQ]
                exact W.iret (v := y61_5) hx hb hr (fun t ht hW => ⟨⟨y61_5, y61_5, rfl, rfl, trivial⟩, hS.F ht⟩) hS.2.2 dX8_alike_139
      exact L61 (-1 * (1 : Int32).toInt + 9 + 1).toNat 0 1 H33 _ _ (ox_27 zc_0) (ox_205 zc_0) (ox_484 zc_1) (ox_529 zc_1) hP hS (lv_sub hl [4, 5, 6, 3, 2, 1, 0] rfl) (mlt (ox_530 zc_1))
    · skip
      have f63 : r_14.toInt = 0 := qi_eq c_18 rfl zc_0
      refine lv_iconst (v := (-1)) hx hb dX8_alike_16 (by decide) ?_
      rw [hQ]
      exact W.iret (v := (-1)) hx hb hr (fun t ht hW => ⟨⟨(-1), (-1), rfl, rfl, trivial⟩, hS.F ht⟩) hS.2.2 dX8_alike_17
