set_option maxHeartbeats 4000000 in
set_option maxRecDepth 100000 in
theorem kX8_law (l : Launch) (dC : Nat → ClassId) (dI : Nat → Nat → Nat) (r : Nat → Nat) (ct : Nat → ClassId) (i_tapeLength i_time i_lyingCount i_rd_fault i_rd_token i_rd_kind i_sc_count i_sc_at i_A_tunes i_A_houses i_fA_length i_B_tunes i_B_houses i_fB_length i_acts_done i_acts_undone i_kn_count : Int32) (f_boxes f_boxKept f_trial f_offers f_A_noteCounts f_A_notes f_B_noteCounts f_B_notes f_now_where f_now_worn f_ahead_where f_ahead_worn f_acts_rows f_kn_tunes f_kn_noteTimes : Nat → Int32) (J : Nat → Nat → Int32) (L : Nat → Nat → Int64) (p0 p1 : Int32) (sz : Nat) (hI : (IX i_tapeLength i_time i_lyingCount i_rd_token i_sc_count i_sc_at i_A_tunes i_A_houses i_fA_length i_B_tunes i_B_houses i_fB_length i_acts_done i_acts_undone i_kn_count f_boxes f_A_noteCounts f_A_notes f_B_noteCounts f_B_notes f_now_worn f_ahead_worn f_acts_rows f_kn_tunes)) : Met l yX8_law (.code yX8_law cX8_law 3 (some .int) :: GW) { frames := 14, cells := 0, slots := 0, locals := 491 } (va_Pc [.ref (r 0), .int p0, .int p1] (pW (dC, dI) (WX r ct i_tapeLength i_time i_lyingCount i_rd_fault i_rd_token i_rd_kind i_sc_count i_sc_at i_A_tunes i_A_houses i_fA_length i_B_tunes i_B_houses i_fB_length i_acts_done i_acts_undone i_kn_count f_boxes f_boxKept f_trial f_offers f_A_noteCounts f_A_notes f_B_noteCounts f_B_notes f_now_where f_now_worn f_ahead_where f_ahead_worn f_acts_rows f_kn_tunes f_kn_noteTimes J L) (TX ct) sz)) (va_Qi (fun (r0 : Int32) (u : Int32) => r0 = u) (fun (u : Int32) (t : State) => ∃ (n_J : Nat → Nat → Int32), va_P (dC, dI) vwCl (WX r ct i_tapeLength i_time i_lyingCount i_rd_fault i_rd_token i_rd_kind i_sc_count i_sc_at i_A_tunes i_A_houses i_fA_length i_B_tunes i_B_houses i_fB_length i_acts_done i_acts_undone i_kn_count f_boxes f_boxKept f_trial f_offers f_A_noteCounts f_A_notes f_B_noteCounts f_B_notes f_now_where f_now_worn f_ahead_where f_ahead_worn f_acts_rows f_kn_tunes f_kn_noteTimes n_J L) t.heap ∧ va_D (va_A (WX r ct i_tapeLength i_time i_lyingCount i_rd_fault i_rd_token i_rd_kind i_sc_count i_sc_at i_A_tunes i_A_houses i_fA_length i_B_tunes i_B_houses i_fB_length i_acts_done i_acts_undone i_kn_count f_boxes f_boxKept f_trial f_offers f_A_noteCounts f_A_notes f_B_noteCounts f_B_notes f_now_where f_now_worn f_ahead_where f_ahead_worn f_acts_rows f_kn_tunes f_kn_noteTimes J L) sz) (WX r ct i_tapeLength i_time i_lyingCount i_rd_fault i_rd_token i_rd_kind i_sc_count i_sc_at i_A_tunes i_A_houses i_fA_length i_B_tunes i_B_houses i_fB_length i_acts_done i_acts_undone i_kn_count f_boxes f_boxKept f_trial f_offers f_A_noteCounts f_A_notes f_B_noteCounts f_B_notes f_now_where f_now_worn f_ahead_where f_ahead_worn f_acts_rows f_kn_tunes f_kn_noteTimes n_J L) ∧ (IX i_tapeLength i_time i_lyingCount i_rd_token i_sc_count i_sc_at i_A_tunes i_A_houses i_fA_length i_B_tunes i_B_houses i_fB_length i_acts_done i_acts_undone i_kn_count f_boxes f_A_noteCounts f_A_notes f_B_noteCounts f_B_notes f_now_worn f_ahead_worn f_acts_rows f_kn_tunes)) (va_A (WX r ct i_tapeLength i_time i_lyingCount i_rd_fault i_rd_token i_rd_kind i_sc_count i_sc_at i_A_tunes i_A_houses i_fA_length i_B_tunes i_B_houses i_fB_length i_acts_done i_acts_undone i_kn_count f_boxes f_boxKept f_trial f_offers f_A_noteCounts f_A_notes f_B_noteCounts f_B_notes f_now_where f_now_worn f_ahead_where f_ahead_worn f_acts_rows f_kn_tunes f_kn_noteTimes J L) sz)) 0 0 (va_A (WX r ct i_tapeLength i_time i_lyingCount i_rd_fault i_rd_token i_rd_kind i_sc_count i_sc_at i_A_tunes i_A_houses i_fA_length i_B_tunes i_B_houses i_fB_length i_acts_done i_acts_undone i_kn_count f_boxes f_boxKept f_trial f_offers f_A_noteCounts f_A_notes f_B_noteCounts f_B_notes f_now_where f_now_worn f_ahead_where f_ahead_worn f_acts_rows f_kn_tunes f_kn_noteTimes J L) sz) := by
  refine Met.ofW (cc := cX8_law) (maxL := 3) (ret := (some .int)) (by decide) rfl ?_
  intro p e s m args below meth c0 s₁ B hml hv
  obtain ⟨rfl, hsz, hP, hK, hD0⟩ := hv
  have hx := B.exec
  have hb := B.bytes
  have hr := B.returns
  have hts := atoms_spec (ws := .code yX8_law cX8_law 3 (some .int) :: GW) B.pre
  have hG : ∀ w ∈ GW, w.before _ s = true := fun w h => hts w (List.mem_cons_of_mem _ h)
  have hown : s.vm.findClass RX8 = some m.cls := findClass_of_methodNamed B.named
  subst hsz
  have hD := hD0.self (sz := s.heap.size)
  generalize hAe : va_A (WX r ct i_tapeLength i_time i_lyingCount i_rd_fault i_rd_token i_rd_kind i_sc_count i_sc_at i_A_tunes i_A_houses i_fA_length i_B_tunes i_B_houses i_fB_length i_acts_done i_acts_undone i_kn_count f_boxes f_boxKept f_trial f_offers f_A_noteCounts f_A_notes f_B_noteCounts f_B_notes f_now_where f_now_worn f_ahead_where f_ahead_worn f_acts_rows f_kn_tunes f_kn_noteTimes J L) s.heap.size = A at hD ⊢
  have hA : ∀ q : Nat, s.heap.size ≤ q → A q := fun q h => by rw [← hAe]; exact Or.inr h
  have hS : va_S A s.heap s.heap [] := va_S.rf
  have hP : va_P (dC, dI) vwCl (WX r ct i_tapeLength i_time i_lyingCount i_rd_fault i_rd_token i_rd_kind i_sc_count i_sc_at i_A_tunes i_A_houses i_fA_length i_B_tunes i_B_houses i_fB_length i_acts_done i_acts_undone i_kn_count f_boxes f_boxKept f_trial f_offers f_A_noteCounts f_A_notes f_B_noteCounts f_B_notes f_now_where f_now_worn f_ahead_where f_ahead_worn f_acts_rows f_kn_tunes f_kn_noteTimes J L) s.heap := hP
  have hl := lv_entry ([.ref (r 0), .int p0, .int p1]) (n := 3) (Nat.le_of_ble_eq_true rfl)
  rw [lg_entry_eq]
  generalize (lg_sl ([.ref (r 0), .int p0, .int p1]) ++ List.replicate (3 - (lg_sl ([.ref (r 0), .int p0, .int p1])).length) Slot.unset).toArray = ls at hl ⊢
  have hl : lv_has ls 3 [(0, .ref (r 0)), (1, .int p0), (2, .int p1)] := hl
  refine nameQ (fun Q hQ => ?_)
  obtain ⟨ie0, ie1, ie2, ie3, ie4, ie5, ie6, ie7, ie8, ie9, ie10, ie11, ie12, ie13, ie14, ie15, ie16, ie17, ie18, ie19, ie20, ie21, ie22, ie23, ie24, ie25, ie26, ie27, ie28, ie29, ie30, ie31, ie32, ie33, ie34, ie35, ie36, ie37, ie38, ie39⟩ := id hI
  refine lv_aload_n hx hb dX8_law_0 rfl (lv_at hl 0 rfl) ?_
  refine lv_iload_n hx hb dX8_law_1 rfl (lv_at hl 1 rfl) ?_
  refine va_calli (va_runV (As := [.int p0]) (rest := []) ⟨hx, hb, hml, hown, hG⟩ (kX8_isHouse l dC dI r ct i_tapeLength i_time i_lyingCount i_rd_fault i_rd_token i_rd_kind i_sc_count i_sc_at i_A_tunes i_A_houses i_fA_length i_B_tunes i_B_houses i_fB_length i_acts_done i_acts_undone i_kn_count f_boxes f_boxKept f_trial f_offers f_A_noteCounts f_A_notes f_B_noteCounts f_B_notes f_now_where f_now_worn f_ahead_where f_ahead_worn f_acts_rows f_kn_tunes f_kn_noteTimes J L p0 s.heap.size hI) (cwV 1 hG (goodV gw716 gw718 gw21 gw129 gw719) rfl rfl rfl hd_X8_isHouse ⟨(Nat.le_of_ble_eq_true rfl), (Nat.le_of_ble_eq_true rfl)⟩) ⟨fbR, va_recv hK hP (ci := 7) (q0 := 0) rfl rfl, pR_in hP hK⟩ rfl rfl hl.1 rfl (lv_room (Nat.le_of_ble_eq_true rfl)) dX8_law_2 ⟨(Nat.le_of_ble_eq_true rfl), (Nat.le_of_ble_eq_true rfl)⟩) hS (fun q hq h => absurd hq (Nat.not_lt.mpr h)) (fun q h => hA q (Nat.le_trans hS.1 h)) (fun r_2 u_ t_ H1 locs ht hvm hw hB hz1 hk1 hS => ?_)
  subst hw
  have hP := wk hP hk1
  obtain ⟨f3, f4, f5⟩ := hB
  refine lv_if_eq (tgt := 19) hx hb dX8_law_5 (by decide) (fun c_6 => ?_) (fun c_6 => ?_)
  · skip
    have f7 : r_2.toInt = 0 := qi_eq c_6 rfl zc_0
    refine lv_iconst (v := (-1)) hx hb dX8_law_19 (by decide) ?_
    rw [hQ]
    exact W.iret (v := (-1)) hx hb hr (fun t ht hW => ⟨⟨(-1), (-1), rfl, rfl, ⟨J, by rw [ht]; exact hP, hD, hI⟩⟩, hS.F ht⟩) hS.2.2 dX8_law_20
  · skip
    have f8 : r_2.toInt ≠ 0 := qi_ne c_6 rfl zc_0
    have f9 : (0 : Int) ≤ p0.toInt := (ox_50 f3 f8)
    have f10 : p0.toInt + 1 ≤ i_A_houses.toInt := (ox_51 f3 f8)
    have f11 : r_2.toInt = (1 : Int) := (ox_52 f3 f8)
    have f12 : (1 : Int) ≤ r_2.toInt := (ox_53 f4 f5 f11)
    refine lv_iload_n hx hb dX8_law_8 rfl (lv_at hl 2 rfl) ?_
    refine lv_if_lt (tgt := 19) hx hb dX8_law_9 (by decide) (fun c_13 => ?_) (fun c_13 => ?_)
    · skip
      have f14 : p1.toInt < 0 := qi_lt c_13 rfl zc_0
      refine lv_iconst (v := (-1)) hx hb dX8_law_19 (by decide) ?_
      rw [hQ]
      exact W.iret (v := (-1)) hx hb hr (fun t ht hW => ⟨⟨(-1), (-1), rfl, rfl, ⟨J, by rw [ht]; exact hP, hD, hI⟩⟩, hS.F ht⟩) hS.2.2 dX8_law_20
    · skip
      have f15 : 0 ≤ p1.toInt := qi_nlt c_13 rfl zc_0
      refine lv_iload_n hx hb dX8_law_12 rfl (lv_at hl 2 rfl) ?_
      refine lv_sipush (v := 999) hx hb dX8_law_13 (by decide) ?_
      refine lv_icmp_le (tgt := 21) hx hb dX8_law_16 (by decide) (fun c_16 => ?_) (fun c_16 => ?_)
      · skip
        have f17 : p1.toInt ≤ 999 := qi_le c_16 rfl zc_999
        refine lv_aload_n hx hb dX8_law_21 rfl (lv_at hl 0 rfl) ?_
        refine lv_iload_n hx hb dX8_law_22 rfl (lv_at hl 1 rfl) ?_
        refine lv_iload_n hx hb dX8_law_23 rfl (lv_at hl 2 rfl) ?_
        have hFc := frA hD hS hA
        refine va_calli (va_runV (As := [.int p0, .int p1]) (rest := []) ⟨hx, hb, hml, hown, hG⟩ (kX8_takenWith l dC dI r ct i_tapeLength i_time i_lyingCount i_rd_fault i_rd_token i_rd_kind i_sc_count i_sc_at i_A_tunes i_A_houses i_fA_length i_B_tunes i_B_houses i_fB_length i_acts_done i_acts_undone i_kn_count f_boxes f_boxKept f_trial f_offers f_A_noteCounts f_A_notes f_B_noteCounts f_B_notes f_now_where f_now_worn f_ahead_where f_ahead_worn f_acts_rows f_kn_tunes f_kn_noteTimes J L p0 p1 H1.size hI (ox_54 f9 f10) (ox_55 f10)) (cwV 2 hG (goodV gw865 gw867 gw28 gw129 gw868) rfl rfl rfl hd_X8_takenWith ⟨(Nat.le_of_ble_eq_true rfl), (Nat.le_of_ble_eq_true rfl)⟩) ⟨fbW, va_recv hK hP (ci := 7) (q0 := 0) rfl rfl, pW_in hP hK hD⟩ rfl rfl hl.1 rfl (lv_room (Nat.le_of_ble_eq_true rfl)) dX8_law_24 ⟨(Nat.le_of_ble_eq_true rfl), (Nat.le_of_ble_eq_true rfl)⟩) hS (fun q _ h => hFc q h) hFc (fun r_19 u_ t_ H18 locs ht hvm hw hB hz1 hk1 hS => ?_)
        subst hw
        obtain ⟨J20, hP1, hD1, hI21⟩ := hB
        rw [ht] at hP1
        have hP := hP1
        have hD := dW hFc hD1
        obtain ⟨im22, im23, im24, im25, im26, im27, im28, im29, im30, im31, im32, im33, im34, im35, im36, im37, im38, im39, im40, im41, im42, im43, im44, im45, im46, im47, im48, im49, im50, im51, im52, im53, im54, im55, im56, im57, im58, im59, im60, im61⟩ := id hI21
        refine va_calli (va_runS (As := [.int r_19]) (rest := []) ⟨hx, hb, hml, hown, hG⟩ (kJ6_bitCount_0f7a4 l dC dI r_19 H18.size) (va_cwS 1 hG (goodS gw877 gw878 gw145 gw879) rfl rfl rfl hd_J6_bitCount_0f7a4 ⟨(Nat.le_of_ble_eq_true rfl), (Nat.le_of_ble_eq_true rfl)⟩) ⟨fbR, pR_in emptyP (emptyK hK)⟩ rfl rfl hl.1 rfl (lv_room (Nat.le_of_ble_eq_true rfl)) dX8_law_27 ⟨(Nat.le_of_ble_eq_true rfl), (Nat.le_of_ble_eq_true rfl)⟩) hS (fun q hq h => absurd hq (Nat.not_lt.mpr h)) (fun q h => hA q (Nat.le_trans hS.1 h)) (fun r_63 u_ t_ H62 locs ht hvm hw hB hz1 hk1 hS => ?_)
        subst hw
        have hP := wk hP hk1
        rw [hQ]
        exact W.iret (v := r_63) hx hb hr (fun t ht hW => ⟨⟨r_63, r_63, rfl, rfl, ⟨J20, by rw [ht]; exact hP, hD, hI21⟩⟩, hS.F ht⟩) hS.2.2 dX8_law_30
      · skip
        have f64 : 999 < p1.toInt := qi_nle c_16 rfl zc_999
        refine lv_iconst (v := (-1)) hx hb dX8_law_19 (by decide) ?_
        rw [hQ]
        exact W.iret (v := (-1)) hx hb hr (fun t ht hW => ⟨⟨(-1), (-1), rfl, rfl, ⟨J, by rw [ht]; exact hP, hD, hI⟩⟩, hS.F ht⟩) hS.2.2 dX8_law_20
set_option maxHeartbeats 4000000 in
set_option maxRecDepth 100000 in
theorem kX8_favourite (l : Launch) (dC : Nat → ClassId) (dI : Nat → Nat → Nat) (r : Nat → Nat) (ct : Nat → ClassId) (i_tapeLength i_time i_lyingCount i_rd_fault i_rd_token i_rd_kind i_sc_count i_sc_at i_A_tunes i_A_houses i_fA_length i_B_tunes i_B_houses i_fB_length i_acts_done i_acts_undone i_kn_count : Int32) (f_boxes f_boxKept f_trial f_offers f_A_noteCounts f_A_notes f_B_noteCounts f_B_notes f_now_where f_now_worn f_ahead_where f_ahead_worn f_acts_rows f_kn_tunes f_kn_noteTimes : Nat → Int32) (J : Nat → Nat → Int32) (L : Nat → Nat → Int64) (sz : Nat) (hI : (IX i_tapeLength i_time i_lyingCount i_rd_token i_sc_count i_sc_at i_A_tunes i_A_houses i_fA_length i_B_tunes i_B_houses i_fB_length i_acts_done i_acts_undone i_kn_count f_boxes f_A_noteCounts f_A_notes f_B_noteCounts f_B_notes f_now_worn f_ahead_worn f_acts_rows f_kn_tunes)) : Met l yX8_favourite (.code yX8_favourite cX8_favourite 6 (some .int) :: GW) { frames := 12, cells := 0, slots := 0, locals := 427 } (va_Pc [.ref (r 0)] (pW (dC, dI) (WX r ct i_tapeLength i_time i_lyingCount i_rd_fault i_rd_token i_rd_kind i_sc_count i_sc_at i_A_tunes i_A_houses i_fA_length i_B_tunes i_B_houses i_fB_length i_acts_done i_acts_undone i_kn_count f_boxes f_boxKept f_trial f_offers f_A_noteCounts f_A_notes f_B_noteCounts f_B_notes f_now_where f_now_worn f_ahead_where f_ahead_worn f_acts_rows f_kn_tunes f_kn_noteTimes J L) (TX ct) sz)) (va_Qi (fun (r0 : Int32) (u : Int32) => r0 = u) (fun (u : Int32) (t : State) => ∃ (n_J : Nat → Nat → Int32), va_P (dC, dI) vwCl (WX r ct i_tapeLength i_time i_lyingCount i_rd_fault i_rd_token i_rd_kind i_sc_count i_sc_at i_A_tunes i_A_houses i_fA_length i_B_tunes i_B_houses i_fB_length i_acts_done i_acts_undone i_kn_count f_boxes f_boxKept f_trial f_offers f_A_noteCounts f_A_notes f_B_noteCounts f_B_notes f_now_where f_now_worn f_ahead_where f_ahead_worn f_acts_rows f_kn_tunes f_kn_noteTimes n_J L) t.heap ∧ va_D (va_A (WX r ct i_tapeLength i_time i_lyingCount i_rd_fault i_rd_token i_rd_kind i_sc_count i_sc_at i_A_tunes i_A_houses i_fA_length i_B_tunes i_B_houses i_fB_length i_acts_done i_acts_undone i_kn_count f_boxes f_boxKept f_trial f_offers f_A_noteCounts f_A_notes f_B_noteCounts f_B_notes f_now_where f_now_worn f_ahead_where f_ahead_worn f_acts_rows f_kn_tunes f_kn_noteTimes J L) sz) (WX r ct i_tapeLength i_time i_lyingCount i_rd_fault i_rd_token i_rd_kind i_sc_count i_sc_at i_A_tunes i_A_houses i_fA_length i_B_tunes i_B_houses i_fB_length i_acts_done i_acts_undone i_kn_count f_boxes f_boxKept f_trial f_offers f_A_noteCounts f_A_notes f_B_noteCounts f_B_notes f_now_where f_now_worn f_ahead_where f_ahead_worn f_acts_rows f_kn_tunes f_kn_noteTimes n_J L) ∧ (IX i_tapeLength i_time i_lyingCount i_rd_token i_sc_count i_sc_at i_A_tunes i_A_houses i_fA_length i_B_tunes i_B_houses i_fB_length i_acts_done i_acts_undone i_kn_count f_boxes f_A_noteCounts f_A_notes f_B_noteCounts f_B_notes f_now_worn f_ahead_worn f_acts_rows f_kn_tunes)) (va_A (WX r ct i_tapeLength i_time i_lyingCount i_rd_fault i_rd_token i_rd_kind i_sc_count i_sc_at i_A_tunes i_A_houses i_fA_length i_B_tunes i_B_houses i_fB_length i_acts_done i_acts_undone i_kn_count f_boxes f_boxKept f_trial f_offers f_A_noteCounts f_A_notes f_B_noteCounts f_B_notes f_now_where f_now_worn f_ahead_where f_ahead_worn f_acts_rows f_kn_tunes f_kn_noteTimes J L) sz)) 0 0 (va_A (WX r ct i_tapeLength i_time i_lyingCount i_rd_fault i_rd_token i_rd_kind i_sc_count i_sc_at i_A_tunes i_A_houses i_fA_length i_B_tunes i_B_houses i_fB_length i_acts_done i_acts_undone i_kn_count f_boxes f_boxKept f_trial f_offers f_A_noteCounts f_A_notes f_B_noteCounts f_B_notes f_now_where f_now_worn f_ahead_where f_ahead_worn f_acts_rows f_kn_tunes f_kn_noteTimes J L) sz) := by
  refine Met.ofW (cc := cX8_favourite) (maxL := 6) (ret := (some .int)) (by decide) rfl ?_
  intro p e s m args below meth c0 s₁ B hml hv
  obtain ⟨rfl, hsz, hP, hK, hD0⟩ := hv
  have hx := B.exec
  have hb := B.bytes
  have hr := B.returns
  have hts := atoms_spec (ws := .code yX8_favourite cX8_favourite 6 (some .int) :: GW) B.pre
  have hG : ∀ w ∈ GW, w.before _ s = true := fun w h => hts w (List.mem_cons_of_mem _ h)
  have hown : s.vm.findClass RX8 = some m.cls := findClass_of_methodNamed B.named
  subst hsz
  have hD := hD0.self (sz := s.heap.size)
  generalize hAe : va_A (WX r ct i_tapeLength i_time i_lyingCount i_rd_fault i_rd_token i_rd_kind i_sc_count i_sc_at i_A_tunes i_A_houses i_fA_length i_B_tunes i_B_houses i_fB_length i_acts_done i_acts_undone i_kn_count f_boxes f_boxKept f_trial f_offers f_A_noteCounts f_A_notes f_B_noteCounts f_B_notes f_now_where f_now_worn f_ahead_where f_ahead_worn f_acts_rows f_kn_tunes f_kn_noteTimes J L) s.heap.size = A at hD ⊢
  have hA : ∀ q : Nat, s.heap.size ≤ q → A q := fun q h => by rw [← hAe]; exact Or.inr h
  have hS : va_S A s.heap s.heap [] := va_S.rf
  have hP : va_P (dC, dI) vwCl (WX r ct i_tapeLength i_time i_lyingCount i_rd_fault i_rd_token i_rd_kind i_sc_count i_sc_at i_A_tunes i_A_houses i_fA_length i_B_tunes i_B_houses i_fB_length i_acts_done i_acts_undone i_kn_count f_boxes f_boxKept f_trial f_offers f_A_noteCounts f_A_notes f_B_noteCounts f_B_notes f_now_where f_now_worn f_ahead_where f_ahead_worn f_acts_rows f_kn_tunes f_kn_noteTimes J L) s.heap := hP
  have hl := lv_entry ([.ref (r 0)]) (n := 6) (Nat.le_of_ble_eq_true rfl)
  rw [lg_entry_eq]
  generalize (lg_sl ([.ref (r 0)]) ++ List.replicate (6 - (lg_sl ([.ref (r 0)])).length) Slot.unset).toArray = ls at hl ⊢
  have hl : lv_has ls 6 [(0, .ref (r 0))] := hl
  refine nameQ (fun Q hQ => ?_)
  obtain ⟨ie0, ie1, ie2, ie3, ie4, ie5, ie6, ie7, ie8, ie9, ie10, ie11, ie12, ie13, ie14, ie15, ie16, ie17, ie18, ie19, ie20, ie21, ie22, ie23, ie24, ie25, ie26, ie27, ie28, ie29, ie30, ie31, ie32, ie33, ie34, ie35, ie36, ie37, ie38, ie39⟩ := id hI
  refine lv_iconst (v := (-1)) hx hb dX8_favourite_0 (by decide) ?_
  refine lv_istore_n (lv' := [(1, .int (-1)), (0, .ref (r 0))]) hx hb dX8_favourite_1 rfl hl (by decide) rfl (fun ls hl => ?_)
  refine lv_iconst (v := (-1)) hx hb dX8_favourite_2 (by decide) ?_
  refine lv_istore_n (lv' := [(2, .int (-1)), (1, .int (-1)), (0, .ref (r 0))]) hx hb dX8_favourite_3 rfl hl (by decide) rfl (fun ls hl => ?_)
  refine lv_iconst (v := 0) hx hb dX8_favourite_4 (by decide) ?_
  refine lv_istore_n (lv' := [(3, .int 0), (2, .int (-1)), (1, .int (-1)), (0, .ref (r 0))]) hx hb dX8_favourite_5 rfl hl (by decide) rfl (fun ls hl => ?_)
  have L6 : ∀ (N6 : Nat) (y6_1 y6_2 y6_3 : Int32) (m6_J : Nat → Nat → Int32) (H6 : Heap) (locs : List Loc) (ls : Array Slot) (g6_0 : (0 : Int) ≤ y6_1.toInt + 1) (g6_1 : y6_1.toInt ≤ (1048576 : Int)) (g6_2 : (0 : Int) ≤ y6_2.toInt + 1) (g6_3 : (0 : Int) ≤ y6_3.toInt) (g6_4 : y6_3.toInt ≤ (5 : Int)) (hP : va_P (dC, dI) vwCl (WX r ct i_tapeLength i_time i_lyingCount i_rd_fault i_rd_token i_rd_kind i_sc_count i_sc_at i_A_tunes i_A_houses i_fA_length i_B_tunes i_B_houses i_fB_length i_acts_done i_acts_undone i_kn_count f_boxes f_boxKept f_trial f_offers f_A_noteCounts f_A_notes f_B_noteCounts f_B_notes f_now_where f_now_worn f_ahead_where f_ahead_worn f_acts_rows f_kn_tunes f_kn_noteTimes m6_J L) H6) (hD : va_D A (WX r ct i_tapeLength i_time i_lyingCount i_rd_fault i_rd_token i_rd_kind i_sc_count i_sc_at i_A_tunes i_A_houses i_fA_length i_B_tunes i_B_houses i_fB_length i_acts_done i_acts_undone i_kn_count f_boxes f_boxKept f_trial f_offers f_A_noteCounts f_A_notes f_B_noteCounts f_B_notes f_now_where f_now_worn f_ahead_where f_ahead_worn f_acts_rows f_kn_tunes f_kn_noteTimes m6_J L)) (hS : va_S A s.heap H6 locs) (hl : lv_has ls 6 [(0, .ref (r 0)), (1, .int y6_1), (2, .int y6_2), (3, .int y6_3)]) (hM : -1 * y6_3.toInt + 5 < (N6 : Int)), W p l e { frames := 12, cells := 0, slots := 0, locals := 427 } s m ([.ref (r 0)] : List Value).toArray below meth c0 H6 locs 0 0 Q (F0 m 6 ls []) := by
    intro N6
    induction N6 with
    | zero =>
      intro y6_1 y6_2 y6_3 m6_J H6 locs ls g6_0 g6_1 g6_2 g6_3 g6_4 hP hD hS hl hM
      exact ((ox_82 hM g6_3 g6_4)).elim
    | succ N6 ih6 =>
      intro y6_1 y6_2 y6_3 m6_J H6 locs ls g6_0 g6_1 g6_2 g6_3 g6_4 hP hD hS hl hM
      have hM6 := msucc hM
      refine lv_iload_n hx hb dX8_favourite_6 rfl (lv_at hl 3 rfl) ?_
      refine lv_aload_n hx hb dX8_favourite_7 rfl (lv_at hl 0 rfl) ?_
      refine gX_X8_23_0 hx hb hG hown hK hP dX8_favourite_8 ?_
      refine gX_X8_108_3 hx hb hG hown hK hP dX8_favourite_11 ?_
      refine lv_icmp_ge (tgt := 81) hx hb dX8_favourite_14 (by decide) (fun c_1 => ?_) (fun c_1 => ?_)
      · skip
        have f2 : i_A_tunes.toInt ≤ y6_3.toInt := qi_le c_1 rfl rfl
        refine lv_iload_n hx hb dX8_favourite_81 rfl (lv_at hl 1 rfl) ?_
        rw [hQ]
        exact W.iret (v := y6_1) hx hb hr (fun t ht hW => ⟨⟨y6_1, y6_1, rfl, rfl, ⟨m6_J, by rw [ht]; exact hP, hD, hI⟩⟩, hS.F ht⟩) hS.2.2 dX8_favourite_82
      · skip
        have f3 : y6_3.toInt < i_A_tunes.toInt := qi_nle c_1 rfl rfl
        refine lv_iconst (v := 0) hx hb dX8_favourite_17 (by decide) ?_
        refine lv_istore (lv' := [(4, .int 0), (0, .ref (r 0)), (1, .int y6_1), (2, .int y6_2), (3, .int y6_3)]) hx hb dX8_favourite_18 hl (by decide) rfl (fun ls hl => ?_)
        refine lv_iconst (v := 0) hx hb dX8_favourite_20 (by decide) ?_
        refine lv_istore (lv' := [(5, .int 0), (4, .int 0), (0, .ref (r 0)), (1, .int y6_1), (2, .int y6_2), (3, .int y6_3)]) hx hb dX8_favourite_21 hl (by decide) rfl (fun ls hl => ?_)
        have L23 : ∀ (N23 : Nat) (y23_4 y23_5 : Int32) (m23_J : Nat → Nat → Int32) (H23 : Heap) (locs : List Loc) (ls : Array Slot) (g23_0 : (0 : Int) ≤ y23_5.toInt) (g23_1 : y23_5.toInt ≤ (4 : Int)) (hP : va_P (dC, dI) vwCl (WX r ct i_tapeLength i_time i_lyingCount i_rd_fault i_rd_token i_rd_kind i_sc_count i_sc_at i_A_tunes i_A_houses i_fA_length i_B_tunes i_B_houses i_fB_length i_acts_done i_acts_undone i_kn_count f_boxes f_boxKept f_trial f_offers f_A_noteCounts f_A_notes f_B_noteCounts f_B_notes f_now_where f_now_worn f_ahead_where f_ahead_worn f_acts_rows f_kn_tunes f_kn_noteTimes m23_J L) H23) (hD : va_D A (WX r ct i_tapeLength i_time i_lyingCount i_rd_fault i_rd_token i_rd_kind i_sc_count i_sc_at i_A_tunes i_A_houses i_fA_length i_B_tunes i_B_houses i_fB_length i_acts_done i_acts_undone i_kn_count f_boxes f_boxKept f_trial f_offers f_A_noteCounts f_A_notes f_B_noteCounts f_B_notes f_now_where f_now_worn f_ahead_where f_ahead_worn f_acts_rows f_kn_tunes f_kn_noteTimes m23_J L)) (hS : va_S A s.heap H23 locs) (hl : lv_has ls 6 [(0, .ref (r 0)), (1, .int y6_1), (2, .int y6_2), (3, .int y6_3), (4, .int y23_4), (5, .int y23_5)]) (hM : -1 * y23_5.toInt + 4 < (N23 : Int)), W p l e { frames := 12, cells := 0, slots := 0, locals := 427 } s m ([.ref (r 0)] : List Value).toArray below meth c0 H23 locs 0 0 Q (F0 m 23 ls []) := by
          intro N23
          induction N23 with
          | zero =>
            intro y23_4 y23_5 m23_J H23 locs ls g23_0 g23_1 hP hD hS hl hM
            exact ((ox_218 hM g23_0 g23_1)).elim
          | succ N23 ih23 =>
            intro y23_4 y23_5 m23_J H23 locs ls g23_0 g23_1 hP hD hS hl hM
            have hM23 := msucc hM
            refine lv_iload hx hb dX8_favourite_23 (lv_at hl 5 rfl) ?_
            refine lv_aload_n hx hb dX8_favourite_25 rfl (lv_at hl 0 rfl) ?_
            refine gX_X8_23_0 hx hb hG hown hK hP dX8_favourite_26 ?_
            refine gX_X8_99_3 hx hb hG hown hK hP dX8_favourite_29 ?_
            refine lv_icmp_ge (tgt := 64) hx hb dX8_favourite_32 (by decide) (fun c_4 => ?_) (fun c_4 => ?_)
            · skip
              have f5 : i_A_houses.toInt ≤ y23_5.toInt := qi_le c_4 rfl rfl
              refine lv_iload hx hb dX8_favourite_64 (lv_at hl 4 rfl) ?_
              refine lv_iload_n hx hb dX8_favourite_66 rfl (lv_at hl 2 rfl) ?_
              refine lv_icmp_le (tgt := 75) hx hb dX8_favourite_67 (by decide) (fun c_6 => ?_) (fun c_6 => ?_)
              · skip
                have f7 : y23_4.toInt ≤ y6_2.toInt := qi_le c_6 rfl rfl
                obtain ⟨x8, ex8⟩ : ∃ y : Int32, y = y6_3 + Int32.ofInt 1 := ⟨_, rfl⟩
                have f9 : x8.toInt = y6_3.toInt + 1 := (ox_13 (qi_add ex8 rfl (by decide) (ox_11 g6_3) (ox_87 g6_4)))
                refine lv_iinc (v := x8) (lv' := [(3, .int x8), (0, .ref (r 0)), (1, .int y6_1), (2, .int y6_2), (4, .int y23_4), (5, .int y23_5)]) hx hb dX8_favourite_75 hl (k := 3) rfl ex8.symm (by decide) rfl (fun ls hl => ?_)
                refine lv_goto (tgt := 6) hx hb dX8_favourite_78 (by decide) ?_
                exact ih6 y6_1 y6_2 x8 m23_J H23 _ _ (ox_510 g6_0 g6_1) (ox_511 g6_0 g6_1) (ox_531 g6_2 f7) (ox_14 g6_3 f9) (ox_98 ie13 f3 f9) hP hD hS (lv_sub hl [1, 2, 3, 0] rfl) (ox_89 hM6 f9)
              · skip
                have f10 : y6_2.toInt < y23_4.toInt := qi_nle c_6 rfl rfl
                refine lv_iload hx hb dX8_favourite_70 (lv_at hl 4 rfl) ?_
                refine lv_istore_n (lv' := [(2, .int y23_4), (0, .ref (r 0)), (1, .int y6_1), (3, .int y6_3), (4, .int y23_4), (5, .int y23_5)]) hx hb dX8_favourite_72 rfl hl (by decide) rfl (fun ls hl => ?_)
                refine lv_iload_n hx hb dX8_favourite_73 rfl (lv_at hl 3 rfl) ?_
                refine lv_istore_n (lv' := [(1, .int y6_3), (2, .int y23_4), (0, .ref (r 0)), (3, .int y6_3), (4, .int y23_4), (5, .int y23_5)]) hx hb dX8_favourite_74 rfl hl (by decide) rfl (fun ls hl => ?_)
                obtain ⟨x11, ex11⟩ : ∃ y : Int32, y = y6_3 + Int32.ofInt 1 := ⟨_, rfl⟩
                have f12 : x11.toInt = y6_3.toInt + 1 := (ox_13 (qi_add ex11 rfl (by decide) (ox_11 g6_3) (ox_87 g6_4)))
                refine lv_iinc (v := x11) (lv' := [(3, .int x11), (1, .int y6_3), (2, .int y23_4), (0, .ref (r 0)), (4, .int y23_4), (5, .int y23_5)]) hx hb dX8_favourite_75 hl (k := 3) rfl ex11.symm (by decide) rfl (fun ls hl => ?_)
                refine lv_goto (tgt := 6) hx hb dX8_favourite_78 (by decide) ?_
                exact ih6 y6_3 y23_4 x11 m23_J H23 _ _ (ox_93 g6_3) (ox_532 g6_4) (ox_533 g6_2 f10) (ox_14 g6_3 f12) (ox_98 ie13 f3 f12) hP hD hS (lv_sub hl [3, 1, 2, 0] rfl) (ox_89 hM6 f12)
            · skip
              have f13 : y23_5.toInt < i_A_houses.toInt := qi_nle c_4 rfl rfl
              refine lv_aload_n hx hb dX8_favourite_35 rfl (lv_at hl 0 rfl) ?_
              refine lv_iload hx hb dX8_favourite_36 (lv_at hl 5 rfl) ?_
              refine lv_iload_n hx hb dX8_favourite_38 rfl (lv_at hl 3 rfl) ?_
              refine lv_aload_n hx hb dX8_favourite_39 rfl (lv_at hl 0 rfl) ?_
              refine gX_X8_30_0 hx hb hG hown hK hP dX8_favourite_40 ?_
              refine gX_X8_144_7 hx hb hG hown hK hP dX8_favourite_43 ?_
              refine lv_iload hx hb dX8_favourite_46 (lv_at hl 5 rfl) ?_
              refine ldX_45 (mm := y23_5.toInt) hx hb hK hP rfl (ox_9 g23_0) (ox_376 ie15 f13) dX8_favourite_48 (fun x14 => ?_)
              have hFc := frA hD hS hA
              refine va_calli (va_runV (As := [.int y23_5, .int y6_3, .int x14]) (rest := []) ⟨hx, hb, hml, hown, hG⟩ (kX8_wouldPay l dC dI r ct i_tapeLength i_time i_lyingCount i_rd_fault i_rd_token i_rd_kind i_sc_count i_sc_at i_A_tunes i_A_houses i_fA_length i_B_tunes i_B_houses i_fB_length i_acts_done i_acts_undone i_kn_count f_boxes f_boxKept f_trial f_offers f_A_noteCounts f_A_notes f_B_noteCounts f_B_notes f_now_where f_now_worn f_ahead_where f_ahead_worn f_acts_rows f_kn_tunes f_kn_noteTimes m23_J L y23_5 y6_3 x14 H23.size hI (ox_6 g23_0) (ox_223 f13) (ox_6 g6_3) (ox_223 f3)) (cwV 3 hG (goodV gw869 gw871 gw29 gw129 gw872) rfl rfl rfl hd_X8_wouldPay ⟨(Nat.le_of_ble_eq_true rfl), (Nat.le_of_ble_eq_true rfl)⟩) ⟨fbW, va_recv hK hP (ci := 7) (q0 := 0) rfl rfl, pW_in hP hK hD⟩ rfl rfl hl.1 rfl (lv_room (Nat.le_of_ble_eq_true rfl)) dX8_favourite_49 ⟨(Nat.le_of_ble_eq_true rfl), (Nat.le_of_ble_eq_true rfl)⟩) hS (fun q _ h => hFc q h) hFc (fun r_16 u_ t_ H15 locs ht hvm hw hB hz1 hk1 hS => ?_)
              subst hw
              obtain ⟨J17, hP1, hD1, hI21, f18, f19, f20⟩ := hB
              rw [ht] at hP1
              have hP := hP1
              have hD := dW hFc hD1
              obtain ⟨im22, im23, im24, im25, im26, im27, im28, im29, im30, im31, im32, im33, im34, im35, im36, im37, im38, im39, im40, im41, im42, im43, im44, im45, im46, im47, im48, im49, im50, im51, im52, im53, im54, im55, im56, im57, im58, im59, im60, im61⟩ := id hI21
              refine lv_if_eq (tgt := 58) hx hb dX8_favourite_52 (by decide) (fun c_62 => ?_) (fun c_62 => ?_)
              · skip
                have f63 : r_16.toInt = 0 := qi_eq c_62 rfl zc_0
                have f64 : r_16.toInt = (0 : Int) := (ox_92 f19 f20 f63)
                obtain ⟨x65, ex65⟩ : ∃ y : Int32, y = y23_5 + Int32.ofInt 1 := ⟨_, rfl⟩
                have f66 : x65.toInt = y23_5.toInt + 1 := (ox_13 (qi_add ex65 rfl (by decide) (ox_11 g23_0) (ox_219 g23_1)))
                refine lv_iinc (v := x65) (lv' := [(5, .int x65), (0, .ref (r 0)), (1, .int y6_1), (2, .int y6_2), (3, .int y6_3), (4, .int y23_4)]) hx hb dX8_favourite_58 hl (k := 5) rfl ex65.symm (by decide) rfl (fun ls hl => ?_)
                refine lv_goto (tgt := 23) hx hb dX8_favourite_61 (by decide) ?_
                exact ih23 y23_4 x65 J17 H15 _ _ (ox_14 g23_0 f66) (ox_220 ie15 f13 f66) hP hD hS (lv_sub hl [1, 2, 3, 4, 5, 0] rfl) (ox_221 hM23 f66)
              · skip
                have f67 : r_16.toInt ≠ 0 := qi_ne c_62 rfl zc_0
                have f68 : r_16.toInt = (1 : Int) := (ox_91 f18 f67)
                have f69 : (1 : Int) ≤ r_16.toInt := (ox_53 f19 f20 f68)
                obtain ⟨x70, ex70⟩ : ∃ y : Int32, y = y23_4 + Int32.ofInt 1 := ⟨_, rfl⟩
                have f71 : (-2147483648) ≤ y23_4.toInt ∧ y23_4.toInt ≤ 2147483647 := i32_rg _
                refine lv_iinc (v := x70) (lv' := [(4, .int x70), (0, .ref (r 0)), (1, .int y6_1), (2, .int y6_2), (3, .int y6_3), (5, .int y23_5)]) hx hb dX8_favourite_55 hl (k := 4) rfl ex70.symm (by decide) rfl (fun ls hl => ?_)
                obtain ⟨x72, ex72⟩ : ∃ y : Int32, y = y23_5 + Int32.ofInt 1 := ⟨_, rfl⟩
                have f73 : x72.toInt = y23_5.toInt + 1 := (ox_13 (qi_add ex72 rfl (by decide) (ox_11 g23_0) (ox_219 g23_1)))
                refine lv_iinc (v := x72) (lv' := [(5, .int x72), (4, .int x70), (0, .ref (r 0)), (1, .int y6_1), (2, .int y6_2), (3, .int y6_3)]) hx hb dX8_favourite_58 hl (k := 5) rfl ex72.symm (by decide) rfl (fun ls hl => ?_)
                refine lv_goto (tgt := 23) hx hb dX8_favourite_61 (by decide) ?_
                exact ih23 x70 x72 J17 H15 _ _ (ox_14 g23_0 f73) (ox_220 ie15 f13 f73) hP hD hS (lv_sub hl [2, 3, 4, 5, 1, 0] rfl) (ox_221 hM23 f73)
        exact L23 (-1 * (0 : Int32).toInt + 4 + 1).toNat 0 0 m6_J H6 _ _ (ox_27 zc_0) (ox_224 zc_0) hP hD hS (lv_sub hl [2, 3, 4, 5, 1, 0] rfl) (mlt (ox_225 zc_0))
  exact L6 (-1 * (0 : Int32).toInt + 5 + 1).toNat (-1) (-1) 0 J s.heap _ _ (ox_83 zc_m1) (ox_517 zc_m1) (ox_83 zc_m1) (ox_27 zc_0) (ox_95 zc_0) hP hD hS (lv_sub hl [3, 2, 1, 0] rfl) (mlt (ox_96 zc_0))
set_option maxHeartbeats 4000000 in
set_option maxRecDepth 100000 in
theorem kX8_paidFor (l : Launch) (dC : Nat → ClassId) (dI : Nat → Nat → Nat) (r : Nat → Nat) (ct : Nat → ClassId) (i_tapeLength i_time i_lyingCount i_rd_fault i_rd_token i_rd_kind i_sc_count i_sc_at i_A_tunes i_A_houses i_fA_length i_B_tunes i_B_houses i_fB_length i_acts_done i_acts_undone i_kn_count : Int32) (f_boxes f_boxKept f_trial f_offers f_A_noteCounts f_A_notes f_B_noteCounts f_B_notes f_now_where f_now_worn f_ahead_where f_ahead_worn f_acts_rows f_kn_tunes f_kn_noteTimes : Nat → Int32) (J : Nat → Nat → Int32) (L : Nat → Nat → Int64) (sz : Nat) (hI : (IX i_tapeLength i_time i_lyingCount i_rd_token i_sc_count i_sc_at i_A_tunes i_A_houses i_fA_length i_B_tunes i_B_houses i_fB_length i_acts_done i_acts_undone i_kn_count f_boxes f_A_noteCounts f_A_notes f_B_noteCounts f_B_notes f_now_worn f_ahead_worn f_acts_rows f_kn_tunes)) : Met l yX8_paidFor (.code yX8_paidFor cX8_paidFor 3 (some .int) :: GW) { frames := 6, cells := 0, slots := 0, locals := 224 } (va_Pc [.ref (r 0)] (pR (dC, dI) (WX r ct i_tapeLength i_time i_lyingCount i_rd_fault i_rd_token i_rd_kind i_sc_count i_sc_at i_A_tunes i_A_houses i_fA_length i_B_tunes i_B_houses i_fB_length i_acts_done i_acts_undone i_kn_count f_boxes f_boxKept f_trial f_offers f_A_noteCounts f_A_notes f_B_noteCounts f_B_notes f_now_where f_now_worn f_ahead_where f_ahead_worn f_acts_rows f_kn_tunes f_kn_noteTimes J L) (TX ct) sz)) (va_Qi (fun (r0 : Int32) (u : Int32) => r0 = u) (fun (u : Int32) (t : State) => True) (fun q => sz ≤ q)) 0 0 (fun q => sz ≤ q) := by
  refine Met.ofW (cc := cX8_paidFor) (maxL := 3) (ret := (some .int)) (by decide) rfl ?_
  intro p e s m args below meth c0 s₁ B hml hv
  obtain ⟨rfl, hsz, hP, hK⟩ := hv
  have hx := B.exec
  have hb := B.bytes
  have hr := B.returns
  have hts := atoms_spec (ws := .code yX8_paidFor cX8_paidFor 3 (some .int) :: GW) B.pre
  have hG : ∀ w ∈ GW, w.before _ s = true := fun w h => hts w (List.mem_cons_of_mem _ h)
  have hown : s.vm.findClass RX8 = some m.cls := findClass_of_methodNamed B.named
  subst hsz
  have hS : va_S (fun q => s.heap.size ≤ q) s.heap s.heap [] := va_S.rf
  have hP : va_P (dC, dI) vwCl (WX r ct i_tapeLength i_time i_lyingCount i_rd_fault i_rd_token i_rd_kind i_sc_count i_sc_at i_A_tunes i_A_houses i_fA_length i_B_tunes i_B_houses i_fB_length i_acts_done i_acts_undone i_kn_count f_boxes f_boxKept f_trial f_offers f_A_noteCounts f_A_notes f_B_noteCounts f_B_notes f_now_where f_now_worn f_ahead_where f_ahead_worn f_acts_rows f_kn_tunes f_kn_noteTimes J L) s.heap := hP
  have hl := lv_entry ([.ref (r 0)]) (n := 3) (Nat.le_of_ble_eq_true rfl)
  rw [lg_entry_eq]
  generalize (lg_sl ([.ref (r 0)]) ++ List.replicate (3 - (lg_sl ([.ref (r 0)])).length) Slot.unset).toArray = ls at hl ⊢
  have hl : lv_has ls 3 [(0, .ref (r 0))] := hl
  refine nameQ (fun Q hQ => ?_)
  obtain ⟨ie0, ie1, ie2, ie3, ie4, ie5, ie6, ie7, ie8, ie9, ie10, ie11, ie12, ie13, ie14, ie15, ie16, ie17, ie18, ie19, ie20, ie21, ie22, ie23, ie24, ie25, ie26, ie27, ie28, ie29, ie30, ie31, ie32, ie33, ie34, ie35, ie36, ie37, ie38, ie39⟩ := id hI
  refine lv_iconst (v := 0) hx hb dX8_paidFor_0 (by decide) ?_
  refine lv_istore_n (lv' := [(1, .int 0), (0, .ref (r 0))]) hx hb dX8_paidFor_1 rfl hl (by decide) rfl (fun ls hl => ?_)
  refine lv_iconst (v := 0) hx hb dX8_paidFor_2 (by decide) ?_
  refine lv_istore_n (lv' := [(2, .int 0), (1, .int 0), (0, .ref (r 0))]) hx hb dX8_paidFor_3 rfl hl (by decide) rfl (fun ls hl => ?_)
  have L4 : ∀ (N4 : Nat) (y4_1 y4_2 : Int32) (H4 : Heap) (locs : List Loc) (ls : Array Slot) (g4_0 : (0 : Int) ≤ y4_2.toInt) (g4_1 : y4_2.toInt ≤ (4 : Int)) (hP : va_P (dC, dI) vwCl (WX r ct i_tapeLength i_time i_lyingCount i_rd_fault i_rd_token i_rd_kind i_sc_count i_sc_at i_A_tunes i_A_houses i_fA_length i_B_tunes i_B_houses i_fB_length i_acts_done i_acts_undone i_kn_count f_boxes f_boxKept f_trial f_offers f_A_noteCounts f_A_notes f_B_noteCounts f_B_notes f_now_where f_now_worn f_ahead_where f_ahead_worn f_acts_rows f_kn_tunes f_kn_noteTimes J L) H4) (hS : va_S (fun q => s.heap.size ≤ q) s.heap H4 locs) (hl : lv_has ls 3 [(0, .ref (r 0)), (1, .int y4_1), (2, .int y4_2)]) (hM : -1 * y4_2.toInt + 4 < (N4 : Int)), W p l e { frames := 6, cells := 0, slots := 0, locals := 224 } s m ([.ref (r 0)] : List Value).toArray below meth c0 H4 locs 0 0 Q (F0 m 4 ls []) := by
    intro N4
    induction N4 with
    | zero =>
      intro y4_1 y4_2 H4 locs ls g4_0 g4_1 hP hS hl hM
      exact ((ox_218 hM g4_0 g4_1)).elim
    | succ N4 ih4 =>
      intro y4_1 y4_2 H4 locs ls g4_0 g4_1 hP hS hl hM
      have hM4 := msucc hM
      refine lv_iload_n hx hb dX8_paidFor_4 rfl (lv_at hl 2 rfl) ?_
      refine lv_aload_n hx hb dX8_paidFor_5 rfl (lv_at hl 0 rfl) ?_
      refine gX_X8_23_0 hx hb hG hown hK hP dX8_paidFor_6 ?_
      refine gX_X8_99_3 hx hb hG hown hK hP dX8_paidFor_9 ?_
      refine lv_icmp_ge (tgt := 29) hx hb dX8_paidFor_12 (by decide) (fun c_1 => ?_) (fun c_1 => ?_)
      · skip
        have f2 : i_A_houses.toInt ≤ y4_2.toInt := qi_le c_1 rfl rfl
        refine lv_iload_n hx hb dX8_paidFor_29 rfl (lv_at hl 1 rfl) ?_
        rw [hQ]
        exact W.iret (v := y4_1) hx hb hr (fun t ht hW => ⟨⟨y4_1, y4_1, rfl, rfl, trivial⟩, hS.F ht⟩) hS.2.2 dX8_paidFor_30
      · skip
        have f3 : y4_2.toInt < i_A_houses.toInt := qi_nle c_1 rfl rfl
        refine lv_iload_n hx hb dX8_paidFor_15 rfl (lv_at hl 1 rfl) ?_
        refine lv_aload_n hx hb dX8_paidFor_16 rfl (lv_at hl 0 rfl) ?_
        refine lv_iload_n hx hb dX8_paidFor_17 rfl (lv_at hl 2 rfl) ?_
        refine va_calli (va_runV (As := [.int y4_2]) (rest := [.int y4_1]) ⟨hx, hb, hml, hown, hG⟩ (kX8_paidBy l dC dI r ct i_tapeLength i_time i_lyingCount i_rd_fault i_rd_token i_rd_kind i_sc_count i_sc_at i_A_tunes i_A_houses i_fA_length i_B_tunes i_B_houses i_fB_length i_acts_done i_acts_undone i_kn_count f_boxes f_boxKept f_trial f_offers f_A_noteCounts f_A_notes f_B_noteCounts f_B_notes f_now_where f_now_worn f_ahead_where f_ahead_worn f_acts_rows f_kn_tunes f_kn_noteTimes J L y4_2 H4.size hI) (cwV 1 hG (goodV gw728 gw730 gw22 gw129 gw731) rfl rfl rfl hd_X8_paidBy ⟨(Nat.le_of_ble_eq_true rfl), (Nat.le_of_ble_eq_true rfl)⟩) ⟨fbR, va_recv hK hP (ci := 7) (q0 := 0) rfl rfl, pR_in hP hK⟩ rfl rfl hl.1 rfl (lv_room (Nat.le_of_ble_eq_true rfl)) dX8_paidFor_18 ⟨(Nat.le_of_ble_eq_true rfl), (Nat.le_of_ble_eq_true rfl)⟩) hS (fun q hq h => absurd hq (Nat.not_lt.mpr h)) (fun q h => Nat.le_trans hS.1 h) (fun r_5 u_ t_ H4 locs ht hvm hw hB hz1 hk1 hS => ?_)
        subst hw
        have hP := wk hP hk1
        refine lv_ior hx hb dX8_paidFor_21 ?_
        refine lv_topi (fun x6 ex6 => ?_)
        refine lv_istore_n (lv' := [(1, .int x6), (0, .ref (r 0)), (2, .int y4_2)]) hx hb dX8_paidFor_22 rfl hl (by decide) rfl (fun ls hl => ?_)
        obtain ⟨x7, ex7⟩ : ∃ y : Int32, y = y4_2 + Int32.ofInt 1 := ⟨_, rfl⟩
        have f8 : x7.toInt = y4_2.toInt + 1 := (ox_13 (qi_add ex7 rfl (by decide) (ox_11 g4_0) (ox_219 g4_1)))
        refine lv_iinc (v := x7) (lv' := [(2, .int x7), (1, .int x6), (0, .ref (r 0))]) hx hb dX8_paidFor_23 hl (k := 2) rfl ex7.symm (by decide) rfl (fun ls hl => ?_)
        refine lv_goto (tgt := 4) hx hb dX8_paidFor_26 (by decide) ?_
        exact ih4 x6 x7 H4 _ _ (ox_14 g4_0 f8) (ox_220 ie15 f3 f8) hP hS (lv_sub hl [2, 1, 0] rfl) (ox_221 hM4 f8)
  exact L4 (-1 * (0 : Int32).toInt + 4 + 1).toNat 0 0 s.heap _ _ (ox_27 zc_0) (ox_224 zc_0) hP hS (lv_sub hl [2, 1, 0] rfl) (mlt (ox_225 zc_0))
set_option maxHeartbeats 4000000 in
set_option maxRecDepth 100000 in
theorem kX8_earned (l : Launch) (dC : Nat → ClassId) (dI : Nat → Nat → Nat) (r : Nat → Nat) (ct : Nat → ClassId) (i_tapeLength i_time i_lyingCount i_rd_fault i_rd_token i_rd_kind i_sc_count i_sc_at i_A_tunes i_A_houses i_fA_length i_B_tunes i_B_houses i_fB_length i_acts_done i_acts_undone i_kn_count : Int32) (f_boxes f_boxKept f_trial f_offers f_A_noteCounts f_A_notes f_B_noteCounts f_B_notes f_now_where f_now_worn f_ahead_where f_ahead_worn f_acts_rows f_kn_tunes f_kn_noteTimes : Nat → Int32) (J : Nat → Nat → Int32) (L : Nat → Nat → Int64) (sz : Nat) (hI : (IX i_tapeLength i_time i_lyingCount i_rd_token i_sc_count i_sc_at i_A_tunes i_A_houses i_fA_length i_B_tunes i_B_houses i_fB_length i_acts_done i_acts_undone i_kn_count f_boxes f_A_noteCounts f_A_notes f_B_noteCounts f_B_notes f_now_worn f_ahead_worn f_acts_rows f_kn_tunes)) : Met l yX8_earned (.code yX8_earned cX8_earned 1 (some .int) :: GW) { frames := 8, cells := 0, slots := 0, locals := 286 } (va_Pc [.ref (r 0)] (pR (dC, dI) (WX r ct i_tapeLength i_time i_lyingCount i_rd_fault i_rd_token i_rd_kind i_sc_count i_sc_at i_A_tunes i_A_houses i_fA_length i_B_tunes i_B_houses i_fB_length i_acts_done i_acts_undone i_kn_count f_boxes f_boxKept f_trial f_offers f_A_noteCounts f_A_notes f_B_noteCounts f_B_notes f_now_where f_now_worn f_ahead_where f_ahead_worn f_acts_rows f_kn_tunes f_kn_noteTimes J L) (TX ct) sz)) (va_Qi (fun (r0 : Int32) (u : Int32) => r0 = u) (fun (u : Int32) (t : State) => True) (fun q => sz ≤ q)) 0 0 (fun q => sz ≤ q) := by
  refine Met.ofW (cc := cX8_earned) (maxL := 1) (ret := (some .int)) (by decide) rfl ?_
  intro p e s m args below meth c0 s₁ B hml hv
  obtain ⟨rfl, hsz, hP, hK⟩ := hv
  have hx := B.exec
  have hb := B.bytes
  have hr := B.returns
  have hts := atoms_spec (ws := .code yX8_earned cX8_earned 1 (some .int) :: GW) B.pre
  have hG : ∀ w ∈ GW, w.before _ s = true := fun w h => hts w (List.mem_cons_of_mem _ h)
  have hown : s.vm.findClass RX8 = some m.cls := findClass_of_methodNamed B.named
  subst hsz
  have hS : va_S (fun q => s.heap.size ≤ q) s.heap s.heap [] := va_S.rf
  have hP : va_P (dC, dI) vwCl (WX r ct i_tapeLength i_time i_lyingCount i_rd_fault i_rd_token i_rd_kind i_sc_count i_sc_at i_A_tunes i_A_houses i_fA_length i_B_tunes i_B_houses i_fB_length i_acts_done i_acts_undone i_kn_count f_boxes f_boxKept f_trial f_offers f_A_noteCounts f_A_notes f_B_noteCounts f_B_notes f_now_where f_now_worn f_ahead_where f_ahead_worn f_acts_rows f_kn_tunes f_kn_noteTimes J L) s.heap := hP
  have hl := lv_entry ([.ref (r 0)]) (n := 1) (Nat.le_of_ble_eq_true rfl)
  rw [lg_entry_eq]
  generalize (lg_sl ([.ref (r 0)]) ++ List.replicate (1 - (lg_sl ([.ref (r 0)])).length) Slot.unset).toArray = ls at hl ⊢
  have hl : lv_has ls 1 [(0, .ref (r 0))] := hl
  refine nameQ (fun Q hQ => ?_)
  obtain ⟨ie0, ie1, ie2, ie3, ie4, ie5, ie6, ie7, ie8, ie9, ie10, ie11, ie12, ie13, ie14, ie15, ie16, ie17, ie18, ie19, ie20, ie21, ie22, ie23, ie24, ie25, ie26, ie27, ie28, ie29, ie30, ie31, ie32, ie33, ie34, ie35, ie36, ie37, ie38, ie39⟩ := id hI
  refine lv_aload_n hx hb dX8_earned_0 rfl (lv_at hl 0 rfl) ?_
  refine lv_aload_n hx hb dX8_earned_1 rfl (lv_at hl 0 rfl) ?_
  refine va_calli (va_runV (As := []) (rest := [.ref (r 0)]) ⟨hx, hb, hml, hown, hG⟩ (kX8_paidFor l dC dI r ct i_tapeLength i_time i_lyingCount i_rd_fault i_rd_token i_rd_kind i_sc_count i_sc_at i_A_tunes i_A_houses i_fA_length i_B_tunes i_B_houses i_fB_length i_acts_done i_acts_undone i_kn_count f_boxes f_boxKept f_trial f_offers f_A_noteCounts f_A_notes f_B_noteCounts f_B_notes f_now_where f_now_worn f_ahead_where f_ahead_worn f_acts_rows f_kn_tunes f_kn_noteTimes J L s.heap.size hI) (cwV 0 hG (goodV gw993 gw995 gw46 gw129 gw996) rfl rfl rfl hd_X8_paidFor ⟨(Nat.le_of_ble_eq_true rfl), (Nat.le_of_ble_eq_true rfl)⟩) ⟨fbR, va_recv hK hP (ci := 7) (q0 := 0) rfl rfl, pR_in hP hK⟩ rfl rfl hl.1 rfl (lv_room (Nat.le_of_ble_eq_true rfl)) dX8_earned_2 ⟨(Nat.le_of_ble_eq_true rfl), (Nat.le_of_ble_eq_true rfl)⟩) hS (fun q hq h => absurd hq (Nat.not_lt.mpr h)) (fun q h => Nat.le_trans hS.1 h) (fun r_2 u_ t_ H1 locs ht hvm hw hB hz1 hk1 hS => ?_)
  subst hw
  have hP := wk hP hk1
  refine va_calli (va_runV (As := [.int r_2]) (rest := []) ⟨hx, hb, hml, hown, hG⟩ (kX8_priceOf l dC dI r ct i_tapeLength i_time i_lyingCount i_rd_fault i_rd_token i_rd_kind i_sc_count i_sc_at i_A_tunes i_A_houses i_fA_length i_B_tunes i_B_houses i_fB_length i_acts_done i_acts_undone i_kn_count f_boxes f_boxKept f_trial f_offers f_A_noteCounts f_A_notes f_B_noteCounts f_B_notes f_now_where f_now_worn f_ahead_where f_ahead_worn f_acts_rows f_kn_tunes f_kn_noteTimes J L r_2 H1.size hI) (cwV 1 hG (goodV gw985 gw987 gw45 gw129 gw988) rfl rfl rfl hd_X8_priceOf ⟨(Nat.le_of_ble_eq_true rfl), (Nat.le_of_ble_eq_true rfl)⟩) ⟨fbR, va_recv hK hP (ci := 7) (q0 := 0) rfl rfl, pR_in hP hK⟩ rfl rfl hl.1 rfl (lv_room (Nat.le_of_ble_eq_true rfl)) dX8_earned_5 ⟨(Nat.le_of_ble_eq_true rfl), (Nat.le_of_ble_eq_true rfl)⟩) hS (fun q hq h => absurd hq (Nat.not_lt.mpr h)) (fun q h => Nat.le_trans hS.1 h) (fun r_4 u_ t_ H3 locs ht hvm hw hB hz1 hk1 hS => ?_)
  subst hw
  have hP := wk hP hk1
  rw [hQ]
  exact W.iret (v := r_4) hx hb hr (fun t ht hW => ⟨⟨r_4, r_4, rfl, rfl, trivial⟩, hS.F ht⟩) hS.2.2 dX8_earned_8
set_option maxHeartbeats 4000000 in
set_option maxRecDepth 100000 in
theorem kX8_sharedDivisor (l : Launch) (dC : Nat → ClassId) (dI : Nat → Nat → Nat) (p0 p1 : Int32) (sz : Nat) : Met l yX8_sharedDivisor (.code yX8_sharedDivisor cX8_sharedDivisor 6 (some .int) :: GW) { frames := 2, cells := 0, slots := 0, locals := 100 } (va_Pc [.int p0, .int p1] (pR (dC, dI) [] [] sz)) (va_Qi (fun (r0 : Int32) (u : Int32) => r0 = u) (fun (u : Int32) (t : State) => ((1 : Int) ≤ u.toInt)) (fun q => sz ≤ q)) 0 0 (fun q => sz ≤ q) := by
  refine Met.ofW (cc := cX8_sharedDivisor) (maxL := 6) (ret := (some .int)) (by decide) rfl ?_
  intro p e s m args below meth c0 s₁ B hml hv
  obtain ⟨rfl, hsz, hP, hK⟩ := hv
  have hx := B.exec
  have hb := B.bytes
  have hr := B.returns
  have hts := atoms_spec (ws := .code yX8_sharedDivisor cX8_sharedDivisor 6 (some .int) :: GW) B.pre
  have hG : ∀ w ∈ GW, w.before _ s = true := fun w h => hts w (List.mem_cons_of_mem _ h)
  have hown : s.vm.findClass RX8 = some m.cls := findClass_of_methodNamed B.named
  subst hsz
  have hS : va_S (fun q => s.heap.size ≤ q) s.heap s.heap [] := va_S.rf
  have hP : va_P (dC, dI) vwCl [] s.heap := hP
  have hl := lv_entry ([.int p0, .int p1]) (n := 6) (Nat.le_of_ble_eq_true rfl)
  rw [lg_entry_eq]
  generalize (lg_sl ([.int p0, .int p1]) ++ List.replicate (6 - (lg_sl ([.int p0, .int p1])).length) Slot.unset).toArray = ls at hl ⊢
  have hl : lv_has ls 6 [(0, .int p0), (1, .int p1)] := hl
  refine nameQ (fun Q hQ => ?_)
  refine lv_iload_n hx hb dX8_sharedDivisor_0 rfl (lv_at hl 0 rfl) ?_
  refine lv_istore_n (lv' := [(2, .int p0), (0, .int p0), (1, .int p1)]) hx hb dX8_sharedDivisor_1 rfl hl (by decide) rfl (fun ls hl => ?_)
  refine lv_iload_n hx hb dX8_sharedDivisor_2 rfl (lv_at hl 2 rfl) ?_
  refine lv_istore_n (lv' := [(3, .int p1), (2, .int p0), (0, .int p0), (1, .int p1)]) hx hb dX8_sharedDivisor_3 rfl hl (by decide) rfl (fun ls hl => ?_)
  refine lv_iconst (v := 0) hx hb dX8_sharedDivisor_4 (by decide) ?_
  refine lv_istore (lv' := [(4, .int 0), (3, .int p1), (2, .int p0), (0, .int p0), (1, .int p1)]) hx hb dX8_sharedDivisor_5 hl (by decide) rfl (fun ls hl => ?_)
  have L7 : ∀ (N7 : Nat) (y7_2 y7_3 y7_4 : Int32) (H7 : Heap) (locs : List Loc) (ls : Array Slot) (g7_0 : (0 : Int) ≤ y7_4.toInt) (g7_1 : y7_4.toInt ≤ (64 : Int)) (hP : va_P (dC, dI) vwCl [] H7) (hS : va_S (fun q => s.heap.size ≤ q) s.heap H7 locs) (hl : lv_has ls 6 [(0, .int p0), (1, .int p1), (2, .int y7_2), (3, .int y7_3), (4, .int y7_4)]) (hM : -1 * y7_4.toInt + 64 < (N7 : Int)), W p l e { frames := 2, cells := 0, slots := 0, locals := 100 } s m ([.int p0, .int p1] : List Value).toArray below meth c0 H7 locs 0 0 Q (F0 m 7 ls []) := by
    intro N7
    induction N7 with
    | zero =>
      intro y7_2 y7_3 y7_4 H7 locs ls g7_0 g7_1 hP hS hl hM
      exact ((ox_534 hM g7_0 g7_1)).elim
    | succ N7 ih7 =>
      intro y7_2 y7_3 y7_4 H7 locs ls g7_0 g7_1 hP hS hl hM
      have hM7 := msucc hM
      refine lv_iload hx hb dX8_sharedDivisor_7 (lv_at hl 4 rfl) ?_
      refine lv_bipush (v := 64) hx hb dX8_sharedDivisor_9 (by decide) ?_
      refine lv_icmp_ge (tgt := 34) hx hb dX8_sharedDivisor_11 (by decide) (fun c_1 => ?_) (fun c_1 => ?_)
      · skip
        have f2 : 64 ≤ y7_4.toInt := qi_le c_1 zc_64 rfl
        refine lv_iconst (v := 1) hx hb dX8_sharedDivisor_34 (by decide) ?_
        refine lv_iload_n hx hb dX8_sharedDivisor_35 rfl (lv_at hl 2 rfl) ?_
        refine va_mmax hx hb (hml.trans hl.1.symm) hown (hG _ gw948) (hG _ gw775) (hG _ gw139) (hG _ gw776) (Nat.le_of_ble_eq_true rfl) (Nat.le_of_ble_eq_true rfl) (Nat.le_of_ble_eq_true rfl) (Nat.le_of_ble_eq_true rfl) dX8_sharedDivisor_36 ?_
        refine lv_topi (fun x3 ex3 => ?_)
        have f4 : (y7_2.toInt ≤ 1 ∧ x3.toInt = 1) ∨ (1 ≤ y7_2.toInt ∧ x3.toInt = y7_2.toInt) := mmax_or2 ex3 zc_1 rfl
        rw [hQ]
        exact W.iret (v := x3) hx hb hr (fun t ht hW => ⟨⟨x3, x3, rfl, rfl, (ox_535 f4)⟩, hS.F ht⟩) hS.2.2 dX8_sharedDivisor_39
      · skip
        have f5 : y7_4.toInt < 64 := qi_nle c_1 zc_64 rfl
        refine lv_iload_n hx hb dX8_sharedDivisor_14 rfl (lv_at hl 3 rfl) ?_
        refine lv_if_eq (tgt := 34) hx hb dX8_sharedDivisor_15 (by decide) (fun c_6 => ?_) (fun c_6 => ?_)
        · skip
          have f7 : y7_3.toInt = 0 := qi_eq c_6 rfl zc_0
          refine lv_iconst (v := 1) hx hb dX8_sharedDivisor_34 (by decide) ?_
          refine lv_iload_n hx hb dX8_sharedDivisor_35 rfl (lv_at hl 2 rfl) ?_
          refine va_mmax hx hb (hml.trans hl.1.symm) hown (hG _ gw948) (hG _ gw775) (hG _ gw139) (hG _ gw776) (Nat.le_of_ble_eq_true rfl) (Nat.le_of_ble_eq_true rfl) (Nat.le_of_ble_eq_true rfl) (Nat.le_of_ble_eq_true rfl) dX8_sharedDivisor_36 ?_
          refine lv_topi (fun x8 ex8 => ?_)
          have f9 : (y7_2.toInt ≤ 1 ∧ x8.toInt = 1) ∨ (1 ≤ y7_2.toInt ∧ x8.toInt = y7_2.toInt) := mmax_or2 ex8 zc_1 rfl
          rw [hQ]
          exact W.iret (v := x8) hx hb hr (fun t ht hW => ⟨⟨x8, x8, rfl, rfl, (ox_535 f9)⟩, hS.F ht⟩) hS.2.2 dX8_sharedDivisor_39
        · skip
          have f10 : y7_3.toInt ≠ 0 := qi_ne c_6 rfl zc_0
          refine lv_iload_n hx hb dX8_sharedDivisor_18 rfl (lv_at hl 2 rfl) ?_
          refine lv_iload_n hx hb dX8_sharedDivisor_19 rfl (lv_at hl 3 rfl) ?_
          refine lv_irem hx hb dX8_sharedDivisor_20 (qi_nz0 (ox_141 f10)) ?_
          refine lv_topi (fun x11 ex11 => ?_)
          refine lv_istore (lv' := [(5, .int x11), (0, .int p0), (1, .int p1), (2, .int y7_2), (3, .int y7_3), (4, .int y7_4)]) hx hb dX8_sharedDivisor_21 hl (by decide) rfl (fun ls hl => ?_)
          refine lv_iload_n hx hb dX8_sharedDivisor_23 rfl (lv_at hl 4 rfl) ?_
          refine lv_istore_n (lv' := [(2, .int y7_3), (5, .int x11), (0, .int p0), (1, .int p1), (3, .int y7_3), (4, .int y7_4)]) hx hb dX8_sharedDivisor_24 rfl hl (by decide) rfl (fun ls hl => ?_)
          refine lv_iload hx hb dX8_sharedDivisor_25 (lv_at hl 1 rfl) ?_
          refine lv_istore_n (lv' := [(3, .int x11), (2, .int y7_3), (5, .int x11), (0, .int p0), (1, .int p1), (4, .int y7_4)]) hx hb dX8_sharedDivisor_27 rfl hl (by decide) rfl (fun ls hl => ?_)
          obtain ⟨x12, ex12⟩ : ∃ y : Int32, y = y7_4 + Int32.ofInt 1 := ⟨_, rfl⟩
          have f13 : x12.toInt = y7_4.toInt + 1 := (ox_13 (qi_add ex12 rfl (by decide) (ox_11 g7_0) (ox_536 g7_1)))
          refine lv_iinc (v := x12) (lv' := [(4, .int x12), (3, .int x11), (2, .int y7_3), (5, .int x11), (0, .int p0), (1, .int p1)]) hx hb dX8_sharedDivisor_28 hl (k := 5) rfl ex12.symm (by decide) rfl (fun ls hl => ?_)
          refine lv_goto (tgt := 7) hx hb dX8_sharedDivisor_31 (by decide) ?_
          exact ih7 y7_3 x11 x12 H7 _ _ (ox_14 g7_0 f13) (ox_537 f5 f13) hP hS (lv_sub hl [4, 5, 2, 1, 0] rfl) (ox_538 hM7 f13)
  exact L7 (-1 * (0 : Int32).toInt + 64 + 1).toNat p0 p1 0 s.heap _ _ (ox_27 zc_0) (ox_539 zc_0) hP hS (lv_sub hl [3, 4, 2, 1, 0] rfl) (mlt (ox_540 zc_0))
set_option maxHeartbeats 4000000 in
set_option maxRecDepth 100000 in
theorem kX8_odds (l : Launch) (dC : Nat → ClassId) (dI : Nat → Nat → Nat) (r : Nat → Nat) (ct : Nat → ClassId) (i_tapeLength i_time i_lyingCount i_rd_fault i_rd_token i_rd_kind i_sc_count i_sc_at i_A_tunes i_A_houses i_fA_length i_B_tunes i_B_houses i_fB_length i_acts_done i_acts_undone i_kn_count : Int32) (f_boxes f_boxKept f_trial f_offers f_A_noteCounts f_A_notes f_B_noteCounts f_B_notes f_now_where f_now_worn f_ahead_where f_ahead_worn f_acts_rows f_kn_tunes f_kn_noteTimes : Nat → Int32) (J : Nat → Nat → Int32) (L : Nat → Nat → Int64) (p0 p1 : Int32) (sz : Nat) (hI : (IX i_tapeLength i_time i_lyingCount i_rd_token i_sc_count i_sc_at i_A_tunes i_A_houses i_fA_length i_B_tunes i_B_houses i_fB_length i_acts_done i_acts_undone i_kn_count f_boxes f_A_noteCounts f_A_notes f_B_noteCounts f_B_notes f_now_worn f_ahead_worn f_acts_rows f_kn_tunes)) : Met l yX8_odds (.code yX8_odds cX8_odds 6 (some .int) :: GW) { frames := 4, cells := 0, slots := 0, locals := 165 } (va_Pc [.ref (r 0), .int p0, .int p1] (pR (dC, dI) (WX r ct i_tapeLength i_time i_lyingCount i_rd_fault i_rd_token i_rd_kind i_sc_count i_sc_at i_A_tunes i_A_houses i_fA_length i_B_tunes i_B_houses i_fB_length i_acts_done i_acts_undone i_kn_count f_boxes f_boxKept f_trial f_offers f_A_noteCounts f_A_notes f_B_noteCounts f_B_notes f_now_where f_now_worn f_ahead_where f_ahead_worn f_acts_rows f_kn_tunes f_kn_noteTimes J L) (TX ct) sz)) (va_Qi (fun (r0 : Int32) (u : Int32) => r0 = u) (fun (u : Int32) (t : State) => True) (fun q => sz ≤ q)) 0 0 (fun q => sz ≤ q) := by
  refine Met.ofW (cc := cX8_odds) (maxL := 6) (ret := (some .int)) (by decide) rfl ?_
  intro p e s m args below meth c0 s₁ B hml hv
  obtain ⟨rfl, hsz, hP, hK⟩ := hv
  have hx := B.exec
  have hb := B.bytes
  have hr := B.returns
  have hts := atoms_spec (ws := .code yX8_odds cX8_odds 6 (some .int) :: GW) B.pre
  have hG : ∀ w ∈ GW, w.before _ s = true := fun w h => hts w (List.mem_cons_of_mem _ h)
  have hown : s.vm.findClass RX8 = some m.cls := findClass_of_methodNamed B.named
  subst hsz
  have hS : va_S (fun q => s.heap.size ≤ q) s.heap s.heap [] := va_S.rf
  have hP : va_P (dC, dI) vwCl (WX r ct i_tapeLength i_time i_lyingCount i_rd_fault i_rd_token i_rd_kind i_sc_count i_sc_at i_A_tunes i_A_houses i_fA_length i_B_tunes i_B_houses i_fB_length i_acts_done i_acts_undone i_kn_count f_boxes f_boxKept f_trial f_offers f_A_noteCounts f_A_notes f_B_noteCounts f_B_notes f_now_where f_now_worn f_ahead_where f_ahead_worn f_acts_rows f_kn_tunes f_kn_noteTimes J L) s.heap := hP
  have hl := lv_entry ([.ref (r 0), .int p0, .int p1]) (n := 6) (Nat.le_of_ble_eq_true rfl)
  rw [lg_entry_eq]
  generalize (lg_sl ([.ref (r 0), .int p0, .int p1]) ++ List.replicate (6 - (lg_sl ([.ref (r 0), .int p0, .int p1])).length) Slot.unset).toArray = ls at hl ⊢
  have hl : lv_has ls 6 [(0, .ref (r 0)), (1, .int p0), (2, .int p1)] := hl
  refine nameQ (fun Q hQ => ?_)
  obtain ⟨ie0, ie1, ie2, ie3, ie4, ie5, ie6, ie7, ie8, ie9, ie10, ie11, ie12, ie13, ie14, ie15, ie16, ie17, ie18, ie19, ie20, ie21, ie22, ie23, ie24, ie25, ie26, ie27, ie28, ie29, ie30, ie31, ie32, ie33, ie34, ie35, ie36, ie37, ie38, ie39⟩ := id hI
  refine lv_iload_n hx hb dX8_odds_0 rfl (lv_at hl 1 rfl) ?_
  refine lv_if_lt (tgt := 18) hx hb dX8_odds_1 (by decide) (fun c_1 => ?_) (fun c_1 => ?_)
  · skip
    have f2 : p0.toInt < 0 := qi_lt c_1 rfl zc_0
    refine lv_iconst (v := (-1)) hx hb dX8_odds_18 (by decide) ?_
    rw [hQ]
    exact W.iret (v := (-1)) hx hb hr (fun t ht hW => ⟨⟨(-1), (-1), rfl, rfl, trivial⟩, hS.F ht⟩) hS.2.2 dX8_odds_19
  · skip
    have f3 : 0 ≤ p0.toInt := qi_nlt c_1 rfl zc_0
    refine lv_iload_n hx hb dX8_odds_4 rfl (lv_at hl 1 rfl) ?_
    refine lv_iconst (v := 4) hx hb dX8_odds_5 (by decide) ?_
    refine lv_icmp_gt (tgt := 18) hx hb dX8_odds_6 (by decide) (fun c_4 => ?_) (fun c_4 => ?_)
    · skip
      have f5 : 4 < p0.toInt := qi_lt c_4 zc_4 rfl
      refine lv_iconst (v := (-1)) hx hb dX8_odds_18 (by decide) ?_
      rw [hQ]
      exact W.iret (v := (-1)) hx hb hr (fun t ht hW => ⟨⟨(-1), (-1), rfl, rfl, trivial⟩, hS.F ht⟩) hS.2.2 dX8_odds_19
    · skip
      have f6 : p0.toInt ≤ 4 := qi_nlt c_4 zc_4 rfl
      refine lv_iload_n hx hb dX8_odds_9 rfl (lv_at hl 2 rfl) ?_
      refine lv_if_lt (tgt := 18) hx hb dX8_odds_10 (by decide) (fun c_7 => ?_) (fun c_7 => ?_)
      · skip
        have f8 : p1.toInt < 0 := qi_lt c_7 rfl zc_0
        refine lv_iconst (v := (-1)) hx hb dX8_odds_18 (by decide) ?_
        rw [hQ]
        exact W.iret (v := (-1)) hx hb hr (fun t ht hW => ⟨⟨(-1), (-1), rfl, rfl, trivial⟩, hS.F ht⟩) hS.2.2 dX8_odds_19
      · skip
        have f9 : 0 ≤ p1.toInt := qi_nlt c_7 rfl zc_0
        refine lv_iload_n hx hb dX8_odds_13 rfl (lv_at hl 2 rfl) ?_
        refine lv_iconst (v := 1) hx hb dX8_odds_14 (by decide) ?_
        refine lv_icmp_le (tgt := 20) hx hb dX8_odds_15 (by decide) (fun c_10 => ?_) (fun c_10 => ?_)
        · skip
          have f11 : p1.toInt ≤ 1 := qi_le c_10 rfl zc_1
          refine lv_iconst (v := 1) hx hb dX8_odds_20 (by decide) ?_
          refine lv_istore_n (lv' := [(3, .int 1), (0, .ref (r 0)), (1, .int p0), (2, .int p1)]) hx hb dX8_odds_21 rfl hl (by decide) rfl (fun ls hl => ?_)
          refine lv_iconst (v := 1) hx hb dX8_odds_22 (by decide) ?_
          refine lv_istore (lv' := [(4, .int 1), (3, .int 1), (0, .ref (r 0)), (1, .int p0), (2, .int p1)]) hx hb dX8_odds_23 hl (by decide) rfl (fun ls hl => ?_)
          refine lv_iconst (v := 0) hx hb dX8_odds_25 (by decide) ?_
          refine lv_istore (lv' := [(5, .int 0), (4, .int 1), (3, .int 1), (0, .ref (r 0)), (1, .int p0), (2, .int p1)]) hx hb dX8_odds_26 hl (by decide) rfl (fun ls hl => ?_)
          have L28 : ∀ (N28 : Nat) (y28_3 y28_4 y28_5 : Int32) (H28 : Heap) (locs : List Loc) (ls : Array Slot) (g28_0 : (0 : Int) ≤ y28_5.toInt) (g28_1 : y28_5.toInt ≤ (4 : Int)) (hP : va_P (dC, dI) vwCl (WX r ct i_tapeLength i_time i_lyingCount i_rd_fault i_rd_token i_rd_kind i_sc_count i_sc_at i_A_tunes i_A_houses i_fA_length i_B_tunes i_B_houses i_fB_length i_acts_done i_acts_undone i_kn_count f_boxes f_boxKept f_trial f_offers f_A_noteCounts f_A_notes f_B_noteCounts f_B_notes f_now_where f_now_worn f_ahead_where f_ahead_worn f_acts_rows f_kn_tunes f_kn_noteTimes J L) H28) (hS : va_S (fun q => s.heap.size ≤ q) s.heap H28 locs) (hl : lv_has ls 6 [(0, .ref (r 0)), (1, .int p0), (2, .int p1), (3, .int y28_3), (4, .int y28_4), (5, .int y28_5)]) (hM : -1 * y28_5.toInt + 4 < (N28 : Int)), W p l e { frames := 4, cells := 0, slots := 0, locals := 165 } s m ([.ref (r 0), .int p0, .int p1] : List Value).toArray below meth c0 H28 locs 0 0 Q (F0 m 28 ls []) := by
            intro N28
            induction N28 with
            | zero =>
              intro y28_3 y28_4 y28_5 H28 locs ls g28_0 g28_1 hP hS hl hM
              exact ((ox_218 hM g28_0 g28_1)).elim
            | succ N28 ih28 =>
              intro y28_3 y28_4 y28_5 H28 locs ls g28_0 g28_1 hP hS hl hM
              have hM28 := msucc hM
              refine lv_iload hx hb dX8_odds_28 (lv_at hl 5 rfl) ?_
              refine lv_iload_n hx hb dX8_odds_30 rfl (lv_at hl 1 rfl) ?_
              refine lv_icmp_ge (tgt := 60) hx hb dX8_odds_31 (by decide) (fun c_12 => ?_) (fun c_12 => ?_)
              · skip
                have f13 : p0.toInt ≤ y28_5.toInt := qi_le c_12 rfl rfl
                refine lv_iload_n hx hb dX8_odds_60 rfl (lv_at hl 3 rfl) ?_
                refine lv_iload hx hb dX8_odds_61 (lv_at hl 4 rfl) ?_
                refine va_calli (va_runS (As := [.int y28_3, .int y28_4]) (rest := []) ⟨hx, hb, hml, hown, hG⟩ (kX8_sharedDivisor l dC dI y28_3 y28_4 H28.size) (va_cwS 2 hG (goodS gw1046 gw1047 gw129 gw1048) rfl rfl rfl hd_X8_sharedDivisor ⟨(Nat.le_of_ble_eq_true rfl), (Nat.le_of_ble_eq_true rfl)⟩) ⟨fbR, pR_in emptyP (emptyK hK)⟩ rfl rfl hl.1 rfl (lv_room (Nat.le_of_ble_eq_true rfl)) dX8_odds_63 ⟨(Nat.le_of_ble_eq_true rfl), (Nat.le_of_ble_eq_true rfl)⟩) hS (fun q hq h => absurd hq (Nat.not_lt.mpr h)) (fun q h => Nat.le_trans hS.1 h) (fun r_15 u_ t_ H14 locs ht hvm hw hB hz1 hk1 hS => ?_)
                subst hw
                have hP := wk hP hk1
                have f16 := hB
                refine lv_istore (lv' := [(5, .int r_15), (0, .ref (r 0)), (1, .int p0), (2, .int p1), (3, .int y28_3), (4, .int y28_4)]) hx hb dX8_odds_66 hl (by decide) rfl (fun ls hl => ?_)
                refine lv_iload_n hx hb dX8_odds_68 rfl (lv_at hl 3 rfl) ?_
                refine lv_if_ne (tgt := 76) hx hb dX8_odds_69 (by decide) (fun c_17 => ?_) (fun c_17 => ?_)
                · skip
                  have f18 : p1.toInt ≠ 0 := qi_ne c_17 rfl zc_0
                  have f19 : (1 : Int) ≤ p1.toInt := (ox_382 f9 f11 f18)
                  refine lv_iload hx hb dX8_odds_76 (lv_at hl 5 rfl) ?_
                  refine lv_iload hx hb dX8_odds_78 (lv_at hl 0 rfl) ?_
                  refine lv_idiv hx hb dX8_odds_80 (qi_nz (ox_541 f16)) ?_
                  refine lv_topi (fun x20 ex20 => ?_)
                  rw [hQ]
                  exact W.iret (v := x20) hx hb hr (fun t ht hW => ⟨⟨x20, x20, rfl, rfl, trivial⟩, hS.F ht⟩) hS.2.2 dX8_odds_81
                · skip
                  have f21 : p1.toInt = 0 := qi_eq c_17 rfl zc_0
                  refine lv_iload_n hx hb dX8_odds_72 rfl (lv_at hl 4 rfl) ?_
                  refine lv_goto (tgt := 78) hx hb dX8_odds_73 (by decide) ?_
                  refine lv_iload hx hb dX8_odds_78 (lv_at hl 0 rfl) ?_
                  refine lv_idiv hx hb dX8_odds_80 (qi_nz (ox_541 f16)) ?_
                  refine lv_topi (fun x22 ex22 => ?_)
                  rw [hQ]
                  exact W.iret (v := x22) hx hb hr (fun t ht hW => ⟨⟨x22, x22, rfl, rfl, trivial⟩, hS.F ht⟩) hS.2.2 dX8_odds_81
              · skip
                have f23 : y28_5.toInt < p0.toInt := qi_nle c_12 rfl rfl
                refine lv_iload_n hx hb dX8_odds_34 rfl (lv_at hl 3 rfl) ?_
                refine lv_bipush (v := 100) hx hb dX8_odds_35 (by decide) ?_
                refine lv_aload_n hx hb dX8_odds_37 rfl (lv_at hl 0 rfl) ?_
                refine gX_X8_23_0 hx hb hG hown hK hP dX8_odds_38 ?_
                refine gX_X8_171_3 hx hb hG hown hK hP dX8_odds_41 (fun x24 => ?_)
                refine lv_isub hx hb dX8_odds_44 ?_
                refine lv_topi (fun x25 ex25 => ?_)
                refine lv_imul hx hb dX8_odds_45 ?_
                refine lv_topi (fun x26 ex26 => ?_)
                refine lv_istore_n (lv' := [(3, .int x26), (0, .ref (r 0)), (1, .int p0), (2, .int p1), (4, .int y28_4), (5, .int y28_5)]) hx hb dX8_odds_46 rfl hl (by decide) rfl (fun ls hl => ?_)
                refine lv_iload hx hb dX8_odds_47 (lv_at hl 4 rfl) ?_
                refine lv_bipush (v := 100) hx hb dX8_odds_49 (by decide) ?_
                refine lv_imul hx hb dX8_odds_51 ?_
                refine lv_topi (fun x27 ex27 => ?_)
                refine lv_istore (lv' := [(4, .int x27), (3, .int x26), (0, .ref (r 0)), (1, .int p0), (2, .int p1), (5, .int y28_5)]) hx hb dX8_odds_52 hl (by decide) rfl (fun ls hl => ?_)
                obtain ⟨x28, ex28⟩ : ∃ y : Int32, y = y28_5 + Int32.ofInt 1 := ⟨_, rfl⟩
                have f29 : x28.toInt = y28_5.toInt + 1 := (ox_13 (qi_add ex28 rfl (by decide) (ox_11 g28_0) (ox_219 g28_1)))
                refine lv_iinc (v := x28) (lv' := [(5, .int x28), (4, .int x27), (3, .int x26), (0, .ref (r 0)), (1, .int p0), (2, .int p1)]) hx hb dX8_odds_54 hl (k := 5) rfl ex28.symm (by decide) rfl (fun ls hl => ?_)
                refine lv_goto (tgt := 28) hx hb dX8_odds_57 (by decide) ?_
                exact ih28 x26 x27 x28 H28 _ _ (ox_14 g28_0 f29) (ox_542 f6 f23 f29) hP hS (lv_sub hl [3, 4, 5, 2, 1, 0] rfl) (ox_221 hM28 f29)
          exact L28 (-1 * (0 : Int32).toInt + 4 + 1).toNat 1 1 0 s.heap _ _ (ox_27 zc_0) (ox_224 zc_0) hP hS (lv_sub hl [3, 4, 5, 2, 1, 0] rfl) (mlt (ox_225 zc_0))
        · skip
          have f30 : 1 < p1.toInt := qi_nle c_10 rfl zc_1
          refine lv_iconst (v := (-1)) hx hb dX8_odds_18 (by decide) ?_
          rw [hQ]
          exact W.iret (v := (-1)) hx hb hr (fun t ht hW => ⟨⟨(-1), (-1), rfl, rfl, trivial⟩, hS.F ht⟩) hS.2.2 dX8_odds_19
set_option maxHeartbeats 4000000 in
set_option maxRecDepth 100000 in
theorem kX8_lies (l : Launch) (dC : Nat → ClassId) (dI : Nat → Nat → Nat) (r : Nat → Nat) (ct : Nat → ClassId) (i_tapeLength i_time i_lyingCount i_rd_fault i_rd_token i_rd_kind i_sc_count i_sc_at i_A_tunes i_A_houses i_fA_length i_B_tunes i_B_houses i_fB_length i_acts_done i_acts_undone i_kn_count : Int32) (f_boxes f_boxKept f_trial f_offers f_A_noteCounts f_A_notes f_B_noteCounts f_B_notes f_now_where f_now_worn f_ahead_where f_ahead_worn f_acts_rows f_kn_tunes f_kn_noteTimes : Nat → Int32) (J : Nat → Nat → Int32) (L : Nat → Nat → Int64) (p0 : Int32) (sz : Nat) (hI : (IX i_tapeLength i_time i_lyingCount i_rd_token i_sc_count i_sc_at i_A_tunes i_A_houses i_fA_length i_B_tunes i_B_houses i_fB_length i_acts_done i_acts_undone i_kn_count f_boxes f_A_noteCounts f_A_notes f_B_noteCounts f_B_notes f_now_worn f_ahead_worn f_acts_rows f_kn_tunes)) : Met l yX8_lies (.code yX8_lies cX8_lies 2 (some .int) :: GW) { frames := 2, cells := 0, slots := 0, locals := 100 } (va_Pc [.ref (r 0), .int p0] (pR (dC, dI) (WX r ct i_tapeLength i_time i_lyingCount i_rd_fault i_rd_token i_rd_kind i_sc_count i_sc_at i_A_tunes i_A_houses i_fA_length i_B_tunes i_B_houses i_fB_length i_acts_done i_acts_undone i_kn_count f_boxes f_boxKept f_trial f_offers f_A_noteCounts f_A_notes f_B_noteCounts f_B_notes f_now_where f_now_worn f_ahead_where f_ahead_worn f_acts_rows f_kn_tunes f_kn_noteTimes J L) (TX ct) sz)) (va_Qi (fun (r0 : Int32) (u : Int32) => r0 = u) (fun (u : Int32) (t : State) => True) (fun q => sz ≤ q)) 0 0 (fun q => sz ≤ q) := by
  refine Met.ofW (cc := cX8_lies) (maxL := 2) (ret := (some .int)) (by decide) rfl ?_
  intro p e s m args below meth c0 s₁ B hml hv
  obtain ⟨rfl, hsz, hP, hK⟩ := hv
  have hx := B.exec
  have hb := B.bytes
  have hr := B.returns
  have hts := atoms_spec (ws := .code yX8_lies cX8_lies 2 (some .int) :: GW) B.pre
  have hG : ∀ w ∈ GW, w.before _ s = true := fun w h => hts w (List.mem_cons_of_mem _ h)
  have hown : s.vm.findClass RX8 = some m.cls := findClass_of_methodNamed B.named
  subst hsz
  have hS : va_S (fun q => s.heap.size ≤ q) s.heap s.heap [] := va_S.rf
  have hP : va_P (dC, dI) vwCl (WX r ct i_tapeLength i_time i_lyingCount i_rd_fault i_rd_token i_rd_kind i_sc_count i_sc_at i_A_tunes i_A_houses i_fA_length i_B_tunes i_B_houses i_fB_length i_acts_done i_acts_undone i_kn_count f_boxes f_boxKept f_trial f_offers f_A_noteCounts f_A_notes f_B_noteCounts f_B_notes f_now_where f_now_worn f_ahead_where f_ahead_worn f_acts_rows f_kn_tunes f_kn_noteTimes J L) s.heap := hP
  have hl := lv_entry ([.ref (r 0), .int p0]) (n := 2) (Nat.le_of_ble_eq_true rfl)
  rw [lg_entry_eq]
  generalize (lg_sl ([.ref (r 0), .int p0]) ++ List.replicate (2 - (lg_sl ([.ref (r 0), .int p0])).length) Slot.unset).toArray = ls at hl ⊢
  have hl : lv_has ls 2 [(0, .ref (r 0)), (1, .int p0)] := hl
  refine nameQ (fun Q hQ => ?_)
  obtain ⟨ie0, ie1, ie2, ie3, ie4, ie5, ie6, ie7, ie8, ie9, ie10, ie11, ie12, ie13, ie14, ie15, ie16, ie17, ie18, ie19, ie20, ie21, ie22, ie23, ie24, ie25, ie26, ie27, ie28, ie29, ie30, ie31, ie32, ie33, ie34, ie35, ie36, ie37, ie38, ie39⟩ := id hI
  refine lv_iload_n hx hb dX8_lies_0 rfl (lv_at hl 1 rfl) ?_
  refine lv_if_lt (tgt := 21) hx hb dX8_lies_1 (by decide) (fun c_1 => ?_) (fun c_1 => ?_)
  · skip
    have f2 : p0.toInt < 0 := qi_lt c_1 rfl zc_0
    refine lv_bipush (v := (-2)) hx hb dX8_lies_21 (by decide) ?_
    rw [hQ]
    exact W.iret (v := (-2)) hx hb hr (fun t ht hW => ⟨⟨(-2), (-2), rfl, rfl, trivial⟩, hS.F ht⟩) hS.2.2 dX8_lies_23
  · skip
    have f3 : 0 ≤ p0.toInt := qi_nlt c_1 rfl zc_0
    refine lv_iload_n hx hb dX8_lies_4 rfl (lv_at hl 1 rfl) ?_
    refine lv_aload_n hx hb dX8_lies_5 rfl (lv_at hl 0 rfl) ?_
    refine gX_X8_96_0 hx hb hG hown hK hP dX8_lies_6 ?_
    refine lv_icmp_ge (tgt := 21) hx hb dX8_lies_9 (by decide) (fun c_4 => ?_) (fun c_4 => ?_)
    · skip
      have f5 : i_lyingCount.toInt ≤ p0.toInt := qi_le c_4 rfl rfl
      refine lv_bipush (v := (-2)) hx hb dX8_lies_21 (by decide) ?_
      rw [hQ]
      exact W.iret (v := (-2)) hx hb hr (fun t ht hW => ⟨⟨(-2), (-2), rfl, rfl, trivial⟩, hS.F ht⟩) hS.2.2 dX8_lies_23
    · skip
      have f6 : p0.toInt < i_lyingCount.toInt := qi_nle c_4 rfl rfl
      refine lv_aload_n hx hb dX8_lies_12 rfl (lv_at hl 0 rfl) ?_
      refine gX_X8_59_0 hx hb hG hown hK hP dX8_lies_13 ?_
      refine lv_iload_n hx hb dX8_lies_16 rfl (lv_at hl 1 rfl) ?_
      refine ldX_14 (mm := p0.toInt) hx hb hK hP rfl (ox_543 f3 f6) (ox_376 ie5 f6) dX8_lies_17 (fun x7 => ?_)
      refine lv_goto (tgt := 23) hx hb dX8_lies_18 (by decide) ?_
      rw [hQ]
      exact W.iret (v := x7) hx hb hr (fun t ht hW => ⟨⟨x7, x7, rfl, rfl, trivial⟩, hS.F ht⟩) hS.2.2 dX8_lies_23
set_option maxHeartbeats 4000000 in
set_option maxRecDepth 100000 in
theorem kX3_add (l : Launch) (dC : Nat → ClassId) (dI : Nat → Nat → Nat) (r : Nat → Nat) (ct : Nat → ClassId) (i_tapeLength i_time i_lyingCount i_rd_fault i_rd_token i_rd_kind i_sc_count i_sc_at i_A_tunes i_A_houses i_fA_length i_B_tunes i_B_houses i_fB_length i_acts_done i_acts_undone i_kn_count : Int32) (f_boxes f_boxKept f_trial f_offers f_A_noteCounts f_A_notes f_B_noteCounts f_B_notes f_now_where f_now_worn f_ahead_where f_ahead_worn f_acts_rows f_kn_tunes f_kn_noteTimes : Nat → Int32) (J : Nat → Nat → Int32) (L : Nat → Nat → Int64) (p0 p1 p2 p3 : Int32) (sz : Nat) (hI : (IX i_tapeLength i_time i_lyingCount i_rd_token i_sc_count i_sc_at i_A_tunes i_A_houses i_fA_length i_B_tunes i_B_houses i_fB_length i_acts_done i_acts_undone i_kn_count f_boxes f_A_noteCounts f_A_notes f_B_noteCounts f_B_notes f_now_worn f_ahead_worn f_acts_rows f_kn_tunes)) (hp0 : (0 : Int) ≤ p0.toInt) (hp1 : p0.toInt ≤ (4 : Int)) (hz_p2 : 0 ≤ p2.toInt ∧ p2.toInt ≤ 1) : Met l yX3_add (.code yX3_add cX3_add 5 (some .int) :: GW) { frames := 2, cells := 0, slots := 0, locals := 100 } (va_Pc [.ref (r 10), .int p0, .int p1, .int p2, .int p3] (pW (dC, dI) (WX r ct i_tapeLength i_time i_lyingCount i_rd_fault i_rd_token i_rd_kind i_sc_count i_sc_at i_A_tunes i_A_houses i_fA_length i_B_tunes i_B_houses i_fB_length i_acts_done i_acts_undone i_kn_count f_boxes f_boxKept f_trial f_offers f_A_noteCounts f_A_notes f_B_noteCounts f_B_notes f_now_where f_now_worn f_ahead_where f_ahead_worn f_acts_rows f_kn_tunes f_kn_noteTimes J L) (TX ct) sz)) (va_Qi (fun (r0 : Int32) (u : Int32) => r0 = u) (fun (u : Int32) (t : State) => ∃ (n_i_kn_count : Int32) (n_f_kn_tunes : Nat → Int32) (n_J : Nat → Nat → Int32), va_P (dC, dI) vwCl (WX r ct i_tapeLength i_time i_lyingCount i_rd_fault i_rd_token i_rd_kind i_sc_count i_sc_at i_A_tunes i_A_houses i_fA_length i_B_tunes i_B_houses i_fB_length i_acts_done i_acts_undone n_i_kn_count f_boxes f_boxKept f_trial f_offers f_A_noteCounts f_A_notes f_B_noteCounts f_B_notes f_now_where f_now_worn f_ahead_where f_ahead_worn f_acts_rows n_f_kn_tunes f_kn_noteTimes n_J L) t.heap ∧ va_D (va_A (WX r ct i_tapeLength i_time i_lyingCount i_rd_fault i_rd_token i_rd_kind i_sc_count i_sc_at i_A_tunes i_A_houses i_fA_length i_B_tunes i_B_houses i_fB_length i_acts_done i_acts_undone i_kn_count f_boxes f_boxKept f_trial f_offers f_A_noteCounts f_A_notes f_B_noteCounts f_B_notes f_now_where f_now_worn f_ahead_where f_ahead_worn f_acts_rows f_kn_tunes f_kn_noteTimes J L) sz) (WX r ct i_tapeLength i_time i_lyingCount i_rd_fault i_rd_token i_rd_kind i_sc_count i_sc_at i_A_tunes i_A_houses i_fA_length i_B_tunes i_B_houses i_fB_length i_acts_done i_acts_undone n_i_kn_count f_boxes f_boxKept f_trial f_offers f_A_noteCounts f_A_notes f_B_noteCounts f_B_notes f_now_where f_now_worn f_ahead_where f_ahead_worn f_acts_rows n_f_kn_tunes f_kn_noteTimes n_J L) ∧ (IX i_tapeLength i_time i_lyingCount i_rd_token i_sc_count i_sc_at i_A_tunes i_A_houses i_fA_length i_B_tunes i_B_houses i_fB_length i_acts_done i_acts_undone n_i_kn_count f_boxes f_A_noteCounts f_A_notes f_B_noteCounts f_B_notes f_now_worn f_ahead_worn f_acts_rows n_f_kn_tunes) ∧ (((i_kn_count.toInt ≤ (29 : Int)) ∧ (u.toInt = i_kn_count.toInt)) ∨ (((30 : Int) ≤ i_kn_count.toInt) ∧ (u.toInt + 1 = (0 : Int)))) ∧ ((0 : Int) ≤ u.toInt + 1) ∧ (u.toInt ≤ (29 : Int))) (va_A (WX r ct i_tapeLength i_time i_lyingCount i_rd_fault i_rd_token i_rd_kind i_sc_count i_sc_at i_A_tunes i_A_houses i_fA_length i_B_tunes i_B_houses i_fB_length i_acts_done i_acts_undone i_kn_count f_boxes f_boxKept f_trial f_offers f_A_noteCounts f_A_notes f_B_noteCounts f_B_notes f_now_where f_now_worn f_ahead_where f_ahead_worn f_acts_rows f_kn_tunes f_kn_noteTimes J L) sz)) 0 0 (va_A (WX r ct i_tapeLength i_time i_lyingCount i_rd_fault i_rd_token i_rd_kind i_sc_count i_sc_at i_A_tunes i_A_houses i_fA_length i_B_tunes i_B_houses i_fB_length i_acts_done i_acts_undone i_kn_count f_boxes f_boxKept f_trial f_offers f_A_noteCounts f_A_notes f_B_noteCounts f_B_notes f_now_where f_now_worn f_ahead_where f_ahead_worn f_acts_rows f_kn_tunes f_kn_noteTimes J L) sz) := by
  refine Met.ofW (cc := cX3_add) (maxL := 5) (ret := (some .int)) (by decide) rfl ?_
  intro p e s m args below meth c0 s₁ B hml hv
  obtain ⟨rfl, hsz, hP, hK, hD0⟩ := hv
  have hx := B.exec
  have hb := B.bytes
  have hr := B.returns
  have hts := atoms_spec (ws := .code yX3_add cX3_add 5 (some .int) :: GW) B.pre
  have hG : ∀ w ∈ GW, w.before _ s = true := fun w h => hts w (List.mem_cons_of_mem _ h)
  have hown : s.vm.findClass RX3 = some m.cls := findClass_of_methodNamed B.named
  subst hsz
  have hD := hD0.self (sz := s.heap.size)
  generalize hAe : va_A (WX r ct i_tapeLength i_time i_lyingCount i_rd_fault i_rd_token i_rd_kind i_sc_count i_sc_at i_A_tunes i_A_houses i_fA_length i_B_tunes i_B_houses i_fB_length i_acts_done i_acts_undone i_kn_count f_boxes f_boxKept f_trial f_offers f_A_noteCounts f_A_notes f_B_noteCounts f_B_notes f_now_where f_now_worn f_ahead_where f_ahead_worn f_acts_rows f_kn_tunes f_kn_noteTimes J L) s.heap.size = A at hD ⊢
  have hA : ∀ q : Nat, s.heap.size ≤ q → A q := fun q h => by rw [← hAe]; exact Or.inr h
  have hS : va_S A s.heap s.heap [] := va_S.rf
  have hP : va_P (dC, dI) vwCl (WX r ct i_tapeLength i_time i_lyingCount i_rd_fault i_rd_token i_rd_kind i_sc_count i_sc_at i_A_tunes i_A_houses i_fA_length i_B_tunes i_B_houses i_fB_length i_acts_done i_acts_undone i_kn_count f_boxes f_boxKept f_trial f_offers f_A_noteCounts f_A_notes f_B_noteCounts f_B_notes f_now_where f_now_worn f_ahead_where f_ahead_worn f_acts_rows f_kn_tunes f_kn_noteTimes J L) s.heap := hP
  have hl := lv_entry ([.ref (r 10), .int p0, .int p1, .int p2, .int p3]) (n := 5) (Nat.le_of_ble_eq_true rfl)
  rw [lg_entry_eq]
  generalize (lg_sl ([.ref (r 10), .int p0, .int p1, .int p2, .int p3]) ++ List.replicate (5 - (lg_sl ([.ref (r 10), .int p0, .int p1, .int p2, .int p3])).length) Slot.unset).toArray = ls at hl ⊢
  have hl : lv_has ls 5 [(0, .ref (r 10)), (1, .int p0), (2, .int p1), (3, .int p2), (4, .int p3)] := hl
  refine nameQ (fun Q hQ => ?_)
  obtain ⟨ie0, ie1, ie2, ie3, ie4, ie5, ie6, ie7, ie8, ie9, ie10, ie11, ie12, ie13, ie14, ie15, ie16, ie17, ie18, ie19, ie20, ie21, ie22, ie23, ie24, ie25, ie26, ie27, ie28, ie29, ie30, ie31, ie32, ie33, ie34, ie35, ie36, ie37, ie38, ie39⟩ := id hI
  refine lv_aload_n hx hb dX3_add_0 rfl (lv_at hl 0 rfl) ?_
  refine gX_X3_49_10 hx hb hG hown hK hP dX3_add_1 ?_
  refine lv_bipush (v := 30) hx hb dX3_add_4 (by decide) ?_
  refine lv_icmp_lt (tgt := 11) hx hb dX3_add_6 (by decide) (fun c_1 => ?_) (fun c_1 => ?_)
  · skip
    have f2 : i_kn_count.toInt < 30 := qi_lt c_1 rfl zc_30
    refine lv_aload_n hx hb dX3_add_11 rfl (lv_at hl 0 rfl) ?_
    refine gX_X3_9_10 hx hb hG hown hK hP dX3_add_12 ?_
    refine lv_aload_n hx hb dX3_add_15 rfl (lv_at hl 0 rfl) ?_
    refine gX_X3_49_10 hx hb hG hown hK hP dX3_add_16 ?_
    refine lv_iload_n hx hb dX3_add_19 rfl (lv_at hl 1 rfl) ?_
    refine stX_52 (mm := i_kn_count.toInt) hx hb hK hP hD hS rfl (ox_544 ie24 ie25 f2) (ox_545 ie24 ie25 f2) dX3_add_20 (fun z4 H3 locs ez4 hP hD hS => ?_)
    have g5 : EB 0 4 z4 := ez4 ▸ EB_upd ie31 (ox_78 hp0 hp1) (ox_546 hp0 hp1)
    refine lv_aload_n hx hb dX3_add_21 rfl (lv_at hl 0 rfl) ?_
    refine gX_X3_15_10 hx hb hG hown hK hP dX3_add_22 ?_
    refine lv_aload_n hx hb dX3_add_25 rfl (lv_at hl 0 rfl) ?_
    refine gX_X3_49_10 hx hb hG hown hK hP dX3_add_26 ?_
    refine lv_iload_n hx hb dX3_add_29 rfl (lv_at hl 2 rfl) ?_
    refine stX_53 (mm := i_kn_count.toInt) hx hb hK hP hD hS rfl (ox_544 ie24 ie25 f2) (ox_545 ie24 ie25 f2) dX3_add_30 (fun J7 H6 locs hP hD hS => ?_)
    refine lv_aload_n hx hb dX3_add_31 rfl (lv_at hl 0 rfl) ?_
    refine gX_X3_18_10 hx hb hG hown hK hP dX3_add_32 ?_
    refine lv_aload_n hx hb dX3_add_35 rfl (lv_at hl 0 rfl) ?_
    refine gX_X3_49_10 hx hb hG hown hK hP dX3_add_36 ?_
    refine lv_iload_n hx hb dX3_add_39 rfl (lv_at hl 3 rfl) ?_
    refine stX_54 (mm := i_kn_count.toInt) hx hb hK hP hD hS rfl (ox_544 ie24 ie25 f2) (ox_545 ie24 ie25 f2) dX3_add_40 (fun J9 H8 locs hP hD hS => ?_)
    refine lv_aload_n hx hb dX3_add_41 rfl (lv_at hl 0 rfl) ?_
    refine gX_X3_22_10 hx hb hG hown hK hP dX3_add_42 ?_
    refine lv_aload_n hx hb dX3_add_45 rfl (lv_at hl 0 rfl) ?_
    refine gX_X3_49_10 hx hb hG hown hK hP dX3_add_46 ?_
    refine lv_iload hx hb dX3_add_49 (lv_at hl 4 rfl) ?_
    refine stX_55 (mm := i_kn_count.toInt) hx hb hK hP hD hS rfl (ox_544 ie24 ie25 f2) (ox_545 ie24 ie25 f2) dX3_add_51 (fun J11 H10 locs hP hD hS => ?_)
    refine lv_aload_n hx hb dX3_add_52 rfl (lv_at hl 0 rfl) ?_
    refine gX_X3_25_10 hx hb hG hown hK hP dX3_add_53 ?_
    refine lv_aload_n hx hb dX3_add_56 rfl (lv_at hl 0 rfl) ?_
    refine gX_X3_49_10 hx hb hG hown hK hP dX3_add_57 ?_
    refine lv_iconst (v := (-1)) hx hb dX3_add_60 (by decide) ?_
    refine stX_56 (mm := i_kn_count.toInt) hx hb hK hP hD hS rfl (ox_544 ie24 ie25 f2) (ox_545 ie24 ie25 f2) dX3_add_61 (fun J13 H12 locs hP hD hS => ?_)
    refine lv_aload_n hx hb dX3_add_62 rfl (lv_at hl 0 rfl) ?_
    refine lv_dup hx hb dX3_add_63 rfl ?_
    refine gX_X3_49_10 hx hb hG hown hK hP dX3_add_64 ?_
    refine lv_iconst (v := 1) hx hb dX3_add_67 (by decide) ?_
    refine lv_iadd hx hb dX3_add_68 ?_
    refine lv_topi (fun x14 ex14 => ?_)
    have f15 : x14.toInt = i_kn_count.toInt + 1 := (ox_13 (qi_add ex14 rfl zc_1 (ox_547 ie24 ie25 f2) (ox_548 ie24 ie25 f2)))
    refine pX_X3_49_10 hx hb hG hown hK hP hD hS dX3_add_69 (fun H16 locs hP hD hS => ?_)
    refine lv_aload_n hx hb dX3_add_72 rfl (lv_at hl 0 rfl) ?_
    refine gX_X3_49_10 hx hb hG hown hK hP dX3_add_73 ?_
    refine lv_iconst (v := 1) hx hb dX3_add_76 (by decide) ?_
    refine lv_isub hx hb dX3_add_77 ?_
    refine lv_topi (fun x17 ex17 => ?_)
    have f18 : x17.toInt = i_kn_count.toInt := (ox_551 (qi_sub ex17 rfl zc_1 (ox_549 ie24 ie25 f2 f15) (ox_550 ie24 ie25 f2 f15)) f15)
    rw [hQ]
    exact W.iret (v := x17) hx hb hr (fun t ht hW => ⟨⟨x17, x17, rfl, rfl, ⟨x14, z4, J13, by rw [ht]; exact hP, hD, ⟨ie0, ie1, ie2, ie3, ie4, ie5, ie6, ie7, ie8, ie9, ie10, ie11, ie12, ie13, ie14, ie15, ie16, ie17, ie18, ie19, ie20, ie21, ie22, ie23, (ox_555 ie24 ie25 f2 f15), (ox_556 ie24 ie25 f2 f15), ie26, ie27, ie28, ie29, ie30, g5, ie32, ie33, ie34, ie35, ie36, ie37, ie38, ie39⟩, (ox_552 ie24 ie25 f2 f18), (ox_553 ie24 ie25 f2 f18), (ox_554 ie24 ie25 f2 f18)⟩⟩, hS.F ht⟩) hS.2.2 dX3_add_78
  · skip
    have f19 : 30 ≤ i_kn_count.toInt := qi_nlt c_1 rfl zc_30
    refine lv_iconst (v := (-1)) hx hb dX3_add_9 (by decide) ?_
    rw [hQ]
    exact W.iret (v := (-1)) hx hb hr (fun t ht hW => ⟨⟨(-1), (-1), rfl, rfl, ⟨i_kn_count, f_kn_tunes, J, by rw [ht]; exact hP, hD, hI, (ox_557 ie24 ie25 f19 zc_m1), (ox_83 zc_m1), (ox_558 zc_m1)⟩⟩, hS.F ht⟩) hS.2.2 dX3_add_10
set_option maxHeartbeats 4000000 in
set_option maxRecDepth 100000 in
theorem kX8_known (l : Launch) (dC : Nat → ClassId) (dI : Nat → Nat → Nat) (r : Nat → Nat) (ct : Nat → ClassId) (i_tapeLength i_time i_lyingCount i_rd_fault i_rd_token i_rd_kind i_sc_count i_sc_at i_A_tunes i_A_houses i_fA_length i_B_tunes i_B_houses i_fB_length i_acts_done i_acts_undone i_kn_count : Int32) (f_boxes f_boxKept f_trial f_offers f_A_noteCounts f_A_notes f_B_noteCounts f_B_notes f_now_where f_now_worn f_ahead_where f_ahead_worn f_acts_rows f_kn_tunes f_kn_noteTimes : Nat → Int32) (J : Nat → Nat → Int32) (L : Nat → Nat → Int64) (p0 p1 p2 : Int32) (sz : Nat) (hI : (IX i_tapeLength i_time i_lyingCount i_rd_token i_sc_count i_sc_at i_A_tunes i_A_houses i_fA_length i_B_tunes i_B_houses i_fB_length i_acts_done i_acts_undone i_kn_count f_boxes f_A_noteCounts f_A_notes f_B_noteCounts f_B_notes f_now_worn f_ahead_worn f_acts_rows f_kn_tunes)) (hz_p2 : 0 ≤ p2.toInt ∧ p2.toInt ≤ 1) : Met l yX8_known (.code yX8_known cX8_known 4 (some .int) :: GW) { frames := 4, cells := 0, slots := 0, locals := 164 } (va_Pc [.ref (r 0), .int p0, .int p1, .int p2] (pW (dC, dI) (WX r ct i_tapeLength i_time i_lyingCount i_rd_fault i_rd_token i_rd_kind i_sc_count i_sc_at i_A_tunes i_A_houses i_fA_length i_B_tunes i_B_houses i_fB_length i_acts_done i_acts_undone i_kn_count f_boxes f_boxKept f_trial f_offers f_A_noteCounts f_A_notes f_B_noteCounts f_B_notes f_now_where f_now_worn f_ahead_where f_ahead_worn f_acts_rows f_kn_tunes f_kn_noteTimes J L) (TX ct) sz)) (va_Qi (fun (r0 : Int32) (u : Int32) => r0 = u) (fun (u : Int32) (t : State) => ∃ (n_i_kn_count : Int32) (n_f_kn_tunes : Nat → Int32) (n_J : Nat → Nat → Int32), va_P (dC, dI) vwCl (WX r ct i_tapeLength i_time i_lyingCount i_rd_fault i_rd_token i_rd_kind i_sc_count i_sc_at i_A_tunes i_A_houses i_fA_length i_B_tunes i_B_houses i_fB_length i_acts_done i_acts_undone n_i_kn_count f_boxes f_boxKept f_trial f_offers f_A_noteCounts f_A_notes f_B_noteCounts f_B_notes f_now_where f_now_worn f_ahead_where f_ahead_worn f_acts_rows n_f_kn_tunes f_kn_noteTimes n_J L) t.heap ∧ va_D (va_A (WX r ct i_tapeLength i_time i_lyingCount i_rd_fault i_rd_token i_rd_kind i_sc_count i_sc_at i_A_tunes i_A_houses i_fA_length i_B_tunes i_B_houses i_fB_length i_acts_done i_acts_undone i_kn_count f_boxes f_boxKept f_trial f_offers f_A_noteCounts f_A_notes f_B_noteCounts f_B_notes f_now_where f_now_worn f_ahead_where f_ahead_worn f_acts_rows f_kn_tunes f_kn_noteTimes J L) sz) (WX r ct i_tapeLength i_time i_lyingCount i_rd_fault i_rd_token i_rd_kind i_sc_count i_sc_at i_A_tunes i_A_houses i_fA_length i_B_tunes i_B_houses i_fB_length i_acts_done i_acts_undone n_i_kn_count f_boxes f_boxKept f_trial f_offers f_A_noteCounts f_A_notes f_B_noteCounts f_B_notes f_now_where f_now_worn f_ahead_where f_ahead_worn f_acts_rows n_f_kn_tunes f_kn_noteTimes n_J L) ∧ (IX i_tapeLength i_time i_lyingCount i_rd_token i_sc_count i_sc_at i_A_tunes i_A_houses i_fA_length i_B_tunes i_B_houses i_fB_length i_acts_done i_acts_undone n_i_kn_count f_boxes f_A_noteCounts f_A_notes f_B_noteCounts f_B_notes f_now_worn f_ahead_worn f_acts_rows n_f_kn_tunes)) (va_A (WX r ct i_tapeLength i_time i_lyingCount i_rd_fault i_rd_token i_rd_kind i_sc_count i_sc_at i_A_tunes i_A_houses i_fA_length i_B_tunes i_B_houses i_fB_length i_acts_done i_acts_undone i_kn_count f_boxes f_boxKept f_trial f_offers f_A_noteCounts f_A_notes f_B_noteCounts f_B_notes f_now_where f_now_worn f_ahead_where f_ahead_worn f_acts_rows f_kn_tunes f_kn_noteTimes J L) sz)) 0 0 (va_A (WX r ct i_tapeLength i_time i_lyingCount i_rd_fault i_rd_token i_rd_kind i_sc_count i_sc_at i_A_tunes i_A_houses i_fA_length i_B_tunes i_B_houses i_fB_length i_acts_done i_acts_undone i_kn_count f_boxes f_boxKept f_trial f_offers f_A_noteCounts f_A_notes f_B_noteCounts f_B_notes f_now_where f_now_worn f_ahead_where f_ahead_worn f_acts_rows f_kn_tunes f_kn_noteTimes J L) sz) := by
  refine Met.ofW (cc := cX8_known) (maxL := 4) (ret := (some .int)) (by decide) rfl ?_
  intro p e s m args below meth c0 s₁ B hml hv
  obtain ⟨rfl, hsz, hP, hK, hD0⟩ := hv
  have hx := B.exec
  have hb := B.bytes
  have hr := B.returns
  have hts := atoms_spec (ws := .code yX8_known cX8_known 4 (some .int) :: GW) B.pre
  have hG : ∀ w ∈ GW, w.before _ s = true := fun w h => hts w (List.mem_cons_of_mem _ h)
  have hown : s.vm.findClass RX8 = some m.cls := findClass_of_methodNamed B.named
  subst hsz
  have hD := hD0.self (sz := s.heap.size)
  generalize hAe : va_A (WX r ct i_tapeLength i_time i_lyingCount i_rd_fault i_rd_token i_rd_kind i_sc_count i_sc_at i_A_tunes i_A_houses i_fA_length i_B_tunes i_B_houses i_fB_length i_acts_done i_acts_undone i_kn_count f_boxes f_boxKept f_trial f_offers f_A_noteCounts f_A_notes f_B_noteCounts f_B_notes f_now_where f_now_worn f_ahead_where f_ahead_worn f_acts_rows f_kn_tunes f_kn_noteTimes J L) s.heap.size = A at hD ⊢
  have hA : ∀ q : Nat, s.heap.size ≤ q → A q := fun q h => by rw [← hAe]; exact Or.inr h
  have hS : va_S A s.heap s.heap [] := va_S.rf
  have hP : va_P (dC, dI) vwCl (WX r ct i_tapeLength i_time i_lyingCount i_rd_fault i_rd_token i_rd_kind i_sc_count i_sc_at i_A_tunes i_A_houses i_fA_length i_B_tunes i_B_houses i_fB_length i_acts_done i_acts_undone i_kn_count f_boxes f_boxKept f_trial f_offers f_A_noteCounts f_A_notes f_B_noteCounts f_B_notes f_now_where f_now_worn f_ahead_where f_ahead_worn f_acts_rows f_kn_tunes f_kn_noteTimes J L) s.heap := hP
  have hl := lv_entry ([.ref (r 0), .int p0, .int p1, .int p2]) (n := 4) (Nat.le_of_ble_eq_true rfl)
  rw [lg_entry_eq]
  generalize (lg_sl ([.ref (r 0), .int p0, .int p1, .int p2]) ++ List.replicate (4 - (lg_sl ([.ref (r 0), .int p0, .int p1, .int p2])).length) Slot.unset).toArray = ls at hl ⊢
  have hl : lv_has ls 4 [(0, .ref (r 0)), (1, .int p0), (2, .int p1), (3, .int p2)] := hl
  refine nameQ (fun Q hQ => ?_)
  obtain ⟨ie0, ie1, ie2, ie3, ie4, ie5, ie6, ie7, ie8, ie9, ie10, ie11, ie12, ie13, ie14, ie15, ie16, ie17, ie18, ie19, ie20, ie21, ie22, ie23, ie24, ie25, ie26, ie27, ie28, ie29, ie30, ie31, ie32, ie33, ie34, ie35, ie36, ie37, ie38, ie39⟩ := id hI
  refine lv_aload_n hx hb dX8_known_0 rfl (lv_at hl 0 rfl) ?_
  refine lv_iload_n hx hb dX8_known_1 rfl (lv_at hl 1 rfl) ?_
  refine va_calli (va_runV (As := [.int p0]) (rest := []) ⟨hx, hb, hml, hown, hG⟩ (kX8_isTune l dC dI r ct i_tapeLength i_time i_lyingCount i_rd_fault i_rd_token i_rd_kind i_sc_count i_sc_at i_A_tunes i_A_houses i_fA_length i_B_tunes i_B_houses i_fB_length i_acts_done i_acts_undone i_kn_count f_boxes f_boxKept f_trial f_offers f_A_noteCounts f_A_notes f_B_noteCounts f_B_notes f_now_where f_now_worn f_ahead_where f_ahead_worn f_acts_rows f_kn_tunes f_kn_noteTimes J L p0 s.heap.size hI) (cwV 1 hG (goodV gw695 gw697 gw20 gw129 gw698) rfl rfl rfl hd_X8_isTune ⟨(Nat.le_of_ble_eq_true rfl), (Nat.le_of_ble_eq_true rfl)⟩) ⟨fbR, va_recv hK hP (ci := 7) (q0 := 0) rfl rfl, pR_in hP hK⟩ rfl rfl hl.1 rfl (lv_room (Nat.le_of_ble_eq_true rfl)) dX8_known_2 ⟨(Nat.le_of_ble_eq_true rfl), (Nat.le_of_ble_eq_true rfl)⟩) hS (fun q hq h => absurd hq (Nat.not_lt.mpr h)) (fun q h => hA q (Nat.le_trans hS.1 h)) (fun r_2 u_ t_ H1 locs ht hvm hw hB hz1 hk1 hS => ?_)
  subst hw
  have hP := wk hP hk1
  obtain ⟨f3, f4, f5⟩ := hB
  refine lv_if_eq (tgt := 18) hx hb dX8_known_5 (by decide) (fun c_6 => ?_) (fun c_6 => ?_)
  · skip
    have f7 : r_2.toInt = 0 := qi_eq c_6 rfl zc_0
    refine lv_iconst (v := (-1)) hx hb dX8_known_18 (by decide) ?_
    rw [hQ]
    exact W.iret (v := (-1)) hx hb hr (fun t ht hW => ⟨⟨(-1), (-1), rfl, rfl, ⟨i_kn_count, f_kn_tunes, J, by rw [ht]; exact hP, hD, hI⟩⟩, hS.F ht⟩) hS.2.2 dX8_known_19
  · skip
    have f8 : r_2.toInt ≠ 0 := qi_ne c_6 rfl zc_0
    have f9 : (0 : Int) ≤ p0.toInt := (ox_50 f3 f8)
    have f10 : p0.toInt + 1 ≤ i_A_tunes.toInt := (ox_51 f3 f8)
    have f11 : r_2.toInt = (1 : Int) := (ox_52 f3 f8)
    have f12 : (1 : Int) ≤ r_2.toInt := (ox_53 f4 f5 f11)
    refine lv_aload_n hx hb dX8_known_8 rfl (lv_at hl 0 rfl) ?_
    refine gX_X8_23_0 hx hb hG hown hK hP dX8_known_9 ?_
    refine gX_X8_99_3 hx hb hG hown hK hP dX8_known_12 ?_
    refine lv_if_ne (tgt := 20) hx hb dX8_known_15 (by decide) (fun c_13 => ?_) (fun c_13 => ?_)
    · skip
      have f14 : i_A_houses.toInt ≠ 0 := qi_ne c_13 rfl zc_0
      have f15 : (1 : Int) ≤ i_A_houses.toInt := (ox_474 ie14 ie15 f14)
      refine lv_iload_n hx hb dX8_known_20 rfl (lv_at hl 2 rfl) ?_
      refine lv_sipush (v := (-999)) hx hb dX8_known_21 (by decide) ?_
      refine lv_icmp_lt (tgt := 34) hx hb dX8_known_24 (by decide) (fun c_16 => ?_) (fun c_16 => ?_)
      · skip
        have f17 : p1.toInt < (-999) := qi_lt c_16 rfl zc_m999
        refine lv_iconst (v := (-1)) hx hb dX8_known_34 (by decide) ?_
        rw [hQ]
        exact W.iret (v := (-1)) hx hb hr (fun t ht hW => ⟨⟨(-1), (-1), rfl, rfl, ⟨i_kn_count, f_kn_tunes, J, by rw [ht]; exact hP, hD, hI⟩⟩, hS.F ht⟩) hS.2.2 dX8_known_35
      · skip
        have f18 : (-999) ≤ p1.toInt := qi_nlt c_16 rfl zc_m999
        refine lv_iload_n hx hb dX8_known_27 rfl (lv_at hl 2 rfl) ?_
        refine lv_sipush (v := 999) hx hb dX8_known_28 (by decide) ?_
        refine lv_icmp_le (tgt := 36) hx hb dX8_known_31 (by decide) (fun c_19 => ?_) (fun c_19 => ?_)
        · skip
          have f20 : p1.toInt ≤ 999 := qi_le c_19 rfl zc_999
          refine lv_aload_n hx hb dX8_known_36 rfl (lv_at hl 0 rfl) ?_
          refine gX_X8_55_0 hx hb hG hown hK hP dX8_known_37 ?_
          refine lv_iload_n hx hb dX8_known_40 rfl (lv_at hl 1 rfl) ?_
          refine lv_iload_n hx hb dX8_known_41 rfl (lv_at hl 2 rfl) ?_
          refine lv_iload_n hx hb dX8_known_42 rfl (lv_at hl 3 rfl) ?_
          refine lv_aload_n hx hb dX8_known_43 rfl (lv_at hl 0 rfl) ?_
          refine gX_X8_321_0 hx hb hG hown hK hP dX8_known_44 ?_
          have hFc := frA hD hS hA
          refine va_calli (va_runV (As := [.int p0, .int p1, .int p2, .int i_time]) (rest := []) ⟨hx, hb, hml, hown, hG⟩ (kX3_add l dC dI r ct i_tapeLength i_time i_lyingCount i_rd_fault i_rd_token i_rd_kind i_sc_count i_sc_at i_A_tunes i_A_houses i_fA_length i_B_tunes i_B_houses i_fB_length i_acts_done i_acts_undone i_kn_count f_boxes f_boxKept f_trial f_offers f_A_noteCounts f_A_notes f_B_noteCounts f_B_notes f_now_where f_now_worn f_ahead_where f_ahead_worn f_acts_rows f_kn_tunes f_kn_noteTimes J L p0 p1 p2 i_time H1.size hI (ox_54 f9 f10) (ox_211 ie13 f10) (ox_559 hz_p2)) (cwV 4 hG (goodV gw1057 gw1058 gw1059 gw136 gw1060) rfl rfl rfl hd_X3_add ⟨(Nat.le_of_ble_eq_true rfl), (Nat.le_of_ble_eq_true rfl)⟩) ⟨fbW, va_recv hK hP (ci := 2) (q0 := 10) rfl rfl, pW_in hP hK hD⟩ rfl rfl hl.1 rfl (lv_room (Nat.le_of_ble_eq_true rfl)) dX8_known_47 ⟨(Nat.le_of_ble_eq_true rfl), (Nat.le_of_ble_eq_true rfl)⟩) hS (fun q _ h => hFc q h) hFc (fun r_22 u_ t_ H21 locs ht hvm hw hB hz1 hk1 hS => ?_)
          subst hw
          obtain ⟨x23, z24, J25, hP1, hD1, hI29, f26, f27, f28⟩ := hB
          rw [ht] at hP1
          have hP := hP1
          have hD := dW hFc hD1
          obtain ⟨im30, im31, im32, im33, im34, im35, im36, im37, im38, im39, im40, im41, im42, im43, im44, im45, im46, im47, im48, im49, im50, im51, im52, im53, im54, im55, im56, im57, im58, im59, im60, im61, im62, im63, im64, im65, im66, im67, im68, im69⟩ := id hI29
          rw [hQ]
          exact W.iret (v := r_22) hx hb hr (fun t ht hW => ⟨⟨r_22, r_22, rfl, rfl, ⟨x23, z24, J25, by rw [ht]; exact hP, hD, hI29⟩⟩, hS.F ht⟩) hS.2.2 dX8_known_50
        · skip
          have f70 : 999 < p1.toInt := qi_nle c_19 rfl zc_999
          refine lv_iconst (v := (-1)) hx hb dX8_known_34 (by decide) ?_
          rw [hQ]
          exact W.iret (v := (-1)) hx hb hr (fun t ht hW => ⟨⟨(-1), (-1), rfl, rfl, ⟨i_kn_count, f_kn_tunes, J, by rw [ht]; exact hP, hD, hI⟩⟩, hS.F ht⟩) hS.2.2 dX8_known_35
    · skip
      have f71 : i_A_houses.toInt = 0 := qi_eq c_13 rfl zc_0
      refine lv_iconst (v := (-1)) hx hb dX8_known_18 (by decide) ?_
      rw [hQ]
      exact W.iret (v := (-1)) hx hb hr (fun t ht hW => ⟨⟨(-1), (-1), rfl, rfl, ⟨i_kn_count, f_kn_tunes, J, by rw [ht]; exact hP, hD, hI⟩⟩, hS.F ht⟩) hS.2.2 dX8_known_19
set_option maxHeartbeats 4000000 in
set_option maxRecDepth 100000 in
theorem kX3_drop (l : Launch) (dC : Nat → ClassId) (dI : Nat → Nat → Nat) (r : Nat → Nat) (ct : Nat → ClassId) (i_tapeLength i_time i_lyingCount i_rd_fault i_rd_token i_rd_kind i_sc_count i_sc_at i_A_tunes i_A_houses i_fA_length i_B_tunes i_B_houses i_fB_length i_acts_done i_acts_undone i_kn_count : Int32) (f_boxes f_boxKept f_trial f_offers f_A_noteCounts f_A_notes f_B_noteCounts f_B_notes f_now_where f_now_worn f_ahead_where f_ahead_worn f_acts_rows f_kn_tunes f_kn_noteTimes : Nat → Int32) (J : Nat → Nat → Int32) (L : Nat → Nat → Int64) (p0 p1 : Int32) (sz : Nat) (hI : (IX i_tapeLength i_time i_lyingCount i_rd_token i_sc_count i_sc_at i_A_tunes i_A_houses i_fA_length i_B_tunes i_B_houses i_fB_length i_acts_done i_acts_undone i_kn_count f_boxes f_A_noteCounts f_A_notes f_B_noteCounts f_B_notes f_now_worn f_ahead_worn f_acts_rows f_kn_tunes)) : Met l yX3_drop (.code yX3_drop cX3_drop 3 (some .boolean) :: GW) { frames := 2, cells := 0, slots := 0, locals := 100 } (va_Pc [.ref (r 10), .int p0, .int p1] (pW (dC, dI) (WX r ct i_tapeLength i_time i_lyingCount i_rd_fault i_rd_token i_rd_kind i_sc_count i_sc_at i_A_tunes i_A_houses i_fA_length i_B_tunes i_B_houses i_fB_length i_acts_done i_acts_undone i_kn_count f_boxes f_boxKept f_trial f_offers f_A_noteCounts f_A_notes f_B_noteCounts f_B_notes f_now_where f_now_worn f_ahead_where f_ahead_worn f_acts_rows f_kn_tunes f_kn_noteTimes J L) (TX ct) sz)) (va_Qi (fun (r0 : Int32) (u : Int32) => r0 = u) (fun (u : Int32) (t : State) => ∃ (n_J : Nat → Nat → Int32), va_P (dC, dI) vwCl (WX r ct i_tapeLength i_time i_lyingCount i_rd_fault i_rd_token i_rd_kind i_sc_count i_sc_at i_A_tunes i_A_houses i_fA_length i_B_tunes i_B_houses i_fB_length i_acts_done i_acts_undone i_kn_count f_boxes f_boxKept f_trial f_offers f_A_noteCounts f_A_notes f_B_noteCounts f_B_notes f_now_where f_now_worn f_ahead_where f_ahead_worn f_acts_rows f_kn_tunes f_kn_noteTimes n_J L) t.heap ∧ va_D (va_A (WX r ct i_tapeLength i_time i_lyingCount i_rd_fault i_rd_token i_rd_kind i_sc_count i_sc_at i_A_tunes i_A_houses i_fA_length i_B_tunes i_B_houses i_fB_length i_acts_done i_acts_undone i_kn_count f_boxes f_boxKept f_trial f_offers f_A_noteCounts f_A_notes f_B_noteCounts f_B_notes f_now_where f_now_worn f_ahead_where f_ahead_worn f_acts_rows f_kn_tunes f_kn_noteTimes J L) sz) (WX r ct i_tapeLength i_time i_lyingCount i_rd_fault i_rd_token i_rd_kind i_sc_count i_sc_at i_A_tunes i_A_houses i_fA_length i_B_tunes i_B_houses i_fB_length i_acts_done i_acts_undone i_kn_count f_boxes f_boxKept f_trial f_offers f_A_noteCounts f_A_notes f_B_noteCounts f_B_notes f_now_where f_now_worn f_ahead_where f_ahead_worn f_acts_rows f_kn_tunes f_kn_noteTimes n_J L) ∧ (IX i_tapeLength i_time i_lyingCount i_rd_token i_sc_count i_sc_at i_A_tunes i_A_houses i_fA_length i_B_tunes i_B_houses i_fB_length i_acts_done i_acts_undone i_kn_count f_boxes f_A_noteCounts f_A_notes f_B_noteCounts f_B_notes f_now_worn f_ahead_worn f_acts_rows f_kn_tunes) ∧ (((p0.toInt + 1 ≤ (0 : Int)) ∧ (u.toInt = (0 : Int))) ∨ (((0 : Int) ≤ p0.toInt) ∧ (i_kn_count.toInt ≤ p0.toInt) ∧ (u.toInt = (0 : Int))) ∨ (((0 : Int) ≤ p0.toInt) ∧ (p0.toInt + 1 ≤ i_kn_count.toInt) ∧ (u.toInt = (1 : Int))) ∨ (((0 : Int) ≤ p0.toInt) ∧ (p0.toInt + 1 ≤ i_kn_count.toInt) ∧ (u.toInt = (0 : Int)))) ∧ ((0 : Int) ≤ u.toInt) ∧ (u.toInt ≤ (1 : Int))) (va_A (WX r ct i_tapeLength i_time i_lyingCount i_rd_fault i_rd_token i_rd_kind i_sc_count i_sc_at i_A_tunes i_A_houses i_fA_length i_B_tunes i_B_houses i_fB_length i_acts_done i_acts_undone i_kn_count f_boxes f_boxKept f_trial f_offers f_A_noteCounts f_A_notes f_B_noteCounts f_B_notes f_now_where f_now_worn f_ahead_where f_ahead_worn f_acts_rows f_kn_tunes f_kn_noteTimes J L) sz)) 0 0 (va_A (WX r ct i_tapeLength i_time i_lyingCount i_rd_fault i_rd_token i_rd_kind i_sc_count i_sc_at i_A_tunes i_A_houses i_fA_length i_B_tunes i_B_houses i_fB_length i_acts_done i_acts_undone i_kn_count f_boxes f_boxKept f_trial f_offers f_A_noteCounts f_A_notes f_B_noteCounts f_B_notes f_now_where f_now_worn f_ahead_where f_ahead_worn f_acts_rows f_kn_tunes f_kn_noteTimes J L) sz) := by
  refine Met.ofW (cc := cX3_drop) (maxL := 3) (ret := (some .boolean)) (by decide) rfl ?_
  intro p e s m args below meth c0 s₁ B hml hv
  obtain ⟨rfl, hsz, hP, hK, hD0⟩ := hv
  have hx := B.exec
  have hb := B.bytes
  have hr := B.returns
  have hts := atoms_spec (ws := .code yX3_drop cX3_drop 3 (some .boolean) :: GW) B.pre
  have hG : ∀ w ∈ GW, w.before _ s = true := fun w h => hts w (List.mem_cons_of_mem _ h)
  have hown : s.vm.findClass RX3 = some m.cls := findClass_of_methodNamed B.named
  subst hsz
  have hD := hD0.self (sz := s.heap.size)
  generalize hAe : va_A (WX r ct i_tapeLength i_time i_lyingCount i_rd_fault i_rd_token i_rd_kind i_sc_count i_sc_at i_A_tunes i_A_houses i_fA_length i_B_tunes i_B_houses i_fB_length i_acts_done i_acts_undone i_kn_count f_boxes f_boxKept f_trial f_offers f_A_noteCounts f_A_notes f_B_noteCounts f_B_notes f_now_where f_now_worn f_ahead_where f_ahead_worn f_acts_rows f_kn_tunes f_kn_noteTimes J L) s.heap.size = A at hD ⊢
  have hA : ∀ q : Nat, s.heap.size ≤ q → A q := fun q h => by rw [← hAe]; exact Or.inr h
  have hS : va_S A s.heap s.heap [] := va_S.rf
  have hP : va_P (dC, dI) vwCl (WX r ct i_tapeLength i_time i_lyingCount i_rd_fault i_rd_token i_rd_kind i_sc_count i_sc_at i_A_tunes i_A_houses i_fA_length i_B_tunes i_B_houses i_fB_length i_acts_done i_acts_undone i_kn_count f_boxes f_boxKept f_trial f_offers f_A_noteCounts f_A_notes f_B_noteCounts f_B_notes f_now_where f_now_worn f_ahead_where f_ahead_worn f_acts_rows f_kn_tunes f_kn_noteTimes J L) s.heap := hP
  have hl := lv_entry ([.ref (r 10), .int p0, .int p1]) (n := 3) (Nat.le_of_ble_eq_true rfl)
  rw [lg_entry_eq]
  generalize (lg_sl ([.ref (r 10), .int p0, .int p1]) ++ List.replicate (3 - (lg_sl ([.ref (r 10), .int p0, .int p1])).length) Slot.unset).toArray = ls at hl ⊢
  have hl : lv_has ls 3 [(0, .ref (r 10)), (1, .int p0), (2, .int p1)] := hl
  refine nameQ (fun Q hQ => ?_)
  obtain ⟨ie0, ie1, ie2, ie3, ie4, ie5, ie6, ie7, ie8, ie9, ie10, ie11, ie12, ie13, ie14, ie15, ie16, ie17, ie18, ie19, ie20, ie21, ie22, ie23, ie24, ie25, ie26, ie27, ie28, ie29, ie30, ie31, ie32, ie33, ie34, ie35, ie36, ie37, ie38, ie39⟩ := id hI
  refine lv_iload_n hx hb dX3_drop_0 rfl (lv_at hl 1 rfl) ?_
  refine lv_if_lt (tgt := 22) hx hb dX3_drop_1 (by decide) (fun c_1 => ?_) (fun c_1 => ?_)
  · skip
    have f2 : p0.toInt < 0 := qi_lt c_1 rfl zc_0
    refine lv_iconst (v := 0) hx hb dX3_drop_22 (by decide) ?_
    rw [hQ]
    exact W.zret (v := 0) hx hb hr (by decide) (fun t ht hW => ⟨⟨0, 0, rfl, rfl, ⟨J, by rw [ht]; exact hP, hD, hI, (ox_560 ie24 ie25 f2 zc_0), (ox_27 zc_0), (ox_28 zc_0)⟩⟩, hS.F ht⟩) hS.2.2 dX3_drop_23
  · skip
    have f3 : 0 ≤ p0.toInt := qi_nlt c_1 rfl zc_0
    refine lv_iload_n hx hb dX3_drop_4 rfl (lv_at hl 1 rfl) ?_
    refine lv_aload_n hx hb dX3_drop_5 rfl (lv_at hl 0 rfl) ?_
    refine gX_X3_49_10 hx hb hG hown hK hP dX3_drop_6 ?_
    refine lv_icmp_ge (tgt := 22) hx hb dX3_drop_9 (by decide) (fun c_4 => ?_) (fun c_4 => ?_)
    · skip
      have f5 : i_kn_count.toInt ≤ p0.toInt := qi_le c_4 rfl rfl
      refine lv_iconst (v := 0) hx hb dX3_drop_22 (by decide) ?_
      rw [hQ]
      exact W.zret (v := 0) hx hb hr (by decide) (fun t ht hW => ⟨⟨0, 0, rfl, rfl, ⟨J, by rw [ht]; exact hP, hD, hI, (ox_561 zc_0), (ox_27 zc_0), (ox_28 zc_0)⟩⟩, hS.F ht⟩) hS.2.2 dX3_drop_23
    · skip
      have f6 : p0.toInt < i_kn_count.toInt := qi_nle c_4 rfl rfl
      refine lv_aload_n hx hb dX3_drop_12 rfl (lv_at hl 0 rfl) ?_
      refine gX_X3_25_10 hx hb hG hown hK hP dX3_drop_13 ?_
      refine lv_iload_n hx hb dX3_drop_16 rfl (lv_at hl 1 rfl) ?_
      refine ldX_56 (mm := p0.toInt) hx hb hK hP rfl (ox_543 f3 f6) (ox_562 ie25 f6) dX3_drop_17 (fun x7 => ?_)
      refine lv_iconst (v := (-1)) hx hb dX3_drop_18 (by decide) ?_
      refine lv_icmp_eq (tgt := 24) hx hb dX3_drop_19 (by decide) (fun c_8 => ?_) (fun c_8 => ?_)
      · skip
        have f9 : x7.toInt = (-1) := qi_eq c_8 rfl zc_m1
        refine lv_aload_n hx hb dX3_drop_24 rfl (lv_at hl 0 rfl) ?_
        refine gX_X3_25_10 hx hb hG hown hK hP dX3_drop_25 ?_
        refine lv_iload_n hx hb dX3_drop_28 rfl (lv_at hl 1 rfl) ?_
        refine lv_iload_n hx hb dX3_drop_29 rfl (lv_at hl 2 rfl) ?_
        refine stX_56 (mm := p0.toInt) hx hb hK hP hD hS rfl (ox_543 f3 f6) (ox_562 ie25 f6) dX3_drop_30 (fun J11 H10 locs hP hD hS => ?_)
        refine lv_iconst (v := 1) hx hb dX3_drop_31 (by decide) ?_
        rw [hQ]
        exact W.zret (v := 1) hx hb hr (by decide) (fun t ht hW => ⟨⟨1, 1, rfl, rfl, ⟨J11, by rw [ht]; exact hP, hD, hI, (ox_563 f3 f6 zc_1), (ox_31 zc_1), (ox_32 zc_1)⟩⟩, hS.F ht⟩) hS.2.2 dX3_drop_32
      · skip
        have f12 : x7.toInt ≠ (-1) := qi_ne c_8 rfl zc_m1
        refine lv_iconst (v := 0) hx hb dX3_drop_22 (by decide) ?_
        rw [hQ]
        exact W.zret (v := 0) hx hb hr (by decide) (fun t ht hW => ⟨⟨0, 0, rfl, rfl, ⟨J, by rw [ht]; exact hP, hD, hI, (ox_561 zc_0), (ox_27 zc_0), (ox_28 zc_0)⟩⟩, hS.F ht⟩) hS.2.2 dX3_drop_23
set_option maxHeartbeats 4000000 in
set_option maxRecDepth 100000 in
theorem kX8_untell (l : Launch) (dC : Nat → ClassId) (dI : Nat → Nat → Nat) (r : Nat → Nat) (ct : Nat → ClassId) (i_tapeLength i_time i_lyingCount i_rd_fault i_rd_token i_rd_kind i_sc_count i_sc_at i_A_tunes i_A_houses i_fA_length i_B_tunes i_B_houses i_fB_length i_acts_done i_acts_undone i_kn_count : Int32) (f_boxes f_boxKept f_trial f_offers f_A_noteCounts f_A_notes f_B_noteCounts f_B_notes f_now_where f_now_worn f_ahead_where f_ahead_worn f_acts_rows f_kn_tunes f_kn_noteTimes : Nat → Int32) (J : Nat → Nat → Int32) (L : Nat → Nat → Int64) (p0 : Int32) (sz : Nat) (hI : (IX i_tapeLength i_time i_lyingCount i_rd_token i_sc_count i_sc_at i_A_tunes i_A_houses i_fA_length i_B_tunes i_B_houses i_fB_length i_acts_done i_acts_undone i_kn_count f_boxes f_A_noteCounts f_A_notes f_B_noteCounts f_B_notes f_now_worn f_ahead_worn f_acts_rows f_kn_tunes)) : Met l yX8_untell (.code yX8_untell cX8_untell 2 (some .boolean) :: GW) { frames := 4, cells := 0, slots := 0, locals := 162 } (va_Pc [.ref (r 0), .int p0] (pW (dC, dI) (WX r ct i_tapeLength i_time i_lyingCount i_rd_fault i_rd_token i_rd_kind i_sc_count i_sc_at i_A_tunes i_A_houses i_fA_length i_B_tunes i_B_houses i_fB_length i_acts_done i_acts_undone i_kn_count f_boxes f_boxKept f_trial f_offers f_A_noteCounts f_A_notes f_B_noteCounts f_B_notes f_now_where f_now_worn f_ahead_where f_ahead_worn f_acts_rows f_kn_tunes f_kn_noteTimes J L) (TX ct) sz)) (va_Qi (fun (r0 : Int32) (u : Int32) => r0 = u) (fun (u : Int32) (t : State) => ∃ (n_J : Nat → Nat → Int32), va_P (dC, dI) vwCl (WX r ct i_tapeLength i_time i_lyingCount i_rd_fault i_rd_token i_rd_kind i_sc_count i_sc_at i_A_tunes i_A_houses i_fA_length i_B_tunes i_B_houses i_fB_length i_acts_done i_acts_undone i_kn_count f_boxes f_boxKept f_trial f_offers f_A_noteCounts f_A_notes f_B_noteCounts f_B_notes f_now_where f_now_worn f_ahead_where f_ahead_worn f_acts_rows f_kn_tunes f_kn_noteTimes n_J L) t.heap ∧ va_D (va_A (WX r ct i_tapeLength i_time i_lyingCount i_rd_fault i_rd_token i_rd_kind i_sc_count i_sc_at i_A_tunes i_A_houses i_fA_length i_B_tunes i_B_houses i_fB_length i_acts_done i_acts_undone i_kn_count f_boxes f_boxKept f_trial f_offers f_A_noteCounts f_A_notes f_B_noteCounts f_B_notes f_now_where f_now_worn f_ahead_where f_ahead_worn f_acts_rows f_kn_tunes f_kn_noteTimes J L) sz) (WX r ct i_tapeLength i_time i_lyingCount i_rd_fault i_rd_token i_rd_kind i_sc_count i_sc_at i_A_tunes i_A_houses i_fA_length i_B_tunes i_B_houses i_fB_length i_acts_done i_acts_undone i_kn_count f_boxes f_boxKept f_trial f_offers f_A_noteCounts f_A_notes f_B_noteCounts f_B_notes f_now_where f_now_worn f_ahead_where f_ahead_worn f_acts_rows f_kn_tunes f_kn_noteTimes n_J L) ∧ (IX i_tapeLength i_time i_lyingCount i_rd_token i_sc_count i_sc_at i_A_tunes i_A_houses i_fA_length i_B_tunes i_B_houses i_fB_length i_acts_done i_acts_undone i_kn_count f_boxes f_A_noteCounts f_A_notes f_B_noteCounts f_B_notes f_now_worn f_ahead_worn f_acts_rows f_kn_tunes)) (va_A (WX r ct i_tapeLength i_time i_lyingCount i_rd_fault i_rd_token i_rd_kind i_sc_count i_sc_at i_A_tunes i_A_houses i_fA_length i_B_tunes i_B_houses i_fB_length i_acts_done i_acts_undone i_kn_count f_boxes f_boxKept f_trial f_offers f_A_noteCounts f_A_notes f_B_noteCounts f_B_notes f_now_where f_now_worn f_ahead_where f_ahead_worn f_acts_rows f_kn_tunes f_kn_noteTimes J L) sz)) 0 0 (va_A (WX r ct i_tapeLength i_time i_lyingCount i_rd_fault i_rd_token i_rd_kind i_sc_count i_sc_at i_A_tunes i_A_houses i_fA_length i_B_tunes i_B_houses i_fB_length i_acts_done i_acts_undone i_kn_count f_boxes f_boxKept f_trial f_offers f_A_noteCounts f_A_notes f_B_noteCounts f_B_notes f_now_where f_now_worn f_ahead_where f_ahead_worn f_acts_rows f_kn_tunes f_kn_noteTimes J L) sz) := by
  refine Met.ofW (cc := cX8_untell) (maxL := 2) (ret := (some .boolean)) (by decide) rfl ?_
  intro p e s m args below meth c0 s₁ B hml hv
  obtain ⟨rfl, hsz, hP, hK, hD0⟩ := hv
  have hx := B.exec
  have hb := B.bytes
  have hr := B.returns
  have hts := atoms_spec (ws := .code yX8_untell cX8_untell 2 (some .boolean) :: GW) B.pre
  have hG : ∀ w ∈ GW, w.before _ s = true := fun w h => hts w (List.mem_cons_of_mem _ h)
  have hown : s.vm.findClass RX8 = some m.cls := findClass_of_methodNamed B.named
  subst hsz
  have hD := hD0.self (sz := s.heap.size)
  generalize hAe : va_A (WX r ct i_tapeLength i_time i_lyingCount i_rd_fault i_rd_token i_rd_kind i_sc_count i_sc_at i_A_tunes i_A_houses i_fA_length i_B_tunes i_B_houses i_fB_length i_acts_done i_acts_undone i_kn_count f_boxes f_boxKept f_trial f_offers f_A_noteCounts f_A_notes f_B_noteCounts f_B_notes f_now_where f_now_worn f_ahead_where f_ahead_worn f_acts_rows f_kn_tunes f_kn_noteTimes J L) s.heap.size = A at hD ⊢
  have hA : ∀ q : Nat, s.heap.size ≤ q → A q := fun q h => by rw [← hAe]; exact Or.inr h
  have hS : va_S A s.heap s.heap [] := va_S.rf
  have hP : va_P (dC, dI) vwCl (WX r ct i_tapeLength i_time i_lyingCount i_rd_fault i_rd_token i_rd_kind i_sc_count i_sc_at i_A_tunes i_A_houses i_fA_length i_B_tunes i_B_houses i_fB_length i_acts_done i_acts_undone i_kn_count f_boxes f_boxKept f_trial f_offers f_A_noteCounts f_A_notes f_B_noteCounts f_B_notes f_now_where f_now_worn f_ahead_where f_ahead_worn f_acts_rows f_kn_tunes f_kn_noteTimes J L) s.heap := hP
  have hl := lv_entry ([.ref (r 0), .int p0]) (n := 2) (Nat.le_of_ble_eq_true rfl)
  rw [lg_entry_eq]
  generalize (lg_sl ([.ref (r 0), .int p0]) ++ List.replicate (2 - (lg_sl ([.ref (r 0), .int p0])).length) Slot.unset).toArray = ls at hl ⊢
  have hl : lv_has ls 2 [(0, .ref (r 0)), (1, .int p0)] := hl
  refine nameQ (fun Q hQ => ?_)
  obtain ⟨ie0, ie1, ie2, ie3, ie4, ie5, ie6, ie7, ie8, ie9, ie10, ie11, ie12, ie13, ie14, ie15, ie16, ie17, ie18, ie19, ie20, ie21, ie22, ie23, ie24, ie25, ie26, ie27, ie28, ie29, ie30, ie31, ie32, ie33, ie34, ie35, ie36, ie37, ie38, ie39⟩ := id hI
  refine lv_aload_n hx hb dX8_untell_0 rfl (lv_at hl 0 rfl) ?_
  refine gX_X8_55_0 hx hb hG hown hK hP dX8_untell_1 ?_
  refine lv_iload_n hx hb dX8_untell_4 rfl (lv_at hl 1 rfl) ?_
  refine lv_aload_n hx hb dX8_untell_5 rfl (lv_at hl 0 rfl) ?_
  refine gX_X8_321_0 hx hb hG hown hK hP dX8_untell_6 ?_
  have hFc := frA hD hS hA
  refine va_calli (va_runV (As := [.int p0, .int i_time]) (rest := []) ⟨hx, hb, hml, hown, hG⟩ (kX3_drop l dC dI r ct i_tapeLength i_time i_lyingCount i_rd_fault i_rd_token i_rd_kind i_sc_count i_sc_at i_A_tunes i_A_houses i_fA_length i_B_tunes i_B_houses i_fB_length i_acts_done i_acts_undone i_kn_count f_boxes f_boxKept f_trial f_offers f_A_noteCounts f_A_notes f_B_noteCounts f_B_notes f_now_where f_now_worn f_ahead_where f_ahead_worn f_acts_rows f_kn_tunes f_kn_noteTimes J L p0 i_time s.heap.size hI) (cwV 2 hG (goodV gw1065 gw1066 gw1067 gw136 gw1068) rfl rfl rfl hd_X3_drop ⟨(Nat.le_of_ble_eq_true rfl), (Nat.le_of_ble_eq_true rfl)⟩) ⟨fbW, va_recv hK hP (ci := 2) (q0 := 10) rfl rfl, pW_in hP hK hD⟩ rfl rfl hl.1 rfl (lv_room (Nat.le_of_ble_eq_true rfl)) dX8_untell_9 ⟨(Nat.le_of_ble_eq_true rfl), (Nat.le_of_ble_eq_true rfl)⟩) hS (fun q _ h => hFc q h) hFc (fun r_2 u_ t_ H1 locs ht hvm hw hB hz1 hk1 hS => ?_)
  subst hw
  obtain ⟨J3, hP1, hD1, hI7, f4, f5, f6⟩ := hB
  rw [ht] at hP1
  have hP := hP1
  have hD := dW hFc hD1
  obtain ⟨im8, im9, im10, im11, im12, im13, im14, im15, im16, im17, im18, im19, im20, im21, im22, im23, im24, im25, im26, im27, im28, im29, im30, im31, im32, im33, im34, im35, im36, im37, im38, im39, im40, im41, im42, im43, im44, im45, im46, im47⟩ := id hI7
  rw [hQ]
  exact W.zret (v := r_2) hx hb hr (zn (ox_316 f5 f6) (ox_317 f5 f6)) (fun t ht hW => ⟨⟨r_2, r_2, rfl, rfl, ⟨J3, by rw [ht]; exact hP, hD, hI7⟩⟩, hS.F ht⟩) hS.2.2 dX8_untell_12
set_option maxHeartbeats 4000000 in
set_option maxRecDepth 100000 in
theorem kX3_countsAt (l : Launch) (dC : Nat → ClassId) (dI : Nat → Nat → Nat) (r : Nat → Nat) (ct : Nat → ClassId) (i_tapeLength i_time i_lyingCount i_rd_fault i_rd_token i_rd_kind i_sc_count i_sc_at i_A_tunes i_A_houses i_fA_length i_B_tunes i_B_houses i_fB_length i_acts_done i_acts_undone i_kn_count : Int32) (f_boxes f_boxKept f_trial f_offers f_A_noteCounts f_A_notes f_B_noteCounts f_B_notes f_now_where f_now_worn f_ahead_where f_ahead_worn f_acts_rows f_kn_tunes f_kn_noteTimes : Nat → Int32) (J : Nat → Nat → Int32) (L : Nat → Nat → Int64) (p0 p1 : Int32) (sz : Nat) (hI : (IX i_tapeLength i_time i_lyingCount i_rd_token i_sc_count i_sc_at i_A_tunes i_A_houses i_fA_length i_B_tunes i_B_houses i_fB_length i_acts_done i_acts_undone i_kn_count f_boxes f_A_noteCounts f_A_notes f_B_noteCounts f_B_notes f_now_worn f_ahead_worn f_acts_rows f_kn_tunes)) (hp0 : (0 : Int) ≤ p0.toInt) (hp1 : p0.toInt ≤ (29 : Int)) : Met l yX3_countsAt (.code yX3_countsAt cX3_countsAt 4 (some .boolean) :: GW) { frames := 2, cells := 0, slots := 0, locals := 100 } (va_Pc [.ref (r 10), .int p0, .int p1] (pR (dC, dI) (WX r ct i_tapeLength i_time i_lyingCount i_rd_fault i_rd_token i_rd_kind i_sc_count i_sc_at i_A_tunes i_A_houses i_fA_length i_B_tunes i_B_houses i_fB_length i_acts_done i_acts_undone i_kn_count f_boxes f_boxKept f_trial f_offers f_A_noteCounts f_A_notes f_B_noteCounts f_B_notes f_now_where f_now_worn f_ahead_where f_ahead_worn f_acts_rows f_kn_tunes f_kn_noteTimes J L) (TX ct) sz)) (va_Qi (fun (r0 : Int32) (u : Int32) => r0 = u) (fun (u : Int32) (t : State) => (((u.toInt = (0 : Int))) ∨ ((u.toInt = (1 : Int)))) ∧ ((0 : Int) ≤ u.toInt) ∧ (u.toInt ≤ (1 : Int))) (fun q => sz ≤ q)) 0 0 (fun q => sz ≤ q) := by
  refine Met.ofW (cc := cX3_countsAt) (maxL := 4) (ret := (some .boolean)) (by decide) rfl ?_
  intro p e s m args below meth c0 s₁ B hml hv
  obtain ⟨rfl, hsz, hP, hK⟩ := hv
  have hx := B.exec
  have hb := B.bytes
  have hr := B.returns
  have hts := atoms_spec (ws := .code yX3_countsAt cX3_countsAt 4 (some .boolean) :: GW) B.pre
  have hG : ∀ w ∈ GW, w.before _ s = true := fun w h => hts w (List.mem_cons_of_mem _ h)
  have hown : s.vm.findClass RX3 = some m.cls := findClass_of_methodNamed B.named
  subst hsz
  have hS : va_S (fun q => s.heap.size ≤ q) s.heap s.heap [] := va_S.rf
  have hP : va_P (dC, dI) vwCl (WX r ct i_tapeLength i_time i_lyingCount i_rd_fault i_rd_token i_rd_kind i_sc_count i_sc_at i_A_tunes i_A_houses i_fA_length i_B_tunes i_B_houses i_fB_length i_acts_done i_acts_undone i_kn_count f_boxes f_boxKept f_trial f_offers f_A_noteCounts f_A_notes f_B_noteCounts f_B_notes f_now_where f_now_worn f_ahead_where f_ahead_worn f_acts_rows f_kn_tunes f_kn_noteTimes J L) s.heap := hP
  have hl := lv_entry ([.ref (r 10), .int p0, .int p1]) (n := 4) (Nat.le_of_ble_eq_true rfl)
  rw [lg_entry_eq]
  generalize (lg_sl ([.ref (r 10), .int p0, .int p1]) ++ List.replicate (4 - (lg_sl ([.ref (r 10), .int p0, .int p1])).length) Slot.unset).toArray = ls at hl ⊢
  have hl : lv_has ls 4 [(0, .ref (r 10)), (1, .int p0), (2, .int p1)] := hl
  refine nameQ (fun Q hQ => ?_)
  obtain ⟨ie0, ie1, ie2, ie3, ie4, ie5, ie6, ie7, ie8, ie9, ie10, ie11, ie12, ie13, ie14, ie15, ie16, ie17, ie18, ie19, ie20, ie21, ie22, ie23, ie24, ie25, ie26, ie27, ie28, ie29, ie30, ie31, ie32, ie33, ie34, ie35, ie36, ie37, ie38, ie39⟩ := id hI
  refine lv_aload_n hx hb dX3_countsAt_0 rfl (lv_at hl 0 rfl) ?_
  refine gX_X3_25_10 hx hb hG hown hK hP dX3_countsAt_1 ?_
  refine lv_iload_n hx hb dX3_countsAt_4 rfl (lv_at hl 1 rfl) ?_
  refine ldX_56 (mm := p0.toInt) hx hb hK hP rfl (ox_564 hp0 hp1) (ox_565 hp0 hp1) dX3_countsAt_5 (fun x1 => ?_)
  refine lv_iconst (v := (-1)) hx hb dX3_countsAt_6 (by decide) ?_
  refine lv_icmp_eq (tgt := 24) hx hb dX3_countsAt_7 (by decide) (fun c_2 => ?_) (fun c_2 => ?_)
  · skip
    have f3 : x1.toInt = (-1) := qi_eq c_2 rfl zc_m1
    refine lv_iconst (v := 0) hx hb dX3_countsAt_24 (by decide) ?_
    refine lv_istore_n (lv' := [(3, .int 0), (0, .ref (r 10)), (1, .int p0), (2, .int p1)]) hx hb dX3_countsAt_25 rfl hl (by decide) rfl (fun ls hl => ?_)
    refine lv_aload_n hx hb dX3_countsAt_26 rfl (lv_at hl 1 rfl) ?_
    refine gX_X3_22_10 hx hb hG hown hK hP dX3_countsAt_27 ?_
    refine lv_iload_n hx hb dX3_countsAt_30 rfl (lv_at hl 2 rfl) ?_
    refine ldX_55 (mm := p0.toInt) hx hb hK hP rfl (ox_564 hp0 hp1) (ox_565 hp0 hp1) dX3_countsAt_31 (fun x4 => ?_)
    refine lv_iload_n hx hb dX3_countsAt_32 rfl (lv_at hl 3 rfl) ?_
    refine lv_icmp_gt (tgt := 44) hx hb dX3_countsAt_33 (by decide) (fun c_5 => ?_) (fun c_5 => ?_)
    · skip
      have f6 : p1.toInt < x4.toInt := qi_lt c_5 rfl rfl
      refine lv_iconst (v := 0) hx hb dX3_countsAt_44 (by decide) ?_
      rw [hQ]
      exact W.zret (v := 0) hx hb hr (by decide) (fun t ht hW => ⟨⟨0, 0, rfl, rfl, ⟨(ox_80 zc_0), (ox_27 zc_0), (ox_28 zc_0)⟩⟩, hS.F ht⟩) hS.2.2 dX3_countsAt_45
    · skip
      have f7 : x4.toInt ≤ p1.toInt := qi_nlt c_5 rfl rfl
      refine lv_iload_n hx hb dX3_countsAt_36 rfl (lv_at hl 0 rfl) ?_
      refine lv_if_ne (tgt := 44) hx hb dX3_countsAt_37 (by decide) (fun c_8 => absurd (by decide) c_8) (fun c_8 => ?_)
      refine lv_iconst (v := 1) hx hb dX3_countsAt_40 (by decide) ?_
      refine lv_goto (tgt := 45) hx hb dX3_countsAt_41 (by decide) ?_
      rw [hQ]
      exact W.zret (v := 1) hx hb hr (by decide) (fun t ht hW => ⟨⟨1, 1, rfl, rfl, ⟨(ox_81 zc_1), (ox_31 zc_1), (ox_32 zc_1)⟩⟩, hS.F ht⟩) hS.2.2 dX3_countsAt_45
  · skip
    have f9 : x1.toInt ≠ (-1) := qi_ne c_2 rfl zc_m1
    refine lv_aload_n hx hb dX3_countsAt_10 rfl (lv_at hl 0 rfl) ?_
    refine gX_X3_25_10 hx hb hG hown hK hP dX3_countsAt_11 ?_
    refine lv_iload_n hx hb dX3_countsAt_14 rfl (lv_at hl 1 rfl) ?_
    refine ldX_56 (mm := p0.toInt) hx hb hK hP rfl (ox_564 hp0 hp1) (ox_565 hp0 hp1) dX3_countsAt_15 (fun x10 => ?_)
    refine lv_iload_n hx hb dX3_countsAt_16 rfl (lv_at hl 2 rfl) ?_
    refine lv_icmp_gt (tgt := 24) hx hb dX3_countsAt_17 (by decide) (fun c_11 => ?_) (fun c_11 => ?_)
    · skip
      have f12 : p1.toInt < x10.toInt := qi_lt c_11 rfl rfl
      refine lv_iconst (v := 0) hx hb dX3_countsAt_24 (by decide) ?_
      refine lv_istore_n (lv' := [(3, .int 0), (0, .ref (r 10)), (1, .int p0), (2, .int p1)]) hx hb dX3_countsAt_25 rfl hl (by decide) rfl (fun ls hl => ?_)
      refine lv_aload_n hx hb dX3_countsAt_26 rfl (lv_at hl 1 rfl) ?_
      refine gX_X3_22_10 hx hb hG hown hK hP dX3_countsAt_27 ?_
      refine lv_iload_n hx hb dX3_countsAt_30 rfl (lv_at hl 2 rfl) ?_
      refine ldX_55 (mm := p0.toInt) hx hb hK hP rfl (ox_564 hp0 hp1) (ox_565 hp0 hp1) dX3_countsAt_31 (fun x13 => ?_)
      refine lv_iload_n hx hb dX3_countsAt_32 rfl (lv_at hl 3 rfl) ?_
      refine lv_icmp_gt (tgt := 44) hx hb dX3_countsAt_33 (by decide) (fun c_14 => ?_) (fun c_14 => ?_)
      · skip
        have f15 : p1.toInt < x13.toInt := qi_lt c_14 rfl rfl
        refine lv_iconst (v := 0) hx hb dX3_countsAt_44 (by decide) ?_
        rw [hQ]
        exact W.zret (v := 0) hx hb hr (by decide) (fun t ht hW => ⟨⟨0, 0, rfl, rfl, ⟨(ox_80 zc_0), (ox_27 zc_0), (ox_28 zc_0)⟩⟩, hS.F ht⟩) hS.2.2 dX3_countsAt_45
      · skip
        have f16 : x13.toInt ≤ p1.toInt := qi_nlt c_14 rfl rfl
        refine lv_iload_n hx hb dX3_countsAt_36 rfl (lv_at hl 0 rfl) ?_
        refine lv_if_ne (tgt := 44) hx hb dX3_countsAt_37 (by decide) (fun c_17 => absurd (by decide) c_17) (fun c_17 => ?_)
        refine lv_iconst (v := 1) hx hb dX3_countsAt_40 (by decide) ?_
        refine lv_goto (tgt := 45) hx hb dX3_countsAt_41 (by decide) ?_
        rw [hQ]
        exact W.zret (v := 1) hx hb hr (by decide) (fun t ht hW => ⟨⟨1, 1, rfl, rfl, ⟨(ox_81 zc_1), (ox_31 zc_1), (ox_32 zc_1)⟩⟩, hS.F ht⟩) hS.2.2 dX3_countsAt_45
    · skip
      have f18 : x10.toInt ≤ p1.toInt := qi_nlt c_11 rfl rfl
      refine lv_iconst (v := 1) hx hb dX3_countsAt_20 (by decide) ?_
      refine lv_goto (tgt := 25) hx hb dX3_countsAt_21 (by decide) ?_
      refine lv_istore_n (lv' := [(3, .int 1), (0, .ref (r 10)), (1, .int p0), (2, .int p1)]) hx hb dX3_countsAt_25 rfl hl (by decide) rfl (fun ls hl => ?_)
      refine lv_aload_n hx hb dX3_countsAt_26 rfl (lv_at hl 1 rfl) ?_
      refine gX_X3_22_10 hx hb hG hown hK hP dX3_countsAt_27 ?_
      refine lv_iload_n hx hb dX3_countsAt_30 rfl (lv_at hl 2 rfl) ?_
      refine ldX_55 (mm := p0.toInt) hx hb hK hP rfl (ox_564 hp0 hp1) (ox_565 hp0 hp1) dX3_countsAt_31 (fun x19 => ?_)
      refine lv_iload_n hx hb dX3_countsAt_32 rfl (lv_at hl 3 rfl) ?_
      refine lv_icmp_gt (tgt := 44) hx hb dX3_countsAt_33 (by decide) (fun c_20 => ?_) (fun c_20 => ?_)
      · skip
        have f21 : p1.toInt < x19.toInt := qi_lt c_20 rfl rfl
        refine lv_iconst (v := 0) hx hb dX3_countsAt_44 (by decide) ?_
        rw [hQ]
        exact W.zret (v := 0) hx hb hr (by decide) (fun t ht hW => ⟨⟨0, 0, rfl, rfl, ⟨(ox_80 zc_0), (ox_27 zc_0), (ox_28 zc_0)⟩⟩, hS.F ht⟩) hS.2.2 dX3_countsAt_45
      · skip
        have f22 : x19.toInt ≤ p1.toInt := qi_nlt c_20 rfl rfl
        refine lv_iload_n hx hb dX3_countsAt_36 rfl (lv_at hl 0 rfl) ?_
        refine lv_if_ne (tgt := 44) hx hb dX3_countsAt_37 (by decide) (fun c_23 => ?_) (fun c_23 => absurd c_23 (by decide))
        refine lv_iconst (v := 0) hx hb dX3_countsAt_44 (by decide) ?_
        rw [hQ]
        exact W.zret (v := 0) hx hb hr (by decide) (fun t ht hW => ⟨⟨0, 0, rfl, rfl, ⟨(ox_80 zc_0), (ox_27 zc_0), (ox_28 zc_0)⟩⟩, hS.F ht⟩) hS.2.2 dX3_countsAt_45
set_option maxHeartbeats 4000000 in
set_option maxRecDepth 100000 in
theorem kX3_strike (l : Launch) (dC : Nat → ClassId) (dI : Nat → Nat → Nat) (r : Nat → Nat) (ct : Nat → ClassId) (i_tapeLength i_time i_lyingCount i_rd_fault i_rd_token i_rd_kind i_sc_count i_sc_at i_A_tunes i_A_houses i_fA_length i_B_tunes i_B_houses i_fB_length i_acts_done i_acts_undone i_kn_count : Int32) (f_boxes f_boxKept f_trial f_offers f_A_noteCounts f_A_notes f_B_noteCounts f_B_notes f_now_where f_now_worn f_ahead_where f_ahead_worn f_acts_rows f_kn_tunes f_kn_noteTimes : Nat → Int32) (J : Nat → Nat → Int32) (L : Nat → Nat → Int64) (p0 : Int32) (sz : Nat) (hI : (IX i_tapeLength i_time i_lyingCount i_rd_token i_sc_count i_sc_at i_A_tunes i_A_houses i_fA_length i_B_tunes i_B_houses i_fB_length i_acts_done i_acts_undone i_kn_count f_boxes f_A_noteCounts f_A_notes f_B_noteCounts f_B_notes f_now_worn f_ahead_worn f_acts_rows f_kn_tunes)) (hp0 : (0 : Int) ≤ p0.toInt) (hp1 : p0.toInt ≤ (29 : Int)) : Met l yX3_strike (.code yX3_strike cX3_strike 5 none :: GW) { frames := 2, cells := 0, slots := 0, locals := 100 } (va_Pc [.ref (r 10), .int p0] (pW (dC, dI) (WX r ct i_tapeLength i_time i_lyingCount i_rd_fault i_rd_token i_rd_kind i_sc_count i_sc_at i_A_tunes i_A_houses i_fA_length i_B_tunes i_B_houses i_fB_length i_acts_done i_acts_undone i_kn_count f_boxes f_boxKept f_trial f_offers f_A_noteCounts f_A_notes f_B_noteCounts f_B_notes f_now_where f_now_worn f_ahead_where f_ahead_worn f_acts_rows f_kn_tunes f_kn_noteTimes J L) (TX ct) sz)) (va_Qv (fun _ : Unit => True) (fun (_ : Unit) (t : State) => ∃ (n_J : Nat → Nat → Int32), va_P (dC, dI) vwCl (WX r ct i_tapeLength i_time i_lyingCount i_rd_fault i_rd_token i_rd_kind i_sc_count i_sc_at i_A_tunes i_A_houses i_fA_length i_B_tunes i_B_houses i_fB_length i_acts_done i_acts_undone i_kn_count f_boxes f_boxKept f_trial f_offers f_A_noteCounts f_A_notes f_B_noteCounts f_B_notes f_now_where f_now_worn f_ahead_where f_ahead_worn f_acts_rows f_kn_tunes f_kn_noteTimes n_J L) t.heap ∧ va_D (va_A (WX r ct i_tapeLength i_time i_lyingCount i_rd_fault i_rd_token i_rd_kind i_sc_count i_sc_at i_A_tunes i_A_houses i_fA_length i_B_tunes i_B_houses i_fB_length i_acts_done i_acts_undone i_kn_count f_boxes f_boxKept f_trial f_offers f_A_noteCounts f_A_notes f_B_noteCounts f_B_notes f_now_where f_now_worn f_ahead_where f_ahead_worn f_acts_rows f_kn_tunes f_kn_noteTimes J L) sz) (WX r ct i_tapeLength i_time i_lyingCount i_rd_fault i_rd_token i_rd_kind i_sc_count i_sc_at i_A_tunes i_A_houses i_fA_length i_B_tunes i_B_houses i_fB_length i_acts_done i_acts_undone i_kn_count f_boxes f_boxKept f_trial f_offers f_A_noteCounts f_A_notes f_B_noteCounts f_B_notes f_now_where f_now_worn f_ahead_where f_ahead_worn f_acts_rows f_kn_tunes f_kn_noteTimes n_J L) ∧ (IX i_tapeLength i_time i_lyingCount i_rd_token i_sc_count i_sc_at i_A_tunes i_A_houses i_fA_length i_B_tunes i_B_houses i_fB_length i_acts_done i_acts_undone i_kn_count f_boxes f_A_noteCounts f_A_notes f_B_noteCounts f_B_notes f_now_worn f_ahead_worn f_acts_rows f_kn_tunes)) (va_A (WX r ct i_tapeLength i_time i_lyingCount i_rd_fault i_rd_token i_rd_kind i_sc_count i_sc_at i_A_tunes i_A_houses i_fA_length i_B_tunes i_B_houses i_fB_length i_acts_done i_acts_undone i_kn_count f_boxes f_boxKept f_trial f_offers f_A_noteCounts f_A_notes f_B_noteCounts f_B_notes f_now_where f_now_worn f_ahead_where f_ahead_worn f_acts_rows f_kn_tunes f_kn_noteTimes J L) sz)) 0 0 (va_A (WX r ct i_tapeLength i_time i_lyingCount i_rd_fault i_rd_token i_rd_kind i_sc_count i_sc_at i_A_tunes i_A_houses i_fA_length i_B_tunes i_B_houses i_fB_length i_acts_done i_acts_undone i_kn_count f_boxes f_boxKept f_trial f_offers f_A_noteCounts f_A_notes f_B_noteCounts f_B_notes f_now_where f_now_worn f_ahead_where f_ahead_worn f_acts_rows f_kn_tunes f_kn_noteTimes J L) sz) := by
  refine Met.ofW (cc := cX3_strike) (maxL := 5) (ret := none) (by decide) rfl ?_
  intro p e s m args below meth c0 s₁ B hml hv
  obtain ⟨rfl, hsz, hP, hK, hD0⟩ := hv
  have hx := B.exec
  have hb := B.bytes
  have hr := B.returns
  have hts := atoms_spec (ws := .code yX3_strike cX3_strike 5 none :: GW) B.pre
  have hG : ∀ w ∈ GW, w.before _ s = true := fun w h => hts w (List.mem_cons_of_mem _ h)
  have hown : s.vm.findClass RX3 = some m.cls := findClass_of_methodNamed B.named
  subst hsz
  have hD := hD0.self (sz := s.heap.size)
  generalize hAe : va_A (WX r ct i_tapeLength i_time i_lyingCount i_rd_fault i_rd_token i_rd_kind i_sc_count i_sc_at i_A_tunes i_A_houses i_fA_length i_B_tunes i_B_houses i_fB_length i_acts_done i_acts_undone i_kn_count f_boxes f_boxKept f_trial f_offers f_A_noteCounts f_A_notes f_B_noteCounts f_B_notes f_now_where f_now_worn f_ahead_where f_ahead_worn f_acts_rows f_kn_tunes f_kn_noteTimes J L) s.heap.size = A at hD ⊢
  have hA : ∀ q : Nat, s.heap.size ≤ q → A q := fun q h => by rw [← hAe]; exact Or.inr h
  have hS : va_S A s.heap s.heap [] := va_S.rf
  have hP : va_P (dC, dI) vwCl (WX r ct i_tapeLength i_time i_lyingCount i_rd_fault i_rd_token i_rd_kind i_sc_count i_sc_at i_A_tunes i_A_houses i_fA_length i_B_tunes i_B_houses i_fB_length i_acts_done i_acts_undone i_kn_count f_boxes f_boxKept f_trial f_offers f_A_noteCounts f_A_notes f_B_noteCounts f_B_notes f_now_where f_now_worn f_ahead_where f_ahead_worn f_acts_rows f_kn_tunes f_kn_noteTimes J L) s.heap := hP
  have hl := lv_entry ([.ref (r 10), .int p0]) (n := 5) (Nat.le_of_ble_eq_true rfl)
  rw [lg_entry_eq]
  generalize (lg_sl ([.ref (r 10), .int p0]) ++ List.replicate (5 - (lg_sl ([.ref (r 10), .int p0])).length) Slot.unset).toArray = ls at hl ⊢
  have hl : lv_has ls 5 [(0, .ref (r 10)), (1, .int p0)] := hl
  refine nameQ (fun Q hQ => ?_)
  obtain ⟨ie0, ie1, ie2, ie3, ie4, ie5, ie6, ie7, ie8, ie9, ie10, ie11, ie12, ie13, ie14, ie15, ie16, ie17, ie18, ie19, ie20, ie21, ie22, ie23, ie24, ie25, ie26, ie27, ie28, ie29, ie30, ie31, ie32, ie33, ie34, ie35, ie36, ie37, ie38, ie39⟩ := id hI
  refine lv_aload_n hx hb dX3_strike_0 rfl (lv_at hl 0 rfl) ?_
  refine gX_X3_9_10 hx hb hG hown hK hP dX3_strike_1 ?_
  refine lv_iload_n hx hb dX3_strike_4 rfl (lv_at hl 1 rfl) ?_
  refine ldX_52 (mm := p0.toInt) hx hb hK hP rfl (ox_564 hp0 hp1) (ox_565 hp0 hp1) dX3_strike_5 ?_
  have f1 : 0 ≤ (f_kn_tunes (p0.toInt).toNat).toInt ∧ (f_kn_tunes (p0.toInt).toNat).toInt ≤ 4 := ie31 (p0.toInt)
  refine lv_sipush (v := 343) hx hb dX3_strike_6 (by decide) ?_
  refine lv_imul hx hb dX3_strike_9 ?_
  refine lv_topi (fun x2 ex2 => ?_)
  have f3 : x2.toInt = 343 * (f_kn_tunes (p0.toInt).toNat).toInt := (ox_568 (qi_mul ex2 rfl zc_343 (ox_566 f1) (ox_567 f1)))
  refine lv_istore_n (lv' := [(2, .int x2), (0, .ref (r 10)), (1, .int p0)]) hx hb dX3_strike_10 rfl hl (by decide) rfl (fun ls hl => ?_)
  refine lv_iconst (v := 0) hx hb dX3_strike_11 (by decide) ?_
  refine lv_istore_n (lv' := [(3, .int 0), (2, .int x2), (0, .ref (r 10)), (1, .int p0)]) hx hb dX3_strike_12 rfl hl (by decide) rfl (fun ls hl => ?_)
  have L13 : ∀ (N13 : Nat) (y13_3 : Int32) (m13_J : Nat → Nat → Int32) (H13 : Heap) (locs : List Loc) (ls : Array Slot) (g13_0 : (0 : Int) ≤ y13_3.toInt) (g13_1 : y13_3.toInt ≤ (343 : Int)) (hP : va_P (dC, dI) vwCl (WX r ct i_tapeLength i_time i_lyingCount i_rd_fault i_rd_token i_rd_kind i_sc_count i_sc_at i_A_tunes i_A_houses i_fA_length i_B_tunes i_B_houses i_fB_length i_acts_done i_acts_undone i_kn_count f_boxes f_boxKept f_trial f_offers f_A_noteCounts f_A_notes f_B_noteCounts f_B_notes f_now_where f_now_worn f_ahead_where f_ahead_worn f_acts_rows f_kn_tunes f_kn_noteTimes m13_J L) H13) (hD : va_D A (WX r ct i_tapeLength i_time i_lyingCount i_rd_fault i_rd_token i_rd_kind i_sc_count i_sc_at i_A_tunes i_A_houses i_fA_length i_B_tunes i_B_houses i_fB_length i_acts_done i_acts_undone i_kn_count f_boxes f_boxKept f_trial f_offers f_A_noteCounts f_A_notes f_B_noteCounts f_B_notes f_now_where f_now_worn f_ahead_where f_ahead_worn f_acts_rows f_kn_tunes f_kn_noteTimes m13_J L)) (hS : va_S A s.heap H13 locs) (hl : lv_has ls 5 [(0, .ref (r 10)), (1, .int p0), (2, .int x2), (3, .int y13_3)]) (hM : -1 * y13_3.toInt + 343 < (N13 : Int)), W p l e { frames := 2, cells := 0, slots := 0, locals := 100 } s m ([.ref (r 10), .int p0] : List Value).toArray below meth c0 H13 locs 0 0 Q (F0 m 13 ls []) := by
    intro N13
    induction N13 with
    | zero =>
      intro y13_3 m13_J H13 locs ls g13_0 g13_1 hP hD hS hl hM
      exact ((ox_569 hM g13_0 g13_1)).elim
    | succ N13 ih13 =>
      intro y13_3 m13_J H13 locs ls g13_0 g13_1 hP hD hS hl hM
      have hM13 := msucc hM
      refine lv_iload_n hx hb dX3_strike_13 rfl (lv_at hl 3 rfl) ?_
      refine lv_sipush (v := 343) hx hb dX3_strike_14 (by decide) ?_
      refine lv_icmp_ge (tgt := 68) hx hb dX3_strike_17 (by decide) (fun c_4 => ?_) (fun c_4 => ?_)
      · skip
        have f5 : 343 ≤ y13_3.toInt := qi_le c_4 zc_343 rfl
        rw [hQ]
        exact W.vret hx hb hr (fun t ht hW => ⟨⟨(), rfl, trivial, ⟨m13_J, by rw [ht]; exact hP, hD, hI⟩⟩, hS.F ht⟩) hS.2.2 dX3_strike_68
      · skip
        have f6 : y13_3.toInt < 343 := qi_nle c_4 zc_343 rfl
        refine lv_aload_n hx hb dX3_strike_20 rfl (lv_at hl 0 rfl) ?_
        refine gX_X3_28_10 hx hb hG hown hK hP dX3_strike_21 ?_
        refine lv_iload_n hx hb dX3_strike_24 rfl (lv_at hl 2 rfl) ?_
        refine lv_iload_n hx hb dX3_strike_25 rfl (lv_at hl 3 rfl) ?_
        refine lv_iadd hx hb dX3_strike_26 ?_
        refine lv_topi (fun x7 ex7 => ?_)
        have f8 : x7.toInt = y13_3.toInt + 343 * (f_kn_tunes (p0.toInt).toNat).toInt := (ox_572 (qi_add ex7 rfl rfl (ox_570 f1 g13_0 f3) (ox_571 f1 g13_1 f3)) f3)
        refine ldX_57 (mm := y13_3.toInt + 343 * (f_kn_tunes (p0.toInt).toNat).toInt) hx hb hK hP f8 (ox_573 f1 g13_0) (ox_574 f1 f6) dX3_strike_27 (fun x9 => ?_)
        refine lv_aload_n hx hb dX3_strike_28 rfl (lv_at hl 0 rfl) ?_
        refine gX_X3_15_10 hx hb hG hown hK hP dX3_strike_29 ?_
        refine lv_iload_n hx hb dX3_strike_32 rfl (lv_at hl 1 rfl) ?_
        refine ldX_53 (mm := p0.toInt) hx hb hK hP rfl (ox_564 hp0 hp1) (ox_565 hp0 hp1) dX3_strike_33 (fun x10 => ?_)
        refine lv_icmp_lt (tgt := 41) hx hb dX3_strike_34 (by decide) (fun c_11 => ?_) (fun c_11 => ?_)
        · skip
          have f12 : x9.toInt < x10.toInt := qi_lt c_11 rfl rfl
          refine lv_iconst (v := 0) hx hb dX3_strike_41 (by decide) ?_
          refine lv_istore (lv' := [(4, .int 0), (0, .ref (r 10)), (1, .int p0), (2, .int x2), (3, .int y13_3)]) hx hb dX3_strike_42 hl (by decide) rfl (fun ls hl => ?_)
          refine lv_iload hx hb dX3_strike_44 (lv_at hl 0 rfl) ?_
          refine lv_aload_n hx hb dX3_strike_46 rfl (lv_at hl 1 rfl) ?_
          refine gX_X3_18_10 hx hb hG hown hK hP dX3_strike_47 ?_
          refine lv_iload_n hx hb dX3_strike_50 rfl (lv_at hl 2 rfl) ?_
          refine ldX_54 (mm := p0.toInt) hx hb hK hP rfl (ox_564 hp0 hp1) (ox_565 hp0 hp1) dX3_strike_51 (fun x13 => ?_)
          refine lv_icmp_eq (tgt := 62) hx hb dX3_strike_52 (by decide) (fun c_14 => ?_) (fun c_14 => ?_)
          · skip
            have f15 : 0 = x13.toInt := qi_eq c_14 zc_0 rfl
            obtain ⟨x16, ex16⟩ : ∃ y : Int32, y = y13_3 + Int32.ofInt 1 := ⟨_, rfl⟩
            have f17 : x16.toInt = y13_3.toInt + 1 := (ox_13 (qi_add ex16 rfl (by decide) (ox_11 g13_0) (ox_575 g13_1)))
            refine lv_iinc (v := x16) (lv' := [(3, .int x16), (4, .int 0), (0, .ref (r 10)), (1, .int p0), (2, .int x2)]) hx hb dX3_strike_62 hl (k := 4) rfl ex16.symm (by decide) rfl (fun ls hl => ?_)
            refine lv_goto (tgt := 13) hx hb dX3_strike_65 (by decide) ?_
            exact ih13 x16 m13_J H13 _ _ (ox_14 g13_0 f17) (ox_576 f6 f17) hP hD hS (lv_sub hl [2, 3, 4, 0] rfl) (ox_577 hM13 f17)
          · skip
            have f18 : 0 ≠ x13.toInt := qi_ne c_14 zc_0 rfl
            refine lv_aload_n hx hb dX3_strike_55 rfl (lv_at hl 1 rfl) ?_
            refine gX_X3_31_10 hx hb hG hown hK hP dX3_strike_56 ?_
            refine lv_iload_n hx hb dX3_strike_59 rfl (lv_at hl 4 rfl) ?_
            refine lv_iconst (v := 0) hx hb dX3_strike_60 (by decide) ?_
            refine stX_58 (mm := y13_3.toInt) hx hb hK hP hD hS rfl (ox_9 g13_0) (ox_578 f6) dX3_strike_61 (fun J20 H19 locs hP hD hS => ?_)
            obtain ⟨x21, ex21⟩ : ∃ y : Int32, y = y13_3 + Int32.ofInt 1 := ⟨_, rfl⟩
            have f22 : x21.toInt = y13_3.toInt + 1 := (ox_13 (qi_add ex21 rfl (by decide) (ox_11 g13_0) (ox_575 g13_1)))
            refine lv_iinc (v := x21) (lv' := [(3, .int x21), (4, .int 0), (0, .ref (r 10)), (1, .int p0), (2, .int x2)]) hx hb dX3_strike_62 hl (k := 4) rfl ex21.symm (by decide) rfl (fun ls hl => ?_)
            refine lv_goto (tgt := 13) hx hb dX3_strike_65 (by decide) ?_
            exact ih13 x21 J20 H19 _ _ (ox_14 g13_0 f22) (ox_576 f6 f22) hP hD hS (lv_sub hl [2, 3, 4, 0] rfl) (ox_577 hM13 f22)
        · skip
          have f23 : x10.toInt ≤ x9.toInt := qi_nlt c_11 rfl rfl
          refine lv_iconst (v := 1) hx hb dX3_strike_37 (by decide) ?_
          refine lv_goto (tgt := 42) hx hb dX3_strike_38 (by decide) ?_
          refine lv_istore (lv' := [(4, .int 1), (0, .ref (r 10)), (1, .int p0), (2, .int x2), (3, .int y13_3)]) hx hb dX3_strike_42 hl (by decide) rfl (fun ls hl => ?_)
          refine lv_iload hx hb dX3_strike_44 (lv_at hl 0 rfl) ?_
          refine lv_aload_n hx hb dX3_strike_46 rfl (lv_at hl 1 rfl) ?_
          refine gX_X3_18_10 hx hb hG hown hK hP dX3_strike_47 ?_
          refine lv_iload_n hx hb dX3_strike_50 rfl (lv_at hl 2 rfl) ?_
          refine ldX_54 (mm := p0.toInt) hx hb hK hP rfl (ox_564 hp0 hp1) (ox_565 hp0 hp1) dX3_strike_51 (fun x24 => ?_)
          refine lv_icmp_eq (tgt := 62) hx hb dX3_strike_52 (by decide) (fun c_25 => ?_) (fun c_25 => ?_)
          · skip
            have f26 : 1 = x24.toInt := qi_eq c_25 zc_1 rfl
            obtain ⟨x27, ex27⟩ : ∃ y : Int32, y = y13_3 + Int32.ofInt 1 := ⟨_, rfl⟩
            have f28 : x27.toInt = y13_3.toInt + 1 := (ox_13 (qi_add ex27 rfl (by decide) (ox_11 g13_0) (ox_575 g13_1)))
            refine lv_iinc (v := x27) (lv' := [(3, .int x27), (4, .int 1), (0, .ref (r 10)), (1, .int p0), (2, .int x2)]) hx hb dX3_strike_62 hl (k := 4) rfl ex27.symm (by decide) rfl (fun ls hl => ?_)
            refine lv_goto (tgt := 13) hx hb dX3_strike_65 (by decide) ?_
            exact ih13 x27 m13_J H13 _ _ (ox_14 g13_0 f28) (ox_576 f6 f28) hP hD hS (lv_sub hl [2, 3, 4, 0] rfl) (ox_577 hM13 f28)
          · skip
            have f29 : 1 ≠ x24.toInt := qi_ne c_25 zc_1 rfl
            refine lv_aload_n hx hb dX3_strike_55 rfl (lv_at hl 1 rfl) ?_
            refine gX_X3_31_10 hx hb hG hown hK hP dX3_strike_56 ?_
            refine lv_iload_n hx hb dX3_strike_59 rfl (lv_at hl 4 rfl) ?_
            refine lv_iconst (v := 0) hx hb dX3_strike_60 (by decide) ?_
            refine stX_58 (mm := y13_3.toInt) hx hb hK hP hD hS rfl (ox_9 g13_0) (ox_578 f6) dX3_strike_61 (fun J31 H30 locs hP hD hS => ?_)
            obtain ⟨x32, ex32⟩ : ∃ y : Int32, y = y13_3 + Int32.ofInt 1 := ⟨_, rfl⟩
            have f33 : x32.toInt = y13_3.toInt + 1 := (ox_13 (qi_add ex32 rfl (by decide) (ox_11 g13_0) (ox_575 g13_1)))
            refine lv_iinc (v := x32) (lv' := [(3, .int x32), (4, .int 1), (0, .ref (r 10)), (1, .int p0), (2, .int x2)]) hx hb dX3_strike_62 hl (k := 4) rfl ex32.symm (by decide) rfl (fun ls hl => ?_)
            refine lv_goto (tgt := 13) hx hb dX3_strike_65 (by decide) ?_
            exact ih13 x32 J31 H30 _ _ (ox_14 g13_0 f33) (ox_576 f6 f33) hP hD hS (lv_sub hl [2, 3, 4, 0] rfl) (ox_577 hM13 f33)
  exact L13 (-1 * (0 : Int32).toInt + 343 + 1).toNat 0 J s.heap _ _ (ox_27 zc_0) (ox_579 zc_0) hP hD hS (lv_sub hl [2, 3, 1, 0] rfl) (mlt (ox_580 zc_0))
set_option maxHeartbeats 4000000 in
set_option maxRecDepth 100000 in
theorem kX3_countNotes (l : Launch) (dC : Nat → ClassId) (dI : Nat → Nat → Nat) (r : Nat → Nat) (ct : Nat → ClassId) (i_tapeLength i_time i_lyingCount i_rd_fault i_rd_token i_rd_kind i_sc_count i_sc_at i_A_tunes i_A_houses i_fA_length i_B_tunes i_B_houses i_fB_length i_acts_done i_acts_undone i_kn_count : Int32) (f_boxes f_boxKept f_trial f_offers f_A_noteCounts f_A_notes f_B_noteCounts f_B_notes f_now_where f_now_worn f_ahead_where f_ahead_worn f_acts_rows f_kn_tunes f_kn_noteTimes : Nat → Int32) (J : Nat → Nat → Int32) (L : Nat → Nat → Int64) (p1 : Int32) (sz : Nat) (hI : (IX i_tapeLength i_time i_lyingCount i_rd_token i_sc_count i_sc_at i_A_tunes i_A_houses i_fA_length i_B_tunes i_B_houses i_fB_length i_acts_done i_acts_undone i_kn_count f_boxes f_A_noteCounts f_A_notes f_B_noteCounts f_B_notes f_now_worn f_ahead_worn f_acts_rows f_kn_tunes)) (hp0 : (0 : Int) ≤ p1.toInt) (hp1 : p1.toInt + 1 ≤ i_A_tunes.toInt) : Met l yX3_countNotes (.code yX3_countNotes cX3_countNotes 4 none :: GW) { frames := 6, cells := 0, slots := 0, locals := 227 } (va_Pc [.ref (r 10), .ref (r 3), .int p1] (pW (dC, dI) (WX r ct i_tapeLength i_time i_lyingCount i_rd_fault i_rd_token i_rd_kind i_sc_count i_sc_at i_A_tunes i_A_houses i_fA_length i_B_tunes i_B_houses i_fB_length i_acts_done i_acts_undone i_kn_count f_boxes f_boxKept f_trial f_offers f_A_noteCounts f_A_notes f_B_noteCounts f_B_notes f_now_where f_now_worn f_ahead_where f_ahead_worn f_acts_rows f_kn_tunes f_kn_noteTimes J L) (TX ct) sz)) (va_Qv (fun _ : Unit => True) (fun (_ : Unit) (t : State) => ∃ (n_f_kn_noteTimes : Nat → Int32), va_P (dC, dI) vwCl (WX r ct i_tapeLength i_time i_lyingCount i_rd_fault i_rd_token i_rd_kind i_sc_count i_sc_at i_A_tunes i_A_houses i_fA_length i_B_tunes i_B_houses i_fB_length i_acts_done i_acts_undone i_kn_count f_boxes f_boxKept f_trial f_offers f_A_noteCounts f_A_notes f_B_noteCounts f_B_notes f_now_where f_now_worn f_ahead_where f_ahead_worn f_acts_rows f_kn_tunes n_f_kn_noteTimes J L) t.heap ∧ va_D (va_A (WX r ct i_tapeLength i_time i_lyingCount i_rd_fault i_rd_token i_rd_kind i_sc_count i_sc_at i_A_tunes i_A_houses i_fA_length i_B_tunes i_B_houses i_fB_length i_acts_done i_acts_undone i_kn_count f_boxes f_boxKept f_trial f_offers f_A_noteCounts f_A_notes f_B_noteCounts f_B_notes f_now_where f_now_worn f_ahead_where f_ahead_worn f_acts_rows f_kn_tunes f_kn_noteTimes J L) sz) (WX r ct i_tapeLength i_time i_lyingCount i_rd_fault i_rd_token i_rd_kind i_sc_count i_sc_at i_A_tunes i_A_houses i_fA_length i_B_tunes i_B_houses i_fB_length i_acts_done i_acts_undone i_kn_count f_boxes f_boxKept f_trial f_offers f_A_noteCounts f_A_notes f_B_noteCounts f_B_notes f_now_where f_now_worn f_ahead_where f_ahead_worn f_acts_rows f_kn_tunes n_f_kn_noteTimes J L) ∧ (IX i_tapeLength i_time i_lyingCount i_rd_token i_sc_count i_sc_at i_A_tunes i_A_houses i_fA_length i_B_tunes i_B_houses i_fB_length i_acts_done i_acts_undone i_kn_count f_boxes f_A_noteCounts f_A_notes f_B_noteCounts f_B_notes f_now_worn f_ahead_worn f_acts_rows f_kn_tunes) ∧ (NT n_f_kn_noteTimes)) (va_A (WX r ct i_tapeLength i_time i_lyingCount i_rd_fault i_rd_token i_rd_kind i_sc_count i_sc_at i_A_tunes i_A_houses i_fA_length i_B_tunes i_B_houses i_fB_length i_acts_done i_acts_undone i_kn_count f_boxes f_boxKept f_trial f_offers f_A_noteCounts f_A_notes f_B_noteCounts f_B_notes f_now_where f_now_worn f_ahead_where f_ahead_worn f_acts_rows f_kn_tunes f_kn_noteTimes J L) sz)) 0 0 (va_A (WX r ct i_tapeLength i_time i_lyingCount i_rd_fault i_rd_token i_rd_kind i_sc_count i_sc_at i_A_tunes i_A_houses i_fA_length i_B_tunes i_B_houses i_fB_length i_acts_done i_acts_undone i_kn_count f_boxes f_boxKept f_trial f_offers f_A_noteCounts f_A_notes f_B_noteCounts f_B_notes f_now_where f_now_worn f_ahead_where f_ahead_worn f_acts_rows f_kn_tunes f_kn_noteTimes J L) sz) := by
  refine Met.ofW (cc := cX3_countNotes) (maxL := 4) (ret := none) (by decide) rfl ?_
  intro p e s m args below meth c0 s₁ B hml hv
  obtain ⟨rfl, hsz, hP, hK, hD0⟩ := hv
  have hx := B.exec
  have hb := B.bytes
  have hr := B.returns
  have hts := atoms_spec (ws := .code yX3_countNotes cX3_countNotes 4 none :: GW) B.pre
  have hG : ∀ w ∈ GW, w.before _ s = true := fun w h => hts w (List.mem_cons_of_mem _ h)
  have hown : s.vm.findClass RX3 = some m.cls := findClass_of_methodNamed B.named
  subst hsz
  have hD := hD0.self (sz := s.heap.size)
  generalize hAe : va_A (WX r ct i_tapeLength i_time i_lyingCount i_rd_fault i_rd_token i_rd_kind i_sc_count i_sc_at i_A_tunes i_A_houses i_fA_length i_B_tunes i_B_houses i_fB_length i_acts_done i_acts_undone i_kn_count f_boxes f_boxKept f_trial f_offers f_A_noteCounts f_A_notes f_B_noteCounts f_B_notes f_now_where f_now_worn f_ahead_where f_ahead_worn f_acts_rows f_kn_tunes f_kn_noteTimes J L) s.heap.size = A at hD ⊢
  have hA : ∀ q : Nat, s.heap.size ≤ q → A q := fun q h => by rw [← hAe]; exact Or.inr h
  have hS : va_S A s.heap s.heap [] := va_S.rf
  have hP : va_P (dC, dI) vwCl (WX r ct i_tapeLength i_time i_lyingCount i_rd_fault i_rd_token i_rd_kind i_sc_count i_sc_at i_A_tunes i_A_houses i_fA_length i_B_tunes i_B_houses i_fB_length i_acts_done i_acts_undone i_kn_count f_boxes f_boxKept f_trial f_offers f_A_noteCounts f_A_notes f_B_noteCounts f_B_notes f_now_where f_now_worn f_ahead_where f_ahead_worn f_acts_rows f_kn_tunes f_kn_noteTimes J L) s.heap := hP
  have hl := lv_entry ([.ref (r 10), .ref (r 3), .int p1]) (n := 4) (Nat.le_of_ble_eq_true rfl)
  rw [lg_entry_eq]
  generalize (lg_sl ([.ref (r 10), .ref (r 3), .int p1]) ++ List.replicate (4 - (lg_sl ([.ref (r 10), .ref (r 3), .int p1])).length) Slot.unset).toArray = ls at hl ⊢
  have hl : lv_has ls 4 [(0, .ref (r 10)), (1, .ref (r 3)), (2, .int p1)] := hl
  refine nameQ (fun Q hQ => ?_)
  obtain ⟨ie0, ie1, ie2, ie3, ie4, ie5, ie6, ie7, ie8, ie9, ie10, ie11, ie12, ie13, ie14, ie15, ie16, ie17, ie18, ie19, ie20, ie21, ie22, ie23, ie24, ie25, ie26, ie27, ie28, ie29, ie30, ie31, ie32, ie33, ie34, ie35, ie36, ie37, ie38, ie39⟩ := id hI
  refine lv_iconst (v := 0) hx hb dX3_countNotes_0 (by decide) ?_
  refine lv_istore_n (lv' := [(3, .int 0), (0, .ref (r 10)), (1, .ref (r 3)), (2, .int p1)]) hx hb dX3_countNotes_1 rfl hl (by decide) rfl (fun ls hl => ?_)
  have L2 : ∀ (N2 : Nat) (y2_3 : Int32) (m2_f_kn_noteTimes : Nat → Int32) (H2 : Heap) (locs : List Loc) (ls : Array Slot) (g2_0 : (0 : Int) ≤ y2_3.toInt) (g2_1 : y2_3.toInt ≤ (7 : Int)) (gr2_0 : RGP 0 y2_3.toInt 0 0 m2_f_kn_noteTimes) (hP : va_P (dC, dI) vwCl (WX r ct i_tapeLength i_time i_lyingCount i_rd_fault i_rd_token i_rd_kind i_sc_count i_sc_at i_A_tunes i_A_houses i_fA_length i_B_tunes i_B_houses i_fB_length i_acts_done i_acts_undone i_kn_count f_boxes f_boxKept f_trial f_offers f_A_noteCounts f_A_notes f_B_noteCounts f_B_notes f_now_where f_now_worn f_ahead_where f_ahead_worn f_acts_rows f_kn_tunes m2_f_kn_noteTimes J L) H2) (hD : va_D A (WX r ct i_tapeLength i_time i_lyingCount i_rd_fault i_rd_token i_rd_kind i_sc_count i_sc_at i_A_tunes i_A_houses i_fA_length i_B_tunes i_B_houses i_fB_length i_acts_done i_acts_undone i_kn_count f_boxes f_boxKept f_trial f_offers f_A_noteCounts f_A_notes f_B_noteCounts f_B_notes f_now_where f_now_worn f_ahead_where f_ahead_worn f_acts_rows f_kn_tunes m2_f_kn_noteTimes J L)) (hS : va_S A s.heap H2 locs) (hl : lv_has ls 4 [(0, .ref (r 10)), (1, .ref (r 3)), (2, .int p1), (3, .int y2_3)]) (hM : -1 * y2_3.toInt + 7 < (N2 : Int)), W p l e { frames := 6, cells := 0, slots := 0, locals := 227 } s m ([.ref (r 10), .ref (r 3), .int p1] : List Value).toArray below meth c0 H2 locs 0 0 Q (F0 m 2 ls []) := by
    intro N2
    induction N2 with
    | zero =>
      intro y2_3 m2_f_kn_noteTimes H2 locs ls g2_0 g2_1 gr2_0 hP hD hS hl hM
      exact ((ox_508 hM g2_0 g2_1)).elim
    | succ N2 ih2 =>
      intro y2_3 m2_f_kn_noteTimes H2 locs ls g2_0 g2_1 gr2_0 hP hD hS hl hM
      have hM2 := msucc hM
      refine lv_iload_n hx hb dX3_countNotes_2 rfl (lv_at hl 3 rfl) ?_
      refine lv_bipush (v := 7) hx hb dX3_countNotes_3 (by decide) ?_
      refine lv_icmp_ge (tgt := 21) hx hb dX3_countNotes_5 (by decide) (fun c_1 => ?_) (fun c_1 => ?_)
      · skip
        have f2 : 7 ≤ y2_3.toInt := qi_le c_1 zc_7 rfl
        refine lv_iconst (v := 0) hx hb dX3_countNotes_21 (by decide) ?_
        refine lv_istore_n (lv' := [(3, .int 0), (0, .ref (r 10)), (1, .ref (r 3)), (2, .int p1)]) hx hb dX3_countNotes_22 rfl hl (by decide) rfl (fun ls hl => ?_)
        have L23 : ∀ (N23 : Nat) (y23_3 : Int32) (m23_f_kn_noteTimes : Nat → Int32) (H23 : Heap) (locs : List Loc) (ls : Array Slot) (g23_0 : (0 : Int) ≤ y23_3.toInt) (g23_1 : y23_3.toInt ≤ (8 : Int)) (gr23_0 : SM m23_f_kn_noteTimes y23_3.toInt) (hP : va_P (dC, dI) vwCl (WX r ct i_tapeLength i_time i_lyingCount i_rd_fault i_rd_token i_rd_kind i_sc_count i_sc_at i_A_tunes i_A_houses i_fA_length i_B_tunes i_B_houses i_fB_length i_acts_done i_acts_undone i_kn_count f_boxes f_boxKept f_trial f_offers f_A_noteCounts f_A_notes f_B_noteCounts f_B_notes f_now_where f_now_worn f_ahead_where f_ahead_worn f_acts_rows f_kn_tunes m23_f_kn_noteTimes J L) H23) (hD : va_D A (WX r ct i_tapeLength i_time i_lyingCount i_rd_fault i_rd_token i_rd_kind i_sc_count i_sc_at i_A_tunes i_A_houses i_fA_length i_B_tunes i_B_houses i_fB_length i_acts_done i_acts_undone i_kn_count f_boxes f_boxKept f_trial f_offers f_A_noteCounts f_A_notes f_B_noteCounts f_B_notes f_now_where f_now_worn f_ahead_where f_ahead_worn f_acts_rows f_kn_tunes m23_f_kn_noteTimes J L)) (hS : va_S A s.heap H23 locs) (hl : lv_has ls 4 [(0, .ref (r 10)), (1, .ref (r 3)), (2, .int p1), (3, .int y23_3)]) (hM : -1 * y23_3.toInt + 8 < (N23 : Int)), W p l e { frames := 6, cells := 0, slots := 0, locals := 227 } s m ([.ref (r 10), .ref (r 3), .int p1] : List Value).toArray below meth c0 H23 locs 0 0 Q (F0 m 23 ls []) := by
          intro N23
          induction N23 with
          | zero =>
            intro y23_3 m23_f_kn_noteTimes H23 locs ls g23_0 g23_1 gr23_0 hP hD hS hl hM
            exact ((ox_125 hM g23_0 g23_1)).elim
          | succ N23 ih23 =>
            intro y23_3 m23_f_kn_noteTimes H23 locs ls g23_0 g23_1 gr23_0 hP hD hS hl hM
            have hM23 := msucc hM
            refine lv_iload_n hx hb dX3_countNotes_23 rfl (lv_at hl 3 rfl) ?_
            refine lv_aload_n hx hb dX3_countNotes_24 rfl (lv_at hl 1 rfl) ?_
            refine gX_X3_83_3 hx hb hG hown hK hP dX3_countNotes_25 ?_
            refine lv_iload_n hx hb dX3_countNotes_28 rfl (lv_at hl 2 rfl) ?_
            refine ldX_24 (mm := p1.toInt) hx hb hK hP rfl (ox_33 hp0 hp1) (ox_34 ie13 hp1) dX3_countNotes_29 ?_
            have f3 : 0 ≤ (f_A_noteCounts (p1.toInt).toNat).toInt ∧ (f_A_noteCounts (p1.toInt).toNat).toInt ≤ 8 := ie32 (p1.toInt)
            have f4 : 0 ≤ p1.toInt → p1.toInt < i_A_tunes.toInt → 3 ≤ (f_A_noteCounts (p1.toInt).toNat).toInt := ie38 (p1.toInt)
            have f5 : (p1.toInt + 1 ≤ i_A_tunes.toInt) → ((3 : Int) ≤ (f_A_noteCounts (p1.toInt).toNat).toInt) := (ox_35 hp0 f4)
            have f6 : (3 : Int) ≤ (f_A_noteCounts (p1.toInt).toNat).toInt := (ox_36 hp0 hp1 f4)
            refine lv_icmp_ge (tgt := 55) hx hb dX3_countNotes_30 (by decide) (fun c_7 => ?_) (fun c_7 => ?_)
            · skip
              have f8 : (f_A_noteCounts (p1.toInt).toNat).toInt ≤ y23_3.toInt := qi_le c_7 rfl rfl
              rw [hQ]
              exact W.vret hx hb hr (fun t ht hW => ⟨⟨(), rfl, trivial, ⟨m23_f_kn_noteTimes, by rw [ht]; exact hP, hD, hI, (NT_of gr23_0 (ox_581 g23_1))⟩⟩, hS.F ht⟩) hS.2.2 dX3_countNotes_55
            · skip
              have f9 : y23_3.toInt < (f_A_noteCounts (p1.toInt).toNat).toInt := qi_nle c_7 rfl rfl
              refine lv_aload_n hx hb dX3_countNotes_33 rfl (lv_at hl 0 rfl) ?_
              refine gX_X3_34_10 hx hb hG hown hK hP dX3_countNotes_34 ?_
              refine lv_aload_n hx hb dX3_countNotes_37 rfl (lv_at hl 1 rfl) ?_
              refine lv_iload_n hx hb dX3_countNotes_38 rfl (lv_at hl 2 rfl) ?_
              refine lv_iconst (v := 0) hx hb dX3_countNotes_39 (by decide) ?_
              refine lv_iload_n hx hb dX3_countNotes_40 rfl (lv_at hl 3 rfl) ?_
              refine va_calli (va_runV (As := [.int p1, .int 0, .int y23_3]) (rest := [.ref (r 59)]) ⟨hx, hb, hml, hown, hG⟩ (kX4_noteLeft l dC dI r ct i_tapeLength i_time i_lyingCount i_rd_fault i_rd_token i_rd_kind i_sc_count i_sc_at i_A_tunes i_A_houses i_fA_length i_B_tunes i_B_houses i_fB_length i_acts_done i_acts_undone i_kn_count f_boxes f_boxKept f_trial f_offers f_A_noteCounts f_A_notes f_B_noteCounts f_B_notes f_now_where f_now_worn f_ahead_where f_ahead_worn f_acts_rows f_kn_tunes m23_f_kn_noteTimes J L p1 0 y23_3 H23.size hI (ox_54 hp0 hp1) (ox_55 hp1) (ox_27 zc_0) (ox_582 zc_0) (ox_6 g23_0) (ox_583 f9 zc_0)) (cwV 3 hG (goodV gw1094 gw708 gw709 gw132 gw710) rfl rfl rfl hd_X4_noteLeft ⟨(Nat.le_of_ble_eq_true rfl), (Nat.le_of_ble_eq_true rfl)⟩) ⟨fbR, va_recv hK hP (ci := 3) (q0 := 3) rfl rfl, pR_in hP hK⟩ rfl rfl hl.1 rfl (lv_room (Nat.le_of_ble_eq_true rfl)) dX3_countNotes_41 ⟨(Nat.le_of_ble_eq_true rfl), (Nat.le_of_ble_eq_true rfl)⟩) hS (fun q hq h => absurd hq (Nat.not_lt.mpr h)) (fun q h => hA q (Nat.le_trans hS.1 h)) (fun r_11 u_ t_ H10 locs ht hvm hw hB hz1 hk1 hS => ?_)
              subst hw
              have hP := wk hP hk1
              obtain ⟨f12, f13⟩ := hB
              refine lv_dup2_11 hx hb dX3_countNotes_44 rfl rfl ?_
              refine ldX_59 (mm := r_11.toInt) hx hb hK hP rfl (ox_584 f12 f13) (ox_585 f12 f13) dX3_countNotes_45 ?_
              have f14 : 0 ≤ (m23_f_kn_noteTimes (r_11.toInt).toNat).toInt := (gr23_0.1 (r_11.toInt) (ox_584 f12 f13) (ox_585 f12 f13))
              have f15 : (m23_f_kn_noteTimes (r_11.toInt).toNat).toInt ≤ y23_3.toInt := (SM_le gr23_0 (ox_584 f12 f13) (ox_585 f12 f13))
              refine lv_iconst (v := 1) hx hb dX3_countNotes_46 (by decide) ?_
              refine lv_iadd hx hb dX3_countNotes_47 ?_
              refine lv_topi (fun x16 ex16 => ?_)
              have f17 : x16.toInt = (m23_f_kn_noteTimes (r_11.toInt).toNat).toInt + 1 := (ox_13 (qi_add ex16 rfl zc_1 (ox_586 f14 f15) (ox_587 g23_1 f15)))
              refine stX_59 (mm := r_11.toInt) hx hb hK hP hD hS rfl (ox_584 f12 f13) (ox_585 f12 f13) dX3_countNotes_48 (fun z19 H18 locs ez19 hP hD hS => ?_)
              obtain ⟨x20, ex20⟩ : ∃ y : Int32, y = y23_3 + Int32.ofInt 1 := ⟨_, rfl⟩
              have f21 : x20.toInt = y23_3.toInt + 1 := (ox_13 (qi_add ex20 rfl (by decide) (ox_11 g23_0) (ox_130 g23_1)))
              refine lv_iinc (v := x20) (lv' := [(3, .int x20), (0, .ref (r 10)), (1, .ref (r 3)), (2, .int p1)]) hx hb dX3_countNotes_49 hl (k := 3) rfl ex20.symm (by decide) rfl (fun ls hl => ?_)
              refine lv_goto (tgt := 23) hx hb dX3_countNotes_52 (by decide) ?_
              exact ih23 x20 z19 H18 _ _ (ox_14 g23_0 f21) (ox_588 f3 f9 f21) (SM_inc gr23_0 ez19 (ox_584 f12 f13) (ox_585 f12 f13) (ox_13 f17) (ox_13 f21)) hP hD hS (lv_sub hl [1, 2, 3, 0] rfl) (ox_132 hM23 f21)
        exact L23 (-1 * (0 : Int32).toInt + 8 + 1).toNat 0 m2_f_kn_noteTimes H2 _ _ (ox_27 zc_0) (ox_205 zc_0) (SM_zero gr2_0 (ox_589 f2) (ox_291 zc_0)) hP hD hS (lv_sub hl [1, 2, 3, 0] rfl) (mlt (ox_210 zc_0))
      · skip
        have f22 : y2_3.toInt < 7 := qi_nle c_1 zc_7 rfl
        refine lv_aload_n hx hb dX3_countNotes_8 rfl (lv_at hl 0 rfl) ?_
        refine gX_X3_34_10 hx hb hG hown hK hP dX3_countNotes_9 ?_
        refine lv_iload_n hx hb dX3_countNotes_12 rfl (lv_at hl 3 rfl) ?_
        refine lv_iconst (v := 0) hx hb dX3_countNotes_13 (by decide) ?_
        refine stX_59 (mm := y2_3.toInt) hx hb hK hP hD hS rfl (ox_9 g2_0) (ox_590 f22) dX3_countNotes_14 (fun z24 H23 locs ez24 hP hD hS => ?_)
        obtain ⟨x25, ex25⟩ : ∃ y : Int32, y = y2_3 + Int32.ofInt 1 := ⟨_, rfl⟩
        have f26 : x25.toInt = y2_3.toInt + 1 := (ox_13 (qi_add ex25 rfl (by decide) (ox_11 g2_0) (ox_509 g2_1)))
        refine lv_iinc (v := x25) (lv' := [(3, .int x25), (0, .ref (r 10)), (1, .ref (r 3)), (2, .int p1)]) hx hb dX3_countNotes_15 hl (k := 3) rfl ex25.symm (by decide) rfl (fun ls hl => ?_)
        refine lv_goto (tgt := 2) hx hb dX3_countNotes_18 (by decide) ?_
        exact ih2 x25 z24 H23 _ _ (ox_14 g2_0 f26) (ox_513 f22 f26) (RGP_up gr2_0 ez24 (ox_451) (ox_9 g2_0) (ox_293) (ox_13 f26) (ox_359 zc_0) (ox_460 zc_0)) hP hD hS (lv_sub hl [1, 2, 3, 0] rfl) (ox_514 hM2 f26)
  exact L2 (-1 * (0 : Int32).toInt + 7 + 1).toNat 0 f_kn_noteTimes s.heap _ _ (ox_27 zc_0) (ox_518 zc_0) (RGP_nil (ox_460 zc_0)) hP hD hS (lv_sub hl [1, 2, 3, 0] rfl) (mlt (ox_519 zc_0))
