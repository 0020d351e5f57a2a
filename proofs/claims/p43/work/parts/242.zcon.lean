set_option maxHeartbeats 4000000 in
set_option maxRecDepth 100000 in
theorem kX5_refuse (l : Launch) (dC : Nat → ClassId) (dI : Nat → Nat → Nat) (r : Nat → Nat) (ct : Nat → ClassId) (i_tapeLength i_time i_lyingCount i_rd_fault i_rd_token i_rd_kind i_sc_count i_sc_at i_A_tunes i_A_houses i_fA_length i_B_tunes i_B_houses i_fB_length i_acts_done i_acts_undone i_kn_count : Int32) (f_boxes f_boxKept f_trial f_offers f_A_noteCounts f_A_notes f_B_noteCounts f_B_notes f_now_where f_now_worn f_ahead_where f_ahead_worn f_acts_rows f_kn_tunes f_kn_noteTimes : Nat → Int32) (J : Nat → Nat → Int32) (L : Nat → Nat → Int64) (sz : Nat) (hI : (IX i_tapeLength i_time i_lyingCount i_rd_token i_sc_count i_sc_at i_A_tunes i_A_houses i_fA_length i_B_tunes i_B_houses i_fB_length i_acts_done i_acts_undone i_kn_count f_boxes f_A_noteCounts f_A_notes f_B_noteCounts f_B_notes f_now_worn f_ahead_worn f_acts_rows f_kn_tunes)) : Met l yX5_refuse (.code yX5_refuse cX5_refuse 1 none :: GW) { frames := 4, cells := 0, slots := 0, locals := 161 } (va_Pc [.ref (r 1)] (pW (dC, dI) (WX r ct i_tapeLength i_time i_lyingCount i_rd_fault i_rd_token i_rd_kind i_sc_count i_sc_at i_A_tunes i_A_houses i_fA_length i_B_tunes i_B_houses i_fB_length i_acts_done i_acts_undone i_kn_count f_boxes f_boxKept f_trial f_offers f_A_noteCounts f_A_notes f_B_noteCounts f_B_notes f_now_where f_now_worn f_ahead_where f_ahead_worn f_acts_rows f_kn_tunes f_kn_noteTimes J L) (TX ct) sz)) (va_Qv (fun _ : Unit => True) (fun (_ : Unit) (t : State) => ∃ (n_i_rd_fault : Int32) (n_J : Nat → Nat → Int32), va_P (dC, dI) vwCl (WX r ct i_tapeLength i_time i_lyingCount n_i_rd_fault i_rd_token i_rd_kind i_sc_count i_sc_at i_A_tunes i_A_houses i_fA_length i_B_tunes i_B_houses i_fB_length i_acts_done i_acts_undone i_kn_count f_boxes f_boxKept f_trial f_offers f_A_noteCounts f_A_notes f_B_noteCounts f_B_notes f_now_where f_now_worn f_ahead_where f_ahead_worn f_acts_rows f_kn_tunes f_kn_noteTimes n_J L) t.heap ∧ va_D (va_A (WX r ct i_tapeLength i_time i_lyingCount i_rd_fault i_rd_token i_rd_kind i_sc_count i_sc_at i_A_tunes i_A_houses i_fA_length i_B_tunes i_B_houses i_fB_length i_acts_done i_acts_undone i_kn_count f_boxes f_boxKept f_trial f_offers f_A_noteCounts f_A_notes f_B_noteCounts f_B_notes f_now_where f_now_worn f_ahead_where f_ahead_worn f_acts_rows f_kn_tunes f_kn_noteTimes J L) sz) (WX r ct i_tapeLength i_time i_lyingCount n_i_rd_fault i_rd_token i_rd_kind i_sc_count i_sc_at i_A_tunes i_A_houses i_fA_length i_B_tunes i_B_houses i_fB_length i_acts_done i_acts_undone i_kn_count f_boxes f_boxKept f_trial f_offers f_A_noteCounts f_A_notes f_B_noteCounts f_B_notes f_now_where f_now_worn f_ahead_where f_ahead_worn f_acts_rows f_kn_tunes f_kn_noteTimes n_J L) ∧ (IX i_tapeLength i_time i_lyingCount i_rd_token i_sc_count i_sc_at i_A_tunes i_A_houses i_fA_length i_B_tunes i_B_houses i_fB_length i_acts_done i_acts_undone i_kn_count f_boxes f_A_noteCounts f_A_notes f_B_noteCounts f_B_notes f_now_worn f_ahead_worn f_acts_rows f_kn_tunes)) (va_A (WX r ct i_tapeLength i_time i_lyingCount i_rd_fault i_rd_token i_rd_kind i_sc_count i_sc_at i_A_tunes i_A_houses i_fA_length i_B_tunes i_B_houses i_fB_length i_acts_done i_acts_undone i_kn_count f_boxes f_boxKept f_trial f_offers f_A_noteCounts f_A_notes f_B_noteCounts f_B_notes f_now_where f_now_worn f_ahead_where f_ahead_worn f_acts_rows f_kn_tunes f_kn_noteTimes J L) sz)) 0 0 (va_A (WX r ct i_tapeLength i_time i_lyingCount i_rd_fault i_rd_token i_rd_kind i_sc_count i_sc_at i_A_tunes i_A_houses i_fA_length i_B_tunes i_B_houses i_fB_length i_acts_done i_acts_undone i_kn_count f_boxes f_boxKept f_trial f_offers f_A_noteCounts f_A_notes f_B_noteCounts f_B_notes f_now_where f_now_worn f_ahead_where f_ahead_worn f_acts_rows f_kn_tunes f_kn_noteTimes J L) sz) := by
  refine Met.ofW (cc := cX5_refuse) (maxL := 1) (ret := none) (by decide) rfl ?_
  intro p e s m args below meth c0 s₁ B hml hv
  obtain ⟨rfl, hsz, hP, hK, hD0⟩ := hv
  have hx := B.exec
  have hb := B.bytes
  have hr := B.returns
  have hts := atoms_spec (ws := .code yX5_refuse cX5_refuse 1 none :: GW) B.pre
  have hG : ∀ w ∈ GW, w.before _ s = true := fun w h => hts w (List.mem_cons_of_mem _ h)
  have hown : s.vm.findClass RX5 = some m.cls := findClass_of_methodNamed B.named
  subst hsz
  have hD := hD0.self (sz := s.heap.size)
  generalize hAe : va_A (WX r ct i_tapeLength i_time i_lyingCount i_rd_fault i_rd_token i_rd_kind i_sc_count i_sc_at i_A_tunes i_A_houses i_fA_length i_B_tunes i_B_houses i_fB_length i_acts_done i_acts_undone i_kn_count f_boxes f_boxKept f_trial f_offers f_A_noteCounts f_A_notes f_B_noteCounts f_B_notes f_now_where f_now_worn f_ahead_where f_ahead_worn f_acts_rows f_kn_tunes f_kn_noteTimes J L) s.heap.size = A at hD ⊢
  have hA : ∀ q : Nat, s.heap.size ≤ q → A q := fun q h => by rw [← hAe]; exact Or.inr h
  have hS : va_S A s.heap s.heap [] := va_S.rf
  have hP : va_P (dC, dI) vwCl (WX r ct i_tapeLength i_time i_lyingCount i_rd_fault i_rd_token i_rd_kind i_sc_count i_sc_at i_A_tunes i_A_houses i_fA_length i_B_tunes i_B_houses i_fB_length i_acts_done i_acts_undone i_kn_count f_boxes f_boxKept f_trial f_offers f_A_noteCounts f_A_notes f_B_noteCounts f_B_notes f_now_where f_now_worn f_ahead_where f_ahead_worn f_acts_rows f_kn_tunes f_kn_noteTimes J L) s.heap := hP
  have hl := lv_entry ([.ref (r 1)]) (n := 1) (Nat.le_of_ble_eq_true rfl)
  rw [lg_entry_eq]
  generalize (lg_sl ([.ref (r 1)]) ++ List.replicate (1 - (lg_sl ([.ref (r 1)])).length) Slot.unset).toArray = ls at hl ⊢
  have hl : lv_has ls 1 [(0, .ref (r 1))] := hl
  refine nameQ (fun Q hQ => ?_)
  obtain ⟨ie0, ie1, ie2, ie3, ie4, ie5, ie6, ie7, ie8, ie9, ie10, ie11, ie12, ie13, ie14, ie15, ie16, ie17, ie18, ie19, ie20, ie21, ie22, ie23, ie24, ie25, ie26, ie27, ie28, ie29, ie30, ie31, ie32, ie33, ie34, ie35, ie36, ie37, ie38, ie39⟩ := id hI
  refine lv_aload_n hx hb dX5_refuse_0 rfl (lv_at hl 0 rfl) ?_
  refine lv_aload_n hx hb dX5_refuse_1 rfl (lv_at hl 0 rfl) ?_
  refine gX_X5_66_1 hx hb hG hown hK hP dX5_refuse_2 ?_
  refine lv_if_ne (tgt := 12) hx hb dX5_refuse_5 (by decide) (fun c_1 => ?_) (fun c_1 => ?_)
  · skip
    have f2 : i_rd_kind.toInt ≠ 0 := qi_ne c_1 rfl zc_0
    refine lv_iconst (v := 2) hx hb dX5_refuse_12 (by decide) ?_
    have hFc := frA hD hS hA
    refine va_callv (va_runV (As := [.int 2]) (rest := []) ⟨hx, hb, hml, hown, hG⟩ (kX5_setFault l dC dI r ct i_tapeLength i_time i_lyingCount i_rd_fault i_rd_token i_rd_kind i_sc_count i_sc_at i_A_tunes i_A_houses i_fA_length i_B_tunes i_B_houses i_fB_length i_acts_done i_acts_undone i_kn_count f_boxes f_boxKept f_trial f_offers f_A_noteCounts f_A_notes f_B_noteCounts f_B_notes f_now_where f_now_worn f_ahead_where f_ahead_worn f_acts_rows f_kn_tunes f_kn_noteTimes J L 2 s.heap.size hI) (cwV 1 hG (goodV gw631 gw633 gw10 gw130 gw634) rfl rfl rfl hd_X5_setFault ⟨(Nat.le_of_ble_eq_true rfl), (Nat.le_of_ble_eq_true rfl)⟩) ⟨fbW, va_recv hK hP (ci := 4) (q0 := 1) rfl rfl, pW_in hP hK hD⟩ rfl rfl hl.1 rfl (lv_room (Nat.le_of_ble_eq_true rfl)) dX5_refuse_13 ⟨(Nat.le_of_ble_eq_true rfl), (Nat.le_of_ble_eq_true rfl)⟩) hS (fun q _ h => hFc q h) hFc (fun _ t_ H3 locs ht hvm hw hB hz1 hk1 hS => ?_)
    obtain ⟨x5, J6, hP1, hD1, hI7⟩ := hB
    rw [ht] at hP1
    have hP := hP1
    have hD := dW hFc hD1
    obtain ⟨im8, im9, im10, im11, im12, im13, im14, im15, im16, im17, im18, im19, im20, im21, im22, im23, im24, im25, im26, im27, im28, im29, im30, im31, im32, im33, im34, im35, im36, im37, im38, im39, im40, im41, im42, im43, im44, im45, im46, im47⟩ := id hI7
    rw [hQ]
    exact W.vret hx hb hr (fun t ht hW => ⟨⟨(), rfl, trivial, ⟨x5, J6, by rw [ht]; exact hP, hD, hI7⟩⟩, hS.F ht⟩) hS.2.2 dX5_refuse_16
  · skip
    have f48 : i_rd_kind.toInt = 0 := qi_eq c_1 rfl zc_0
    refine lv_iconst (v := 1) hx hb dX5_refuse_8 (by decide) ?_
    refine lv_goto (tgt := 13) hx hb dX5_refuse_9 (by decide) ?_
    have hFc := frA hD hS hA
    refine va_callv (va_runV (As := [.int 1]) (rest := []) ⟨hx, hb, hml, hown, hG⟩ (kX5_setFault l dC dI r ct i_tapeLength i_time i_lyingCount i_rd_fault i_rd_token i_rd_kind i_sc_count i_sc_at i_A_tunes i_A_houses i_fA_length i_B_tunes i_B_houses i_fB_length i_acts_done i_acts_undone i_kn_count f_boxes f_boxKept f_trial f_offers f_A_noteCounts f_A_notes f_B_noteCounts f_B_notes f_now_where f_now_worn f_ahead_where f_ahead_worn f_acts_rows f_kn_tunes f_kn_noteTimes J L 1 s.heap.size hI) (cwV 1 hG (goodV gw631 gw633 gw10 gw130 gw634) rfl rfl rfl hd_X5_setFault ⟨(Nat.le_of_ble_eq_true rfl), (Nat.le_of_ble_eq_true rfl)⟩) ⟨fbW, va_recv hK hP (ci := 4) (q0 := 1) rfl rfl, pW_in hP hK hD⟩ rfl rfl hl.1 rfl (lv_room (Nat.le_of_ble_eq_true rfl)) dX5_refuse_13 ⟨(Nat.le_of_ble_eq_true rfl), (Nat.le_of_ble_eq_true rfl)⟩) hS (fun q _ h => hFc q h) hFc (fun _ t_ H49 locs ht hvm hw hB hz1 hk1 hS => ?_)
    obtain ⟨x51, J52, hP1, hD1, hI53⟩ := hB
    rw [ht] at hP1
    have hP := hP1
    have hD := dW hFc hD1
    obtain ⟨im54, im55, im56, im57, im58, im59, im60, im61, im62, im63, im64, im65, im66, im67, im68, im69, im70, im71, im72, im73, im74, im75, im76, im77, im78, im79, im80, im81, im82, im83, im84, im85, im86, im87, im88, im89, im90, im91, im92, im93⟩ := id hI53
    rw [hQ]
    exact W.vret hx hb hr (fun t ht hW => ⟨⟨(), rfl, trivial, ⟨x51, J52, by rw [ht]; exact hP, hD, hI53⟩⟩, hS.F ht⟩) hS.2.2 dX5_refuse_16
set_option maxHeartbeats 4000000 in
set_option maxRecDepth 100000 in
theorem kX5_readNumber (l : Launch) (dC : Nat → ClassId) (dI : Nat → Nat → Nat) (r : Nat → Nat) (ct : Nat → ClassId) (i_tapeLength i_time i_lyingCount i_rd_fault i_rd_token i_rd_kind i_sc_count i_sc_at i_A_tunes i_A_houses i_fA_length i_B_tunes i_B_houses i_fB_length i_acts_done i_acts_undone i_kn_count : Int32) (f_boxes f_boxKept f_trial f_offers f_A_noteCounts f_A_notes f_B_noteCounts f_B_notes f_now_where f_now_worn f_ahead_where f_ahead_worn f_acts_rows f_kn_tunes f_kn_noteTimes : Nat → Int32) (J : Nat → Nat → Int32) (L : Nat → Nat → Int64) (p0 p1 : Int32) (sz : Nat) (hI : (IX i_tapeLength i_time i_lyingCount i_rd_token i_sc_count i_sc_at i_A_tunes i_A_houses i_fA_length i_B_tunes i_B_houses i_fB_length i_acts_done i_acts_undone i_kn_count f_boxes f_A_noteCounts f_A_notes f_B_noteCounts f_B_notes f_now_worn f_ahead_worn f_acts_rows f_kn_tunes)) : Met l yX5_readNumber (.code yX5_readNumber cX5_readNumber 4 (some .int) :: GW) { frames := 6, cells := 0, slots := 0, locals := 221 } (va_Pc [.ref (r 1), .int p0, .int p1] (pW (dC, dI) (WX r ct i_tapeLength i_time i_lyingCount i_rd_fault i_rd_token i_rd_kind i_sc_count i_sc_at i_A_tunes i_A_houses i_fA_length i_B_tunes i_B_houses i_fB_length i_acts_done i_acts_undone i_kn_count f_boxes f_boxKept f_trial f_offers f_A_noteCounts f_A_notes f_B_noteCounts f_B_notes f_now_where f_now_worn f_ahead_where f_ahead_worn f_acts_rows f_kn_tunes f_kn_noteTimes J L) (TX ct) sz)) (va_Qi (fun (r0 : Int32) (u : Int32) => r0 = u) (fun (u : Int32) (t : State) => ∃ (n_i_rd_fault n_i_rd_token n_i_rd_kind : Int32) (n_J : Nat → Nat → Int32), va_P (dC, dI) vwCl (WX r ct i_tapeLength i_time i_lyingCount n_i_rd_fault n_i_rd_token n_i_rd_kind i_sc_count i_sc_at i_A_tunes i_A_houses i_fA_length i_B_tunes i_B_houses i_fB_length i_acts_done i_acts_undone i_kn_count f_boxes f_boxKept f_trial f_offers f_A_noteCounts f_A_notes f_B_noteCounts f_B_notes f_now_where f_now_worn f_ahead_where f_ahead_worn f_acts_rows f_kn_tunes f_kn_noteTimes n_J L) t.heap ∧ va_D (va_A (WX r ct i_tapeLength i_time i_lyingCount i_rd_fault i_rd_token i_rd_kind i_sc_count i_sc_at i_A_tunes i_A_houses i_fA_length i_B_tunes i_B_houses i_fB_length i_acts_done i_acts_undone i_kn_count f_boxes f_boxKept f_trial f_offers f_A_noteCounts f_A_notes f_B_noteCounts f_B_notes f_now_where f_now_worn f_ahead_where f_ahead_worn f_acts_rows f_kn_tunes f_kn_noteTimes J L) sz) (WX r ct i_tapeLength i_time i_lyingCount n_i_rd_fault n_i_rd_token n_i_rd_kind i_sc_count i_sc_at i_A_tunes i_A_houses i_fA_length i_B_tunes i_B_houses i_fB_length i_acts_done i_acts_undone i_kn_count f_boxes f_boxKept f_trial f_offers f_A_noteCounts f_A_notes f_B_noteCounts f_B_notes f_now_where f_now_worn f_ahead_where f_ahead_worn f_acts_rows f_kn_tunes f_kn_noteTimes n_J L) ∧ (IX i_tapeLength i_time i_lyingCount n_i_rd_token i_sc_count i_sc_at i_A_tunes i_A_houses i_fA_length i_B_tunes i_B_houses i_fB_length i_acts_done i_acts_undone i_kn_count f_boxes f_A_noteCounts f_A_notes f_B_noteCounts f_B_notes f_now_worn f_ahead_worn f_acts_rows f_kn_tunes) ∧ ((u.toInt = (0 : Int)) ∨ ((p0.toInt ≤ u.toInt) ∧ (u.toInt ≤ p1.toInt)))) (va_A (WX r ct i_tapeLength i_time i_lyingCount i_rd_fault i_rd_token i_rd_kind i_sc_count i_sc_at i_A_tunes i_A_houses i_fA_length i_B_tunes i_B_houses i_fB_length i_acts_done i_acts_undone i_kn_count f_boxes f_boxKept f_trial f_offers f_A_noteCounts f_A_notes f_B_noteCounts f_B_notes f_now_where f_now_worn f_ahead_where f_ahead_worn f_acts_rows f_kn_tunes f_kn_noteTimes J L) sz)) 0 0 (va_A (WX r ct i_tapeLength i_time i_lyingCount i_rd_fault i_rd_token i_rd_kind i_sc_count i_sc_at i_A_tunes i_A_houses i_fA_length i_B_tunes i_B_houses i_fB_length i_acts_done i_acts_undone i_kn_count f_boxes f_boxKept f_trial f_offers f_A_noteCounts f_A_notes f_B_noteCounts f_B_notes f_now_where f_now_worn f_ahead_where f_ahead_worn f_acts_rows f_kn_tunes f_kn_noteTimes J L) sz) := by
  refine Met.ofW (cc := cX5_readNumber) (maxL := 4) (ret := (some .int)) (by decide) rfl ?_
  intro p e s m args below meth c0 s₁ B hml hv
  obtain ⟨rfl, hsz, hP, hK, hD0⟩ := hv
  have hx := B.exec
  have hb := B.bytes
  have hr := B.returns
  have hts := atoms_spec (ws := .code yX5_readNumber cX5_readNumber 4 (some .int) :: GW) B.pre
  have hG : ∀ w ∈ GW, w.before _ s = true := fun w h => hts w (List.mem_cons_of_mem _ h)
  have hown : s.vm.findClass RX5 = some m.cls := findClass_of_methodNamed B.named
  subst hsz
  have hD := hD0.self (sz := s.heap.size)
  generalize hAe : va_A (WX r ct i_tapeLength i_time i_lyingCount i_rd_fault i_rd_token i_rd_kind i_sc_count i_sc_at i_A_tunes i_A_houses i_fA_length i_B_tunes i_B_houses i_fB_length i_acts_done i_acts_undone i_kn_count f_boxes f_boxKept f_trial f_offers f_A_noteCounts f_A_notes f_B_noteCounts f_B_notes f_now_where f_now_worn f_ahead_where f_ahead_worn f_acts_rows f_kn_tunes f_kn_noteTimes J L) s.heap.size = A at hD ⊢
  have hA : ∀ q : Nat, s.heap.size ≤ q → A q := fun q h => by rw [← hAe]; exact Or.inr h
  have hS : va_S A s.heap s.heap [] := va_S.rf
  have hP : va_P (dC, dI) vwCl (WX r ct i_tapeLength i_time i_lyingCount i_rd_fault i_rd_token i_rd_kind i_sc_count i_sc_at i_A_tunes i_A_houses i_fA_length i_B_tunes i_B_houses i_fB_length i_acts_done i_acts_undone i_kn_count f_boxes f_boxKept f_trial f_offers f_A_noteCounts f_A_notes f_B_noteCounts f_B_notes f_now_where f_now_worn f_ahead_where f_ahead_worn f_acts_rows f_kn_tunes f_kn_noteTimes J L) s.heap := hP
  have hl := lv_entry ([.ref (r 1), .int p0, .int p1]) (n := 4) (Nat.le_of_ble_eq_true rfl)
  rw [lg_entry_eq]
  generalize (lg_sl ([.ref (r 1), .int p0, .int p1]) ++ List.replicate (4 - (lg_sl ([.ref (r 1), .int p0, .int p1])).length) Slot.unset).toArray = ls at hl ⊢
  have hl : lv_has ls 4 [(0, .ref (r 1)), (1, .int p0), (2, .int p1)] := hl
  refine nameQ (fun Q hQ => ?_)
  obtain ⟨ie0, ie1, ie2, ie3, ie4, ie5, ie6, ie7, ie8, ie9, ie10, ie11, ie12, ie13, ie14, ie15, ie16, ie17, ie18, ie19, ie20, ie21, ie22, ie23, ie24, ie25, ie26, ie27, ie28, ie29, ie30, ie31, ie32, ie33, ie34, ie35, ie36, ie37, ie38, ie39⟩ := id hI
  refine lv_aload_n hx hb dX5_readNumber_0 rfl (lv_at hl 0 rfl) ?_
  refine gX_X5_66_1 hx hb hG hown hK hP dX5_readNumber_1 ?_
  refine lv_iconst (v := 2) hx hb dX5_readNumber_4 (by decide) ?_
  refine lv_icmp_eq (tgt := 14) hx hb dX5_readNumber_5 (by decide) (fun c_1 => ?_) (fun c_1 => ?_)
  · skip
    have f2 : i_rd_kind.toInt = 2 := qi_eq c_1 rfl zc_2
    refine lv_aload_n hx hb dX5_readNumber_14 rfl (lv_at hl 0 rfl) ?_
    refine gX_X5_18_1 hx hb hG hown hK hP dX5_readNumber_15 ?_
    refine gX_X5_148_2 hx hb hG hown hK hP dX5_readNumber_18 ?_
    refine lv_aload_n hx hb dX5_readNumber_21 rfl (lv_at hl 0 rfl) ?_
    refine gX_X5_59_1 hx hb hG hown hK hP dX5_readNumber_22 ?_
    refine ldX_22 (mm := i_rd_token.toInt) hx hb hK hP rfl (ox_906 ie6 ie7) (ox_907 ie6 ie7) dX5_readNumber_25 (fun y3 => ?_)
    refine lv_l2i (v := _) hx hb dX5_readNumber_26 rfl ?_
    refine lv_topi (fun x4 ex4 => ?_)
    refine lv_istore_n (lv' := [(3, .int x4), (0, .ref (r 1)), (1, .int p0), (2, .int p1)]) hx hb dX5_readNumber_27 rfl hl (by decide) rfl (fun ls hl => ?_)
    refine lv_iload_n hx hb dX5_readNumber_28 rfl (lv_at hl 0 rfl) ?_
    refine lv_iload_n hx hb dX5_readNumber_29 rfl (lv_at hl 2 rfl) ?_
    refine lv_icmp_lt (tgt := 38) hx hb dX5_readNumber_30 (by decide) (fun c_5 => ?_) (fun c_5 => ?_)
    · skip
      have f6 : x4.toInt < p0.toInt := qi_lt c_5 rfl rfl
      refine lv_aload_n hx hb dX5_readNumber_38 rfl (lv_at hl 1 rfl) ?_
      refine lv_iconst (v := 4) hx hb dX5_readNumber_39 (by decide) ?_
      have hFc := frA hD hS hA
      refine va_callv (va_runV (As := [.int 4]) (rest := []) ⟨hx, hb, hml, hown, hG⟩ (kX5_setFault l dC dI r ct i_tapeLength i_time i_lyingCount i_rd_fault i_rd_token i_rd_kind i_sc_count i_sc_at i_A_tunes i_A_houses i_fA_length i_B_tunes i_B_houses i_fB_length i_acts_done i_acts_undone i_kn_count f_boxes f_boxKept f_trial f_offers f_A_noteCounts f_A_notes f_B_noteCounts f_B_notes f_now_where f_now_worn f_ahead_where f_ahead_worn f_acts_rows f_kn_tunes f_kn_noteTimes J L 4 s.heap.size hI) (cwV 1 hG (goodV gw631 gw633 gw10 gw130 gw634) rfl rfl rfl hd_X5_setFault ⟨(Nat.le_of_ble_eq_true rfl), (Nat.le_of_ble_eq_true rfl)⟩) ⟨fbW, va_recv hK hP (ci := 4) (q0 := 1) rfl rfl, pW_in hP hK hD⟩ rfl rfl hl.1 rfl (lv_room (Nat.le_of_ble_eq_true rfl)) dX5_readNumber_40 ⟨(Nat.le_of_ble_eq_true rfl), (Nat.le_of_ble_eq_true rfl)⟩) hS (fun q _ h => hFc q h) hFc (fun _ t_ H7 locs ht hvm hw hB hz1 hk1 hS => ?_)
      obtain ⟨x9, J10, hP1, hD1, hI11⟩ := hB
      rw [ht] at hP1
      have hP := hP1
      have hD := dW hFc hD1
      obtain ⟨im12, im13, im14, im15, im16, im17, im18, im19, im20, im21, im22, im23, im24, im25, im26, im27, im28, im29, im30, im31, im32, im33, im34, im35, im36, im37, im38, im39, im40, im41, im42, im43, im44, im45, im46, im47, im48, im49, im50, im51⟩ := id hI11
      refine lv_iconst (v := 0) hx hb dX5_readNumber_43 (by decide) ?_
      rw [hQ]
      exact W.iret (v := 0) hx hb hr (fun t ht hW => ⟨⟨0, 0, rfl, rfl, ⟨x9, i_rd_token, i_rd_kind, J10, by rw [ht]; exact hP, hD, hI11, (ox_908 f6 zc_0)⟩⟩, hS.F ht⟩) hS.2.2 dX5_readNumber_44
    · skip
      have f52 : p0.toInt ≤ x4.toInt := qi_nlt c_5 rfl rfl
      refine lv_iload_n hx hb dX5_readNumber_33 rfl (lv_at hl 0 rfl) ?_
      refine lv_iload_n hx hb dX5_readNumber_34 rfl (lv_at hl 3 rfl) ?_
      refine lv_icmp_le (tgt := 45) hx hb dX5_readNumber_35 (by decide) (fun c_53 => ?_) (fun c_53 => ?_)
      · skip
        have f54 : x4.toInt ≤ p1.toInt := qi_le c_53 rfl rfl
        refine lv_aload_n hx hb dX5_readNumber_45 rfl (lv_at hl 1 rfl) ?_
        have hFc := frA hD hS hA
        refine va_callv (va_runV (As := []) (rest := []) ⟨hx, hb, hml, hown, hG⟩ (kX5_advance l dC dI r ct i_tapeLength i_time i_lyingCount i_rd_fault i_rd_token i_rd_kind i_sc_count i_sc_at i_A_tunes i_A_houses i_fA_length i_B_tunes i_B_houses i_fB_length i_acts_done i_acts_undone i_kn_count f_boxes f_boxKept f_trial f_offers f_A_noteCounts f_A_notes f_B_noteCounts f_B_notes f_now_where f_now_worn f_ahead_where f_ahead_worn f_acts_rows f_kn_tunes f_kn_noteTimes J L s.heap.size hI) (cwV 0 hG (goodV gw635 gw637 gw11 gw130 gw638) rfl rfl rfl hd_X5_advance ⟨(Nat.le_of_ble_eq_true rfl), (Nat.le_of_ble_eq_true rfl)⟩) ⟨fbW, va_recv hK hP (ci := 4) (q0 := 1) rfl rfl, pW_in hP hK hD⟩ rfl rfl hl.1 rfl (lv_room (Nat.le_of_ble_eq_true rfl)) dX5_readNumber_46 ⟨(Nat.le_of_ble_eq_true rfl), (Nat.le_of_ble_eq_true rfl)⟩) hS (fun q _ h => hFc q h) hFc (fun _ t_ H55 locs ht hvm hw hB hz1 hk1 hS => ?_)
        obtain ⟨x57, x58, hP1, hD1, hI59⟩ := hB
        rw [ht] at hP1
        have hP := hP1
        have hD := dW hFc hD1
        obtain ⟨im60, im61, im62, im63, im64, im65, im66, im67, im68, im69, im70, im71, im72, im73, im74, im75, im76, im77, im78, im79, im80, im81, im82, im83, im84, im85, im86, im87, im88, im89, im90, im91, im92, im93, im94, im95, im96, im97, im98, im99⟩ := id hI59
        refine lv_iload_n hx hb dX5_readNumber_49 rfl (lv_at hl 0 rfl) ?_
        rw [hQ]
        exact W.iret (v := x4) hx hb hr (fun t ht hW => ⟨⟨x4, x4, rfl, rfl, ⟨i_rd_fault, x57, x58, J, by rw [ht]; exact hP, hD, hI59, (ox_909 f52 f54)⟩⟩, hS.F ht⟩) hS.2.2 dX5_readNumber_50
      · skip
        have f100 : p1.toInt < x4.toInt := qi_nle c_53 rfl rfl
        refine lv_aload_n hx hb dX5_readNumber_38 rfl (lv_at hl 1 rfl) ?_
        refine lv_iconst (v := 4) hx hb dX5_readNumber_39 (by decide) ?_
        have hFc := frA hD hS hA
        refine va_callv (va_runV (As := [.int 4]) (rest := []) ⟨hx, hb, hml, hown, hG⟩ (kX5_setFault l dC dI r ct i_tapeLength i_time i_lyingCount i_rd_fault i_rd_token i_rd_kind i_sc_count i_sc_at i_A_tunes i_A_houses i_fA_length i_B_tunes i_B_houses i_fB_length i_acts_done i_acts_undone i_kn_count f_boxes f_boxKept f_trial f_offers f_A_noteCounts f_A_notes f_B_noteCounts f_B_notes f_now_where f_now_worn f_ahead_where f_ahead_worn f_acts_rows f_kn_tunes f_kn_noteTimes J L 4 s.heap.size hI) (cwV 1 hG (goodV gw631 gw633 gw10 gw130 gw634) rfl rfl rfl hd_X5_setFault ⟨(Nat.le_of_ble_eq_true rfl), (Nat.le_of_ble_eq_true rfl)⟩) ⟨fbW, va_recv hK hP (ci := 4) (q0 := 1) rfl rfl, pW_in hP hK hD⟩ rfl rfl hl.1 rfl (lv_room (Nat.le_of_ble_eq_true rfl)) dX5_readNumber_40 ⟨(Nat.le_of_ble_eq_true rfl), (Nat.le_of_ble_eq_true rfl)⟩) hS (fun q _ h => hFc q h) hFc (fun _ t_ H101 locs ht hvm hw hB hz1 hk1 hS => ?_)
        obtain ⟨x103, J104, hP1, hD1, hI105⟩ := hB
        rw [ht] at hP1
        have hP := hP1
        have hD := dW hFc hD1
        obtain ⟨im106, im107, im108, im109, im110, im111, im112, im113, im114, im115, im116, im117, im118, im119, im120, im121, im122, im123, im124, im125, im126, im127, im128, im129, im130, im131, im132, im133, im134, im135, im136, im137, im138, im139, im140, im141, im142, im143, im144, im145⟩ := id hI105
        refine lv_iconst (v := 0) hx hb dX5_readNumber_43 (by decide) ?_
        rw [hQ]
        exact W.iret (v := 0) hx hb hr (fun t ht hW => ⟨⟨0, 0, rfl, rfl, ⟨x103, i_rd_token, i_rd_kind, J104, by rw [ht]; exact hP, hD, hI105, (ox_910 f52 f100 zc_0)⟩⟩, hS.F ht⟩) hS.2.2 dX5_readNumber_44
  · skip
    have f146 : i_rd_kind.toInt ≠ 2 := qi_ne c_1 rfl zc_2
    refine lv_aload_n hx hb dX5_readNumber_8 rfl (lv_at hl 0 rfl) ?_
    have hFc := frA hD hS hA
    refine va_callv (va_runV (As := []) (rest := []) ⟨hx, hb, hml, hown, hG⟩ (kX5_refuse l dC dI r ct i_tapeLength i_time i_lyingCount i_rd_fault i_rd_token i_rd_kind i_sc_count i_sc_at i_A_tunes i_A_houses i_fA_length i_B_tunes i_B_houses i_fB_length i_acts_done i_acts_undone i_kn_count f_boxes f_boxKept f_trial f_offers f_A_noteCounts f_A_notes f_B_noteCounts f_B_notes f_now_where f_now_worn f_ahead_where f_ahead_worn f_acts_rows f_kn_tunes f_kn_noteTimes J L s.heap.size hI) (cwV 0 hG (goodV gw627 gw629 gw9 gw130 gw630) rfl rfl rfl hd_X5_refuse ⟨(Nat.le_of_ble_eq_true rfl), (Nat.le_of_ble_eq_true rfl)⟩) ⟨fbW, va_recv hK hP (ci := 4) (q0 := 1) rfl rfl, pW_in hP hK hD⟩ rfl rfl hl.1 rfl (lv_room (Nat.le_of_ble_eq_true rfl)) dX5_readNumber_9 ⟨(Nat.le_of_ble_eq_true rfl), (Nat.le_of_ble_eq_true rfl)⟩) hS (fun q _ h => hFc q h) hFc (fun _ t_ H147 locs ht hvm hw hB hz1 hk1 hS => ?_)
    obtain ⟨x149, J150, hP1, hD1, hI151⟩ := hB
    rw [ht] at hP1
    have hP := hP1
    have hD := dW hFc hD1
    obtain ⟨im152, im153, im154, im155, im156, im157, im158, im159, im160, im161, im162, im163, im164, im165, im166, im167, im168, im169, im170, im171, im172, im173, im174, im175, im176, im177, im178, im179, im180, im181, im182, im183, im184, im185, im186, im187, im188, im189, im190, im191⟩ := id hI151
    refine lv_iconst (v := 0) hx hb dX5_readNumber_12 (by decide) ?_
    rw [hQ]
    exact W.iret (v := 0) hx hb hr (fun t ht hW => ⟨⟨0, 0, rfl, rfl, ⟨x149, i_rd_token, i_rd_kind, J150, by rw [ht]; exact hP, hD, hI151, (ox_911 zc_0)⟩⟩, hS.F ht⟩) hS.2.2 dX5_readNumber_13
set_option maxHeartbeats 4000000 in
set_option maxRecDepth 100000 in
theorem kX5_pass (l : Launch) (dC : Nat → ClassId) (dI : Nat → Nat → Nat) (r : Nat → Nat) (ct : Nat → ClassId) (i_tapeLength i_time i_lyingCount i_rd_fault i_rd_token i_rd_kind i_sc_count i_sc_at i_A_tunes i_A_houses i_fA_length i_B_tunes i_B_houses i_fB_length i_acts_done i_acts_undone i_kn_count : Int32) (f_boxes f_boxKept f_trial f_offers f_A_noteCounts f_A_notes f_B_noteCounts f_B_notes f_now_where f_now_worn f_ahead_where f_ahead_worn f_acts_rows f_kn_tunes f_kn_noteTimes : Nat → Int32) (J : Nat → Nat → Int32) (L : Nat → Nat → Int64) (p0 : Int32) (sz : Nat) (hI : (IX i_tapeLength i_time i_lyingCount i_rd_token i_sc_count i_sc_at i_A_tunes i_A_houses i_fA_length i_B_tunes i_B_houses i_fB_length i_acts_done i_acts_undone i_kn_count f_boxes f_A_noteCounts f_A_notes f_B_noteCounts f_B_notes f_now_worn f_ahead_worn f_acts_rows f_kn_tunes)) : Met l yX5_pass (.code yX5_pass cX5_pass 2 none :: GW) { frames := 6, cells := 0, slots := 0, locals := 221 } (va_Pc [.ref (r 1), .int p0] (pW (dC, dI) (WX r ct i_tapeLength i_time i_lyingCount i_rd_fault i_rd_token i_rd_kind i_sc_count i_sc_at i_A_tunes i_A_houses i_fA_length i_B_tunes i_B_houses i_fB_length i_acts_done i_acts_undone i_kn_count f_boxes f_boxKept f_trial f_offers f_A_noteCounts f_A_notes f_B_noteCounts f_B_notes f_now_where f_now_worn f_ahead_where f_ahead_worn f_acts_rows f_kn_tunes f_kn_noteTimes J L) (TX ct) sz)) (va_Qv (fun _ : Unit => True) (fun (_ : Unit) (t : State) => ∃ (n_i_rd_fault n_i_rd_token n_i_rd_kind : Int32) (n_J : Nat → Nat → Int32), va_P (dC, dI) vwCl (WX r ct i_tapeLength i_time i_lyingCount n_i_rd_fault n_i_rd_token n_i_rd_kind i_sc_count i_sc_at i_A_tunes i_A_houses i_fA_length i_B_tunes i_B_houses i_fB_length i_acts_done i_acts_undone i_kn_count f_boxes f_boxKept f_trial f_offers f_A_noteCounts f_A_notes f_B_noteCounts f_B_notes f_now_where f_now_worn f_ahead_where f_ahead_worn f_acts_rows f_kn_tunes f_kn_noteTimes n_J L) t.heap ∧ va_D (va_A (WX r ct i_tapeLength i_time i_lyingCount i_rd_fault i_rd_token i_rd_kind i_sc_count i_sc_at i_A_tunes i_A_houses i_fA_length i_B_tunes i_B_houses i_fB_length i_acts_done i_acts_undone i_kn_count f_boxes f_boxKept f_trial f_offers f_A_noteCounts f_A_notes f_B_noteCounts f_B_notes f_now_where f_now_worn f_ahead_where f_ahead_worn f_acts_rows f_kn_tunes f_kn_noteTimes J L) sz) (WX r ct i_tapeLength i_time i_lyingCount n_i_rd_fault n_i_rd_token n_i_rd_kind i_sc_count i_sc_at i_A_tunes i_A_houses i_fA_length i_B_tunes i_B_houses i_fB_length i_acts_done i_acts_undone i_kn_count f_boxes f_boxKept f_trial f_offers f_A_noteCounts f_A_notes f_B_noteCounts f_B_notes f_now_where f_now_worn f_ahead_where f_ahead_worn f_acts_rows f_kn_tunes f_kn_noteTimes n_J L) ∧ (IX i_tapeLength i_time i_lyingCount n_i_rd_token i_sc_count i_sc_at i_A_tunes i_A_houses i_fA_length i_B_tunes i_B_houses i_fB_length i_acts_done i_acts_undone i_kn_count f_boxes f_A_noteCounts f_A_notes f_B_noteCounts f_B_notes f_now_worn f_ahead_worn f_acts_rows f_kn_tunes)) (va_A (WX r ct i_tapeLength i_time i_lyingCount i_rd_fault i_rd_token i_rd_kind i_sc_count i_sc_at i_A_tunes i_A_houses i_fA_length i_B_tunes i_B_houses i_fB_length i_acts_done i_acts_undone i_kn_count f_boxes f_boxKept f_trial f_offers f_A_noteCounts f_A_notes f_B_noteCounts f_B_notes f_now_where f_now_worn f_ahead_where f_ahead_worn f_acts_rows f_kn_tunes f_kn_noteTimes J L) sz)) 0 0 (va_A (WX r ct i_tapeLength i_time i_lyingCount i_rd_fault i_rd_token i_rd_kind i_sc_count i_sc_at i_A_tunes i_A_houses i_fA_length i_B_tunes i_B_houses i_fB_length i_acts_done i_acts_undone i_kn_count f_boxes f_boxKept f_trial f_offers f_A_noteCounts f_A_notes f_B_noteCounts f_B_notes f_now_where f_now_worn f_ahead_where f_ahead_worn f_acts_rows f_kn_tunes f_kn_noteTimes J L) sz) := by
  refine Met.ofW (cc := cX5_pass) (maxL := 2) (ret := none) (by decide) rfl ?_
  intro p e s m args below meth c0 s₁ B hml hv
  obtain ⟨rfl, hsz, hP, hK, hD0⟩ := hv
  have hx := B.exec
  have hb := B.bytes
  have hr := B.returns
  have hts := atoms_spec (ws := .code yX5_pass cX5_pass 2 none :: GW) B.pre
  have hG : ∀ w ∈ GW, w.before _ s = true := fun w h => hts w (List.mem_cons_of_mem _ h)
  have hown : s.vm.findClass RX5 = some m.cls := findClass_of_methodNamed B.named
  subst hsz
  have hD := hD0.self (sz := s.heap.size)
  generalize hAe : va_A (WX r ct i_tapeLength i_time i_lyingCount i_rd_fault i_rd_token i_rd_kind i_sc_count i_sc_at i_A_tunes i_A_houses i_fA_length i_B_tunes i_B_houses i_fB_length i_acts_done i_acts_undone i_kn_count f_boxes f_boxKept f_trial f_offers f_A_noteCounts f_A_notes f_B_noteCounts f_B_notes f_now_where f_now_worn f_ahead_where f_ahead_worn f_acts_rows f_kn_tunes f_kn_noteTimes J L) s.heap.size = A at hD ⊢
  have hA : ∀ q : Nat, s.heap.size ≤ q → A q := fun q h => by rw [← hAe]; exact Or.inr h
  have hS : va_S A s.heap s.heap [] := va_S.rf
  have hP : va_P (dC, dI) vwCl (WX r ct i_tapeLength i_time i_lyingCount i_rd_fault i_rd_token i_rd_kind i_sc_count i_sc_at i_A_tunes i_A_houses i_fA_length i_B_tunes i_B_houses i_fB_length i_acts_done i_acts_undone i_kn_count f_boxes f_boxKept f_trial f_offers f_A_noteCounts f_A_notes f_B_noteCounts f_B_notes f_now_where f_now_worn f_ahead_where f_ahead_worn f_acts_rows f_kn_tunes f_kn_noteTimes J L) s.heap := hP
  have hl := lv_entry ([.ref (r 1), .int p0]) (n := 2) (Nat.le_of_ble_eq_true rfl)
  rw [lg_entry_eq]
  generalize (lg_sl ([.ref (r 1), .int p0]) ++ List.replicate (2 - (lg_sl ([.ref (r 1), .int p0])).length) Slot.unset).toArray = ls at hl ⊢
  have hl : lv_has ls 2 [(0, .ref (r 1)), (1, .int p0)] := hl
  refine nameQ (fun Q hQ => ?_)
  obtain ⟨ie0, ie1, ie2, ie3, ie4, ie5, ie6, ie7, ie8, ie9, ie10, ie11, ie12, ie13, ie14, ie15, ie16, ie17, ie18, ie19, ie20, ie21, ie22, ie23, ie24, ie25, ie26, ie27, ie28, ie29, ie30, ie31, ie32, ie33, ie34, ie35, ie36, ie37, ie38, ie39⟩ := id hI
  refine lv_aload_n hx hb dX5_pass_0 rfl (lv_at hl 0 rfl) ?_
  refine gX_X5_66_1 hx hb hG hown hK hP dX5_pass_1 ?_
  refine lv_iload_n hx hb dX5_pass_4 rfl (lv_at hl 1 rfl) ?_
  refine lv_icmp_ne (tgt := 15) hx hb dX5_pass_5 (by decide) (fun c_1 => ?_) (fun c_1 => ?_)
  · skip
    have f2 : i_rd_kind.toInt ≠ p0.toInt := qi_ne c_1 rfl rfl
    refine lv_aload_n hx hb dX5_pass_15 rfl (lv_at hl 0 rfl) ?_
    have hFc := frA hD hS hA
    refine va_callv (va_runV (As := []) (rest := []) ⟨hx, hb, hml, hown, hG⟩ (kX5_refuse l dC dI r ct i_tapeLength i_time i_lyingCount i_rd_fault i_rd_token i_rd_kind i_sc_count i_sc_at i_A_tunes i_A_houses i_fA_length i_B_tunes i_B_houses i_fB_length i_acts_done i_acts_undone i_kn_count f_boxes f_boxKept f_trial f_offers f_A_noteCounts f_A_notes f_B_noteCounts f_B_notes f_now_where f_now_worn f_ahead_where f_ahead_worn f_acts_rows f_kn_tunes f_kn_noteTimes J L s.heap.size hI) (cwV 0 hG (goodV gw627 gw629 gw9 gw130 gw630) rfl rfl rfl hd_X5_refuse ⟨(Nat.le_of_ble_eq_true rfl), (Nat.le_of_ble_eq_true rfl)⟩) ⟨fbW, va_recv hK hP (ci := 4) (q0 := 1) rfl rfl, pW_in hP hK hD⟩ rfl rfl hl.1 rfl (lv_room (Nat.le_of_ble_eq_true rfl)) dX5_pass_16 ⟨(Nat.le_of_ble_eq_true rfl), (Nat.le_of_ble_eq_true rfl)⟩) hS (fun q _ h => hFc q h) hFc (fun _ t_ H3 locs ht hvm hw hB hz1 hk1 hS => ?_)
    obtain ⟨x5, J6, hP1, hD1, hI7⟩ := hB
    rw [ht] at hP1
    have hP := hP1
    have hD := dW hFc hD1
    obtain ⟨im8, im9, im10, im11, im12, im13, im14, im15, im16, im17, im18, im19, im20, im21, im22, im23, im24, im25, im26, im27, im28, im29, im30, im31, im32, im33, im34, im35, im36, im37, im38, im39, im40, im41, im42, im43, im44, im45, im46, im47⟩ := id hI7
    rw [hQ]
    exact W.vret hx hb hr (fun t ht hW => ⟨⟨(), rfl, trivial, ⟨x5, i_rd_token, i_rd_kind, J6, by rw [ht]; exact hP, hD, hI7⟩⟩, hS.F ht⟩) hS.2.2 dX5_pass_19
  · skip
    have f48 : i_rd_kind.toInt = p0.toInt := qi_eq c_1 rfl rfl
    refine lv_aload_n hx hb dX5_pass_8 rfl (lv_at hl 0 rfl) ?_
    have hFc := frA hD hS hA
    refine va_callv (va_runV (As := []) (rest := []) ⟨hx, hb, hml, hown, hG⟩ (kX5_advance l dC dI r ct i_tapeLength i_time i_lyingCount i_rd_fault i_rd_token i_rd_kind i_sc_count i_sc_at i_A_tunes i_A_houses i_fA_length i_B_tunes i_B_houses i_fB_length i_acts_done i_acts_undone i_kn_count f_boxes f_boxKept f_trial f_offers f_A_noteCounts f_A_notes f_B_noteCounts f_B_notes f_now_where f_now_worn f_ahead_where f_ahead_worn f_acts_rows f_kn_tunes f_kn_noteTimes J L s.heap.size hI) (cwV 0 hG (goodV gw635 gw637 gw11 gw130 gw638) rfl rfl rfl hd_X5_advance ⟨(Nat.le_of_ble_eq_true rfl), (Nat.le_of_ble_eq_true rfl)⟩) ⟨fbW, va_recv hK hP (ci := 4) (q0 := 1) rfl rfl, pW_in hP hK hD⟩ rfl rfl hl.1 rfl (lv_room (Nat.le_of_ble_eq_true rfl)) dX5_pass_9 ⟨(Nat.le_of_ble_eq_true rfl), (Nat.le_of_ble_eq_true rfl)⟩) hS (fun q _ h => hFc q h) hFc (fun _ t_ H49 locs ht hvm hw hB hz1 hk1 hS => ?_)
    obtain ⟨x51, x52, hP1, hD1, hI53⟩ := hB
    rw [ht] at hP1
    have hP := hP1
    have hD := dW hFc hD1
    obtain ⟨im54, im55, im56, im57, im58, im59, im60, im61, im62, im63, im64, im65, im66, im67, im68, im69, im70, im71, im72, im73, im74, im75, im76, im77, im78, im79, im80, im81, im82, im83, im84, im85, im86, im87, im88, im89, im90, im91, im92, im93⟩ := id hI53
    refine lv_goto (tgt := 19) hx hb dX5_pass_12 (by decide) ?_
    rw [hQ]
    exact W.vret hx hb hr (fun t ht hW => ⟨⟨(), rfl, trivial, ⟨i_rd_fault, x51, x52, J, by rw [ht]; exact hP, hD, hI53⟩⟩, hS.F ht⟩) hS.2.2 dX5_pass_19
set_option maxHeartbeats 4000000 in
set_option maxRecDepth 100000 in
theorem kX5_readName (l : Launch) (dC : Nat → ClassId) (dI : Nat → Nat → Nat) (r : Nat → Nat) (ct : Nat → ClassId) (i_tapeLength i_time i_lyingCount i_rd_fault i_rd_token i_rd_kind i_sc_count i_sc_at i_A_tunes i_A_houses i_fA_length i_B_tunes i_B_houses i_fB_length i_acts_done i_acts_undone i_kn_count : Int32) (f_boxes f_boxKept f_trial f_offers f_A_noteCounts f_A_notes f_B_noteCounts f_B_notes f_now_where f_now_worn f_ahead_where f_ahead_worn f_acts_rows f_kn_tunes f_kn_noteTimes : Nat → Int32) (J : Nat → Nat → Int32) (L : Nat → Nat → Int64) (p1 : Int32) (sz : Nat) (hI : (IX i_tapeLength i_time i_lyingCount i_rd_token i_sc_count i_sc_at i_A_tunes i_A_houses i_fA_length i_B_tunes i_B_houses i_fB_length i_acts_done i_acts_undone i_kn_count f_boxes f_A_noteCounts f_A_notes f_B_noteCounts f_B_notes f_now_worn f_ahead_worn f_acts_rows f_kn_tunes)) (hp0 : (0 : Int) ≤ p1.toInt) (hp1 : p1.toInt ≤ (4 : Int)) : Met l yX5_readName (.code yX5_readName cX5_readName 6 none :: GW) { frames := 6, cells := 0, slots := 0, locals := 221 } (va_Pc [.ref (r 1), .ref (r 18), .int p1] (pW (dC, dI) (WX r ct i_tapeLength i_time i_lyingCount i_rd_fault i_rd_token i_rd_kind i_sc_count i_sc_at i_A_tunes i_A_houses i_fA_length i_B_tunes i_B_houses i_fB_length i_acts_done i_acts_undone i_kn_count f_boxes f_boxKept f_trial f_offers f_A_noteCounts f_A_notes f_B_noteCounts f_B_notes f_now_where f_now_worn f_ahead_where f_ahead_worn f_acts_rows f_kn_tunes f_kn_noteTimes J L) (TX ct) sz)) (va_Qv (fun _ : Unit => True) (fun (_ : Unit) (t : State) => ∃ (n_i_rd_fault n_i_rd_token n_i_rd_kind : Int32) (n_J : Nat → Nat → Int32) (n_L : Nat → Nat → Int64), va_P (dC, dI) vwCl (WX r ct i_tapeLength i_time i_lyingCount n_i_rd_fault n_i_rd_token n_i_rd_kind i_sc_count i_sc_at i_A_tunes i_A_houses i_fA_length i_B_tunes i_B_houses i_fB_length i_acts_done i_acts_undone i_kn_count f_boxes f_boxKept f_trial f_offers f_A_noteCounts f_A_notes f_B_noteCounts f_B_notes f_now_where f_now_worn f_ahead_where f_ahead_worn f_acts_rows f_kn_tunes f_kn_noteTimes n_J n_L) t.heap ∧ va_D (va_A (WX r ct i_tapeLength i_time i_lyingCount i_rd_fault i_rd_token i_rd_kind i_sc_count i_sc_at i_A_tunes i_A_houses i_fA_length i_B_tunes i_B_houses i_fB_length i_acts_done i_acts_undone i_kn_count f_boxes f_boxKept f_trial f_offers f_A_noteCounts f_A_notes f_B_noteCounts f_B_notes f_now_where f_now_worn f_ahead_where f_ahead_worn f_acts_rows f_kn_tunes f_kn_noteTimes J L) sz) (WX r ct i_tapeLength i_time i_lyingCount n_i_rd_fault n_i_rd_token n_i_rd_kind i_sc_count i_sc_at i_A_tunes i_A_houses i_fA_length i_B_tunes i_B_houses i_fB_length i_acts_done i_acts_undone i_kn_count f_boxes f_boxKept f_trial f_offers f_A_noteCounts f_A_notes f_B_noteCounts f_B_notes f_now_where f_now_worn f_ahead_where f_ahead_worn f_acts_rows f_kn_tunes f_kn_noteTimes n_J n_L) ∧ (IX i_tapeLength i_time i_lyingCount n_i_rd_token i_sc_count i_sc_at i_A_tunes i_A_houses i_fA_length i_B_tunes i_B_houses i_fB_length i_acts_done i_acts_undone i_kn_count f_boxes f_A_noteCounts f_A_notes f_B_noteCounts f_B_notes f_now_worn f_ahead_worn f_acts_rows f_kn_tunes)) (va_A (WX r ct i_tapeLength i_time i_lyingCount i_rd_fault i_rd_token i_rd_kind i_sc_count i_sc_at i_A_tunes i_A_houses i_fA_length i_B_tunes i_B_houses i_fB_length i_acts_done i_acts_undone i_kn_count f_boxes f_boxKept f_trial f_offers f_A_noteCounts f_A_notes f_B_noteCounts f_B_notes f_now_where f_now_worn f_ahead_where f_ahead_worn f_acts_rows f_kn_tunes f_kn_noteTimes J L) sz)) 0 0 (va_A (WX r ct i_tapeLength i_time i_lyingCount i_rd_fault i_rd_token i_rd_kind i_sc_count i_sc_at i_A_tunes i_A_houses i_fA_length i_B_tunes i_B_houses i_fB_length i_acts_done i_acts_undone i_kn_count f_boxes f_boxKept f_trial f_offers f_A_noteCounts f_A_notes f_B_noteCounts f_B_notes f_now_where f_now_worn f_ahead_where f_ahead_worn f_acts_rows f_kn_tunes f_kn_noteTimes J L) sz) := by
  refine Met.ofW (cc := cX5_readName) (maxL := 6) (ret := none) (by decide) rfl ?_
  intro p e s m args below meth c0 s₁ B hml hv
  obtain ⟨rfl, hsz, hP, hK, hD0⟩ := hv
  have hx := B.exec
  have hb := B.bytes
  have hr := B.returns
  have hts := atoms_spec (ws := .code yX5_readName cX5_readName 6 none :: GW) B.pre
  have hG : ∀ w ∈ GW, w.before _ s = true := fun w h => hts w (List.mem_cons_of_mem _ h)
  have hown : s.vm.findClass RX5 = some m.cls := findClass_of_methodNamed B.named
  subst hsz
  have hD := hD0.self (sz := s.heap.size)
  generalize hAe : va_A (WX r ct i_tapeLength i_time i_lyingCount i_rd_fault i_rd_token i_rd_kind i_sc_count i_sc_at i_A_tunes i_A_houses i_fA_length i_B_tunes i_B_houses i_fB_length i_acts_done i_acts_undone i_kn_count f_boxes f_boxKept f_trial f_offers f_A_noteCounts f_A_notes f_B_noteCounts f_B_notes f_now_where f_now_worn f_ahead_where f_ahead_worn f_acts_rows f_kn_tunes f_kn_noteTimes J L) s.heap.size = A at hD ⊢
  have hA : ∀ q : Nat, s.heap.size ≤ q → A q := fun q h => by rw [← hAe]; exact Or.inr h
  have hS : va_S A s.heap s.heap [] := va_S.rf
  have hP : va_P (dC, dI) vwCl (WX r ct i_tapeLength i_time i_lyingCount i_rd_fault i_rd_token i_rd_kind i_sc_count i_sc_at i_A_tunes i_A_houses i_fA_length i_B_tunes i_B_houses i_fB_length i_acts_done i_acts_undone i_kn_count f_boxes f_boxKept f_trial f_offers f_A_noteCounts f_A_notes f_B_noteCounts f_B_notes f_now_where f_now_worn f_ahead_where f_ahead_worn f_acts_rows f_kn_tunes f_kn_noteTimes J L) s.heap := hP
  have hl := lv_entry ([.ref (r 1), .ref (r 18), .int p1]) (n := 6) (Nat.le_of_ble_eq_true rfl)
  rw [lg_entry_eq]
  generalize (lg_sl ([.ref (r 1), .ref (r 18), .int p1]) ++ List.replicate (6 - (lg_sl ([.ref (r 1), .ref (r 18), .int p1])).length) Slot.unset).toArray = ls at hl ⊢
  have hl : lv_has ls 6 [(0, .ref (r 1)), (1, .ref (r 18)), (2, .int p1)] := hl
  refine nameQ (fun Q hQ => ?_)
  obtain ⟨ie0, ie1, ie2, ie3, ie4, ie5, ie6, ie7, ie8, ie9, ie10, ie11, ie12, ie13, ie14, ie15, ie16, ie17, ie18, ie19, ie20, ie21, ie22, ie23, ie24, ie25, ie26, ie27, ie28, ie29, ie30, ie31, ie32, ie33, ie34, ie35, ie36, ie37, ie38, ie39⟩ := id hI
  refine lv_aload_n hx hb dX5_readName_0 rfl (lv_at hl 0 rfl) ?_
  refine gX_X5_66_1 hx hb hG hown hK hP dX5_readName_1 ?_
  refine lv_iconst (v := 3) hx hb dX5_readName_4 (by decide) ?_
  refine lv_icmp_eq (tgt := 13) hx hb dX5_readName_5 (by decide) (fun c_1 => ?_) (fun c_1 => ?_)
  · skip
    have f2 : i_rd_kind.toInt = 3 := qi_eq c_1 rfl zc_3
    refine lv_aload_n hx hb dX5_readName_13 rfl (lv_at hl 0 rfl) ?_
    refine gX_X5_18_1 hx hb hG hown hK hP dX5_readName_14 ?_
    refine gX_X5_148_2 hx hb hG hown hK hP dX5_readName_17 ?_
    refine lv_aload_n hx hb dX5_readName_20 rfl (lv_at hl 0 rfl) ?_
    refine gX_X5_59_1 hx hb hG hown hK hP dX5_readName_21 ?_
    refine ldX_22 (mm := i_rd_token.toInt) hx hb hK hP rfl (ox_906 ie6 ie7) (ox_907 ie6 ie7) dX5_readName_24 (fun y3 => ?_)
    refine lv_lstore_n (lv' := [(3, .long y3), (0, .ref (r 1)), (1, .ref (r 18)), (2, .int p1)]) hx hb dX5_readName_25 rfl hl (by decide) rfl (fun ls hl => ?_)
    refine lv_iconst (v := 0) hx hb dX5_readName_26 (by decide) ?_
    refine lv_istore (lv' := [(5, .int 0), (3, .long y3), (0, .ref (r 1)), (1, .ref (r 18)), (2, .int p1)]) hx hb dX5_readName_27 hl (by decide) rfl (fun ls hl => ?_)
    have L29 : ∀ (N29 : Nat) (y29_5 : Int32) (H29 : Heap) (locs : List Loc) (ls : Array Slot) (g29_0 : (0 : Int) ≤ y29_5.toInt) (g29_1 : y29_5.toInt ≤ (4 : Int)) (hP : va_P (dC, dI) vwCl (WX r ct i_tapeLength i_time i_lyingCount i_rd_fault i_rd_token i_rd_kind i_sc_count i_sc_at i_A_tunes i_A_houses i_fA_length i_B_tunes i_B_houses i_fB_length i_acts_done i_acts_undone i_kn_count f_boxes f_boxKept f_trial f_offers f_A_noteCounts f_A_notes f_B_noteCounts f_B_notes f_now_where f_now_worn f_ahead_where f_ahead_worn f_acts_rows f_kn_tunes f_kn_noteTimes J L) H29) (hD : va_D A (WX r ct i_tapeLength i_time i_lyingCount i_rd_fault i_rd_token i_rd_kind i_sc_count i_sc_at i_A_tunes i_A_houses i_fA_length i_B_tunes i_B_houses i_fB_length i_acts_done i_acts_undone i_kn_count f_boxes f_boxKept f_trial f_offers f_A_noteCounts f_A_notes f_B_noteCounts f_B_notes f_now_where f_now_worn f_ahead_where f_ahead_worn f_acts_rows f_kn_tunes f_kn_noteTimes J L)) (hS : va_S A s.heap H29 locs) (hl : lv_has ls 6 [(0, .ref (r 1)), (1, .ref (r 18)), (2, .int p1), (3, .long y3), (5, .int y29_5)]) (hM : -1 * y29_5.toInt + 4 < (N29 : Int)), W p l e { frames := 6, cells := 0, slots := 0, locals := 221 } s m ([.ref (r 1), .ref (r 18), .int p1] : List Value).toArray below meth c0 H29 locs 0 0 Q (F0 m 29 ls []) := by
      intro N29
      induction N29 with
      | zero =>
        intro y29_5 H29 locs ls g29_0 g29_1 hP hD hS hl hM
        exact ((ox_218 hM g29_0 g29_1)).elim
      | succ N29 ih29 =>
        intro y29_5 H29 locs ls g29_0 g29_1 hP hD hS hl hM
        have hM29 := msucc hM
        refine lv_iload hx hb dX5_readName_29 (lv_at hl 4 rfl) ?_
        refine lv_iload_n hx hb dX5_readName_31 rfl (lv_at hl 2 rfl) ?_
        refine lv_icmp_ge (tgt := 56) hx hb dX5_readName_32 (by decide) (fun c_4 => ?_) (fun c_4 => ?_)
        · skip
          have f5 : p1.toInt ≤ y29_5.toInt := qi_le c_4 rfl rfl
          refine lv_aload_n hx hb dX5_readName_56 rfl (lv_at hl 1 rfl) ?_
          refine lv_iload_n hx hb dX5_readName_57 rfl (lv_at hl 2 rfl) ?_
          refine lv_lload_n hx hb dX5_readName_58 rfl (lv_at hl 3 rfl) ?_
          refine stX_18 (mm := p1.toInt) hx hb hK hP hD hS rfl (ox_912 hp0 hp1 f5) (ox_913 hp0 hp1 f5) dX5_readName_59 (fun L7 H6 locs hP hD hS => ?_)
          refine lv_aload_n hx hb dX5_readName_60 rfl (lv_at hl 0 rfl) ?_
          have hFc := frA hD hS hA
          refine va_callv (va_runV (As := []) (rest := []) ⟨hx, hb, hml, hown, hG⟩ (kX5_advance l dC dI r ct i_tapeLength i_time i_lyingCount i_rd_fault i_rd_token i_rd_kind i_sc_count i_sc_at i_A_tunes i_A_houses i_fA_length i_B_tunes i_B_houses i_fB_length i_acts_done i_acts_undone i_kn_count f_boxes f_boxKept f_trial f_offers f_A_noteCounts f_A_notes f_B_noteCounts f_B_notes f_now_where f_now_worn f_ahead_where f_ahead_worn f_acts_rows f_kn_tunes f_kn_noteTimes J L7 H6.size hI) (cwV 0 hG (goodV gw635 gw637 gw11 gw130 gw638) rfl rfl rfl hd_X5_advance ⟨(Nat.le_of_ble_eq_true rfl), (Nat.le_of_ble_eq_true rfl)⟩) ⟨fbW, va_recv hK hP (ci := 4) (q0 := 1) rfl rfl, pW_in hP hK hD⟩ rfl rfl hl.1 rfl (lv_room (Nat.le_of_ble_eq_true rfl)) dX5_readName_61 ⟨(Nat.le_of_ble_eq_true rfl), (Nat.le_of_ble_eq_true rfl)⟩) hS (fun q _ h => hFc q h) hFc (fun _ t_ H8 locs ht hvm hw hB hz1 hk1 hS => ?_)
          obtain ⟨x10, x11, hP1, hD1, hI12⟩ := hB
          rw [ht] at hP1
          have hP := hP1
          have hD := dW hFc hD1
          obtain ⟨im13, im14, im15, im16, im17, im18, im19, im20, im21, im22, im23, im24, im25, im26, im27, im28, im29, im30, im31, im32, im33, im34, im35, im36, im37, im38, im39, im40, im41, im42, im43, im44, im45, im46, im47, im48, im49, im50, im51, im52⟩ := id hI12
          rw [hQ]
          exact W.vret hx hb hr (fun t ht hW => ⟨⟨(), rfl, trivial, ⟨i_rd_fault, x10, x11, J, L7, by rw [ht]; exact hP, hD, hI12⟩⟩, hS.F ht⟩) hS.2.2 dX5_readName_64
        · skip
          have f53 : y29_5.toInt < p1.toInt := qi_nle c_4 rfl rfl
          refine lv_aload_n hx hb dX5_readName_35 rfl (lv_at hl 1 rfl) ?_
          refine lv_iload hx hb dX5_readName_36 (lv_at hl 4 rfl) ?_
          refine ldX_18 (mm := y29_5.toInt) hx hb hK hP rfl (ox_9 g29_0) (ox_914 g29_1) dX5_readName_38 (fun y54 => ?_)
          refine lv_lload_n hx hb dX5_readName_39 rfl (lv_at hl 3 rfl) ?_
          refine W.lcmp hx hb dX5_readName_40 ?_
          refine lv_topi (fun x55 ex55 => ?_)
          have f56 : (x55.toInt = 0 ∧ y54.toInt = y3.toInt) ∨ (x55.toInt ≠ 0 ∧ y54.toInt ≠ y3.toInt) := lcmp_or ex55
          refine lv_if_ne (tgt := 50) hx hb dX5_readName_41 (by decide) (fun c_57 => ?_) (fun c_57 => ?_)
          · skip
            have f58 : x55.toInt ≠ 0 := qi_ne c_57 rfl zc_0
            have f59 : x55.toInt ≠ (0 : Int) := (ox_915 f56 f58)
            have f60 : y54.toInt ≠ y3.toInt := (ox_916 f56 f58 f59)
            obtain ⟨x61, ex61⟩ : ∃ y : Int32, y = y29_5 + Int32.ofInt 1 := ⟨_, rfl⟩
            have f62 : x61.toInt = y29_5.toInt + 1 := (ox_13 (qi_add ex61 rfl (by decide) (ox_11 g29_0) (ox_219 g29_1)))
            refine lv_iinc (v := x61) (lv' := [(5, .int x61), (0, .ref (r 1)), (1, .ref (r 18)), (2, .int p1), (3, .long y3)]) hx hb dX5_readName_50 hl (k := 4) rfl ex61.symm (by decide) rfl (fun ls hl => ?_)
            refine lv_goto (tgt := 29) hx hb dX5_readName_53 (by decide) ?_
            exact ih29 x61 H29 _ _ (ox_14 g29_0 f62) (ox_220 hp1 f53 f62) hP hD hS (lv_sub hl [1, 2, 3, 4, 0] rfl) (ox_221 hM29 f62)
          · skip
            have f63 : x55.toInt = 0 := qi_eq c_57 rfl zc_0
            have f64 : x55.toInt = (0 : Int) := (ox_917 f63)
            have f65 : y54.toInt = y3.toInt := (ox_918 f56 f63 f64)
            refine lv_aload_n hx hb dX5_readName_44 rfl (lv_at hl 0 rfl) ?_
            refine lv_iconst (v := 3) hx hb dX5_readName_45 (by decide) ?_
            have hFc := frA hD hS hA
            refine va_callv (va_runV (As := [.int 3]) (rest := []) ⟨hx, hb, hml, hown, hG⟩ (kX5_setFault l dC dI r ct i_tapeLength i_time i_lyingCount i_rd_fault i_rd_token i_rd_kind i_sc_count i_sc_at i_A_tunes i_A_houses i_fA_length i_B_tunes i_B_houses i_fB_length i_acts_done i_acts_undone i_kn_count f_boxes f_boxKept f_trial f_offers f_A_noteCounts f_A_notes f_B_noteCounts f_B_notes f_now_where f_now_worn f_ahead_where f_ahead_worn f_acts_rows f_kn_tunes f_kn_noteTimes J L 3 H29.size hI) (cwV 1 hG (goodV gw631 gw633 gw10 gw130 gw634) rfl rfl rfl hd_X5_setFault ⟨(Nat.le_of_ble_eq_true rfl), (Nat.le_of_ble_eq_true rfl)⟩) ⟨fbW, va_recv hK hP (ci := 4) (q0 := 1) rfl rfl, pW_in hP hK hD⟩ rfl rfl hl.1 rfl (lv_room (Nat.le_of_ble_eq_true rfl)) dX5_readName_46 ⟨(Nat.le_of_ble_eq_true rfl), (Nat.le_of_ble_eq_true rfl)⟩) hS (fun q _ h => hFc q h) hFc (fun _ t_ H66 locs ht hvm hw hB hz1 hk1 hS => ?_)
            obtain ⟨x68, J69, hP1, hD1, hI70⟩ := hB
            rw [ht] at hP1
            have hP := hP1
            have hD := dW hFc hD1
            obtain ⟨im71, im72, im73, im74, im75, im76, im77, im78, im79, im80, im81, im82, im83, im84, im85, im86, im87, im88, im89, im90, im91, im92, im93, im94, im95, im96, im97, im98, im99, im100, im101, im102, im103, im104, im105, im106, im107, im108, im109, im110⟩ := id hI70
            rw [hQ]
            exact W.vret hx hb hr (fun t ht hW => ⟨⟨(), rfl, trivial, ⟨x68, i_rd_token, i_rd_kind, J69, L, by rw [ht]; exact hP, hD, hI70⟩⟩, hS.F ht⟩) hS.2.2 dX5_readName_49
    exact L29 (-1 * (0 : Int32).toInt + 4 + 1).toNat 0 s.heap _ _ (ox_27 zc_0) (ox_224 zc_0) hP hD hS (lv_sub hl [2, 3, 4, 1, 0] rfl) (mlt (ox_225 zc_0))
  · skip
    have f111 : i_rd_kind.toInt ≠ 3 := qi_ne c_1 rfl zc_3
    refine lv_aload_n hx hb dX5_readName_8 rfl (lv_at hl 0 rfl) ?_
    have hFc := frA hD hS hA
    refine va_callv (va_runV (As := []) (rest := []) ⟨hx, hb, hml, hown, hG⟩ (kX5_refuse l dC dI r ct i_tapeLength i_time i_lyingCount i_rd_fault i_rd_token i_rd_kind i_sc_count i_sc_at i_A_tunes i_A_houses i_fA_length i_B_tunes i_B_houses i_fB_length i_acts_done i_acts_undone i_kn_count f_boxes f_boxKept f_trial f_offers f_A_noteCounts f_A_notes f_B_noteCounts f_B_notes f_now_where f_now_worn f_ahead_where f_ahead_worn f_acts_rows f_kn_tunes f_kn_noteTimes J L s.heap.size hI) (cwV 0 hG (goodV gw627 gw629 gw9 gw130 gw630) rfl rfl rfl hd_X5_refuse ⟨(Nat.le_of_ble_eq_true rfl), (Nat.le_of_ble_eq_true rfl)⟩) ⟨fbW, va_recv hK hP (ci := 4) (q0 := 1) rfl rfl, pW_in hP hK hD⟩ rfl rfl hl.1 rfl (lv_room (Nat.le_of_ble_eq_true rfl)) dX5_readName_9 ⟨(Nat.le_of_ble_eq_true rfl), (Nat.le_of_ble_eq_true rfl)⟩) hS (fun q _ h => hFc q h) hFc (fun _ t_ H112 locs ht hvm hw hB hz1 hk1 hS => ?_)
    obtain ⟨x114, J115, hP1, hD1, hI116⟩ := hB
    rw [ht] at hP1
    have hP := hP1
    have hD := dW hFc hD1
    obtain ⟨im117, im118, im119, im120, im121, im122, im123, im124, im125, im126, im127, im128, im129, im130, im131, im132, im133, im134, im135, im136, im137, im138, im139, im140, im141, im142, im143, im144, im145, im146, im147, im148, im149, im150, im151, im152, im153, im154, im155, im156⟩ := id hI116
    rw [hQ]
    exact W.vret hx hb hr (fun t ht hW => ⟨⟨(), rfl, trivial, ⟨x114, i_rd_token, i_rd_kind, J115, L, by rw [ht]; exact hP, hD, hI116⟩⟩, hS.F ht⟩) hS.2.2 dX5_readName_12
set_option maxHeartbeats 4000000 in
set_option maxRecDepth 100000 in
theorem kX5_readTune (l : Launch) (dC : Nat → ClassId) (dI : Nat → Nat → Nat) (r : Nat → Nat) (ct : Nat → ClassId) (i_tapeLength i_time i_lyingCount i_rd_fault i_rd_token i_rd_kind i_sc_count i_sc_at i_A_tunes i_A_houses i_fA_length i_B_tunes i_B_houses i_fB_length i_acts_done i_acts_undone i_kn_count : Int32) (f_boxes f_boxKept f_trial f_offers f_A_noteCounts f_A_notes f_B_noteCounts f_B_notes f_now_where f_now_worn f_ahead_where f_ahead_worn f_acts_rows f_kn_tunes f_kn_noteTimes : Nat → Int32) (J : Nat → Nat → Int32) (L : Nat → Nat → Int64) (p0 : Int32) (sz : Nat) (hI : (IX i_tapeLength i_time i_lyingCount i_rd_token i_sc_count i_sc_at i_A_tunes i_A_houses i_fA_length i_B_tunes i_B_houses i_fB_length i_acts_done i_acts_undone i_kn_count f_boxes f_A_noteCounts f_A_notes f_B_noteCounts f_B_notes f_now_worn f_ahead_worn f_acts_rows f_kn_tunes)) (hp0 : p0.toInt = i_B_tunes.toInt) (hp1 : i_B_tunes.toInt ≤ (4 : Int)) : Met l yX5_readTune (.code yX5_readTune cX5_readTune 4 none :: GW) { frames := 8, cells := 0, slots := 0, locals := 286 } (va_Pc [.ref (r 1), .int p0] (pW (dC, dI) (WX r ct i_tapeLength i_time i_lyingCount i_rd_fault i_rd_token i_rd_kind i_sc_count i_sc_at i_A_tunes i_A_houses i_fA_length i_B_tunes i_B_houses i_fB_length i_acts_done i_acts_undone i_kn_count f_boxes f_boxKept f_trial f_offers f_A_noteCounts f_A_notes f_B_noteCounts f_B_notes f_now_where f_now_worn f_ahead_where f_ahead_worn f_acts_rows f_kn_tunes f_kn_noteTimes J L) (TX ct) sz)) (va_Qv (fun _ : Unit => True) (fun (_ : Unit) (t : State) => ∃ (n_i_rd_fault n_i_rd_token n_i_rd_kind n_i_B_tunes : Int32) (n_f_B_noteCounts n_f_B_notes : Nat → Int32) (n_J : Nat → Nat → Int32) (n_L : Nat → Nat → Int64), va_P (dC, dI) vwCl (WX r ct i_tapeLength i_time i_lyingCount n_i_rd_fault n_i_rd_token n_i_rd_kind i_sc_count i_sc_at i_A_tunes i_A_houses i_fA_length n_i_B_tunes i_B_houses i_fB_length i_acts_done i_acts_undone i_kn_count f_boxes f_boxKept f_trial f_offers f_A_noteCounts f_A_notes n_f_B_noteCounts n_f_B_notes f_now_where f_now_worn f_ahead_where f_ahead_worn f_acts_rows f_kn_tunes f_kn_noteTimes n_J n_L) t.heap ∧ va_D (va_A (WX r ct i_tapeLength i_time i_lyingCount i_rd_fault i_rd_token i_rd_kind i_sc_count i_sc_at i_A_tunes i_A_houses i_fA_length i_B_tunes i_B_houses i_fB_length i_acts_done i_acts_undone i_kn_count f_boxes f_boxKept f_trial f_offers f_A_noteCounts f_A_notes f_B_noteCounts f_B_notes f_now_where f_now_worn f_ahead_where f_ahead_worn f_acts_rows f_kn_tunes f_kn_noteTimes J L) sz) (WX r ct i_tapeLength i_time i_lyingCount n_i_rd_fault n_i_rd_token n_i_rd_kind i_sc_count i_sc_at i_A_tunes i_A_houses i_fA_length n_i_B_tunes i_B_houses i_fB_length i_acts_done i_acts_undone i_kn_count f_boxes f_boxKept f_trial f_offers f_A_noteCounts f_A_notes n_f_B_noteCounts n_f_B_notes f_now_where f_now_worn f_ahead_where f_ahead_worn f_acts_rows f_kn_tunes f_kn_noteTimes n_J n_L) ∧ (IX i_tapeLength i_time i_lyingCount n_i_rd_token i_sc_count i_sc_at i_A_tunes i_A_houses i_fA_length n_i_B_tunes i_B_houses i_fB_length i_acts_done i_acts_undone i_kn_count f_boxes f_A_noteCounts f_A_notes n_f_B_noteCounts n_f_B_notes f_now_worn f_ahead_worn f_acts_rows f_kn_tunes)) (va_A (WX r ct i_tapeLength i_time i_lyingCount i_rd_fault i_rd_token i_rd_kind i_sc_count i_sc_at i_A_tunes i_A_houses i_fA_length i_B_tunes i_B_houses i_fB_length i_acts_done i_acts_undone i_kn_count f_boxes f_boxKept f_trial f_offers f_A_noteCounts f_A_notes f_B_noteCounts f_B_notes f_now_where f_now_worn f_ahead_where f_ahead_worn f_acts_rows f_kn_tunes f_kn_noteTimes J L) sz)) 0 0 (va_A (WX r ct i_tapeLength i_time i_lyingCount i_rd_fault i_rd_token i_rd_kind i_sc_count i_sc_at i_A_tunes i_A_houses i_fA_length i_B_tunes i_B_houses i_fB_length i_acts_done i_acts_undone i_kn_count f_boxes f_boxKept f_trial f_offers f_A_noteCounts f_A_notes f_B_noteCounts f_B_notes f_now_where f_now_worn f_ahead_where f_ahead_worn f_acts_rows f_kn_tunes f_kn_noteTimes J L) sz) := by
  refine Met.ofW (cc := cX5_readTune) (maxL := 4) (ret := none) (by decide) rfl ?_
  intro p e s m args below meth c0 s₁ B hml hv
  obtain ⟨rfl, hsz, hP, hK, hD0⟩ := hv
  have hx := B.exec
  have hb := B.bytes
  have hr := B.returns
  have hts := atoms_spec (ws := .code yX5_readTune cX5_readTune 4 none :: GW) B.pre
  have hG : ∀ w ∈ GW, w.before _ s = true := fun w h => hts w (List.mem_cons_of_mem _ h)
  have hown : s.vm.findClass RX5 = some m.cls := findClass_of_methodNamed B.named
  subst hsz
  have hD := hD0.self (sz := s.heap.size)
  generalize hAe : va_A (WX r ct i_tapeLength i_time i_lyingCount i_rd_fault i_rd_token i_rd_kind i_sc_count i_sc_at i_A_tunes i_A_houses i_fA_length i_B_tunes i_B_houses i_fB_length i_acts_done i_acts_undone i_kn_count f_boxes f_boxKept f_trial f_offers f_A_noteCounts f_A_notes f_B_noteCounts f_B_notes f_now_where f_now_worn f_ahead_where f_ahead_worn f_acts_rows f_kn_tunes f_kn_noteTimes J L) s.heap.size = A at hD ⊢
  have hA : ∀ q : Nat, s.heap.size ≤ q → A q := fun q h => by rw [← hAe]; exact Or.inr h
  have hS : va_S A s.heap s.heap [] := va_S.rf
  have hP : va_P (dC, dI) vwCl (WX r ct i_tapeLength i_time i_lyingCount i_rd_fault i_rd_token i_rd_kind i_sc_count i_sc_at i_A_tunes i_A_houses i_fA_length i_B_tunes i_B_houses i_fB_length i_acts_done i_acts_undone i_kn_count f_boxes f_boxKept f_trial f_offers f_A_noteCounts f_A_notes f_B_noteCounts f_B_notes f_now_where f_now_worn f_ahead_where f_ahead_worn f_acts_rows f_kn_tunes f_kn_noteTimes J L) s.heap := hP
  have hl := lv_entry ([.ref (r 1), .int p0]) (n := 4) (Nat.le_of_ble_eq_true rfl)
  rw [lg_entry_eq]
  generalize (lg_sl ([.ref (r 1), .int p0]) ++ List.replicate (4 - (lg_sl ([.ref (r 1), .int p0])).length) Slot.unset).toArray = ls at hl ⊢
  have hl : lv_has ls 4 [(0, .ref (r 1)), (1, .int p0)] := hl
  refine nameQ (fun Q hQ => ?_)
  obtain ⟨ie0, ie1, ie2, ie3, ie4, ie5, ie6, ie7, ie8, ie9, ie10, ie11, ie12, ie13, ie14, ie15, ie16, ie17, ie18, ie19, ie20, ie21, ie22, ie23, ie24, ie25, ie26, ie27, ie28, ie29, ie30, ie31, ie32, ie33, ie34, ie35, ie36, ie37, ie38, ie39⟩ := id hI
  refine lv_aload_n hx hb dX5_readTune_0 rfl (lv_at hl 0 rfl) ?_
  refine lv_aload_n hx hb dX5_readTune_1 rfl (lv_at hl 0 rfl) ?_
  refine gX_X5_29_1 hx hb hG hown hK hP dX5_readTune_2 ?_
  refine lv_iload_n hx hb dX5_readTune_5 rfl (lv_at hl 1 rfl) ?_
  have hFc := frA hD hS hA
  refine va_callv (va_runV (As := [.ref (r 18), .int p0]) (rest := []) ⟨hx, hb, hml, hown, hG⟩ (kX5_readName l dC dI r ct i_tapeLength i_time i_lyingCount i_rd_fault i_rd_token i_rd_kind i_sc_count i_sc_at i_A_tunes i_A_houses i_fA_length i_B_tunes i_B_houses i_fB_length i_acts_done i_acts_undone i_kn_count f_boxes f_boxKept f_trial f_offers f_A_noteCounts f_A_notes f_B_noteCounts f_B_notes f_now_where f_now_worn f_ahead_where f_ahead_worn f_acts_rows f_kn_tunes f_kn_noteTimes J L p0 s.heap.size hI (ox_503 ie16 hp0) (ox_919 hp0 hp1)) (cwV 2 hG (goodV gw647 gw649 gw14 gw130 gw650) rfl rfl rfl hd_X5_readName ⟨(Nat.le_of_ble_eq_true rfl), (Nat.le_of_ble_eq_true rfl)⟩) ⟨fbW, va_recv hK hP (ci := 4) (q0 := 1) rfl rfl, pW_in hP hK hD⟩ rfl rfl hl.1 rfl (lv_room (Nat.le_of_ble_eq_true rfl)) dX5_readTune_6 ⟨(Nat.le_of_ble_eq_true rfl), (Nat.le_of_ble_eq_true rfl)⟩) hS (fun q _ h => hFc q h) hFc (fun _ t_ H1 locs ht hvm hw hB hz1 hk1 hS => ?_)
  obtain ⟨x3, x4, x5, J6, L7, hP1, hD1, hI8⟩ := hB
  rw [ht] at hP1
  have hP := hP1
  have hD := dW hFc hD1
  obtain ⟨im9, im10, im11, im12, im13, im14, im15, im16, im17, im18, im19, im20, im21, im22, im23, im24, im25, im26, im27, im28, im29, im30, im31, im32, im33, im34, im35, im36, im37, im38, im39, im40, im41, im42, im43, im44, im45, im46, im47, im48⟩ := id hI8
  refine lv_aload_n hx hb dX5_readTune_9 rfl (lv_at hl 0 rfl) ?_
  refine lv_bipush (v := 117) hx hb dX5_readTune_10 (by decide) ?_
  have hFc := frA hD hS hA
  refine va_callv (va_runV (As := [.int 117]) (rest := []) ⟨hx, hb, hml, hown, hG⟩ (kX5_pass l dC dI r ct i_tapeLength i_time i_lyingCount x3 x4 x5 i_sc_count i_sc_at i_A_tunes i_A_houses i_fA_length i_B_tunes i_B_houses i_fB_length i_acts_done i_acts_undone i_kn_count f_boxes f_boxKept f_trial f_offers f_A_noteCounts f_A_notes f_B_noteCounts f_B_notes f_now_where f_now_worn f_ahead_where f_ahead_worn f_acts_rows f_kn_tunes f_kn_noteTimes J6 L7 117 H1.size hI8) (cwV 1 hG (goodV gw651 gw653 gw15 gw130 gw654) rfl rfl rfl hd_X5_pass ⟨(Nat.le_of_ble_eq_true rfl), (Nat.le_of_ble_eq_true rfl)⟩) ⟨fbW, va_recv hK hP (ci := 4) (q0 := 1) rfl rfl, pW_in hP hK hD⟩ rfl rfl hl.1 rfl (lv_room (Nat.le_of_ble_eq_true rfl)) dX5_readTune_12 ⟨(Nat.le_of_ble_eq_true rfl), (Nat.le_of_ble_eq_true rfl)⟩) hS (fun q _ h => hFc q h) hFc (fun _ t_ H49 locs ht hvm hw hB hz1 hk1 hS => ?_)
  obtain ⟨x51, x52, x53, J54, hP1, hD1, hI55⟩ := hB
  rw [ht] at hP1
  have hP := hP1
  have hD := dW hFc hD1
  obtain ⟨im56, im57, im58, im59, im60, im61, im62, im63, im64, im65, im66, im67, im68, im69, im70, im71, im72, im73, im74, im75, im76, im77, im78, im79, im80, im81, im82, im83, im84, im85, im86, im87, im88, im89, im90, im91, im92, im93, im94, im95⟩ := id hI55
  refine lv_aload_n hx hb dX5_readTune_15 rfl (lv_at hl 0 rfl) ?_
  refine gX_X5_25_1 hx hb hG hown hK hP dX5_readTune_16 ?_
  refine gX_X5_130_5 hx hb hG hown hK hP dX5_readTune_19 ?_
  refine lv_iload_n hx hb dX5_readTune_22 rfl (lv_at hl 1 rfl) ?_
  refine lv_aload_n hx hb dX5_readTune_23 rfl (lv_at hl 0 rfl) ?_
  refine lv_iconst (v := 0) hx hb dX5_readTune_24 (by decide) ?_
  refine lv_bipush (v := 99) hx hb dX5_readTune_25 (by decide) ?_
  have hFc := frA hD hS hA
  refine va_calli (va_runV (As := [.int 0, .int 99]) (rest := [.int p0, .ref (r 32)]) ⟨hx, hb, hml, hown, hG⟩ (kX5_readNumber l dC dI r ct i_tapeLength i_time i_lyingCount x51 x52 x53 i_sc_count i_sc_at i_A_tunes i_A_houses i_fA_length i_B_tunes i_B_houses i_fB_length i_acts_done i_acts_undone i_kn_count f_boxes f_boxKept f_trial f_offers f_A_noteCounts f_A_notes f_B_noteCounts f_B_notes f_now_where f_now_worn f_ahead_where f_ahead_worn f_acts_rows f_kn_tunes f_kn_noteTimes J54 L7 0 99 H49.size hI55) (cwV 2 hG (goodV gw639 gw641 gw12 gw130 gw642) rfl rfl rfl hd_X5_readNumber ⟨(Nat.le_of_ble_eq_true rfl), (Nat.le_of_ble_eq_true rfl)⟩) ⟨fbW, va_recv hK hP (ci := 4) (q0 := 1) rfl rfl, pW_in hP hK hD⟩ rfl rfl hl.1 rfl (lv_room (Nat.le_of_ble_eq_true rfl)) dX5_readTune_27 ⟨(Nat.le_of_ble_eq_true rfl), (Nat.le_of_ble_eq_true rfl)⟩) hS (fun q _ h => hFc q h) hFc (fun r_97 u_ t_ H96 locs ht hvm hw hB hz1 hk1 hS => ?_)
  subst hw
  obtain ⟨x98, x99, x100, J101, hP1, hD1, hI103, f102⟩ := hB
  rw [ht] at hP1
  have hP := hP1
  have hD := dW hFc hD1
  obtain ⟨im104, im105, im106, im107, im108, im109, im110, im111, im112, im113, im114, im115, im116, im117, im118, im119, im120, im121, im122, im123, im124, im125, im126, im127, im128, im129, im130, im131, im132, im133, im134, im135, im136, im137, im138, im139, im140, im141, im142, im143⟩ := id hI103
  refine stX_32 (mm := p0.toInt) hx hb hK hP hD hS rfl (ox_920 ie16 hp0) (ox_921 hp0 hp1) dX5_readTune_30 (fun J145 H144 locs hP hD hS => ?_)
  refine lv_aload_n hx hb dX5_readTune_31 rfl (lv_at hl 0 rfl) ?_
  refine lv_bipush (v := 106) hx hb dX5_readTune_32 (by decide) ?_
  have hFc := frA hD hS hA
  refine va_callv (va_runV (As := [.int 106]) (rest := []) ⟨hx, hb, hml, hown, hG⟩ (kX5_pass l dC dI r ct i_tapeLength i_time i_lyingCount x98 x99 x100 i_sc_count i_sc_at i_A_tunes i_A_houses i_fA_length i_B_tunes i_B_houses i_fB_length i_acts_done i_acts_undone i_kn_count f_boxes f_boxKept f_trial f_offers f_A_noteCounts f_A_notes f_B_noteCounts f_B_notes f_now_where f_now_worn f_ahead_where f_ahead_worn f_acts_rows f_kn_tunes f_kn_noteTimes J145 L7 106 H144.size hI103) (cwV 1 hG (goodV gw651 gw653 gw15 gw130 gw654) rfl rfl rfl hd_X5_pass ⟨(Nat.le_of_ble_eq_true rfl), (Nat.le_of_ble_eq_true rfl)⟩) ⟨fbW, va_recv hK hP (ci := 4) (q0 := 1) rfl rfl, pW_in hP hK hD⟩ rfl rfl hl.1 rfl (lv_room (Nat.le_of_ble_eq_true rfl)) dX5_readTune_34 ⟨(Nat.le_of_ble_eq_true rfl), (Nat.le_of_ble_eq_true rfl)⟩) hS (fun q _ h => hFc q h) hFc (fun _ t_ H146 locs ht hvm hw hB hz1 hk1 hS => ?_)
  obtain ⟨x148, x149, x150, J151, hP1, hD1, hI152⟩ := hB
  rw [ht] at hP1
  have hP := hP1
  have hD := dW hFc hD1
  obtain ⟨im153, im154, im155, im156, im157, im158, im159, im160, im161, im162, im163, im164, im165, im166, im167, im168, im169, im170, im171, im172, im173, im174, im175, im176, im177, im178, im179, im180, im181, im182, im183, im184, im185, im186, im187, im188, im189, im190, im191, im192⟩ := id hI152
  refine lv_iconst (v := 0) hx hb dX5_readTune_37 (by decide) ?_
  refine lv_istore_n (lv' := [(2, .int 0), (0, .ref (r 1)), (1, .int p0)]) hx hb dX5_readTune_38 rfl hl (by decide) rfl (fun ls hl => ?_)
  refine lv_iconst (v := 0) hx hb dX5_readTune_39 (by decide) ?_
  refine lv_istore_n (lv' := [(3, .int 0), (2, .int 0), (0, .ref (r 1)), (1, .int p0)]) hx hb dX5_readTune_40 rfl hl (by decide) rfl (fun ls hl => ?_)
  have L41 : ∀ (N41 : Nat) (y41_2 y41_3 : Int32) (m41_i_rd_fault m41_i_rd_token m41_i_rd_kind : Int32) (m41_f_B_notes : Nat → Int32) (m41_J : Nat → Nat → Int32) (H41 : Heap) (locs : List Loc) (ls : Array Slot) (g41_0 : (0 : Int) ≤ y41_2.toInt) (g41_1 : y41_2.toInt ≤ (8 : Int)) (g41_2 : (0 : Int) ≤ y41_3.toInt) (g41_3 : y41_3.toInt ≤ (8 : Int)) (g41_4 : (0 : Int) ≤ m41_i_rd_token.toInt) (g41_5 : m41_i_rd_token.toInt ≤ (1600 : Int)) (g41_6 : y41_2.toInt = y41_3.toInt) (gi41_i_rd_token_lo : (0 : Int) ≤ m41_i_rd_token.toInt) (gi41_i_rd_token_hi : m41_i_rd_token.toInt ≤ (1600 : Int)) (gi41_f_B_notes_p : EB 0 6 m41_f_B_notes) (hP : va_P (dC, dI) vwCl (WX r ct i_tapeLength i_time i_lyingCount m41_i_rd_fault m41_i_rd_token m41_i_rd_kind i_sc_count i_sc_at i_A_tunes i_A_houses i_fA_length i_B_tunes i_B_houses i_fB_length i_acts_done i_acts_undone i_kn_count f_boxes f_boxKept f_trial f_offers f_A_noteCounts f_A_notes f_B_noteCounts m41_f_B_notes f_now_where f_now_worn f_ahead_where f_ahead_worn f_acts_rows f_kn_tunes f_kn_noteTimes m41_J L7) H41) (hD : va_D A (WX r ct i_tapeLength i_time i_lyingCount m41_i_rd_fault m41_i_rd_token m41_i_rd_kind i_sc_count i_sc_at i_A_tunes i_A_houses i_fA_length i_B_tunes i_B_houses i_fB_length i_acts_done i_acts_undone i_kn_count f_boxes f_boxKept f_trial f_offers f_A_noteCounts f_A_notes f_B_noteCounts m41_f_B_notes f_now_where f_now_worn f_ahead_where f_ahead_worn f_acts_rows f_kn_tunes f_kn_noteTimes m41_J L7)) (hS : va_S A s.heap H41 locs) (hl : lv_has ls 4 [(0, .ref (r 1)), (1, .int p0), (2, .int y41_2), (3, .int y41_3)]) (hM : -1 * y41_2.toInt + 8 < (N41 : Int)), W p l e { frames := 8, cells := 0, slots := 0, locals := 286 } s m ([.ref (r 1), .int p0] : List Value).toArray below meth c0 H41 locs 0 0 Q (F0 m 41 ls []) := by
    intro N41
    induction N41 with
    | zero =>
      intro y41_2 y41_3 m41_i_rd_fault m41_i_rd_token m41_i_rd_kind m41_f_B_notes m41_J H41 locs ls g41_0 g41_1 g41_2 g41_3 g41_4 g41_5 g41_6 gi41_i_rd_token_lo gi41_i_rd_token_hi gi41_f_B_notes_p hP hD hS hl hM
      exact ((ox_922 hM g41_0 g41_1 g41_6)).elim
    | succ N41 ih41 =>
      intro y41_2 y41_3 m41_i_rd_fault m41_i_rd_token m41_i_rd_kind m41_f_B_notes m41_J H41 locs ls g41_0 g41_1 g41_2 g41_3 g41_4 g41_5 g41_6 gi41_i_rd_token_lo gi41_i_rd_token_hi gi41_f_B_notes_p hP hD hS hl hM
      have hM41 := msucc hM
      refine lv_iload_n hx hb dX5_readTune_41 rfl (lv_at hl 3 rfl) ?_
      refine lv_bipush (v := 8) hx hb dX5_readTune_42 (by decide) ?_
      refine lv_icmp_ge (tgt := 90) hx hb dX5_readTune_44 (by decide) (fun c_193 => ?_) (fun c_193 => ?_)
      · skip
        have f194 : 8 ≤ y41_3.toInt := qi_le c_193 zc_8 rfl
        refine lv_aload_n hx hb dX5_readTune_90 rfl (lv_at hl 0 rfl) ?_
        refine gX_X5_25_1 hx hb hG hown hK hP dX5_readTune_91 ?_
        refine gX_X5_136_5 hx hb hG hown hK hP dX5_readTune_94 ?_
        refine lv_iload_n hx hb dX5_readTune_97 rfl (lv_at hl 1 rfl) ?_
        refine lv_iload_n hx hb dX5_readTune_98 rfl (lv_at hl 2 rfl) ?_
        refine stX_33 (mm := p0.toInt) hx hb hK hP hD hS rfl (ox_920 ie16 hp0) (ox_921 hp0 hp1) dX5_readTune_99 (fun z196 H195 locs ez196 hP hD hS => ?_)
        have g197 : EB 0 8 z196 := ez196 ▸ EB_upd ie34 (ox_9 g41_0) (ox_581 g41_1)
        refine lv_aload_n hx hb dX5_readTune_100 rfl (lv_at hl 0 rfl) ?_
        refine gX_X5_25_1 hx hb hG hown hK hP dX5_readTune_101 ?_
        refine lv_iload_n hx hb dX5_readTune_104 rfl (lv_at hl 1 rfl) ?_
        refine lv_iconst (v := 1) hx hb dX5_readTune_105 (by decide) ?_
        refine lv_iadd hx hb dX5_readTune_106 ?_
        refine lv_topi (fun x198 ex198 => ?_)
        have f199 : x198.toInt = p0.toInt + 1 := (ox_13 (qi_add ex198 rfl zc_1 (ox_923 ie16 hp0) (ox_924 ie17 hp0)))
        refine pX_X5_91_5 hx hb hG hown hK hP hD hS dX5_readTune_107 (fun H200 locs hP hD hS => ?_)
        rw [hQ]
        exact W.vret hx hb hr (fun t ht hW => ⟨⟨(), rfl, trivial, ⟨m41_i_rd_fault, m41_i_rd_token, m41_i_rd_kind, x198, z196, m41_f_B_notes, m41_J, L7, by rw [ht]; exact hP, hD, ⟨ie0, ie1, ie2, ie3, ie4, ie5, gi41_i_rd_token_lo, gi41_i_rd_token_hi, ie8, ie9, ie10, ie11, ie12, ie13, ie14, ie15, (ox_925 ie16 hp0 f199), (ox_926 hp0 hp1 f199), ie18, ie19, ie20, ie21, ie22, ie23, ie24, ie25, ie26, ie27, ie28, ie29, ie30, ie31, ie32, ie33, g197, gi41_f_B_notes_p, ie36, ie37, ie38, (N3_add ie39 ez196 (ox_714 hp0) (ox_9 ie16) (ox_927 hp0 f199) (ox_928 g41_6 f194))⟩⟩⟩, hS.F ht⟩) hS.2.2 dX5_readTune_110
      · skip
        have f201 : y41_3.toInt < 8 := qi_nle c_193 zc_8 rfl
        refine lv_iload_n hx hb dX5_readTune_47 rfl (lv_at hl 3 rfl) ?_
        refine lv_iconst (v := 3) hx hb dX5_readTune_48 (by decide) ?_
        refine lv_icmp_lt (tgt := 60) hx hb dX5_readTune_49 (by decide) (fun c_202 => ?_) (fun c_202 => ?_)
        · skip
          have f203 : y41_3.toInt < 3 := qi_lt c_202 rfl zc_3
          refine lv_aload_n hx hb dX5_readTune_60 rfl (lv_at hl 0 rfl) ?_
          refine gX_X5_25_1 hx hb hG hown hK hP dX5_readTune_61 ?_
          refine gX_X5_133_5 hx hb hG hown hK hP dX5_readTune_64 ?_
          refine lv_iload_n hx hb dX5_readTune_67 rfl (lv_at hl 1 rfl) ?_
          refine lv_bipush (v := 8) hx hb dX5_readTune_68 (by decide) ?_
          refine lv_imul hx hb dX5_readTune_70 ?_
          refine lv_topi (fun x204 ex204 => ?_)
          have f205 : x204.toInt = 8 * p0.toInt := (ox_64 (qi_mul ex204 rfl zc_8 (ox_929 ie16 hp0) (ox_930 ie17 hp0)))
          refine lv_iload_n hx hb dX5_readTune_71 rfl (lv_at hl 3 rfl) ?_
          refine lv_iadd hx hb dX5_readTune_72 ?_
          refine lv_topi (fun x206 ex206 => ?_)
          have f207 : x206.toInt = y41_3.toInt + 8 * p0.toInt := (ox_829 (qi_add ex206 rfl rfl (ox_931 ie16 hp0 g41_2 f205) (ox_932 ie17 hp0 g41_3 f205)) f205)
          refine lv_aload_n hx hb dX5_readTune_73 rfl (lv_at hl 0 rfl) ?_
          refine lv_iconst (v := 0) hx hb dX5_readTune_74 (by decide) ?_
          refine lv_bipush (v := 6) hx hb dX5_readTune_75 (by decide) ?_
          have hFc := frA hD hS hA
          refine va_calli (va_runV (As := [.int 0, .int 6]) (rest := [.int x206, .ref (r 34)]) ⟨hx, hb, hml, hown, hG⟩ (kX5_readNumber l dC dI r ct i_tapeLength i_time i_lyingCount m41_i_rd_fault m41_i_rd_token m41_i_rd_kind i_sc_count i_sc_at i_A_tunes i_A_houses i_fA_length i_B_tunes i_B_houses i_fB_length i_acts_done i_acts_undone i_kn_count f_boxes f_boxKept f_trial f_offers f_A_noteCounts f_A_notes f_B_noteCounts m41_f_B_notes f_now_where f_now_worn f_ahead_where f_ahead_worn f_acts_rows f_kn_tunes f_kn_noteTimes m41_J L7 0 6 H41.size ⟨ie0, ie1, ie2, ie3, ie4, ie5, gi41_i_rd_token_lo, gi41_i_rd_token_hi, ie8, ie9, ie10, ie11, ie12, ie13, ie14, ie15, ie16, ie17, ie18, ie19, ie20, ie21, ie22, ie23, ie24, ie25, ie26, ie27, ie28, ie29, ie30, ie31, ie32, ie33, ie34, gi41_f_B_notes_p, ie36, ie37, ie38, ie39⟩) (cwV 2 hG (goodV gw639 gw641 gw12 gw130 gw642) rfl rfl rfl hd_X5_readNumber ⟨(Nat.le_of_ble_eq_true rfl), (Nat.le_of_ble_eq_true rfl)⟩) ⟨fbW, va_recv hK hP (ci := 4) (q0 := 1) rfl rfl, pW_in hP hK hD⟩ rfl rfl hl.1 rfl (lv_room (Nat.le_of_ble_eq_true rfl)) dX5_readTune_77 ⟨(Nat.le_of_ble_eq_true rfl), (Nat.le_of_ble_eq_true rfl)⟩) hS (fun q _ h => hFc q h) hFc (fun r_209 u_ t_ H208 locs ht hvm hw hB hz1 hk1 hS => ?_)
          subst hw
          obtain ⟨x210, x211, x212, J213, hP1, hD1, hI215, f214⟩ := hB
          rw [ht] at hP1
          have hP := hP1
          have hD := dW hFc hD1
          obtain ⟨im216, im217, im218, im219, im220, im221, im222, im223, im224, im225, im226, im227, im228, im229, im230, im231, im232, im233, im234, im235, im236, im237, im238, im239, im240, im241, im242, im243, im244, im245, im246, im247, im248, im249, im250, im251, im252, im253, im254, im255⟩ := id hI215
          refine stX_34 (mm := y41_3.toInt + 8 * p0.toInt) hx hb hK hP hD hS f207 (ox_933 ie16 hp0 g41_2) (ox_934 hp0 hp1 f201) dX5_readTune_80 (fun z257 H256 locs ez257 hP hD hS => ?_)
          have g258 : EB 0 6 z257 := ez257 ▸ EB_upd gi41_f_B_notes_p (ox_935 f214 zc_6 zc_0) (ox_936 f214 zc_6 zc_0)
          obtain ⟨x259, ex259⟩ : ∃ y : Int32, y = y41_2 + Int32.ofInt 1 := ⟨_, rfl⟩
          have f260 : x259.toInt = y41_2.toInt + 1 := (ox_13 (qi_add ex259 rfl (by decide) (ox_11 g41_0) (ox_130 g41_1)))
          refine lv_iinc (v := x259) (lv' := [(2, .int x259), (0, .ref (r 1)), (1, .int p0), (3, .int y41_3)]) hx hb dX5_readTune_81 hl (k := 2) rfl ex259.symm (by decide) rfl (fun ls hl => ?_)
          obtain ⟨x261, ex261⟩ : ∃ y : Int32, y = y41_3 + Int32.ofInt 1 := ⟨_, rfl⟩
          have f262 : x261.toInt = y41_3.toInt + 1 := (ox_13 (qi_add ex261 rfl (by decide) (ox_11 g41_2) (ox_130 g41_3)))
          refine lv_iinc (v := x261) (lv' := [(3, .int x261), (2, .int x259), (0, .ref (r 1)), (1, .int p0)]) hx hb dX5_readTune_84 hl (k := 3) rfl ex261.symm (by decide) rfl (fun ls hl => ?_)
          refine lv_goto (tgt := 41) hx hb dX5_readTune_87 (by decide) ?_
          exact ih41 x259 x261 x210 x211 x212 z257 J213 H256 _ _ (ox_14 g41_0 f260) (ox_937 g41_6 f201 f260) (ox_14 g41_2 f262) (ox_832 f201 f262) (ox_18 im222 im223) (ox_19 im222 im223) (ox_938 g41_6 f262 f260) im222 im223 g258 hP hD hS (lv_sub hl [2, 3, 1, 0] rfl) (ox_132 hM41 f260)
        · skip
          have f263 : 3 ≤ y41_3.toInt := qi_nlt c_202 rfl zc_3
          refine lv_aload_n hx hb dX5_readTune_52 rfl (lv_at hl 0 rfl) ?_
          refine gX_X5_66_1 hx hb hG hown hK hP dX5_readTune_53 ?_
          refine lv_iconst (v := 2) hx hb dX5_readTune_56 (by decide) ?_
          refine lv_icmp_ne (tgt := 90) hx hb dX5_readTune_57 (by decide) (fun c_264 => ?_) (fun c_264 => ?_)
          · skip
            have f265 : m41_i_rd_kind.toInt ≠ 2 := qi_ne c_264 rfl zc_2
            refine lv_aload_n hx hb dX5_readTune_90 rfl (lv_at hl 0 rfl) ?_
            refine gX_X5_25_1 hx hb hG hown hK hP dX5_readTune_91 ?_
            refine gX_X5_136_5 hx hb hG hown hK hP dX5_readTune_94 ?_
            refine lv_iload_n hx hb dX5_readTune_97 rfl (lv_at hl 1 rfl) ?_
            refine lv_iload_n hx hb dX5_readTune_98 rfl (lv_at hl 2 rfl) ?_
            refine stX_33 (mm := p0.toInt) hx hb hK hP hD hS rfl (ox_920 ie16 hp0) (ox_921 hp0 hp1) dX5_readTune_99 (fun z267 H266 locs ez267 hP hD hS => ?_)
            have g268 : EB 0 8 z267 := ez267 ▸ EB_upd ie34 (ox_9 g41_0) (ox_581 g41_1)
            refine lv_aload_n hx hb dX5_readTune_100 rfl (lv_at hl 0 rfl) ?_
            refine gX_X5_25_1 hx hb hG hown hK hP dX5_readTune_101 ?_
            refine lv_iload_n hx hb dX5_readTune_104 rfl (lv_at hl 1 rfl) ?_
            refine lv_iconst (v := 1) hx hb dX5_readTune_105 (by decide) ?_
            refine lv_iadd hx hb dX5_readTune_106 ?_
            refine lv_topi (fun x269 ex269 => ?_)
            have f270 : x269.toInt = p0.toInt + 1 := (ox_13 (qi_add ex269 rfl zc_1 (ox_923 ie16 hp0) (ox_924 ie17 hp0)))
            refine pX_X5_91_5 hx hb hG hown hK hP hD hS dX5_readTune_107 (fun H271 locs hP hD hS => ?_)
            rw [hQ]
            exact W.vret hx hb hr (fun t ht hW => ⟨⟨(), rfl, trivial, ⟨m41_i_rd_fault, m41_i_rd_token, m41_i_rd_kind, x269, z267, m41_f_B_notes, m41_J, L7, by rw [ht]; exact hP, hD, ⟨ie0, ie1, ie2, ie3, ie4, ie5, gi41_i_rd_token_lo, gi41_i_rd_token_hi, ie8, ie9, ie10, ie11, ie12, ie13, ie14, ie15, (ox_925 ie16 hp0 f270), (ox_926 hp0 hp1 f270), ie18, ie19, ie20, ie21, ie22, ie23, ie24, ie25, ie26, ie27, ie28, ie29, ie30, ie31, ie32, ie33, g268, gi41_f_B_notes_p, ie36, ie37, ie38, (N3_add ie39 ez267 (ox_714 hp0) (ox_9 ie16) (ox_927 hp0 f270) (ox_939 g41_6 f263))⟩⟩⟩, hS.F ht⟩) hS.2.2 dX5_readTune_110
          · skip
            have f272 : m41_i_rd_kind.toInt = 2 := qi_eq c_264 rfl zc_2
            refine lv_aload_n hx hb dX5_readTune_60 rfl (lv_at hl 0 rfl) ?_
            refine gX_X5_25_1 hx hb hG hown hK hP dX5_readTune_61 ?_
            refine gX_X5_133_5 hx hb hG hown hK hP dX5_readTune_64 ?_
            refine lv_iload_n hx hb dX5_readTune_67 rfl (lv_at hl 1 rfl) ?_
            refine lv_bipush (v := 8) hx hb dX5_readTune_68 (by decide) ?_
            refine lv_imul hx hb dX5_readTune_70 ?_
            refine lv_topi (fun x273 ex273 => ?_)
            have f274 : x273.toInt = 8 * p0.toInt := (ox_64 (qi_mul ex273 rfl zc_8 (ox_929 ie16 hp0) (ox_930 ie17 hp0)))
            refine lv_iload_n hx hb dX5_readTune_71 rfl (lv_at hl 3 rfl) ?_
            refine lv_iadd hx hb dX5_readTune_72 ?_
            refine lv_topi (fun x275 ex275 => ?_)
            have f276 : x275.toInt = y41_3.toInt + 8 * p0.toInt := (ox_829 (qi_add ex275 rfl rfl (ox_931 ie16 hp0 g41_2 f274) (ox_932 ie17 hp0 g41_3 f274)) f274)
            refine lv_aload_n hx hb dX5_readTune_73 rfl (lv_at hl 0 rfl) ?_
            refine lv_iconst (v := 0) hx hb dX5_readTune_74 (by decide) ?_
            refine lv_bipush (v := 6) hx hb dX5_readTune_75 (by decide) ?_
            have hFc := frA hD hS hA
            refine va_calli (va_runV (As := [.int 0, .int 6]) (rest := [.int x275, .ref (r 34)]) ⟨hx, hb, hml, hown, hG⟩ (kX5_readNumber l dC dI r ct i_tapeLength i_time i_lyingCount m41_i_rd_fault m41_i_rd_token m41_i_rd_kind i_sc_count i_sc_at i_A_tunes i_A_houses i_fA_length i_B_tunes i_B_houses i_fB_length i_acts_done i_acts_undone i_kn_count f_boxes f_boxKept f_trial f_offers f_A_noteCounts f_A_notes f_B_noteCounts m41_f_B_notes f_now_where f_now_worn f_ahead_where f_ahead_worn f_acts_rows f_kn_tunes f_kn_noteTimes m41_J L7 0 6 H41.size ⟨ie0, ie1, ie2, ie3, ie4, ie5, gi41_i_rd_token_lo, gi41_i_rd_token_hi, ie8, ie9, ie10, ie11, ie12, ie13, ie14, ie15, ie16, ie17, ie18, ie19, ie20, ie21, ie22, ie23, ie24, ie25, ie26, ie27, ie28, ie29, ie30, ie31, ie32, ie33, ie34, gi41_f_B_notes_p, ie36, ie37, ie38, ie39⟩) (cwV 2 hG (goodV gw639 gw641 gw12 gw130 gw642) rfl rfl rfl hd_X5_readNumber ⟨(Nat.le_of_ble_eq_true rfl), (Nat.le_of_ble_eq_true rfl)⟩) ⟨fbW, va_recv hK hP (ci := 4) (q0 := 1) rfl rfl, pW_in hP hK hD⟩ rfl rfl hl.1 rfl (lv_room (Nat.le_of_ble_eq_true rfl)) dX5_readTune_77 ⟨(Nat.le_of_ble_eq_true rfl), (Nat.le_of_ble_eq_true rfl)⟩) hS (fun q _ h => hFc q h) hFc (fun r_278 u_ t_ H277 locs ht hvm hw hB hz1 hk1 hS => ?_)
            subst hw
            obtain ⟨x279, x280, x281, J282, hP1, hD1, hI284, f283⟩ := hB
            rw [ht] at hP1
            have hP := hP1
            have hD := dW hFc hD1
            obtain ⟨im285, im286, im287, im288, im289, im290, im291, im292, im293, im294, im295, im296, im297, im298, im299, im300, im301, im302, im303, im304, im305, im306, im307, im308, im309, im310, im311, im312, im313, im314, im315, im316, im317, im318, im319, im320, im321, im322, im323, im324⟩ := id hI284
            refine stX_34 (mm := y41_3.toInt + 8 * p0.toInt) hx hb hK hP hD hS f276 (ox_933 ie16 hp0 g41_2) (ox_934 hp0 hp1 f201) dX5_readTune_80 (fun z326 H325 locs ez326 hP hD hS => ?_)
            have g327 : EB 0 6 z326 := ez326 ▸ EB_upd gi41_f_B_notes_p (ox_935 f283 zc_6 zc_0) (ox_936 f283 zc_6 zc_0)
            obtain ⟨x328, ex328⟩ : ∃ y : Int32, y = y41_2 + Int32.ofInt 1 := ⟨_, rfl⟩
            have f329 : x328.toInt = y41_2.toInt + 1 := (ox_13 (qi_add ex328 rfl (by decide) (ox_11 g41_0) (ox_130 g41_1)))
            refine lv_iinc (v := x328) (lv' := [(2, .int x328), (0, .ref (r 1)), (1, .int p0), (3, .int y41_3)]) hx hb dX5_readTune_81 hl (k := 2) rfl ex328.symm (by decide) rfl (fun ls hl => ?_)
            obtain ⟨x330, ex330⟩ : ∃ y : Int32, y = y41_3 + Int32.ofInt 1 := ⟨_, rfl⟩
            have f331 : x330.toInt = y41_3.toInt + 1 := (ox_13 (qi_add ex330 rfl (by decide) (ox_11 g41_2) (ox_130 g41_3)))
            refine lv_iinc (v := x330) (lv' := [(3, .int x330), (2, .int x328), (0, .ref (r 1)), (1, .int p0)]) hx hb dX5_readTune_84 hl (k := 3) rfl ex330.symm (by decide) rfl (fun ls hl => ?_)
            refine lv_goto (tgt := 41) hx hb dX5_readTune_87 (by decide) ?_
            exact ih41 x328 x330 x279 x280 x281 z326 J282 H325 _ _ (ox_14 g41_0 f329) (ox_937 g41_6 f201 f329) (ox_14 g41_2 f331) (ox_832 f201 f331) (ox_18 im291 im292) (ox_19 im291 im292) (ox_938 g41_6 f331 f329) im291 im292 g327 hP hD hS (lv_sub hl [2, 3, 1, 0] rfl) (ox_132 hM41 f329)
  exact L41 (-1 * (0 : Int32).toInt + 8 + 1).toNat 0 0 x148 x149 x150 f_B_notes J151 H146 _ _ (ox_27 zc_0) (ox_205 zc_0) (ox_27 zc_0) (ox_205 zc_0) (ox_18 im159 im160) (ox_19 im159 im160) (ox_866 zc_0) im159 im160 ie35 hP hD hS (lv_sub hl [2, 3, 1, 0] rfl) (mlt (ox_210 zc_0))
set_option maxHeartbeats 4000000 in
set_option maxRecDepth 100000 in
theorem kX5_readName_v1 (l : Launch) (dC : Nat → ClassId) (dI : Nat → Nat → Nat) (r : Nat → Nat) (ct : Nat → ClassId) (i_tapeLength i_time i_lyingCount i_rd_fault i_rd_token i_rd_kind i_sc_count i_sc_at i_A_tunes i_A_houses i_fA_length i_B_tunes i_B_houses i_fB_length i_acts_done i_acts_undone i_kn_count : Int32) (f_boxes f_boxKept f_trial f_offers f_A_noteCounts f_A_notes f_B_noteCounts f_B_notes f_now_where f_now_worn f_ahead_where f_ahead_worn f_acts_rows f_kn_tunes f_kn_noteTimes : Nat → Int32) (J : Nat → Nat → Int32) (L : Nat → Nat → Int64) (p1 : Int32) (sz : Nat) (hI : (IX i_tapeLength i_time i_lyingCount i_rd_token i_sc_count i_sc_at i_A_tunes i_A_houses i_fA_length i_B_tunes i_B_houses i_fB_length i_acts_done i_acts_undone i_kn_count f_boxes f_A_noteCounts f_A_notes f_B_noteCounts f_B_notes f_now_worn f_ahead_worn f_acts_rows f_kn_tunes)) (hp0 : (0 : Int) ≤ p1.toInt) (hp1 : p1.toInt ≤ (3 : Int)) : Met l yX5_readName (.code yX5_readName cX5_readName 6 none :: GW) { frames := 6, cells := 0, slots := 0, locals := 221 } (va_Pc [.ref (r 1), .ref (r 19), .int p1] (pW (dC, dI) (WX r ct i_tapeLength i_time i_lyingCount i_rd_fault i_rd_token i_rd_kind i_sc_count i_sc_at i_A_tunes i_A_houses i_fA_length i_B_tunes i_B_houses i_fB_length i_acts_done i_acts_undone i_kn_count f_boxes f_boxKept f_trial f_offers f_A_noteCounts f_A_notes f_B_noteCounts f_B_notes f_now_where f_now_worn f_ahead_where f_ahead_worn f_acts_rows f_kn_tunes f_kn_noteTimes J L) (TX ct) sz)) (va_Qv (fun _ : Unit => True) (fun (_ : Unit) (t : State) => ∃ (n_i_rd_fault n_i_rd_token n_i_rd_kind : Int32) (n_J : Nat → Nat → Int32) (n_L : Nat → Nat → Int64), va_P (dC, dI) vwCl (WX r ct i_tapeLength i_time i_lyingCount n_i_rd_fault n_i_rd_token n_i_rd_kind i_sc_count i_sc_at i_A_tunes i_A_houses i_fA_length i_B_tunes i_B_houses i_fB_length i_acts_done i_acts_undone i_kn_count f_boxes f_boxKept f_trial f_offers f_A_noteCounts f_A_notes f_B_noteCounts f_B_notes f_now_where f_now_worn f_ahead_where f_ahead_worn f_acts_rows f_kn_tunes f_kn_noteTimes n_J n_L) t.heap ∧ va_D (va_A (WX r ct i_tapeLength i_time i_lyingCount i_rd_fault i_rd_token i_rd_kind i_sc_count i_sc_at i_A_tunes i_A_houses i_fA_length i_B_tunes i_B_houses i_fB_length i_acts_done i_acts_undone i_kn_count f_boxes f_boxKept f_trial f_offers f_A_noteCounts f_A_notes f_B_noteCounts f_B_notes f_now_where f_now_worn f_ahead_where f_ahead_worn f_acts_rows f_kn_tunes f_kn_noteTimes J L) sz) (WX r ct i_tapeLength i_time i_lyingCount n_i_rd_fault n_i_rd_token n_i_rd_kind i_sc_count i_sc_at i_A_tunes i_A_houses i_fA_length i_B_tunes i_B_houses i_fB_length i_acts_done i_acts_undone i_kn_count f_boxes f_boxKept f_trial f_offers f_A_noteCounts f_A_notes f_B_noteCounts f_B_notes f_now_where f_now_worn f_ahead_where f_ahead_worn f_acts_rows f_kn_tunes f_kn_noteTimes n_J n_L) ∧ (IX i_tapeLength i_time i_lyingCount n_i_rd_token i_sc_count i_sc_at i_A_tunes i_A_houses i_fA_length i_B_tunes i_B_houses i_fB_length i_acts_done i_acts_undone i_kn_count f_boxes f_A_noteCounts f_A_notes f_B_noteCounts f_B_notes f_now_worn f_ahead_worn f_acts_rows f_kn_tunes)) (va_A (WX r ct i_tapeLength i_time i_lyingCount i_rd_fault i_rd_token i_rd_kind i_sc_count i_sc_at i_A_tunes i_A_houses i_fA_length i_B_tunes i_B_houses i_fB_length i_acts_done i_acts_undone i_kn_count f_boxes f_boxKept f_trial f_offers f_A_noteCounts f_A_notes f_B_noteCounts f_B_notes f_now_where f_now_worn f_ahead_where f_ahead_worn f_acts_rows f_kn_tunes f_kn_noteTimes J L) sz)) 0 0 (va_A (WX r ct i_tapeLength i_time i_lyingCount i_rd_fault i_rd_token i_rd_kind i_sc_count i_sc_at i_A_tunes i_A_houses i_fA_length i_B_tunes i_B_houses i_fB_length i_acts_done i_acts_undone i_kn_count f_boxes f_boxKept f_trial f_offers f_A_noteCounts f_A_notes f_B_noteCounts f_B_notes f_now_where f_now_worn f_ahead_where f_ahead_worn f_acts_rows f_kn_tunes f_kn_noteTimes J L) sz) := by
  refine Met.ofW (cc := cX5_readName) (maxL := 6) (ret := none) (by decide) rfl ?_
  intro p e s m args below meth c0 s₁ B hml hv
  obtain ⟨rfl, hsz, hP, hK, hD0⟩ := hv
  have hx := B.exec
  have hb := B.bytes
  have hr := B.returns
  have hts := atoms_spec (ws := .code yX5_readName cX5_readName 6 none :: GW) B.pre
  have hG : ∀ w ∈ GW, w.before _ s = true := fun w h => hts w (List.mem_cons_of_mem _ h)
  have hown : s.vm.findClass RX5 = some m.cls := findClass_of_methodNamed B.named
  subst hsz
  have hD := hD0.self (sz := s.heap.size)
  generalize hAe : va_A (WX r ct i_tapeLength i_time i_lyingCount i_rd_fault i_rd_token i_rd_kind i_sc_count i_sc_at i_A_tunes i_A_houses i_fA_length i_B_tunes i_B_houses i_fB_length i_acts_done i_acts_undone i_kn_count f_boxes f_boxKept f_trial f_offers f_A_noteCounts f_A_notes f_B_noteCounts f_B_notes f_now_where f_now_worn f_ahead_where f_ahead_worn f_acts_rows f_kn_tunes f_kn_noteTimes J L) s.heap.size = A at hD ⊢
  have hA : ∀ q : Nat, s.heap.size ≤ q → A q := fun q h => by rw [← hAe]; exact Or.inr h
  have hS : va_S A s.heap s.heap [] := va_S.rf
  have hP : va_P (dC, dI) vwCl (WX r ct i_tapeLength i_time i_lyingCount i_rd_fault i_rd_token i_rd_kind i_sc_count i_sc_at i_A_tunes i_A_houses i_fA_length i_B_tunes i_B_houses i_fB_length i_acts_done i_acts_undone i_kn_count f_boxes f_boxKept f_trial f_offers f_A_noteCounts f_A_notes f_B_noteCounts f_B_notes f_now_where f_now_worn f_ahead_where f_ahead_worn f_acts_rows f_kn_tunes f_kn_noteTimes J L) s.heap := hP
  have hl := lv_entry ([.ref (r 1), .ref (r 19), .int p1]) (n := 6) (Nat.le_of_ble_eq_true rfl)
  rw [lg_entry_eq]
  generalize (lg_sl ([.ref (r 1), .ref (r 19), .int p1]) ++ List.replicate (6 - (lg_sl ([.ref (r 1), .ref (r 19), .int p1])).length) Slot.unset).toArray = ls at hl ⊢
  have hl : lv_has ls 6 [(0, .ref (r 1)), (1, .ref (r 19)), (2, .int p1)] := hl
  refine nameQ (fun Q hQ => ?_)
  obtain ⟨ie0, ie1, ie2, ie3, ie4, ie5, ie6, ie7, ie8, ie9, ie10, ie11, ie12, ie13, ie14, ie15, ie16, ie17, ie18, ie19, ie20, ie21, ie22, ie23, ie24, ie25, ie26, ie27, ie28, ie29, ie30, ie31, ie32, ie33, ie34, ie35, ie36, ie37, ie38, ie39⟩ := id hI
  refine lv_aload_n hx hb dX5_readName_0 rfl (lv_at hl 0 rfl) ?_
  refine gX_X5_66_1 hx hb hG hown hK hP dX5_readName_1 ?_
  refine lv_iconst (v := 3) hx hb dX5_readName_4 (by decide) ?_
  refine lv_icmp_eq (tgt := 13) hx hb dX5_readName_5 (by decide) (fun c_1 => ?_) (fun c_1 => ?_)
  · skip
    have f2 : i_rd_kind.toInt = 3 := qi_eq c_1 rfl zc_3
    refine lv_aload_n hx hb dX5_readName_13 rfl (lv_at hl 0 rfl) ?_
    refine gX_X5_18_1 hx hb hG hown hK hP dX5_readName_14 ?_
    refine gX_X5_148_2 hx hb hG hown hK hP dX5_readName_17 ?_
    refine lv_aload_n hx hb dX5_readName_20 rfl (lv_at hl 0 rfl) ?_
    refine gX_X5_59_1 hx hb hG hown hK hP dX5_readName_21 ?_
    refine ldX_22 (mm := i_rd_token.toInt) hx hb hK hP rfl (ox_906 ie6 ie7) (ox_907 ie6 ie7) dX5_readName_24 (fun y3 => ?_)
    refine lv_lstore_n (lv' := [(3, .long y3), (0, .ref (r 1)), (1, .ref (r 19)), (2, .int p1)]) hx hb dX5_readName_25 rfl hl (by decide) rfl (fun ls hl => ?_)
    refine lv_iconst (v := 0) hx hb dX5_readName_26 (by decide) ?_
    refine lv_istore (lv' := [(5, .int 0), (3, .long y3), (0, .ref (r 1)), (1, .ref (r 19)), (2, .int p1)]) hx hb dX5_readName_27 hl (by decide) rfl (fun ls hl => ?_)
    have L29 : ∀ (N29 : Nat) (y29_5 : Int32) (H29 : Heap) (locs : List Loc) (ls : Array Slot) (g29_0 : (0 : Int) ≤ y29_5.toInt) (g29_1 : y29_5.toInt ≤ (3 : Int)) (hP : va_P (dC, dI) vwCl (WX r ct i_tapeLength i_time i_lyingCount i_rd_fault i_rd_token i_rd_kind i_sc_count i_sc_at i_A_tunes i_A_houses i_fA_length i_B_tunes i_B_houses i_fB_length i_acts_done i_acts_undone i_kn_count f_boxes f_boxKept f_trial f_offers f_A_noteCounts f_A_notes f_B_noteCounts f_B_notes f_now_where f_now_worn f_ahead_where f_ahead_worn f_acts_rows f_kn_tunes f_kn_noteTimes J L) H29) (hD : va_D A (WX r ct i_tapeLength i_time i_lyingCount i_rd_fault i_rd_token i_rd_kind i_sc_count i_sc_at i_A_tunes i_A_houses i_fA_length i_B_tunes i_B_houses i_fB_length i_acts_done i_acts_undone i_kn_count f_boxes f_boxKept f_trial f_offers f_A_noteCounts f_A_notes f_B_noteCounts f_B_notes f_now_where f_now_worn f_ahead_where f_ahead_worn f_acts_rows f_kn_tunes f_kn_noteTimes J L)) (hS : va_S A s.heap H29 locs) (hl : lv_has ls 6 [(0, .ref (r 1)), (1, .ref (r 19)), (2, .int p1), (3, .long y3), (5, .int y29_5)]) (hM : -1 * y29_5.toInt + 3 < (N29 : Int)), W p l e { frames := 6, cells := 0, slots := 0, locals := 221 } s m ([.ref (r 1), .ref (r 19), .int p1] : List Value).toArray below meth c0 H29 locs 0 0 Q (F0 m 29 ls []) := by
      intro N29
      induction N29 with
      | zero =>
        intro y29_5 H29 locs ls g29_0 g29_1 hP hD hS hl hM
        exact ((ox_940 hM g29_0 g29_1)).elim
      | succ N29 ih29 =>
        intro y29_5 H29 locs ls g29_0 g29_1 hP hD hS hl hM
        have hM29 := msucc hM
        refine lv_iload hx hb dX5_readName_29 (lv_at hl 4 rfl) ?_
        refine lv_iload_n hx hb dX5_readName_31 rfl (lv_at hl 2 rfl) ?_
        refine lv_icmp_ge (tgt := 56) hx hb dX5_readName_32 (by decide) (fun c_4 => ?_) (fun c_4 => ?_)
        · skip
          have f5 : p1.toInt ≤ y29_5.toInt := qi_le c_4 rfl rfl
          refine lv_aload_n hx hb dX5_readName_56 rfl (lv_at hl 1 rfl) ?_
          refine lv_iload_n hx hb dX5_readName_57 rfl (lv_at hl 2 rfl) ?_
          refine lv_lload_n hx hb dX5_readName_58 rfl (lv_at hl 3 rfl) ?_
          refine stX_19 (mm := p1.toInt) hx hb hK hP hD hS rfl (ox_941 hp0 hp1 f5) (ox_942 hp0 hp1 f5) dX5_readName_59 (fun L7 H6 locs hP hD hS => ?_)
          refine lv_aload_n hx hb dX5_readName_60 rfl (lv_at hl 0 rfl) ?_
          have hFc := frA hD hS hA
          refine va_callv (va_runV (As := []) (rest := []) ⟨hx, hb, hml, hown, hG⟩ (kX5_advance l dC dI r ct i_tapeLength i_time i_lyingCount i_rd_fault i_rd_token i_rd_kind i_sc_count i_sc_at i_A_tunes i_A_houses i_fA_length i_B_tunes i_B_houses i_fB_length i_acts_done i_acts_undone i_kn_count f_boxes f_boxKept f_trial f_offers f_A_noteCounts f_A_notes f_B_noteCounts f_B_notes f_now_where f_now_worn f_ahead_where f_ahead_worn f_acts_rows f_kn_tunes f_kn_noteTimes J L7 H6.size hI) (cwV 0 hG (goodV gw635 gw637 gw11 gw130 gw638) rfl rfl rfl hd_X5_advance ⟨(Nat.le_of_ble_eq_true rfl), (Nat.le_of_ble_eq_true rfl)⟩) ⟨fbW, va_recv hK hP (ci := 4) (q0 := 1) rfl rfl, pW_in hP hK hD⟩ rfl rfl hl.1 rfl (lv_room (Nat.le_of_ble_eq_true rfl)) dX5_readName_61 ⟨(Nat.le_of_ble_eq_true rfl), (Nat.le_of_ble_eq_true rfl)⟩) hS (fun q _ h => hFc q h) hFc (fun _ t_ H8 locs ht hvm hw hB hz1 hk1 hS => ?_)
          obtain ⟨x10, x11, hP1, hD1, hI12⟩ := hB
          rw [ht] at hP1
          have hP := hP1
          have hD := dW hFc hD1
          obtain ⟨im13, im14, im15, im16, im17, im18, im19, im20, im21, im22, im23, im24, im25, im26, im27, im28, im29, im30, im31, im32, im33, im34, im35, im36, im37, im38, im39, im40, im41, im42, im43, im44, im45, im46, im47, im48, im49, im50, im51, im52⟩ := id hI12
          rw [hQ]
          exact W.vret hx hb hr (fun t ht hW => ⟨⟨(), rfl, trivial, ⟨i_rd_fault, x10, x11, J, L7, by rw [ht]; exact hP, hD, hI12⟩⟩, hS.F ht⟩) hS.2.2 dX5_readName_64
        · skip
          have f53 : y29_5.toInt < p1.toInt := qi_nle c_4 rfl rfl
          refine lv_aload_n hx hb dX5_readName_35 rfl (lv_at hl 1 rfl) ?_
          refine lv_iload hx hb dX5_readName_36 (lv_at hl 4 rfl) ?_
          refine ldX_19 (mm := y29_5.toInt) hx hb hK hP rfl (ox_9 g29_0) (ox_351 g29_1) dX5_readName_38 (fun y54 => ?_)
          refine lv_lload_n hx hb dX5_readName_39 rfl (lv_at hl 3 rfl) ?_
          refine W.lcmp hx hb dX5_readName_40 ?_
          refine lv_topi (fun x55 ex55 => ?_)
          have f56 : (x55.toInt = 0 ∧ y54.toInt = y3.toInt) ∨ (x55.toInt ≠ 0 ∧ y54.toInt ≠ y3.toInt) := lcmp_or ex55
          refine lv_if_ne (tgt := 50) hx hb dX5_readName_41 (by decide) (fun c_57 => ?_) (fun c_57 => ?_)
          · skip
            have f58 : x55.toInt ≠ 0 := qi_ne c_57 rfl zc_0
            have f59 : x55.toInt ≠ (0 : Int) := (ox_915 f56 f58)
            have f60 : y54.toInt ≠ y3.toInt := (ox_916 f56 f58 f59)
            obtain ⟨x61, ex61⟩ : ∃ y : Int32, y = y29_5 + Int32.ofInt 1 := ⟨_, rfl⟩
            have f62 : x61.toInt = y29_5.toInt + 1 := (ox_13 (qi_add ex61 rfl (by decide) (ox_11 g29_0) (ox_943 g29_1)))
            refine lv_iinc (v := x61) (lv' := [(5, .int x61), (0, .ref (r 1)), (1, .ref (r 19)), (2, .int p1), (3, .long y3)]) hx hb dX5_readName_50 hl (k := 4) rfl ex61.symm (by decide) rfl (fun ls hl => ?_)
            refine lv_goto (tgt := 29) hx hb dX5_readName_53 (by decide) ?_
            exact ih29 x61 H29 _ _ (ox_14 g29_0 f62) (ox_944 hp1 f53 f62) hP hD hS (lv_sub hl [1, 2, 3, 4, 0] rfl) (ox_945 hM29 f62)
          · skip
            have f63 : x55.toInt = 0 := qi_eq c_57 rfl zc_0
            have f64 : x55.toInt = (0 : Int) := (ox_917 f63)
            have f65 : y54.toInt = y3.toInt := (ox_918 f56 f63 f64)
            refine lv_aload_n hx hb dX5_readName_44 rfl (lv_at hl 0 rfl) ?_
            refine lv_iconst (v := 3) hx hb dX5_readName_45 (by decide) ?_
            have hFc := frA hD hS hA
            refine va_callv (va_runV (As := [.int 3]) (rest := []) ⟨hx, hb, hml, hown, hG⟩ (kX5_setFault l dC dI r ct i_tapeLength i_time i_lyingCount i_rd_fault i_rd_token i_rd_kind i_sc_count i_sc_at i_A_tunes i_A_houses i_fA_length i_B_tunes i_B_houses i_fB_length i_acts_done i_acts_undone i_kn_count f_boxes f_boxKept f_trial f_offers f_A_noteCounts f_A_notes f_B_noteCounts f_B_notes f_now_where f_now_worn f_ahead_where f_ahead_worn f_acts_rows f_kn_tunes f_kn_noteTimes J L 3 H29.size hI) (cwV 1 hG (goodV gw631 gw633 gw10 gw130 gw634) rfl rfl rfl hd_X5_setFault ⟨(Nat.le_of_ble_eq_true rfl), (Nat.le_of_ble_eq_true rfl)⟩) ⟨fbW, va_recv hK hP (ci := 4) (q0 := 1) rfl rfl, pW_in hP hK hD⟩ rfl rfl hl.1 rfl (lv_room (Nat.le_of_ble_eq_true rfl)) dX5_readName_46 ⟨(Nat.le_of_ble_eq_true rfl), (Nat.le_of_ble_eq_true rfl)⟩) hS (fun q _ h => hFc q h) hFc (fun _ t_ H66 locs ht hvm hw hB hz1 hk1 hS => ?_)
            obtain ⟨x68, J69, hP1, hD1, hI70⟩ := hB
            rw [ht] at hP1
            have hP := hP1
            have hD := dW hFc hD1
            obtain ⟨im71, im72, im73, im74, im75, im76, im77, im78, im79, im80, im81, im82, im83, im84, im85, im86, im87, im88, im89, im90, im91, im92, im93, im94, im95, im96, im97, im98, im99, im100, im101, im102, im103, im104, im105, im106, im107, im108, im109, im110⟩ := id hI70
            rw [hQ]
            exact W.vret hx hb hr (fun t ht hW => ⟨⟨(), rfl, trivial, ⟨x68, i_rd_token, i_rd_kind, J69, L, by rw [ht]; exact hP, hD, hI70⟩⟩, hS.F ht⟩) hS.2.2 dX5_readName_49
    exact L29 (-1 * (0 : Int32).toInt + 3 + 1).toNat 0 s.heap _ _ (ox_27 zc_0) (ox_946 zc_0) hP hD hS (lv_sub hl [2, 3, 4, 1, 0] rfl) (mlt (ox_947 zc_0))
  · skip
    have f111 : i_rd_kind.toInt ≠ 3 := qi_ne c_1 rfl zc_3
    refine lv_aload_n hx hb dX5_readName_8 rfl (lv_at hl 0 rfl) ?_
    have hFc := frA hD hS hA
    refine va_callv (va_runV (As := []) (rest := []) ⟨hx, hb, hml, hown, hG⟩ (kX5_refuse l dC dI r ct i_tapeLength i_time i_lyingCount i_rd_fault i_rd_token i_rd_kind i_sc_count i_sc_at i_A_tunes i_A_houses i_fA_length i_B_tunes i_B_houses i_fB_length i_acts_done i_acts_undone i_kn_count f_boxes f_boxKept f_trial f_offers f_A_noteCounts f_A_notes f_B_noteCounts f_B_notes f_now_where f_now_worn f_ahead_where f_ahead_worn f_acts_rows f_kn_tunes f_kn_noteTimes J L s.heap.size hI) (cwV 0 hG (goodV gw627 gw629 gw9 gw130 gw630) rfl rfl rfl hd_X5_refuse ⟨(Nat.le_of_ble_eq_true rfl), (Nat.le_of_ble_eq_true rfl)⟩) ⟨fbW, va_recv hK hP (ci := 4) (q0 := 1) rfl rfl, pW_in hP hK hD⟩ rfl rfl hl.1 rfl (lv_room (Nat.le_of_ble_eq_true rfl)) dX5_readName_9 ⟨(Nat.le_of_ble_eq_true rfl), (Nat.le_of_ble_eq_true rfl)⟩) hS (fun q _ h => hFc q h) hFc (fun _ t_ H112 locs ht hvm hw hB hz1 hk1 hS => ?_)
    obtain ⟨x114, J115, hP1, hD1, hI116⟩ := hB
    rw [ht] at hP1
    have hP := hP1
    have hD := dW hFc hD1
    obtain ⟨im117, im118, im119, im120, im121, im122, im123, im124, im125, im126, im127, im128, im129, im130, im131, im132, im133, im134, im135, im136, im137, im138, im139, im140, im141, im142, im143, im144, im145, im146, im147, im148, im149, im150, im151, im152, im153, im154, im155, im156⟩ := id hI116
    rw [hQ]
    exact W.vret hx hb hr (fun t ht hW => ⟨⟨(), rfl, trivial, ⟨x114, i_rd_token, i_rd_kind, J115, L, by rw [ht]; exact hP, hD, hI116⟩⟩, hS.F ht⟩) hS.2.2 dX5_readName_12
set_option maxHeartbeats 4000000 in
set_option maxRecDepth 100000 in
theorem kX5_readHouse (l : Launch) (dC : Nat → ClassId) (dI : Nat → Nat → Nat) (r : Nat → Nat) (ct : Nat → ClassId) (i_tapeLength i_time i_lyingCount i_rd_fault i_rd_token i_rd_kind i_sc_count i_sc_at i_A_tunes i_A_houses i_fA_length i_B_tunes i_B_houses i_fB_length i_acts_done i_acts_undone i_kn_count : Int32) (f_boxes f_boxKept f_trial f_offers f_A_noteCounts f_A_notes f_B_noteCounts f_B_notes f_now_where f_now_worn f_ahead_where f_ahead_worn f_acts_rows f_kn_tunes f_kn_noteTimes : Nat → Int32) (J : Nat → Nat → Int32) (L : Nat → Nat → Int64) (p0 : Int32) (sz : Nat) (hI : (IX i_tapeLength i_time i_lyingCount i_rd_token i_sc_count i_sc_at i_A_tunes i_A_houses i_fA_length i_B_tunes i_B_houses i_fB_length i_acts_done i_acts_undone i_kn_count f_boxes f_A_noteCounts f_A_notes f_B_noteCounts f_B_notes f_now_worn f_ahead_worn f_acts_rows f_kn_tunes)) (hp0 : p0.toInt = i_B_houses.toInt) (hp1 : i_B_houses.toInt ≤ (3 : Int)) : Met l yX5_readHouse (.code yX5_readHouse cX5_readHouse 3 none :: GW) { frames := 8, cells := 0, slots := 0, locals := 286 } (va_Pc [.ref (r 1), .int p0] (pW (dC, dI) (WX r ct i_tapeLength i_time i_lyingCount i_rd_fault i_rd_token i_rd_kind i_sc_count i_sc_at i_A_tunes i_A_houses i_fA_length i_B_tunes i_B_houses i_fB_length i_acts_done i_acts_undone i_kn_count f_boxes f_boxKept f_trial f_offers f_A_noteCounts f_A_notes f_B_noteCounts f_B_notes f_now_where f_now_worn f_ahead_where f_ahead_worn f_acts_rows f_kn_tunes f_kn_noteTimes J L) (TX ct) sz)) (va_Qv (fun _ : Unit => True) (fun (_ : Unit) (t : State) => ∃ (n_i_rd_fault n_i_rd_token n_i_rd_kind n_i_B_houses : Int32) (n_J : Nat → Nat → Int32) (n_L : Nat → Nat → Int64), va_P (dC, dI) vwCl (WX r ct i_tapeLength i_time i_lyingCount n_i_rd_fault n_i_rd_token n_i_rd_kind i_sc_count i_sc_at i_A_tunes i_A_houses i_fA_length i_B_tunes n_i_B_houses i_fB_length i_acts_done i_acts_undone i_kn_count f_boxes f_boxKept f_trial f_offers f_A_noteCounts f_A_notes f_B_noteCounts f_B_notes f_now_where f_now_worn f_ahead_where f_ahead_worn f_acts_rows f_kn_tunes f_kn_noteTimes n_J n_L) t.heap ∧ va_D (va_A (WX r ct i_tapeLength i_time i_lyingCount i_rd_fault i_rd_token i_rd_kind i_sc_count i_sc_at i_A_tunes i_A_houses i_fA_length i_B_tunes i_B_houses i_fB_length i_acts_done i_acts_undone i_kn_count f_boxes f_boxKept f_trial f_offers f_A_noteCounts f_A_notes f_B_noteCounts f_B_notes f_now_where f_now_worn f_ahead_where f_ahead_worn f_acts_rows f_kn_tunes f_kn_noteTimes J L) sz) (WX r ct i_tapeLength i_time i_lyingCount n_i_rd_fault n_i_rd_token n_i_rd_kind i_sc_count i_sc_at i_A_tunes i_A_houses i_fA_length i_B_tunes n_i_B_houses i_fB_length i_acts_done i_acts_undone i_kn_count f_boxes f_boxKept f_trial f_offers f_A_noteCounts f_A_notes f_B_noteCounts f_B_notes f_now_where f_now_worn f_ahead_where f_ahead_worn f_acts_rows f_kn_tunes f_kn_noteTimes n_J n_L) ∧ (IX i_tapeLength i_time i_lyingCount n_i_rd_token i_sc_count i_sc_at i_A_tunes i_A_houses i_fA_length i_B_tunes n_i_B_houses i_fB_length i_acts_done i_acts_undone i_kn_count f_boxes f_A_noteCounts f_A_notes f_B_noteCounts f_B_notes f_now_worn f_ahead_worn f_acts_rows f_kn_tunes)) (va_A (WX r ct i_tapeLength i_time i_lyingCount i_rd_fault i_rd_token i_rd_kind i_sc_count i_sc_at i_A_tunes i_A_houses i_fA_length i_B_tunes i_B_houses i_fB_length i_acts_done i_acts_undone i_kn_count f_boxes f_boxKept f_trial f_offers f_A_noteCounts f_A_notes f_B_noteCounts f_B_notes f_now_where f_now_worn f_ahead_where f_ahead_worn f_acts_rows f_kn_tunes f_kn_noteTimes J L) sz)) 0 0 (va_A (WX r ct i_tapeLength i_time i_lyingCount i_rd_fault i_rd_token i_rd_kind i_sc_count i_sc_at i_A_tunes i_A_houses i_fA_length i_B_tunes i_B_houses i_fB_length i_acts_done i_acts_undone i_kn_count f_boxes f_boxKept f_trial f_offers f_A_noteCounts f_A_notes f_B_noteCounts f_B_notes f_now_where f_now_worn f_ahead_where f_ahead_worn f_acts_rows f_kn_tunes f_kn_noteTimes J L) sz) := by
  refine Met.ofW (cc := cX5_readHouse) (maxL := 3) (ret := none) (by decide) rfl ?_
  intro p e s m args below meth c0 s₁ B hml hv
  obtain ⟨rfl, hsz, hP, hK, hD0⟩ := hv
  have hx := B.exec
  have hb := B.bytes
  have hr := B.returns
  have hts := atoms_spec (ws := .code yX5_readHouse cX5_readHouse 3 none :: GW) B.pre
  have hG : ∀ w ∈ GW, w.before _ s = true := fun w h => hts w (List.mem_cons_of_mem _ h)
  have hown : s.vm.findClass RX5 = some m.cls := findClass_of_methodNamed B.named
  subst hsz
  have hD := hD0.self (sz := s.heap.size)
  generalize hAe : va_A (WX r ct i_tapeLength i_time i_lyingCount i_rd_fault i_rd_token i_rd_kind i_sc_count i_sc_at i_A_tunes i_A_houses i_fA_length i_B_tunes i_B_houses i_fB_length i_acts_done i_acts_undone i_kn_count f_boxes f_boxKept f_trial f_offers f_A_noteCounts f_A_notes f_B_noteCounts f_B_notes f_now_where f_now_worn f_ahead_where f_ahead_worn f_acts_rows f_kn_tunes f_kn_noteTimes J L) s.heap.size = A at hD ⊢
  have hA : ∀ q : Nat, s.heap.size ≤ q → A q := fun q h => by rw [← hAe]; exact Or.inr h
  have hS : va_S A s.heap s.heap [] := va_S.rf
  have hP : va_P (dC, dI) vwCl (WX r ct i_tapeLength i_time i_lyingCount i_rd_fault i_rd_token i_rd_kind i_sc_count i_sc_at i_A_tunes i_A_houses i_fA_length i_B_tunes i_B_houses i_fB_length i_acts_done i_acts_undone i_kn_count f_boxes f_boxKept f_trial f_offers f_A_noteCounts f_A_notes f_B_noteCounts f_B_notes f_now_where f_now_worn f_ahead_where f_ahead_worn f_acts_rows f_kn_tunes f_kn_noteTimes J L) s.heap := hP
  have hl := lv_entry ([.ref (r 1), .int p0]) (n := 3) (Nat.le_of_ble_eq_true rfl)
  rw [lg_entry_eq]
  generalize (lg_sl ([.ref (r 1), .int p0]) ++ List.replicate (3 - (lg_sl ([.ref (r 1), .int p0])).length) Slot.unset).toArray = ls at hl ⊢
  have hl : lv_has ls 3 [(0, .ref (r 1)), (1, .int p0)] := hl
  refine nameQ (fun Q hQ => ?_)
  obtain ⟨ie0, ie1, ie2, ie3, ie4, ie5, ie6, ie7, ie8, ie9, ie10, ie11, ie12, ie13, ie14, ie15, ie16, ie17, ie18, ie19, ie20, ie21, ie22, ie23, ie24, ie25, ie26, ie27, ie28, ie29, ie30, ie31, ie32, ie33, ie34, ie35, ie36, ie37, ie38, ie39⟩ := id hI
  refine lv_aload_n hx hb dX5_readHouse_0 rfl (lv_at hl 0 rfl) ?_
  refine lv_aload_n hx hb dX5_readHouse_1 rfl (lv_at hl 0 rfl) ?_
  refine gX_X5_33_1 hx hb hG hown hK hP dX5_readHouse_2 ?_
  refine lv_iload_n hx hb dX5_readHouse_5 rfl (lv_at hl 1 rfl) ?_
  have hFc := frA hD hS hA
  refine va_callv (va_runV (As := [.ref (r 19), .int p0]) (rest := []) ⟨hx, hb, hml, hown, hG⟩ (kX5_readName_v1 l dC dI r ct i_tapeLength i_time i_lyingCount i_rd_fault i_rd_token i_rd_kind i_sc_count i_sc_at i_A_tunes i_A_houses i_fA_length i_B_tunes i_B_houses i_fB_length i_acts_done i_acts_undone i_kn_count f_boxes f_boxKept f_trial f_offers f_A_noteCounts f_A_notes f_B_noteCounts f_B_notes f_now_where f_now_worn f_ahead_where f_ahead_worn f_acts_rows f_kn_tunes f_kn_noteTimes J L p0 s.heap.size hI (ox_503 ie18 hp0) (ox_948 hp0 hp1)) (cwV 2 hG (goodV gw647 gw649 gw14 gw130 gw650) rfl rfl rfl hd_X5_readName ⟨(Nat.le_of_ble_eq_true rfl), (Nat.le_of_ble_eq_true rfl)⟩) ⟨fbW, va_recv hK hP (ci := 4) (q0 := 1) rfl rfl, pW_in hP hK hD⟩ rfl rfl hl.1 rfl (lv_room (Nat.le_of_ble_eq_true rfl)) dX5_readHouse_6 ⟨(Nat.le_of_ble_eq_true rfl), (Nat.le_of_ble_eq_true rfl)⟩) hS (fun q _ h => hFc q h) hFc (fun _ t_ H1 locs ht hvm hw hB hz1 hk1 hS => ?_)
  obtain ⟨x3, x4, x5, J6, L7, hP1, hD1, hI8⟩ := hB
  rw [ht] at hP1
  have hP := hP1
  have hD := dW hFc hD1
  obtain ⟨im9, im10, im11, im12, im13, im14, im15, im16, im17, im18, im19, im20, im21, im22, im23, im24, im25, im26, im27, im28, im29, im30, im31, im32, im33, im34, im35, im36, im37, im38, im39, im40, im41, im42, im43, im44, im45, im46, im47, im48⟩ := id hI8
  refine lv_aload_n hx hb dX5_readHouse_9 rfl (lv_at hl 0 rfl) ?_
  refine lv_bipush (v := 107) hx hb dX5_readHouse_10 (by decide) ?_
  have hFc := frA hD hS hA
  refine va_callv (va_runV (As := [.int 107]) (rest := []) ⟨hx, hb, hml, hown, hG⟩ (kX5_pass l dC dI r ct i_tapeLength i_time i_lyingCount x3 x4 x5 i_sc_count i_sc_at i_A_tunes i_A_houses i_fA_length i_B_tunes i_B_houses i_fB_length i_acts_done i_acts_undone i_kn_count f_boxes f_boxKept f_trial f_offers f_A_noteCounts f_A_notes f_B_noteCounts f_B_notes f_now_where f_now_worn f_ahead_where f_ahead_worn f_acts_rows f_kn_tunes f_kn_noteTimes J6 L7 107 H1.size hI8) (cwV 1 hG (goodV gw651 gw653 gw15 gw130 gw654) rfl rfl rfl hd_X5_pass ⟨(Nat.le_of_ble_eq_true rfl), (Nat.le_of_ble_eq_true rfl)⟩) ⟨fbW, va_recv hK hP (ci := 4) (q0 := 1) rfl rfl, pW_in hP hK hD⟩ rfl rfl hl.1 rfl (lv_room (Nat.le_of_ble_eq_true rfl)) dX5_readHouse_12 ⟨(Nat.le_of_ble_eq_true rfl), (Nat.le_of_ble_eq_true rfl)⟩) hS (fun q _ h => hFc q h) hFc (fun _ t_ H49 locs ht hvm hw hB hz1 hk1 hS => ?_)
  obtain ⟨x51, x52, x53, J54, hP1, hD1, hI55⟩ := hB
  rw [ht] at hP1
  have hP := hP1
  have hD := dW hFc hD1
  obtain ⟨im56, im57, im58, im59, im60, im61, im62, im63, im64, im65, im66, im67, im68, im69, im70, im71, im72, im73, im74, im75, im76, im77, im78, im79, im80, im81, im82, im83, im84, im85, im86, im87, im88, im89, im90, im91, im92, im93, im94, im95⟩ := id hI55
  refine lv_aload_n hx hb dX5_readHouse_15 rfl (lv_at hl 0 rfl) ?_
  refine gX_X5_25_1 hx hb hG hown hK hP dX5_readHouse_16 ?_
  refine gX_X5_139_5 hx hb hG hown hK hP dX5_readHouse_19 ?_
  refine lv_iload_n hx hb dX5_readHouse_22 rfl (lv_at hl 1 rfl) ?_
  refine lv_aload_n hx hb dX5_readHouse_23 rfl (lv_at hl 0 rfl) ?_
  refine lv_iconst (v := 0) hx hb dX5_readHouse_24 (by decide) ?_
  refine lv_bipush (v := 99) hx hb dX5_readHouse_25 (by decide) ?_
  have hFc := frA hD hS hA
  refine va_calli (va_runV (As := [.int 0, .int 99]) (rest := [.int p0, .ref (r 35)]) ⟨hx, hb, hml, hown, hG⟩ (kX5_readNumber l dC dI r ct i_tapeLength i_time i_lyingCount x51 x52 x53 i_sc_count i_sc_at i_A_tunes i_A_houses i_fA_length i_B_tunes i_B_houses i_fB_length i_acts_done i_acts_undone i_kn_count f_boxes f_boxKept f_trial f_offers f_A_noteCounts f_A_notes f_B_noteCounts f_B_notes f_now_where f_now_worn f_ahead_where f_ahead_worn f_acts_rows f_kn_tunes f_kn_noteTimes J54 L7 0 99 H49.size hI55) (cwV 2 hG (goodV gw639 gw641 gw12 gw130 gw642) rfl rfl rfl hd_X5_readNumber ⟨(Nat.le_of_ble_eq_true rfl), (Nat.le_of_ble_eq_true rfl)⟩) ⟨fbW, va_recv hK hP (ci := 4) (q0 := 1) rfl rfl, pW_in hP hK hD⟩ rfl rfl hl.1 rfl (lv_room (Nat.le_of_ble_eq_true rfl)) dX5_readHouse_27 ⟨(Nat.le_of_ble_eq_true rfl), (Nat.le_of_ble_eq_true rfl)⟩) hS (fun q _ h => hFc q h) hFc (fun r_97 u_ t_ H96 locs ht hvm hw hB hz1 hk1 hS => ?_)
  subst hw
  obtain ⟨x98, x99, x100, J101, hP1, hD1, hI103, f102⟩ := hB
  rw [ht] at hP1
  have hP := hP1
  have hD := dW hFc hD1
  obtain ⟨im104, im105, im106, im107, im108, im109, im110, im111, im112, im113, im114, im115, im116, im117, im118, im119, im120, im121, im122, im123, im124, im125, im126, im127, im128, im129, im130, im131, im132, im133, im134, im135, im136, im137, im138, im139, im140, im141, im142, im143⟩ := id hI103
  refine stX_35 (mm := p0.toInt) hx hb hK hP hD hS rfl (ox_920 ie18 hp0) (ox_949 hp0 hp1) dX5_readHouse_30 (fun J145 H144 locs hP hD hS => ?_)
  refine lv_aload_n hx hb dX5_readHouse_31 rfl (lv_at hl 0 rfl) ?_
  refine lv_bipush (v := 118) hx hb dX5_readHouse_32 (by decide) ?_
  have hFc := frA hD hS hA
  refine va_callv (va_runV (As := [.int 118]) (rest := []) ⟨hx, hb, hml, hown, hG⟩ (kX5_pass l dC dI r ct i_tapeLength i_time i_lyingCount x98 x99 x100 i_sc_count i_sc_at i_A_tunes i_A_houses i_fA_length i_B_tunes i_B_houses i_fB_length i_acts_done i_acts_undone i_kn_count f_boxes f_boxKept f_trial f_offers f_A_noteCounts f_A_notes f_B_noteCounts f_B_notes f_now_where f_now_worn f_ahead_where f_ahead_worn f_acts_rows f_kn_tunes f_kn_noteTimes J145 L7 118 H144.size hI103) (cwV 1 hG (goodV gw651 gw653 gw15 gw130 gw654) rfl rfl rfl hd_X5_pass ⟨(Nat.le_of_ble_eq_true rfl), (Nat.le_of_ble_eq_true rfl)⟩) ⟨fbW, va_recv hK hP (ci := 4) (q0 := 1) rfl rfl, pW_in hP hK hD⟩ rfl rfl hl.1 rfl (lv_room (Nat.le_of_ble_eq_true rfl)) dX5_readHouse_34 ⟨(Nat.le_of_ble_eq_true rfl), (Nat.le_of_ble_eq_true rfl)⟩) hS (fun q _ h => hFc q h) hFc (fun _ t_ H146 locs ht hvm hw hB hz1 hk1 hS => ?_)
  obtain ⟨x148, x149, x150, J151, hP1, hD1, hI152⟩ := hB
  rw [ht] at hP1
  have hP := hP1
  have hD := dW hFc hD1
  obtain ⟨im153, im154, im155, im156, im157, im158, im159, im160, im161, im162, im163, im164, im165, im166, im167, im168, im169, im170, im171, im172, im173, im174, im175, im176, im177, im178, im179, im180, im181, im182, im183, im184, im185, im186, im187, im188, im189, im190, im191, im192⟩ := id hI152
  refine lv_aload_n hx hb dX5_readHouse_37 rfl (lv_at hl 0 rfl) ?_
  refine gX_X5_25_1 hx hb hG hown hK hP dX5_readHouse_38 ?_
  refine gX_X5_142_5 hx hb hG hown hK hP dX5_readHouse_41 ?_
  refine lv_iload_n hx hb dX5_readHouse_44 rfl (lv_at hl 1 rfl) ?_
  refine lv_aload_n hx hb dX5_readHouse_45 rfl (lv_at hl 0 rfl) ?_
  refine lv_iconst (v := 0) hx hb dX5_readHouse_46 (by decide) ?_
  refine lv_bipush (v := 99) hx hb dX5_readHouse_47 (by decide) ?_
  have hFc := frA hD hS hA
  refine va_calli (va_runV (As := [.int 0, .int 99]) (rest := [.int p0, .ref (r 36)]) ⟨hx, hb, hml, hown, hG⟩ (kX5_readNumber l dC dI r ct i_tapeLength i_time i_lyingCount x148 x149 x150 i_sc_count i_sc_at i_A_tunes i_A_houses i_fA_length i_B_tunes i_B_houses i_fB_length i_acts_done i_acts_undone i_kn_count f_boxes f_boxKept f_trial f_offers f_A_noteCounts f_A_notes f_B_noteCounts f_B_notes f_now_where f_now_worn f_ahead_where f_ahead_worn f_acts_rows f_kn_tunes f_kn_noteTimes J151 L7 0 99 H146.size hI152) (cwV 2 hG (goodV gw639 gw641 gw12 gw130 gw642) rfl rfl rfl hd_X5_readNumber ⟨(Nat.le_of_ble_eq_true rfl), (Nat.le_of_ble_eq_true rfl)⟩) ⟨fbW, va_recv hK hP (ci := 4) (q0 := 1) rfl rfl, pW_in hP hK hD⟩ rfl rfl hl.1 rfl (lv_room (Nat.le_of_ble_eq_true rfl)) dX5_readHouse_49 ⟨(Nat.le_of_ble_eq_true rfl), (Nat.le_of_ble_eq_true rfl)⟩) hS (fun q _ h => hFc q h) hFc (fun r_194 u_ t_ H193 locs ht hvm hw hB hz1 hk1 hS => ?_)
  subst hw
  obtain ⟨x195, x196, x197, J198, hP1, hD1, hI200, f199⟩ := hB
  rw [ht] at hP1
  have hP := hP1
  have hD := dW hFc hD1
  obtain ⟨im201, im202, im203, im204, im205, im206, im207, im208, im209, im210, im211, im212, im213, im214, im215, im216, im217, im218, im219, im220, im221, im222, im223, im224, im225, im226, im227, im228, im229, im230, im231, im232, im233, im234, im235, im236, im237, im238, im239, im240⟩ := id hI200
  refine stX_36 (mm := p0.toInt) hx hb hK hP hD hS rfl (ox_920 ie18 hp0) (ox_949 hp0 hp1) dX5_readHouse_52 (fun J242 H241 locs hP hD hS => ?_)
  refine lv_aload_n hx hb dX5_readHouse_53 rfl (lv_at hl 0 rfl) ?_
  refine lv_bipush (v := 108) hx hb dX5_readHouse_54 (by decide) ?_
  have hFc := frA hD hS hA
  refine va_callv (va_runV (As := [.int 108]) (rest := []) ⟨hx, hb, hml, hown, hG⟩ (kX5_pass l dC dI r ct i_tapeLength i_time i_lyingCount x195 x196 x197 i_sc_count i_sc_at i_A_tunes i_A_houses i_fA_length i_B_tunes i_B_houses i_fB_length i_acts_done i_acts_undone i_kn_count f_boxes f_boxKept f_trial f_offers f_A_noteCounts f_A_notes f_B_noteCounts f_B_notes f_now_where f_now_worn f_ahead_where f_ahead_worn f_acts_rows f_kn_tunes f_kn_noteTimes J242 L7 108 H241.size hI200) (cwV 1 hG (goodV gw651 gw653 gw15 gw130 gw654) rfl rfl rfl hd_X5_pass ⟨(Nat.le_of_ble_eq_true rfl), (Nat.le_of_ble_eq_true rfl)⟩) ⟨fbW, va_recv hK hP (ci := 4) (q0 := 1) rfl rfl, pW_in hP hK hD⟩ rfl rfl hl.1 rfl (lv_room (Nat.le_of_ble_eq_true rfl)) dX5_readHouse_56 ⟨(Nat.le_of_ble_eq_true rfl), (Nat.le_of_ble_eq_true rfl)⟩) hS (fun q _ h => hFc q h) hFc (fun _ t_ H243 locs ht hvm hw hB hz1 hk1 hS => ?_)
  obtain ⟨x245, x246, x247, J248, hP1, hD1, hI249⟩ := hB
  rw [ht] at hP1
  have hP := hP1
  have hD := dW hFc hD1
  obtain ⟨im250, im251, im252, im253, im254, im255, im256, im257, im258, im259, im260, im261, im262, im263, im264, im265, im266, im267, im268, im269, im270, im271, im272, im273, im274, im275, im276, im277, im278, im279, im280, im281, im282, im283, im284, im285, im286, im287, im288, im289⟩ := id hI249
  refine lv_iconst (v := 0) hx hb dX5_readHouse_59 (by decide) ?_
  refine lv_istore_n (lv' := [(2, .int 0), (0, .ref (r 1)), (1, .int p0)]) hx hb dX5_readHouse_60 rfl hl (by decide) rfl (fun ls hl => ?_)
  have L61 : ∀ (N61 : Nat) (y61_2 : Int32) (m61_i_rd_fault m61_i_rd_token m61_i_rd_kind : Int32) (m61_J : Nat → Nat → Int32) (H61 : Heap) (locs : List Loc) (ls : Array Slot) (g61_0 : (0 : Int) ≤ y61_2.toInt) (g61_1 : y61_2.toInt ≤ (3 : Int)) (g61_2 : (0 : Int) ≤ m61_i_rd_token.toInt) (g61_3 : m61_i_rd_token.toInt ≤ (1600 : Int)) (gi61_i_rd_token_lo : (0 : Int) ≤ m61_i_rd_token.toInt) (gi61_i_rd_token_hi : m61_i_rd_token.toInt ≤ (1600 : Int)) (hP : va_P (dC, dI) vwCl (WX r ct i_tapeLength i_time i_lyingCount m61_i_rd_fault m61_i_rd_token m61_i_rd_kind i_sc_count i_sc_at i_A_tunes i_A_houses i_fA_length i_B_tunes i_B_houses i_fB_length i_acts_done i_acts_undone i_kn_count f_boxes f_boxKept f_trial f_offers f_A_noteCounts f_A_notes f_B_noteCounts f_B_notes f_now_where f_now_worn f_ahead_where f_ahead_worn f_acts_rows f_kn_tunes f_kn_noteTimes m61_J L7) H61) (hD : va_D A (WX r ct i_tapeLength i_time i_lyingCount m61_i_rd_fault m61_i_rd_token m61_i_rd_kind i_sc_count i_sc_at i_A_tunes i_A_houses i_fA_length i_B_tunes i_B_houses i_fB_length i_acts_done i_acts_undone i_kn_count f_boxes f_boxKept f_trial f_offers f_A_noteCounts f_A_notes f_B_noteCounts f_B_notes f_now_where f_now_worn f_ahead_where f_ahead_worn f_acts_rows f_kn_tunes f_kn_noteTimes m61_J L7)) (hS : va_S A s.heap H61 locs) (hl : lv_has ls 3 [(0, .ref (r 1)), (1, .int p0), (2, .int y61_2)]) (hM : -1 * y61_2.toInt + 3 < (N61 : Int)), W p l e { frames := 8, cells := 0, slots := 0, locals := 286 } s m ([.ref (r 1), .int p0] : List Value).toArray below meth c0 H61 locs 0 0 Q (F0 m 61 ls []) := by
    intro N61
    induction N61 with
    | zero =>
      intro y61_2 m61_i_rd_fault m61_i_rd_token m61_i_rd_kind m61_J H61 locs ls g61_0 g61_1 g61_2 g61_3 gi61_i_rd_token_lo gi61_i_rd_token_hi hP hD hS hl hM
      exact ((ox_940 hM g61_0 g61_1)).elim
    | succ N61 ih61 =>
      intro y61_2 m61_i_rd_fault m61_i_rd_token m61_i_rd_kind m61_J H61 locs ls g61_0 g61_1 g61_2 g61_3 gi61_i_rd_token_lo gi61_i_rd_token_hi hP hD hS hl hM
      have hM61 := msucc hM
      refine lv_iload_n hx hb dX5_readHouse_61 rfl (lv_at hl 2 rfl) ?_
      refine lv_iconst (v := 3) hx hb dX5_readHouse_62 (by decide) ?_
      refine lv_icmp_ge (tgt := 92) hx hb dX5_readHouse_63 (by decide) (fun c_290 => ?_) (fun c_290 => ?_)
      · skip
        have f291 : 3 ≤ y61_2.toInt := qi_le c_290 zc_3 rfl
        refine lv_aload_n hx hb dX5_readHouse_92 rfl (lv_at hl 0 rfl) ?_
        refine gX_X5_25_1 hx hb hG hown hK hP dX5_readHouse_93 ?_
        refine lv_iload_n hx hb dX5_readHouse_96 rfl (lv_at hl 1 rfl) ?_
        refine lv_iconst (v := 1) hx hb dX5_readHouse_97 (by decide) ?_
        refine lv_iadd hx hb dX5_readHouse_98 ?_
        refine lv_topi (fun x292 ex292 => ?_)
        have f293 : x292.toInt = p0.toInt + 1 := (ox_13 (qi_add ex292 rfl zc_1 (ox_923 ie18 hp0) (ox_950 ie19 hp0)))
        refine pX_X5_98_5 hx hb hG hown hK hP hD hS dX5_readHouse_99 (fun H294 locs hP hD hS => ?_)
        rw [hQ]
        exact W.vret hx hb hr (fun t ht hW => ⟨⟨(), rfl, trivial, ⟨m61_i_rd_fault, m61_i_rd_token, m61_i_rd_kind, x292, m61_J, L7, by rw [ht]; exact hP, hD, ⟨ie0, ie1, ie2, ie3, ie4, ie5, gi61_i_rd_token_lo, gi61_i_rd_token_hi, ie8, ie9, ie10, ie11, ie12, ie13, ie14, ie15, ie16, ie17, (ox_925 ie18 hp0 f293), (ox_951 hp0 hp1 f293), ie20, ie21, ie22, ie23, ie24, ie25, ie26, ie27, ie28, ie29, ie30, ie31, ie32, ie33, ie34, ie35, ie36, ie37, ie38, ie39⟩⟩⟩, hS.F ht⟩) hS.2.2 dX5_readHouse_102
      · skip
        have f295 : y61_2.toInt < 3 := qi_nle c_290 zc_3 rfl
        refine lv_aload_n hx hb dX5_readHouse_66 rfl (lv_at hl 0 rfl) ?_
        refine gX_X5_25_1 hx hb hG hown hK hP dX5_readHouse_67 ?_
        refine gX_X5_145_5 hx hb hG hown hK hP dX5_readHouse_70 ?_
        refine lv_iload_n hx hb dX5_readHouse_73 rfl (lv_at hl 1 rfl) ?_
        refine lv_iconst (v := 3) hx hb dX5_readHouse_74 (by decide) ?_
        refine lv_imul hx hb dX5_readHouse_75 ?_
        refine lv_topi (fun x296 ex296 => ?_)
        have f297 : x296.toInt = 3 * p0.toInt := (ox_110 (qi_mul ex296 rfl zc_3 (ox_952 ie18 hp0) (ox_953 ie19 hp0)))
        refine lv_iload_n hx hb dX5_readHouse_76 rfl (lv_at hl 2 rfl) ?_
        refine lv_iadd hx hb dX5_readHouse_77 ?_
        refine lv_topi (fun x298 ex298 => ?_)
        have f299 : x298.toInt = y61_2.toInt + 3 * p0.toInt := (ox_956 (qi_add ex298 rfl rfl (ox_954 ie18 hp0 g61_0 f297) (ox_955 ie19 hp0 g61_1 f297)) f297)
        refine lv_aload_n hx hb dX5_readHouse_78 rfl (lv_at hl 0 rfl) ?_
        refine lv_iconst (v := 0) hx hb dX5_readHouse_79 (by decide) ?_
        refine lv_bipush (v := 6) hx hb dX5_readHouse_80 (by decide) ?_
        have hFc := frA hD hS hA
        refine va_calli (va_runV (As := [.int 0, .int 6]) (rest := [.int x298, .ref (r 37)]) ⟨hx, hb, hml, hown, hG⟩ (kX5_readNumber l dC dI r ct i_tapeLength i_time i_lyingCount m61_i_rd_fault m61_i_rd_token m61_i_rd_kind i_sc_count i_sc_at i_A_tunes i_A_houses i_fA_length i_B_tunes i_B_houses i_fB_length i_acts_done i_acts_undone i_kn_count f_boxes f_boxKept f_trial f_offers f_A_noteCounts f_A_notes f_B_noteCounts f_B_notes f_now_where f_now_worn f_ahead_where f_ahead_worn f_acts_rows f_kn_tunes f_kn_noteTimes m61_J L7 0 6 H61.size ⟨ie0, ie1, ie2, ie3, ie4, ie5, gi61_i_rd_token_lo, gi61_i_rd_token_hi, ie8, ie9, ie10, ie11, ie12, ie13, ie14, ie15, ie16, ie17, ie18, ie19, ie20, ie21, ie22, ie23, ie24, ie25, ie26, ie27, ie28, ie29, ie30, ie31, ie32, ie33, ie34, ie35, ie36, ie37, ie38, ie39⟩) (cwV 2 hG (goodV gw639 gw641 gw12 gw130 gw642) rfl rfl rfl hd_X5_readNumber ⟨(Nat.le_of_ble_eq_true rfl), (Nat.le_of_ble_eq_true rfl)⟩) ⟨fbW, va_recv hK hP (ci := 4) (q0 := 1) rfl rfl, pW_in hP hK hD⟩ rfl rfl hl.1 rfl (lv_room (Nat.le_of_ble_eq_true rfl)) dX5_readHouse_82 ⟨(Nat.le_of_ble_eq_true rfl), (Nat.le_of_ble_eq_true rfl)⟩) hS (fun q _ h => hFc q h) hFc (fun r_301 u_ t_ H300 locs ht hvm hw hB hz1 hk1 hS => ?_)
        subst hw
        obtain ⟨x302, x303, x304, J305, hP1, hD1, hI307, f306⟩ := hB
        rw [ht] at hP1
        have hP := hP1
        have hD := dW hFc hD1
        obtain ⟨im308, im309, im310, im311, im312, im313, im314, im315, im316, im317, im318, im319, im320, im321, im322, im323, im324, im325, im326, im327, im328, im329, im330, im331, im332, im333, im334, im335, im336, im337, im338, im339, im340, im341, im342, im343, im344, im345, im346, im347⟩ := id hI307
        refine stX_37 (mm := y61_2.toInt + 3 * p0.toInt) hx hb hK hP hD hS f299 (ox_957 ie18 hp0 g61_0) (ox_958 hp0 hp1 f295) dX5_readHouse_85 (fun J349 H348 locs hP hD hS => ?_)
        obtain ⟨x350, ex350⟩ : ∃ y : Int32, y = y61_2 + Int32.ofInt 1 := ⟨_, rfl⟩
        have f351 : x350.toInt = y61_2.toInt + 1 := (ox_13 (qi_add ex350 rfl (by decide) (ox_11 g61_0) (ox_943 g61_1)))
        refine lv_iinc (v := x350) (lv' := [(2, .int x350), (0, .ref (r 1)), (1, .int p0)]) hx hb dX5_readHouse_86 hl (k := 2) rfl ex350.symm (by decide) rfl (fun ls hl => ?_)
        refine lv_goto (tgt := 61) hx hb dX5_readHouse_89 (by decide) ?_
        exact ih61 x350 x302 x303 x304 J349 H348 _ _ (ox_14 g61_0 f351) (ox_959 f295 f351) (ox_18 im314 im315) (ox_19 im314 im315) im314 im315 hP hD hS (lv_sub hl [1, 2, 0] rfl) (ox_945 hM61 f351)
  exact L61 (-1 * (0 : Int32).toInt + 3 + 1).toNat 0 x245 x246 x247 J248 H243 _ _ (ox_27 zc_0) (ox_946 zc_0) (ox_18 im256 im257) (ox_19 im256 im257) im256 im257 hP hD hS (lv_sub hl [1, 2, 0] rfl) (mlt (ox_947 zc_0))
set_option maxHeartbeats 4000000 in
set_option maxRecDepth 100000 in
theorem kX2_isFact (l : Launch) (dC : Nat → ClassId) (dI : Nat → Nat → Nat) (p0 : Int32) (sz : Nat) : Met l yX2_isFact (.code yX2_isFact cX2_isFact 1 (some .boolean) :: GW) { frames := 2, cells := 0, slots := 0, locals := 100 } (va_Pc [.int p0] (pR (dC, dI) [] [] sz)) (va_Qi (fun (r0 : Int32) (u : Int32) => r0 = u) (fun (u : Int32) (t : State) => (((p0.toInt ≤ (111 : Int)) ∧ (u.toInt = (0 : Int))) ∨ (((112 : Int) ≤ p0.toInt) ∧ ((119 : Int) ≤ p0.toInt) ∧ (u.toInt = (0 : Int))) ∨ (((112 : Int) ≤ p0.toInt) ∧ (p0.toInt ≤ (118 : Int)) ∧ (u.toInt = (1 : Int)))) ∧ ((0 : Int) ≤ u.toInt) ∧ (u.toInt ≤ (1 : Int))) (fun q => sz ≤ q)) 0 0 (fun q => sz ≤ q) := by
  refine Met.ofW (cc := cX2_isFact) (maxL := 1) (ret := (some .boolean)) (by decide) rfl ?_
  intro p e s m args below meth c0 s₁ B hml hv
  obtain ⟨rfl, hsz, hP, hK⟩ := hv
  have hx := B.exec
  have hb := B.bytes
  have hr := B.returns
  have hts := atoms_spec (ws := .code yX2_isFact cX2_isFact 1 (some .boolean) :: GW) B.pre
  have hG : ∀ w ∈ GW, w.before _ s = true := fun w h => hts w (List.mem_cons_of_mem _ h)
  have hown : s.vm.findClass RX2 = some m.cls := findClass_of_methodNamed B.named
  subst hsz
  have hS : va_S (fun q => s.heap.size ≤ q) s.heap s.heap [] := va_S.rf
  have hP : va_P (dC, dI) vwCl [] s.heap := hP
  have hl := lv_entry ([.int p0]) (n := 1) (Nat.le_of_ble_eq_true rfl)
  rw [lg_entry_eq]
  generalize (lg_sl ([.int p0]) ++ List.replicate (1 - (lg_sl ([.int p0])).length) Slot.unset).toArray = ls at hl ⊢
  have hl : lv_has ls 1 [(0, .int p0)] := hl
  refine nameQ (fun Q hQ => ?_)
  refine lv_iload_n hx hb dX2_isFact_0 rfl (lv_at hl 0 rfl) ?_
  refine lv_bipush (v := 112) hx hb dX2_isFact_1 (by decide) ?_
  refine lv_icmp_lt (tgt := 16) hx hb dX2_isFact_3 (by decide) (fun c_1 => ?_) (fun c_1 => ?_)
  · skip
    have f2 : p0.toInt < 112 := qi_lt c_1 rfl zc_112
    refine lv_iconst (v := 0) hx hb dX2_isFact_16 (by decide) ?_
    rw [hQ]
    exact W.zret (v := 0) hx hb hr (by decide) (fun t ht hW => ⟨⟨0, 0, rfl, rfl, ⟨(ox_960 f2 zc_0), (ox_27 zc_0), (ox_28 zc_0)⟩⟩, hS.F ht⟩) hS.2.2 dX2_isFact_17
  · skip
    have f3 : 112 ≤ p0.toInt := qi_nlt c_1 rfl zc_112
    refine lv_iload_n hx hb dX2_isFact_6 rfl (lv_at hl 0 rfl) ?_
    refine lv_bipush (v := 118) hx hb dX2_isFact_7 (by decide) ?_
    refine lv_icmp_gt (tgt := 16) hx hb dX2_isFact_9 (by decide) (fun c_4 => ?_) (fun c_4 => ?_)
    · skip
      have f5 : 118 < p0.toInt := qi_lt c_4 zc_118 rfl
      refine lv_iconst (v := 0) hx hb dX2_isFact_16 (by decide) ?_
      rw [hQ]
      exact W.zret (v := 0) hx hb hr (by decide) (fun t ht hW => ⟨⟨0, 0, rfl, rfl, ⟨(ox_961 f3 f5 zc_0), (ox_27 zc_0), (ox_28 zc_0)⟩⟩, hS.F ht⟩) hS.2.2 dX2_isFact_17
    · skip
      have f6 : p0.toInt ≤ 118 := qi_nlt c_4 zc_118 rfl
      refine lv_iconst (v := 1) hx hb dX2_isFact_12 (by decide) ?_
      refine lv_goto (tgt := 17) hx hb dX2_isFact_13 (by decide) ?_
      rw [hQ]
      exact W.zret (v := 1) hx hb hr (by decide) (fun t ht hW => ⟨⟨1, 1, rfl, rfl, ⟨(ox_962 f3 f6 zc_1), (ox_31 zc_1), (ox_32 zc_1)⟩⟩, hS.F ht⟩) hS.2.2 dX2_isFact_17
