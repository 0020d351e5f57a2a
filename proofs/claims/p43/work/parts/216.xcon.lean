set_option maxHeartbeats 4000000 in
set_option maxRecDepth 100000 in
theorem kX8_spread_v2 (l : Launch) (dC : Nat → ClassId) (dI : Nat → Nat → Nat) (r : Nat → Nat) (ct : Nat → ClassId) (i_tapeLength i_time i_lyingCount i_rd_fault i_rd_token i_rd_kind i_sc_count i_sc_at i_A_tunes i_A_houses i_fA_length i_B_tunes i_B_houses i_fB_length i_acts_done i_acts_undone i_kn_count : Int32) (f_boxes f_boxKept f_trial f_offers f_A_noteCounts f_A_notes f_B_noteCounts f_B_notes f_now_where f_now_worn f_ahead_where f_ahead_worn f_acts_rows f_kn_tunes f_kn_noteTimes : Nat → Int32) (J : Nat → Nat → Int32) (L : Nat → Nat → Int64) (p0 p1 : Int32) (sz : Nat) (hI : (IX i_tapeLength i_time i_lyingCount i_rd_token i_sc_count i_sc_at i_A_tunes i_A_houses i_fA_length i_B_tunes i_B_houses i_fB_length i_acts_done i_acts_undone i_kn_count f_boxes f_A_noteCounts f_A_notes f_B_noteCounts f_B_notes f_now_worn f_ahead_worn f_acts_rows f_kn_tunes)) (hp0 : (0 : Int) ≤ p0.toInt) (hp1 : p1.toInt ≤ (5 : Int)) : Met l yX8_spread (.code yX8_spread cX8_spread 5 none :: GW) { frames := 2, cells := 0, slots := 0, locals := 100 } (va_Pc [.ref (r 0), .int p0, .int p1] (pW (dC, dI) (WX r ct i_tapeLength i_time i_lyingCount i_rd_fault i_rd_token i_rd_kind i_sc_count i_sc_at i_A_tunes i_A_houses i_fA_length i_B_tunes i_B_houses i_fB_length i_acts_done i_acts_undone i_kn_count f_boxes f_boxKept f_trial f_offers f_A_noteCounts f_A_notes f_B_noteCounts f_B_notes f_now_where f_now_worn f_ahead_where f_ahead_worn f_acts_rows f_kn_tunes f_kn_noteTimes J L) (TX ct) sz)) (va_Qv (fun _ : Unit => True) (fun (_ : Unit) (t : State) => ∃ (n_f_trial : Nat → Int32), va_P (dC, dI) vwCl (WX r ct i_tapeLength i_time i_lyingCount i_rd_fault i_rd_token i_rd_kind i_sc_count i_sc_at i_A_tunes i_A_houses i_fA_length i_B_tunes i_B_houses i_fB_length i_acts_done i_acts_undone i_kn_count f_boxes f_boxKept n_f_trial f_offers f_A_noteCounts f_A_notes f_B_noteCounts f_B_notes f_now_where f_now_worn f_ahead_where f_ahead_worn f_acts_rows f_kn_tunes f_kn_noteTimes J L) t.heap ∧ va_D (va_A (WX r ct i_tapeLength i_time i_lyingCount i_rd_fault i_rd_token i_rd_kind i_sc_count i_sc_at i_A_tunes i_A_houses i_fA_length i_B_tunes i_B_houses i_fB_length i_acts_done i_acts_undone i_kn_count f_boxes f_boxKept f_trial f_offers f_A_noteCounts f_A_notes f_B_noteCounts f_B_notes f_now_where f_now_worn f_ahead_where f_ahead_worn f_acts_rows f_kn_tunes f_kn_noteTimes J L) sz) (WX r ct i_tapeLength i_time i_lyingCount i_rd_fault i_rd_token i_rd_kind i_sc_count i_sc_at i_A_tunes i_A_houses i_fA_length i_B_tunes i_B_houses i_fB_length i_acts_done i_acts_undone i_kn_count f_boxes f_boxKept n_f_trial f_offers f_A_noteCounts f_A_notes f_B_noteCounts f_B_notes f_now_where f_now_worn f_ahead_where f_ahead_worn f_acts_rows f_kn_tunes f_kn_noteTimes J L) ∧ (IX i_tapeLength i_time i_lyingCount i_rd_token i_sc_count i_sc_at i_A_tunes i_A_houses i_fA_length i_B_tunes i_B_houses i_fB_length i_acts_done i_acts_undone i_kn_count f_boxes f_A_noteCounts f_A_notes f_B_noteCounts f_B_notes f_now_worn f_ahead_worn f_acts_rows f_kn_tunes) ∧ (RGP 0 i_A_houses.toInt 0 4 n_f_trial)) (va_A (WX r ct i_tapeLength i_time i_lyingCount i_rd_fault i_rd_token i_rd_kind i_sc_count i_sc_at i_A_tunes i_A_houses i_fA_length i_B_tunes i_B_houses i_fB_length i_acts_done i_acts_undone i_kn_count f_boxes f_boxKept f_trial f_offers f_A_noteCounts f_A_notes f_B_noteCounts f_B_notes f_now_where f_now_worn f_ahead_where f_ahead_worn f_acts_rows f_kn_tunes f_kn_noteTimes J L) sz)) 0 0 (va_A (WX r ct i_tapeLength i_time i_lyingCount i_rd_fault i_rd_token i_rd_kind i_sc_count i_sc_at i_A_tunes i_A_houses i_fA_length i_B_tunes i_B_houses i_fB_length i_acts_done i_acts_undone i_kn_count f_boxes f_boxKept f_trial f_offers f_A_noteCounts f_A_notes f_B_noteCounts f_B_notes f_now_where f_now_worn f_ahead_where f_ahead_worn f_acts_rows f_kn_tunes f_kn_noteTimes J L) sz) := by
  refine Met.ofW (cc := cX8_spread) (maxL := 5) (ret := none) (by decide) rfl ?_
  intro p e s m args below meth c0 s₁ B hml hv
  obtain ⟨rfl, hsz, hP, hK, hD0⟩ := hv
  have hx := B.exec
  have hb := B.bytes
  have hr := B.returns
  have hts := atoms_spec (ws := .code yX8_spread cX8_spread 5 none :: GW) B.pre
  have hG : ∀ w ∈ GW, w.before _ s = true := fun w h => hts w (List.mem_cons_of_mem _ h)
  have hown : s.vm.findClass RX8 = some m.cls := findClass_of_methodNamed B.named
  subst hsz
  have hD := hD0.self (sz := s.heap.size)
  generalize hAe : va_A (WX r ct i_tapeLength i_time i_lyingCount i_rd_fault i_rd_token i_rd_kind i_sc_count i_sc_at i_A_tunes i_A_houses i_fA_length i_B_tunes i_B_houses i_fB_length i_acts_done i_acts_undone i_kn_count f_boxes f_boxKept f_trial f_offers f_A_noteCounts f_A_notes f_B_noteCounts f_B_notes f_now_where f_now_worn f_ahead_where f_ahead_worn f_acts_rows f_kn_tunes f_kn_noteTimes J L) s.heap.size = A at hD ⊢
  have hA : ∀ q : Nat, s.heap.size ≤ q → A q := fun q h => by rw [← hAe]; exact Or.inr h
  have hS : va_S A s.heap s.heap [] := va_S.rf
  have hP : va_P (dC, dI) vwCl (WX r ct i_tapeLength i_time i_lyingCount i_rd_fault i_rd_token i_rd_kind i_sc_count i_sc_at i_A_tunes i_A_houses i_fA_length i_B_tunes i_B_houses i_fB_length i_acts_done i_acts_undone i_kn_count f_boxes f_boxKept f_trial f_offers f_A_noteCounts f_A_notes f_B_noteCounts f_B_notes f_now_where f_now_worn f_ahead_where f_ahead_worn f_acts_rows f_kn_tunes f_kn_noteTimes J L) s.heap := hP
  have hl := lv_entry ([.ref (r 0), .int p0, .int p1]) (n := 5) (Nat.le_of_ble_eq_true rfl)
  rw [lg_entry_eq]
  generalize (lg_sl ([.ref (r 0), .int p0, .int p1]) ++ List.replicate (5 - (lg_sl ([.ref (r 0), .int p0, .int p1])).length) Slot.unset).toArray = ls at hl ⊢
  have hl : lv_has ls 5 [(0, .ref (r 0)), (1, .int p0), (2, .int p1)] := hl
  refine nameQ (fun Q hQ => ?_)
  obtain ⟨ie0, ie1, ie2, ie3, ie4, ie5, ie6, ie7, ie8, ie9, ie10, ie11, ie12, ie13, ie14, ie15, ie16, ie17, ie18, ie19, ie20, ie21, ie22, ie23, ie24, ie25, ie26, ie27, ie28, ie29, ie30, ie31, ie32, ie33, ie34, ie35, ie36, ie37, ie38, ie39⟩ := id hI
  refine lv_iload_n hx hb dX8_spread_0 rfl (lv_at hl 1 rfl) ?_
  refine lv_istore_n (lv' := [(3, .int p0), (0, .ref (r 0)), (1, .int p0), (2, .int p1)]) hx hb dX8_spread_1 rfl hl (by decide) rfl (fun ls hl => ?_)
  refine lv_aload_n hx hb dX8_spread_2 rfl (lv_at hl 1 rfl) ?_
  refine gX_X8_23_0 hx hb hG hown hK hP dX8_spread_3 ?_
  refine gX_X8_99_3 hx hb hG hown hK hP dX8_spread_6 ?_
  refine lv_iconst (v := 1) hx hb dX8_spread_9 (by decide) ?_
  refine lv_isub hx hb dX8_spread_10 ?_
  refine lv_topi (fun x1 ex1 => ?_)
  have f2 : x1.toInt = i_A_houses.toInt + (-1) := (ox_167 (qi_sub ex1 rfl zc_1 (ox_345 ie14 ie15) (ox_346 ie14 ie15)))
  refine lv_istore (lv' := [(4, .int x1), (3, .int p0), (0, .ref (r 0)), (1, .int p0), (2, .int p1)]) hx hb dX8_spread_11 hl (by decide) rfl (fun ls hl => ?_)
  have L13 : ∀ (N13 : Nat) (y13_3 y13_4 : Int32) (m13_f_trial : Nat → Int32) (H13 : Heap) (locs : List Loc) (ls : Array Slot) (g13_0 : (0 : Int) ≤ y13_3.toInt) (g13_1 : (0 : Int) ≤ y13_4.toInt + 1) (g13_2 : y13_4.toInt ≤ (3 : Int)) (gr13_0 : RGP (y13_4.toInt + 1) i_A_houses.toInt 0 4 m13_f_trial) (hP : va_P (dC, dI) vwCl (WX r ct i_tapeLength i_time i_lyingCount i_rd_fault i_rd_token i_rd_kind i_sc_count i_sc_at i_A_tunes i_A_houses i_fA_length i_B_tunes i_B_houses i_fB_length i_acts_done i_acts_undone i_kn_count f_boxes f_boxKept m13_f_trial f_offers f_A_noteCounts f_A_notes f_B_noteCounts f_B_notes f_now_where f_now_worn f_ahead_where f_ahead_worn f_acts_rows f_kn_tunes f_kn_noteTimes J L) H13) (hD : va_D A (WX r ct i_tapeLength i_time i_lyingCount i_rd_fault i_rd_token i_rd_kind i_sc_count i_sc_at i_A_tunes i_A_houses i_fA_length i_B_tunes i_B_houses i_fB_length i_acts_done i_acts_undone i_kn_count f_boxes f_boxKept m13_f_trial f_offers f_A_noteCounts f_A_notes f_B_noteCounts f_B_notes f_now_where f_now_worn f_ahead_where f_ahead_worn f_acts_rows f_kn_tunes f_kn_noteTimes J L)) (hS : va_S A s.heap H13 locs) (hl : lv_has ls 5 [(0, .ref (r 0)), (1, .int p0), (2, .int p1), (3, .int y13_3), (4, .int y13_4)]) (hM : y13_4.toInt + 1 < (N13 : Int)), W p l e { frames := 2, cells := 0, slots := 0, locals := 100 } s m ([.ref (r 0), .int p0, .int p1] : List Value).toArray below meth c0 H13 locs 0 0 Q (F0 m 13 ls []) := by
    intro N13
    induction N13 with
    | zero =>
      intro y13_3 y13_4 m13_f_trial H13 locs ls g13_0 g13_1 g13_2 gr13_0 hP hD hS hl hM
      exact ((ox_347 hM g13_1 g13_2)).elim
    | succ N13 ih13 =>
      intro y13_3 y13_4 m13_f_trial H13 locs ls g13_0 g13_1 g13_2 gr13_0 hP hD hS hl hM
      have hM13 := msucc hM
      refine lv_iload hx hb dX8_spread_13 (lv_at hl 4 rfl) ?_
      refine lv_if_lt (tgt := 54) hx hb dX8_spread_15 (by decide) (fun c_3 => ?_) (fun c_3 => ?_)
      · skip
        have f4 : y13_4.toInt < 0 := qi_lt c_3 rfl zc_0
        rw [hQ]
        exact W.vret hx hb hr (fun t ht hW => ⟨⟨(), rfl, trivial, ⟨m13_f_trial, by rw [ht]; exact hP, hD, hI, (RGP_sub gr13_0 (ox_348 f4) (ox_349))⟩⟩, hS.F ht⟩) hS.2.2 dX8_spread_54
      · skip
        have f5 : 0 ≤ y13_4.toInt := qi_nlt c_3 rfl zc_0
        refine lv_aload_n hx hb dX8_spread_18 rfl (lv_at hl 0 rfl) ?_
        refine gX_X8_62_0 hx hb hG hown hK hP dX8_spread_19 ?_
        refine lv_iload hx hb dX8_spread_22 (lv_at hl 4 rfl) ?_
        refine lv_iload_n hx hb dX8_spread_24 rfl (lv_at hl 2 rfl) ?_
        refine lv_if_le (tgt := 34) hx hb dX8_spread_25 (by decide) (fun c_6 => ?_) (fun c_6 => ?_)
        · skip
          have f7 : p1.toInt ≤ 0 := qi_le c_6 rfl zc_0
          refine lv_iconst (v := 0) hx hb dX8_spread_34 (by decide) ?_
          refine stX_15 (mm := y13_4.toInt) hx hb hK hP hD hS rfl (ox_350 f5) (ox_351 g13_2) dX8_spread_35 (fun z9 H8 locs ez9 hP hD hS => ?_)
          refine lv_iload_n hx hb dX8_spread_36 rfl (lv_at hl 2 rfl) ?_
          refine lv_if_le (tgt := 46) hx hb dX8_spread_37 (by decide) (fun c_10 => ?_) (fun c_10 => ((ox_428 (qi_nle c_10 rfl zc_0) hp1 f7)).elim)
          have f11 : p1.toInt ≤ 0 := qi_le c_10 rfl zc_0
          refine lv_iconst (v := 0) hx hb dX8_spread_46 (by decide) ?_
          refine lv_istore_n (lv' := [(3, .int 0), (0, .ref (r 0)), (1, .int p0), (2, .int p1), (4, .int y13_4)]) hx hb dX8_spread_47 rfl hl (by decide) rfl (fun ls hl => ?_)
          obtain ⟨x12, ex12⟩ : ∃ y : Int32, y = y13_4 + Int32.ofInt (-1) := ⟨_, rfl⟩
          have f13 : x12.toInt = y13_4.toInt + (-1) := (ox_152 (qi_add ex12 rfl (by decide) (ox_353 g13_1) (ox_354 g13_2)))
          refine lv_iinc (v := x12) (lv' := [(4, .int x12), (3, .int 0), (0, .ref (r 0)), (1, .int p0), (2, .int p1)]) hx hb dX8_spread_48 hl (k := 4) rfl ex12.symm (by decide) rfl (fun ls hl => ?_)
          refine lv_goto (tgt := 13) hx hb dX8_spread_51 (by decide) ?_
          exact ih13 0 x12 z9 H8 _ _ (ox_27 zc_0) (ox_355 f5 f13) (ox_356 g13_2 f13) (RGP_dn gr13_0 ez9 (ox_350 f5) (ox_357) (ox_358 f13) (ox_359 zc_0) (ox_429 zc_0)) hP hD hS (lv_sub hl [2, 3, 4, 1, 0] rfl) (ox_361 hM13 f13)
        · skip
          have f14 : 0 < p1.toInt := qi_nle c_6 rfl zc_0
          refine lv_iload_n hx hb dX8_spread_28 rfl (lv_at hl 3 rfl) ?_
          refine lv_iload_n hx hb dX8_spread_29 rfl (lv_at hl 2 rfl) ?_
          refine lv_irem hx hb dX8_spread_30 (qi_nz (ox_430 hp1 f14)) ?_
          refine lv_topi (fun x15 ex15 => ?_)
          have f16 : 0 ≤ x15.toInt ∧ x15.toInt < p1.toInt ∧ x15.toInt ≤ y13_3.toInt := qi_rem ex15 rfl rfl (ox_9 g13_0) (ox_430 hp1 f14)
          have f17 : x15.toInt = (y13_3.toInt % p1.toInt) := remnn ex15 rfl rfl (ox_363 g13_0 f16) (ox_431 hp1 f14 f16)
          refine lv_goto (tgt := 35) hx hb dX8_spread_31 (by decide) ?_
          refine stX_15 (mm := y13_4.toInt) hx hb hK hP hD hS rfl (ox_350 f5) (ox_351 g13_2) dX8_spread_35 (fun z19 H18 locs ez19 hP hD hS => ?_)
          refine lv_iload_n hx hb dX8_spread_36 rfl (lv_at hl 2 rfl) ?_
          refine lv_if_le (tgt := 46) hx hb dX8_spread_37 (by decide) (fun c_20 => ((ox_432 (qi_le c_20 rfl zc_0) hp1 f14 f16 f17)).elim) (fun c_20 => ?_)
          have f21 : 0 < p1.toInt := qi_nle c_20 rfl zc_0
          refine lv_iload_n hx hb dX8_spread_40 rfl (lv_at hl 3 rfl) ?_
          refine lv_iload_n hx hb dX8_spread_41 rfl (lv_at hl 2 rfl) ?_
          refine lv_idiv hx hb dX8_spread_42 (qi_nz (ox_366 f14)) ?_
          refine lv_topi (fun x22 ex22 => ?_)
          have f23 : 0 ≤ x22.toInt ∧ x22.toInt ≤ y13_3.toInt := qi_div ex22 rfl rfl (ox_367 g13_0 f16 f17) (ox_366 f14)
          have f24 : x22.toInt = (y13_3.toInt / p1.toInt) := divnn ex22 rfl rfl (ox_368 g13_0 f16 f23 f17) (ox_366 f14)
          refine lv_goto (tgt := 47) hx hb dX8_spread_43 (by decide) ?_
          refine lv_istore_n (lv' := [(3, .int x22), (0, .ref (r 0)), (1, .int p0), (2, .int p1), (4, .int y13_4)]) hx hb dX8_spread_47 rfl hl (by decide) rfl (fun ls hl => ?_)
          obtain ⟨x25, ex25⟩ : ∃ y : Int32, y = y13_4 + Int32.ofInt (-1) := ⟨_, rfl⟩
          have f26 : x25.toInt = y13_4.toInt + (-1) := (ox_152 (qi_add ex25 rfl (by decide) (ox_353 g13_1) (ox_354 g13_2)))
          refine lv_iinc (v := x25) (lv' := [(4, .int x25), (3, .int x22), (0, .ref (r 0)), (1, .int p0), (2, .int p1)]) hx hb dX8_spread_48 hl (k := 4) rfl ex25.symm (by decide) rfl (fun ls hl => ?_)
          refine lv_goto (tgt := 13) hx hb dX8_spread_51 (by decide) ?_
          exact ih13 x22 x25 z19 H18 _ _ (ox_369 f23 f24) (ox_355 f5 f26) (ox_356 g13_2 f26) (RGP_dn gr13_0 ez19 (ox_350 f5) (ox_357) (ox_358 f26) (ox_370 f16 f17) (ox_433 hp1 f16 f17)) hP hD hS (lv_sub hl [2, 3, 4, 1, 0] rfl) (ox_361 hM13 f26)
  exact L13 (x1.toInt + 1 + 1).toNat p0 x1 f_trial s.heap _ _ (ox_6 hp0) (ox_372 ie14 ie15 f2) (ox_373 ie14 ie15 f2) (RGP_nil (ox_374 f2)) hP hD hS (lv_sub hl [2, 3, 4, 1, 0] rfl) (mlt (ox_375 ie14 ie15 f2))
set_option maxHeartbeats 4000000 in
set_option maxRecDepth 100000 in
theorem kX8_rate (l : Launch) (dC : Nat → ClassId) (dI : Nat → Nat → Nat) (r : Nat → Nat) (ct : Nat → ClassId) (i_tapeLength i_time i_lyingCount i_rd_fault i_rd_token i_rd_kind i_sc_count i_sc_at i_A_tunes i_A_houses i_fA_length i_B_tunes i_B_houses i_fB_length i_acts_done i_acts_undone i_kn_count : Int32) (f_boxes f_boxKept f_trial f_offers f_A_noteCounts f_A_notes f_B_noteCounts f_B_notes f_now_where f_now_worn f_ahead_where f_ahead_worn f_acts_rows f_kn_tunes f_kn_noteTimes : Nat → Int32) (J : Nat → Nat → Int32) (L : Nat → Nat → Int64) (p0 p1 : Int32) (sz : Nat) (hI : (IX i_tapeLength i_time i_lyingCount i_rd_token i_sc_count i_sc_at i_A_tunes i_A_houses i_fA_length i_B_tunes i_B_houses i_fB_length i_acts_done i_acts_undone i_kn_count f_boxes f_A_noteCounts f_A_notes f_B_noteCounts f_B_notes f_now_worn f_ahead_worn f_acts_rows f_kn_tunes)) (hp0 : (0 : Int) ≤ p0.toInt) (hp1 : p0.toInt ≤ (3 : Int)) (hp2 : (0 : Int) ≤ p1.toInt) (hp3 : p1.toInt ≤ (4 : Int)) : Met l yX8_rate (.code yX8_rate cX8_rate 3 (some .int) :: GW) { frames := 2, cells := 0, slots := 0, locals := 100 } (va_Pc [.ref (r 0), .int p0, .int p1] (pR (dC, dI) (WX r ct i_tapeLength i_time i_lyingCount i_rd_fault i_rd_token i_rd_kind i_sc_count i_sc_at i_A_tunes i_A_houses i_fA_length i_B_tunes i_B_houses i_fB_length i_acts_done i_acts_undone i_kn_count f_boxes f_boxKept f_trial f_offers f_A_noteCounts f_A_notes f_B_noteCounts f_B_notes f_now_where f_now_worn f_ahead_where f_ahead_worn f_acts_rows f_kn_tunes f_kn_noteTimes J L) (TX ct) sz)) (va_Qi (fun (r0 : Int32) (u : Int32) => r0 = u) (fun (u : Int32) (t : State) => True) (fun q => sz ≤ q)) 0 0 (fun q => sz ≤ q) := by
  refine Met.ofW (cc := cX8_rate) (maxL := 3) (ret := (some .int)) (by decide) rfl ?_
  intro p e s m args below meth c0 s₁ B hml hv
  obtain ⟨rfl, hsz, hP, hK⟩ := hv
  have hx := B.exec
  have hb := B.bytes
  have hr := B.returns
  have hts := atoms_spec (ws := .code yX8_rate cX8_rate 3 (some .int) :: GW) B.pre
  have hG : ∀ w ∈ GW, w.before _ s = true := fun w h => hts w (List.mem_cons_of_mem _ h)
  have hown : s.vm.findClass RX8 = some m.cls := findClass_of_methodNamed B.named
  subst hsz
  have hS : va_S (fun q => s.heap.size ≤ q) s.heap s.heap [] := va_S.rf
  have hP : va_P (dC, dI) vwCl (WX r ct i_tapeLength i_time i_lyingCount i_rd_fault i_rd_token i_rd_kind i_sc_count i_sc_at i_A_tunes i_A_houses i_fA_length i_B_tunes i_B_houses i_fB_length i_acts_done i_acts_undone i_kn_count f_boxes f_boxKept f_trial f_offers f_A_noteCounts f_A_notes f_B_noteCounts f_B_notes f_now_where f_now_worn f_ahead_where f_ahead_worn f_acts_rows f_kn_tunes f_kn_noteTimes J L) s.heap := hP
  have hl := lv_entry ([.ref (r 0), .int p0, .int p1]) (n := 3) (Nat.le_of_ble_eq_true rfl)
  rw [lg_entry_eq]
  generalize (lg_sl ([.ref (r 0), .int p0, .int p1]) ++ List.replicate (3 - (lg_sl ([.ref (r 0), .int p0, .int p1])).length) Slot.unset).toArray = ls at hl ⊢
  have hl : lv_has ls 3 [(0, .ref (r 0)), (1, .int p0), (2, .int p1)] := hl
  refine nameQ (fun Q hQ => ?_)
  obtain ⟨ie0, ie1, ie2, ie3, ie4, ie5, ie6, ie7, ie8, ie9, ie10, ie11, ie12, ie13, ie14, ie15, ie16, ie17, ie18, ie19, ie20, ie21, ie22, ie23, ie24, ie25, ie26, ie27, ie28, ie29, ie30, ie31, ie32, ie33, ie34, ie35, ie36, ie37, ie38, ie39⟩ := id hI
  refine lv_aload_n hx hb dX8_rate_0 rfl (lv_at hl 0 rfl) ?_
  refine gX_X8_68_0 hx hb hG hown hK hP dX8_rate_1 ?_
  refine lv_iload_n hx hb dX8_rate_4 rfl (lv_at hl 1 rfl) ?_
  refine lv_iconst (v := 5) hx hb dX8_rate_5 (by decide) ?_
  refine lv_imul hx hb dX8_rate_6 ?_
  refine lv_topi (fun x1 ex1 => ?_)
  have f2 : x1.toInt = 5 * p0.toInt := (ox_422 (qi_mul ex1 rfl zc_5 (ox_434 hp0 hp1) (ox_435 hp0 hp1)))
  refine lv_iload_n hx hb dX8_rate_7 rfl (lv_at hl 2 rfl) ?_
  refine lv_iadd hx hb dX8_rate_8 ?_
  refine lv_topi (fun x3 ex3 => ?_)
  have f4 : x3.toInt = p1.toInt + 5 * p0.toInt := (ox_425 (qi_add ex3 rfl rfl (ox_423 hp0 hp2 f2) (ox_436 hp1 hp3 f2)) f2)
  refine ldX_17 (mm := p1.toInt + 5 * p0.toInt) hx hb hK hP f4 (ox_426 hp0 hp2) (ox_437 hp1 hp3) dX8_rate_9 (fun x5 => ?_)
  rw [hQ]
  exact W.iret (v := x5) hx hb hr (fun t ht hW => ⟨⟨x5, x5, rfl, rfl, trivial⟩, hS.F ht⟩) hS.2.2 dX8_rate_10
set_option maxHeartbeats 4000000 in
set_option maxRecDepth 100000 in
theorem kX8_trialIsBarter (l : Launch) (dC : Nat → ClassId) (dI : Nat → Nat → Nat) (r : Nat → Nat) (ct : Nat → ClassId) (i_tapeLength i_time i_lyingCount i_rd_fault i_rd_token i_rd_kind i_sc_count i_sc_at i_A_tunes i_A_houses i_fA_length i_B_tunes i_B_houses i_fB_length i_acts_done i_acts_undone i_kn_count : Int32) (f_boxes f_boxKept f_trial f_offers f_A_noteCounts f_A_notes f_B_noteCounts f_B_notes f_now_where f_now_worn f_ahead_where f_ahead_worn f_acts_rows f_kn_tunes f_kn_noteTimes : Nat → Int32) (J : Nat → Nat → Int32) (L : Nat → Nat → Int64) (sz : Nat) (hI : (IX i_tapeLength i_time i_lyingCount i_rd_token i_sc_count i_sc_at i_A_tunes i_A_houses i_fA_length i_B_tunes i_B_houses i_fB_length i_acts_done i_acts_undone i_kn_count f_boxes f_A_noteCounts f_A_notes f_B_noteCounts f_B_notes f_now_worn f_ahead_worn f_acts_rows f_kn_tunes)) (hp0 : RGP 0 i_A_houses.toInt 0 4 f_trial) (hp1 : RGP 0 i_A_houses.toInt (-1) 4 f_offers) : Met l yX8_trialIsBarter (.code yX8_trialIsBarter cX8_trialIsBarter 4 (some .boolean) :: GW) { frames := 6, cells := 0, slots := 0, locals := 222 } (va_Pc [.ref (r 0)] (pW (dC, dI) (WX r ct i_tapeLength i_time i_lyingCount i_rd_fault i_rd_token i_rd_kind i_sc_count i_sc_at i_A_tunes i_A_houses i_fA_length i_B_tunes i_B_houses i_fB_length i_acts_done i_acts_undone i_kn_count f_boxes f_boxKept f_trial f_offers f_A_noteCounts f_A_notes f_B_noteCounts f_B_notes f_now_where f_now_worn f_ahead_where f_ahead_worn f_acts_rows f_kn_tunes f_kn_noteTimes J L) (TX ct) sz)) (va_Qi (fun (r0 : Int32) (u : Int32) => r0 = u) (fun (u : Int32) (t : State) => ∃ (n_f_trial : Nat → Int32), va_P (dC, dI) vwCl (WX r ct i_tapeLength i_time i_lyingCount i_rd_fault i_rd_token i_rd_kind i_sc_count i_sc_at i_A_tunes i_A_houses i_fA_length i_B_tunes i_B_houses i_fB_length i_acts_done i_acts_undone i_kn_count f_boxes f_boxKept n_f_trial f_offers f_A_noteCounts f_A_notes f_B_noteCounts f_B_notes f_now_where f_now_worn f_ahead_where f_ahead_worn f_acts_rows f_kn_tunes f_kn_noteTimes J L) t.heap ∧ va_D (va_A (WX r ct i_tapeLength i_time i_lyingCount i_rd_fault i_rd_token i_rd_kind i_sc_count i_sc_at i_A_tunes i_A_houses i_fA_length i_B_tunes i_B_houses i_fB_length i_acts_done i_acts_undone i_kn_count f_boxes f_boxKept f_trial f_offers f_A_noteCounts f_A_notes f_B_noteCounts f_B_notes f_now_where f_now_worn f_ahead_where f_ahead_worn f_acts_rows f_kn_tunes f_kn_noteTimes J L) sz) (WX r ct i_tapeLength i_time i_lyingCount i_rd_fault i_rd_token i_rd_kind i_sc_count i_sc_at i_A_tunes i_A_houses i_fA_length i_B_tunes i_B_houses i_fB_length i_acts_done i_acts_undone i_kn_count f_boxes f_boxKept n_f_trial f_offers f_A_noteCounts f_A_notes f_B_noteCounts f_B_notes f_now_where f_now_worn f_ahead_where f_ahead_worn f_acts_rows f_kn_tunes f_kn_noteTimes J L) ∧ (IX i_tapeLength i_time i_lyingCount i_rd_token i_sc_count i_sc_at i_A_tunes i_A_houses i_fA_length i_B_tunes i_B_houses i_fB_length i_acts_done i_acts_undone i_kn_count f_boxes f_A_noteCounts f_A_notes f_B_noteCounts f_B_notes f_now_worn f_ahead_worn f_acts_rows f_kn_tunes) ∧ (((u.toInt = (1 : Int))) ∨ ((u.toInt = (0 : Int)))) ∧ ((0 : Int) ≤ u.toInt) ∧ (u.toInt ≤ (1 : Int))) (va_A (WX r ct i_tapeLength i_time i_lyingCount i_rd_fault i_rd_token i_rd_kind i_sc_count i_sc_at i_A_tunes i_A_houses i_fA_length i_B_tunes i_B_houses i_fB_length i_acts_done i_acts_undone i_kn_count f_boxes f_boxKept f_trial f_offers f_A_noteCounts f_A_notes f_B_noteCounts f_B_notes f_now_where f_now_worn f_ahead_where f_ahead_worn f_acts_rows f_kn_tunes f_kn_noteTimes J L) sz)) 0 0 (va_A (WX r ct i_tapeLength i_time i_lyingCount i_rd_fault i_rd_token i_rd_kind i_sc_count i_sc_at i_A_tunes i_A_houses i_fA_length i_B_tunes i_B_houses i_fB_length i_acts_done i_acts_undone i_kn_count f_boxes f_boxKept f_trial f_offers f_A_noteCounts f_A_notes f_B_noteCounts f_B_notes f_now_where f_now_worn f_ahead_where f_ahead_worn f_acts_rows f_kn_tunes f_kn_noteTimes J L) sz) := by
  refine Met.ofW (cc := cX8_trialIsBarter) (maxL := 4) (ret := (some .boolean)) (by decide) rfl ?_
  intro p e s m args below meth c0 s₁ B hml hv
  obtain ⟨rfl, hsz, hP, hK, hD0⟩ := hv
  have hx := B.exec
  have hb := B.bytes
  have hr := B.returns
  have hts := atoms_spec (ws := .code yX8_trialIsBarter cX8_trialIsBarter 4 (some .boolean) :: GW) B.pre
  have hG : ∀ w ∈ GW, w.before _ s = true := fun w h => hts w (List.mem_cons_of_mem _ h)
  have hown : s.vm.findClass RX8 = some m.cls := findClass_of_methodNamed B.named
  subst hsz
  have hD := hD0.self (sz := s.heap.size)
  generalize hAe : va_A (WX r ct i_tapeLength i_time i_lyingCount i_rd_fault i_rd_token i_rd_kind i_sc_count i_sc_at i_A_tunes i_A_houses i_fA_length i_B_tunes i_B_houses i_fB_length i_acts_done i_acts_undone i_kn_count f_boxes f_boxKept f_trial f_offers f_A_noteCounts f_A_notes f_B_noteCounts f_B_notes f_now_where f_now_worn f_ahead_where f_ahead_worn f_acts_rows f_kn_tunes f_kn_noteTimes J L) s.heap.size = A at hD ⊢
  have hA : ∀ q : Nat, s.heap.size ≤ q → A q := fun q h => by rw [← hAe]; exact Or.inr h
  have hS : va_S A s.heap s.heap [] := va_S.rf
  have hP : va_P (dC, dI) vwCl (WX r ct i_tapeLength i_time i_lyingCount i_rd_fault i_rd_token i_rd_kind i_sc_count i_sc_at i_A_tunes i_A_houses i_fA_length i_B_tunes i_B_houses i_fB_length i_acts_done i_acts_undone i_kn_count f_boxes f_boxKept f_trial f_offers f_A_noteCounts f_A_notes f_B_noteCounts f_B_notes f_now_where f_now_worn f_ahead_where f_ahead_worn f_acts_rows f_kn_tunes f_kn_noteTimes J L) s.heap := hP
  have hl := lv_entry ([.ref (r 0)]) (n := 4) (Nat.le_of_ble_eq_true rfl)
  rw [lg_entry_eq]
  generalize (lg_sl ([.ref (r 0)]) ++ List.replicate (4 - (lg_sl ([.ref (r 0)])).length) Slot.unset).toArray = ls at hl ⊢
  have hl : lv_has ls 4 [(0, .ref (r 0))] := hl
  refine nameQ (fun Q hQ => ?_)
  obtain ⟨ie0, ie1, ie2, ie3, ie4, ie5, ie6, ie7, ie8, ie9, ie10, ie11, ie12, ie13, ie14, ie15, ie16, ie17, ie18, ie19, ie20, ie21, ie22, ie23, ie24, ie25, ie26, ie27, ie28, ie29, ie30, ie31, ie32, ie33, ie34, ie35, ie36, ie37, ie38, ie39⟩ := id hI
  refine lv_iconst (v := 0) hx hb dX8_trialIsBarter_0 (by decide) ?_
  refine lv_istore_n (lv' := [(1, .int 0), (0, .ref (r 0))]) hx hb dX8_trialIsBarter_1 rfl hl (by decide) rfl (fun ls hl => ?_)
  refine lv_iconst (v := 0) hx hb dX8_trialIsBarter_2 (by decide) ?_
  refine lv_istore_n (lv' := [(2, .int 0), (1, .int 0), (0, .ref (r 0))]) hx hb dX8_trialIsBarter_3 rfl hl (by decide) rfl (fun ls hl => ?_)
  have L4 : ∀ (N4 : Nat) (y4_1 y4_2 : Int32) (m4_f_trial : Nat → Int32) (H4 : Heap) (locs : List Loc) (ls : Array Slot) (g4_0 : (0 : Int) ≤ y4_2.toInt) (g4_1 : y4_2.toInt ≤ (4 : Int)) (gr4_0 : RGP y4_2.toInt i_A_houses.toInt 0 4 m4_f_trial) (hP : va_P (dC, dI) vwCl (WX r ct i_tapeLength i_time i_lyingCount i_rd_fault i_rd_token i_rd_kind i_sc_count i_sc_at i_A_tunes i_A_houses i_fA_length i_B_tunes i_B_houses i_fB_length i_acts_done i_acts_undone i_kn_count f_boxes f_boxKept m4_f_trial f_offers f_A_noteCounts f_A_notes f_B_noteCounts f_B_notes f_now_where f_now_worn f_ahead_where f_ahead_worn f_acts_rows f_kn_tunes f_kn_noteTimes J L) H4) (hD : va_D A (WX r ct i_tapeLength i_time i_lyingCount i_rd_fault i_rd_token i_rd_kind i_sc_count i_sc_at i_A_tunes i_A_houses i_fA_length i_B_tunes i_B_houses i_fB_length i_acts_done i_acts_undone i_kn_count f_boxes f_boxKept m4_f_trial f_offers f_A_noteCounts f_A_notes f_B_noteCounts f_B_notes f_now_where f_now_worn f_ahead_where f_ahead_worn f_acts_rows f_kn_tunes f_kn_noteTimes J L)) (hS : va_S A s.heap H4 locs) (hl : lv_has ls 4 [(0, .ref (r 0)), (1, .int y4_1), (2, .int y4_2)]) (hM : -1 * y4_2.toInt + 4 < (N4 : Int)), W p l e { frames := 6, cells := 0, slots := 0, locals := 222 } s m ([.ref (r 0)] : List Value).toArray below meth c0 H4 locs 0 0 Q (F0 m 4 ls []) := by
    intro N4
    induction N4 with
    | zero =>
      intro y4_1 y4_2 m4_f_trial H4 locs ls g4_0 g4_1 gr4_0 hP hD hS hl hM
      exact ((ox_218 hM g4_0 g4_1)).elim
    | succ N4 ih4 =>
      intro y4_1 y4_2 m4_f_trial H4 locs ls g4_0 g4_1 gr4_0 hP hD hS hl hM
      have hM4 := msucc hM
      refine lv_iload_n hx hb dX8_trialIsBarter_4 rfl (lv_at hl 2 rfl) ?_
      refine lv_aload_n hx hb dX8_trialIsBarter_5 rfl (lv_at hl 0 rfl) ?_
      refine gX_X8_23_0 hx hb hG hown hK hP dX8_trialIsBarter_6 ?_
      refine gX_X8_99_3 hx hb hG hown hK hP dX8_trialIsBarter_9 ?_
      refine lv_icmp_ge (tgt := 101) hx hb dX8_trialIsBarter_12 (by decide) (fun c_1 => ?_) (fun c_1 => ?_)
      · skip
        have f2 : i_A_houses.toInt ≤ y4_2.toInt := qi_le c_1 rfl rfl
        refine lv_iconst (v := 1) hx hb dX8_trialIsBarter_101 (by decide) ?_
        rw [hQ]
        exact W.zret (v := 1) hx hb hr (by decide) (fun t ht hW => ⟨⟨1, 1, rfl, rfl, ⟨m4_f_trial, by rw [ht]; exact hP, hD, hI, (ox_113 zc_1), (ox_31 zc_1), (ox_32 zc_1)⟩⟩, hS.F ht⟩) hS.2.2 dX8_trialIsBarter_102
      · skip
        have f3 : y4_2.toInt < i_A_houses.toInt := qi_nle c_1 rfl rfl
        refine lv_aload_n hx hb dX8_trialIsBarter_15 rfl (lv_at hl 0 rfl) ?_
        refine gX_X8_62_0 hx hb hG hown hK hP dX8_trialIsBarter_16 ?_
        refine lv_iload_n hx hb dX8_trialIsBarter_19 rfl (lv_at hl 2 rfl) ?_
        refine ldX_15 (mm := y4_2.toInt) hx hb hK hP rfl (ox_9 g4_0) (ox_376 ie15 f3) dX8_trialIsBarter_20 ?_
        have f4 : y4_2.toInt ≤ y4_2.toInt → y4_2.toInt < i_A_houses.toInt → 0 ≤ (m4_f_trial (y4_2.toInt).toNat).toInt ∧ (m4_f_trial (y4_2.toInt).toNat).toInt ≤ 4 := gr4_0 (y4_2.toInt)
        have f5 : (y4_2.toInt + 1 ≤ i_A_houses.toInt) → (((0 : Int) ≤ (m4_f_trial (y4_2.toInt).toNat).toInt) ∧ ((m4_f_trial (y4_2.toInt).toNat).toInt ≤ (4 : Int))) := (ox_438 f4)
        have f6 : (0 : Int) ≤ (m4_f_trial (y4_2.toInt).toNat).toInt := (ox_439 f3 f4)
        have f7 : (m4_f_trial (y4_2.toInt).toNat).toInt ≤ (4 : Int) := (ox_440 f3 f4)
        refine lv_istore_n (lv' := [(3, .int (m4_f_trial (y4_2.toInt).toNat)), (0, .ref (r 0)), (1, .int y4_1), (2, .int y4_2)]) hx hb dX8_trialIsBarter_21 rfl hl (by decide) rfl (fun ls hl => ?_)
        refine lv_aload_n hx hb dX8_trialIsBarter_22 rfl (lv_at hl 1 rfl) ?_
        refine gX_X8_65_0 hx hb hG hown hK hP dX8_trialIsBarter_23 ?_
        refine lv_iload_n hx hb dX8_trialIsBarter_26 rfl (lv_at hl 3 rfl) ?_
        refine ldX_16 (mm := y4_2.toInt) hx hb hK hP rfl (ox_9 g4_0) (ox_376 ie15 f3) dX8_trialIsBarter_27 ?_
        have f8 : 0 ≤ y4_2.toInt → y4_2.toInt < i_A_houses.toInt → (-1) ≤ (f_offers (y4_2.toInt).toNat).toInt ∧ (f_offers (y4_2.toInt).toNat).toInt ≤ 4 := hp1 (y4_2.toInt)
        have f9 : (y4_2.toInt + 1 ≤ i_A_houses.toInt) → (((0 : Int) ≤ (f_offers (y4_2.toInt).toNat).toInt + 1) ∧ ((f_offers (y4_2.toInt).toNat).toInt ≤ (4 : Int))) := (ox_441 g4_0 f8)
        have f10 : (0 : Int) ≤ (f_offers (y4_2.toInt).toNat).toInt + 1 := (ox_442 g4_0 f3 f8)
        have f11 : (f_offers (y4_2.toInt).toNat).toInt ≤ (4 : Int) := (ox_443 g4_0 f3 f8)
        refine lv_iconst (v := (-1)) hx hb dX8_trialIsBarter_28 (by decide) ?_
        refine lv_icmp_ne (tgt := 48) hx hb dX8_trialIsBarter_29 (by decide) (fun c_12 => ?_) (fun c_12 => ?_)
        · skip
          have f13 : (f_offers (y4_2.toInt).toNat).toInt ≠ (-1) := qi_ne c_12 rfl zc_m1
          have f14 : (0 : Int) ≤ (f_offers (y4_2.toInt).toNat).toInt := (ox_222 f10 f13)
          refine lv_iload_n hx hb dX8_trialIsBarter_48 rfl (lv_at hl 2 rfl) ?_
          refine lv_iload_n hx hb dX8_trialIsBarter_49 rfl (lv_at hl 0 rfl) ?_
          refine va_calli (va_runS (As := [.int y4_1, .int (m4_f_trial (y4_2.toInt).toNat)]) (rest := []) ⟨hx, hb, hml, hown, hG⟩ (kX8_holds l dC dI y4_1 (m4_f_trial (y4_2.toInt).toNat) H4.size) (va_cwS 2 hG (goodS gw911 gw912 gw129 gw913) rfl rfl rfl hd_X8_holds ⟨(Nat.le_of_ble_eq_true rfl), (Nat.le_of_ble_eq_true rfl)⟩) ⟨fbR, pR_in emptyP (emptyK hK)⟩ rfl rfl hl.1 rfl (lv_room (Nat.le_of_ble_eq_true rfl)) dX8_trialIsBarter_50 ⟨(Nat.le_of_ble_eq_true rfl), (Nat.le_of_ble_eq_true rfl)⟩) hS (fun q hq h => absurd hq (Nat.not_lt.mpr h)) (fun q h => hA q (Nat.le_trans hS.1 h)) (fun r_16 u_ t_ H15 locs ht hvm hw hB hz1 hk1 hS => ?_)
          subst hw
          have hP := wk hP hk1
          obtain ⟨f17, f18, f19⟩ := hB
          refine lv_if_ne (tgt := 87) hx hb dX8_trialIsBarter_53 (by decide) (fun c_20 => ?_) (fun c_20 => ?_)
          · skip
            have f21 : r_16.toInt ≠ 0 := qi_ne c_20 rfl zc_0
            have f22 : r_16.toInt = (1 : Int) := (ox_91 f17 f21)
            have f23 : (1 : Int) ≤ r_16.toInt := (ox_53 f18 f19 f22)
            refine lv_iconst (v := 0) hx hb dX8_trialIsBarter_87 (by decide) ?_
            rw [hQ]
            exact W.zret (v := 0) hx hb hr (by decide) (fun t ht hW => ⟨⟨0, 0, rfl, rfl, ⟨m4_f_trial, by rw [ht]; exact hP, hD, hI, (ox_124 zc_0), (ox_27 zc_0), (ox_28 zc_0)⟩⟩, hS.F ht⟩) hS.2.2 dX8_trialIsBarter_88
          · skip
            have f24 : r_16.toInt = 0 := qi_eq c_20 rfl zc_0
            have f25 : r_16.toInt = (0 : Int) := (ox_92 f18 f19 f24)
            refine lv_aload_n hx hb dX8_trialIsBarter_56 rfl (lv_at hl 1 rfl) ?_
            refine gX_X8_30_0 hx hb hG hown hK hP dX8_trialIsBarter_57 ?_
            refine lv_iload_n hx hb dX8_trialIsBarter_60 rfl (lv_at hl 0 rfl) ?_
            refine va_calli (va_runV (As := [.int (m4_f_trial (y4_2.toInt).toNat)]) (rest := []) ⟨hx, hb, hml, hown, hG⟩ (kX7_isOnApproval l dC dI r ct i_tapeLength i_time i_lyingCount i_rd_fault i_rd_token i_rd_kind i_sc_count i_sc_at i_A_tunes i_A_houses i_fA_length i_B_tunes i_B_houses i_fB_length i_acts_done i_acts_undone i_kn_count f_boxes f_boxKept m4_f_trial f_offers f_A_noteCounts f_A_notes f_B_noteCounts f_B_notes f_now_where f_now_worn f_ahead_where f_ahead_worn f_acts_rows f_kn_tunes f_kn_noteTimes J L (m4_f_trial (y4_2.toInt).toNat) H15.size hI (ox_103 f6 f7) (ox_104 f6 f7)) (cwV 1 hG (goodV gw741 gw742 gw743 gw134 gw744) rfl rfl rfl hd_X7_isOnApproval ⟨(Nat.le_of_ble_eq_true rfl), (Nat.le_of_ble_eq_true rfl)⟩) ⟨fbR, va_recv hK hP (ci := 6) (q0 := 7) rfl rfl, pR_in hP hK⟩ rfl rfl hl.1 rfl (lv_room (Nat.le_of_ble_eq_true rfl)) dX8_trialIsBarter_61 ⟨(Nat.le_of_ble_eq_true rfl), (Nat.le_of_ble_eq_true rfl)⟩) hS (fun q hq h => absurd hq (Nat.not_lt.mpr h)) (fun q h => hA q (Nat.le_trans hS.1 h)) (fun r_27 u_ t_ H26 locs ht hvm hw hB hz1 hk1 hS => ?_)
            subst hw
            have hP := wk hP hk1
            obtain ⟨f28, f29, f30⟩ := hB
            refine lv_if_eq (tgt := 87) hx hb dX8_trialIsBarter_64 (by decide) (fun c_31 => ?_) (fun c_31 => ?_)
            · skip
              have f32 : r_27.toInt = 0 := qi_eq c_31 rfl zc_0
              have f33 : r_27.toInt = (0 : Int) := (ox_92 f29 f30 f32)
              refine lv_iconst (v := 0) hx hb dX8_trialIsBarter_87 (by decide) ?_
              rw [hQ]
              exact W.zret (v := 0) hx hb hr (by decide) (fun t ht hW => ⟨⟨0, 0, rfl, rfl, ⟨m4_f_trial, by rw [ht]; exact hP, hD, hI, (ox_124 zc_0), (ox_27 zc_0), (ox_28 zc_0)⟩⟩, hS.F ht⟩) hS.2.2 dX8_trialIsBarter_88
            · skip
              have f34 : r_27.toInt ≠ 0 := qi_ne c_31 rfl zc_0
              have f35 : r_27.toInt = (1 : Int) := (ox_91 f28 f34)
              have f36 : (1 : Int) ≤ r_27.toInt := (ox_53 f29 f30 f35)
              refine lv_aload_n hx hb dX8_trialIsBarter_67 rfl (lv_at hl 1 rfl) ?_
              refine lv_iload_n hx hb dX8_trialIsBarter_68 rfl (lv_at hl 3 rfl) ?_
              refine lv_iload_n hx hb dX8_trialIsBarter_69 rfl (lv_at hl 0 rfl) ?_
              refine va_calli (va_runV (As := [.int y4_2, .int (m4_f_trial (y4_2.toInt).toNat)]) (rest := []) ⟨hx, hb, hml, hown, hG⟩ (kX8_rate l dC dI r ct i_tapeLength i_time i_lyingCount i_rd_fault i_rd_token i_rd_kind i_sc_count i_sc_at i_A_tunes i_A_houses i_fA_length i_B_tunes i_B_houses i_fB_length i_acts_done i_acts_undone i_kn_count f_boxes f_boxKept m4_f_trial f_offers f_A_noteCounts f_A_notes f_B_noteCounts f_B_notes f_now_where f_now_worn f_ahead_where f_ahead_worn f_acts_rows f_kn_tunes f_kn_noteTimes J L y4_2 (m4_f_trial (y4_2.toInt).toNat) H26.size hI (ox_6 g4_0) (ox_444 ie15 f3) (ox_103 f6 f7) (ox_104 f6 f7)) (cwV 2 hG (goodV gw953 gw955 gw40 gw129 gw956) rfl rfl rfl hd_X8_rate ⟨(Nat.le_of_ble_eq_true rfl), (Nat.le_of_ble_eq_true rfl)⟩) ⟨fbR, va_recv hK hP (ci := 7) (q0 := 0) rfl rfl, pR_in hP hK⟩ rfl rfl hl.1 rfl (lv_room (Nat.le_of_ble_eq_true rfl)) dX8_trialIsBarter_70 ⟨(Nat.le_of_ble_eq_true rfl), (Nat.le_of_ble_eq_true rfl)⟩) hS (fun q hq h => absurd hq (Nat.not_lt.mpr h)) (fun q h => hA q (Nat.le_trans hS.1 h)) (fun r_38 u_ t_ H37 locs ht hvm hw hB hz1 hk1 hS => ?_)
              subst hw
              have hP := wk hP hk1
              refine lv_aload_n hx hb dX8_trialIsBarter_73 rfl (lv_at hl 1 rfl) ?_
              refine lv_iload_n hx hb dX8_trialIsBarter_74 rfl (lv_at hl 3 rfl) ?_
              refine lv_aload_n hx hb dX8_trialIsBarter_75 rfl (lv_at hl 1 rfl) ?_
              refine gX_X8_65_0 hx hb hG hown hK hP dX8_trialIsBarter_76 ?_
              refine lv_iload_n hx hb dX8_trialIsBarter_79 rfl (lv_at hl 3 rfl) ?_
              refine ldX_16 (mm := y4_2.toInt) hx hb hK hP rfl (ox_9 g4_0) (ox_376 ie15 f3) dX8_trialIsBarter_80 ?_
              refine va_calli (va_runV (As := [.int y4_2, .int (f_offers (y4_2.toInt).toNat)]) (rest := [.int r_38]) ⟨hx, hb, hml, hown, hG⟩ (kX8_rate l dC dI r ct i_tapeLength i_time i_lyingCount i_rd_fault i_rd_token i_rd_kind i_sc_count i_sc_at i_A_tunes i_A_houses i_fA_length i_B_tunes i_B_houses i_fB_length i_acts_done i_acts_undone i_kn_count f_boxes f_boxKept m4_f_trial f_offers f_A_noteCounts f_A_notes f_B_noteCounts f_B_notes f_now_where f_now_worn f_ahead_where f_ahead_worn f_acts_rows f_kn_tunes f_kn_noteTimes J L y4_2 (f_offers (y4_2.toInt).toNat) H37.size hI (ox_6 g4_0) (ox_444 ie15 f3) (ox_445 f10 f11 f14) (ox_446 f10 f11 f14)) (cwV 2 hG (goodV gw953 gw955 gw40 gw129 gw956) rfl rfl rfl hd_X8_rate ⟨(Nat.le_of_ble_eq_true rfl), (Nat.le_of_ble_eq_true rfl)⟩) ⟨fbR, va_recv hK hP (ci := 7) (q0 := 0) rfl rfl, pR_in hP hK⟩ rfl rfl hl.1 rfl (lv_room (Nat.le_of_ble_eq_true rfl)) dX8_trialIsBarter_81 ⟨(Nat.le_of_ble_eq_true rfl), (Nat.le_of_ble_eq_true rfl)⟩) hS (fun q hq h => absurd hq (Nat.not_lt.mpr h)) (fun q h => hA q (Nat.le_trans hS.1 h)) (fun r_40 u_ t_ H39 locs ht hvm hw hB hz1 hk1 hS => ?_)
              subst hw
              have hP := wk hP hk1
              refine lv_icmp_ge (tgt := 89) hx hb dX8_trialIsBarter_84 (by decide) (fun c_41 => ?_) (fun c_41 => ?_)
              · skip
                have f42 : r_40.toInt ≤ r_38.toInt := qi_le c_41 rfl rfl
                refine lv_iload_n hx hb dX8_trialIsBarter_89 rfl (lv_at hl 2 rfl) ?_
                refine lv_iconst (v := 1) hx hb dX8_trialIsBarter_90 (by decide) ?_
                refine lv_iload_n hx hb dX8_trialIsBarter_91 rfl (lv_at hl 0 rfl) ?_
                refine lv_ishl hx hb dX8_trialIsBarter_92 ?_
                refine lv_topi (fun x43 ex43 => ?_)
                refine lv_ior hx hb dX8_trialIsBarter_93 ?_
                refine lv_topi (fun x44 ex44 => ?_)
                refine lv_istore_n (lv' := [(1, .int x44), (3, .int (m4_f_trial (y4_2.toInt).toNat)), (0, .ref (r 0)), (2, .int y4_2)]) hx hb dX8_trialIsBarter_94 rfl hl (by decide) rfl (fun ls hl => ?_)
                obtain ⟨x45, ex45⟩ : ∃ y : Int32, y = y4_2 + Int32.ofInt 1 := ⟨_, rfl⟩
                have f46 : x45.toInt = y4_2.toInt + 1 := (ox_13 (qi_add ex45 rfl (by decide) (ox_11 g4_0) (ox_219 g4_1)))
                refine lv_iinc (v := x45) (lv' := [(2, .int x45), (1, .int x44), (3, .int (m4_f_trial (y4_2.toInt).toNat)), (0, .ref (r 0))]) hx hb dX8_trialIsBarter_95 hl (k := 3) rfl ex45.symm (by decide) rfl (fun ls hl => ?_)
                refine lv_goto (tgt := 4) hx hb dX8_trialIsBarter_98 (by decide) ?_
                exact ih4 x44 x45 m4_f_trial H39 _ _ (ox_14 g4_0 f46) (ox_220 ie15 f3 f46) (RGP_sub gr4_0 (ox_447 f46) (ox_349)) hP hD hS (lv_sub hl [3, 1, 0] rfl) (ox_221 hM4 f46)
              · skip
                have f47 : r_38.toInt < r_40.toInt := qi_nle c_41 rfl rfl
                refine lv_iconst (v := 0) hx hb dX8_trialIsBarter_87 (by decide) ?_
                rw [hQ]
                exact W.zret (v := 0) hx hb hr (by decide) (fun t ht hW => ⟨⟨0, 0, rfl, rfl, ⟨m4_f_trial, by rw [ht]; exact hP, hD, hI, (ox_124 zc_0), (ox_27 zc_0), (ox_28 zc_0)⟩⟩, hS.F ht⟩) hS.2.2 dX8_trialIsBarter_88
        · skip
          have f48 : (f_offers (y4_2.toInt).toNat).toInt = (-1) := qi_eq c_12 rfl zc_m1
          refine lv_iload_n hx hb dX8_trialIsBarter_32 rfl (lv_at hl 0 rfl) ?_
          refine lv_if_eq (tgt := 38) hx hb dX8_trialIsBarter_33 (by decide) (fun c_49 => ?_) (fun c_49 => ?_)
          · skip
            have f50 : (m4_f_trial (y4_2.toInt).toNat).toInt = 0 := qi_eq c_49 rfl zc_0
            refine lv_aload_n hx hb dX8_trialIsBarter_38 rfl (lv_at hl 1 rfl) ?_
            refine gX_X8_62_0 hx hb hG hown hK hP dX8_trialIsBarter_39 ?_
            refine lv_iload_n hx hb dX8_trialIsBarter_42 rfl (lv_at hl 3 rfl) ?_
            refine lv_iconst (v := (-1)) hx hb dX8_trialIsBarter_43 (by decide) ?_
            refine stX_15 (mm := y4_2.toInt) hx hb hK hP hD hS rfl (ox_9 g4_0) (ox_376 ie15 f3) dX8_trialIsBarter_44 (fun z52 H51 locs ez52 hP hD hS => ?_)
            refine lv_goto (tgt := 95) hx hb dX8_trialIsBarter_45 (by decide) ?_
            obtain ⟨x53, ex53⟩ : ∃ y : Int32, y = y4_2 + Int32.ofInt 1 := ⟨_, rfl⟩
            have f54 : x53.toInt = y4_2.toInt + 1 := (ox_13 (qi_add ex53 rfl (by decide) (ox_11 g4_0) (ox_219 g4_1)))
            refine lv_iinc (v := x53) (lv' := [(2, .int x53), (3, .int (m4_f_trial (y4_2.toInt).toNat)), (0, .ref (r 0)), (1, .int y4_1)]) hx hb dX8_trialIsBarter_95 hl (k := 3) rfl ex53.symm (by decide) rfl (fun ls hl => ?_)
            refine lv_goto (tgt := 4) hx hb dX8_trialIsBarter_98 (by decide) ?_
            exact ih4 y4_1 x53 z52 H51 _ _ (ox_14 g4_0 f54) (ox_220 ie15 f3 f54) (RGP_off gr4_0 ez52 (ox_9 g4_0) (ox_447 f54) (ox_448 f54)) hP hD hS (lv_sub hl [2, 3, 0] rfl) (ox_221 hM4 f54)
          · skip
            have f55 : (m4_f_trial (y4_2.toInt).toNat).toInt ≠ 0 := qi_ne c_49 rfl zc_0
            have f56 : (1 : Int) ≤ (m4_f_trial (y4_2.toInt).toNat).toInt := (ox_449 f6 f55)
            refine lv_iconst (v := 0) hx hb dX8_trialIsBarter_36 (by decide) ?_
            rw [hQ]
            exact W.zret (v := 0) hx hb hr (by decide) (fun t ht hW => ⟨⟨0, 0, rfl, rfl, ⟨m4_f_trial, by rw [ht]; exact hP, hD, hI, (ox_124 zc_0), (ox_27 zc_0), (ox_28 zc_0)⟩⟩, hS.F ht⟩) hS.2.2 dX8_trialIsBarter_37
  exact L4 (-1 * (0 : Int32).toInt + 4 + 1).toNat 0 0 f_trial s.heap _ _ (ox_27 zc_0) (ox_224 zc_0) (RGP_sub hp0 (ox_359 zc_0) (ox_349)) hP hD hS (lv_sub hl [2, 1, 0] rfl) (mlt (ox_225 zc_0))
set_option maxHeartbeats 4000000 in
set_option maxRecDepth 100000 in
theorem kX8_barterGladness (l : Launch) (dC : Nat → ClassId) (dI : Nat → Nat → Nat) (r : Nat → Nat) (ct : Nat → ClassId) (i_tapeLength i_time i_lyingCount i_rd_fault i_rd_token i_rd_kind i_sc_count i_sc_at i_A_tunes i_A_houses i_fA_length i_B_tunes i_B_houses i_fB_length i_acts_done i_acts_undone i_kn_count : Int32) (f_boxes f_boxKept f_trial f_offers f_A_noteCounts f_A_notes f_B_noteCounts f_B_notes f_now_where f_now_worn f_ahead_where f_ahead_worn f_acts_rows f_kn_tunes f_kn_noteTimes : Nat → Int32) (J : Nat → Nat → Int32) (L : Nat → Nat → Int64) (sz : Nat) (hI : (IX i_tapeLength i_time i_lyingCount i_rd_token i_sc_count i_sc_at i_A_tunes i_A_houses i_fA_length i_B_tunes i_B_houses i_fB_length i_acts_done i_acts_undone i_kn_count f_boxes f_A_noteCounts f_A_notes f_B_noteCounts f_B_notes f_now_worn f_ahead_worn f_acts_rows f_kn_tunes)) : Met l yX8_barterGladness (.code yX8_barterGladness cX8_barterGladness 3 (some .int) :: GW) { frames := 4, cells := 0, slots := 0, locals := 162 } (va_Pc [.ref (r 0)] (pR (dC, dI) (WX r ct i_tapeLength i_time i_lyingCount i_rd_fault i_rd_token i_rd_kind i_sc_count i_sc_at i_A_tunes i_A_houses i_fA_length i_B_tunes i_B_houses i_fB_length i_acts_done i_acts_undone i_kn_count f_boxes f_boxKept f_trial f_offers f_A_noteCounts f_A_notes f_B_noteCounts f_B_notes f_now_where f_now_worn f_ahead_where f_ahead_worn f_acts_rows f_kn_tunes f_kn_noteTimes J L) (TX ct) sz)) (va_Qi (fun (r0 : Int32) (u : Int32) => r0 = u) (fun (u : Int32) (t : State) => True) (fun q => sz ≤ q)) 0 0 (fun q => sz ≤ q) := by
  refine Met.ofW (cc := cX8_barterGladness) (maxL := 3) (ret := (some .int)) (by decide) rfl ?_
  intro p e s m args below meth c0 s₁ B hml hv
  obtain ⟨rfl, hsz, hP, hK⟩ := hv
  have hx := B.exec
  have hb := B.bytes
  have hr := B.returns
  have hts := atoms_spec (ws := .code yX8_barterGladness cX8_barterGladness 3 (some .int) :: GW) B.pre
  have hG : ∀ w ∈ GW, w.before _ s = true := fun w h => hts w (List.mem_cons_of_mem _ h)
  have hown : s.vm.findClass RX8 = some m.cls := findClass_of_methodNamed B.named
  subst hsz
  have hS : va_S (fun q => s.heap.size ≤ q) s.heap s.heap [] := va_S.rf
  have hP : va_P (dC, dI) vwCl (WX r ct i_tapeLength i_time i_lyingCount i_rd_fault i_rd_token i_rd_kind i_sc_count i_sc_at i_A_tunes i_A_houses i_fA_length i_B_tunes i_B_houses i_fB_length i_acts_done i_acts_undone i_kn_count f_boxes f_boxKept f_trial f_offers f_A_noteCounts f_A_notes f_B_noteCounts f_B_notes f_now_where f_now_worn f_ahead_where f_ahead_worn f_acts_rows f_kn_tunes f_kn_noteTimes J L) s.heap := hP
  have hl := lv_entry ([.ref (r 0)]) (n := 3) (Nat.le_of_ble_eq_true rfl)
  rw [lg_entry_eq]
  generalize (lg_sl ([.ref (r 0)]) ++ List.replicate (3 - (lg_sl ([.ref (r 0)])).length) Slot.unset).toArray = ls at hl ⊢
  have hl : lv_has ls 3 [(0, .ref (r 0))] := hl
  refine nameQ (fun Q hQ => ?_)
  obtain ⟨ie0, ie1, ie2, ie3, ie4, ie5, ie6, ie7, ie8, ie9, ie10, ie11, ie12, ie13, ie14, ie15, ie16, ie17, ie18, ie19, ie20, ie21, ie22, ie23, ie24, ie25, ie26, ie27, ie28, ie29, ie30, ie31, ie32, ie33, ie34, ie35, ie36, ie37, ie38, ie39⟩ := id hI
  refine lv_iconst (v := 0) hx hb dX8_barterGladness_0 (by decide) ?_
  refine lv_istore_n (lv' := [(1, .int 0), (0, .ref (r 0))]) hx hb dX8_barterGladness_1 rfl hl (by decide) rfl (fun ls hl => ?_)
  refine lv_iconst (v := 0) hx hb dX8_barterGladness_2 (by decide) ?_
  refine lv_istore_n (lv' := [(2, .int 0), (1, .int 0), (0, .ref (r 0))]) hx hb dX8_barterGladness_3 rfl hl (by decide) rfl (fun ls hl => ?_)
  have L4 : ∀ (N4 : Nat) (y4_1 y4_2 : Int32) (H4 : Heap) (locs : List Loc) (ls : Array Slot) (g4_0 : (0 : Int) ≤ y4_2.toInt) (g4_1 : y4_2.toInt ≤ (4 : Int)) (hP : va_P (dC, dI) vwCl (WX r ct i_tapeLength i_time i_lyingCount i_rd_fault i_rd_token i_rd_kind i_sc_count i_sc_at i_A_tunes i_A_houses i_fA_length i_B_tunes i_B_houses i_fB_length i_acts_done i_acts_undone i_kn_count f_boxes f_boxKept f_trial f_offers f_A_noteCounts f_A_notes f_B_noteCounts f_B_notes f_now_where f_now_worn f_ahead_where f_ahead_worn f_acts_rows f_kn_tunes f_kn_noteTimes J L) H4) (hS : va_S (fun q => s.heap.size ≤ q) s.heap H4 locs) (hl : lv_has ls 3 [(0, .ref (r 0)), (1, .int y4_1), (2, .int y4_2)]) (hM : -1 * y4_2.toInt + 4 < (N4 : Int)), W p l e { frames := 4, cells := 0, slots := 0, locals := 162 } s m ([.ref (r 0)] : List Value).toArray below meth c0 H4 locs 0 0 Q (F0 m 4 ls []) := by
    intro N4
    induction N4 with
    | zero =>
      intro y4_1 y4_2 H4 locs ls g4_0 g4_1 hP hS hl hM
      exact ((ox_218 hM g4_0 g4_1)).elim
    | succ N4 ih4 =>
      intro y4_1 y4_2 H4 locs ls g4_0 g4_1 hP hS hl hM
      have hM4 := msucc hM
      refine lv_iload_n hx hb dX8_barterGladness_4 rfl (lv_at hl 2 rfl) ?_
      refine lv_aload_n hx hb dX8_barterGladness_5 rfl (lv_at hl 0 rfl) ?_
      refine gX_X8_23_0 hx hb hG hown hK hP dX8_barterGladness_6 ?_
      refine gX_X8_99_3 hx hb hG hown hK hP dX8_barterGladness_9 ?_
      refine lv_icmp_ge (tgt := 48) hx hb dX8_barterGladness_12 (by decide) (fun c_1 => ?_) (fun c_1 => ?_)
      · skip
        have f2 : i_A_houses.toInt ≤ y4_2.toInt := qi_le c_1 rfl rfl
        refine lv_iload_n hx hb dX8_barterGladness_48 rfl (lv_at hl 1 rfl) ?_
        rw [hQ]
        exact W.iret (v := y4_1) hx hb hr (fun t ht hW => ⟨⟨y4_1, y4_1, rfl, rfl, trivial⟩, hS.F ht⟩) hS.2.2 dX8_barterGladness_49
      · skip
        have f3 : y4_2.toInt < i_A_houses.toInt := qi_nle c_1 rfl rfl
        refine lv_aload_n hx hb dX8_barterGladness_15 rfl (lv_at hl 0 rfl) ?_
        refine lv_aload_n hx hb dX8_barterGladness_16 rfl (lv_at hl 0 rfl) ?_
        refine gX_X8_62_0 hx hb hG hown hK hP dX8_barterGladness_17 ?_
        refine lv_iload_n hx hb dX8_barterGladness_20 rfl (lv_at hl 2 rfl) ?_
        refine ldX_15 (mm := y4_2.toInt) hx hb hK hP rfl (ox_9 g4_0) (ox_376 ie15 f3) dX8_barterGladness_21 ?_
        refine va_calli (va_runV (As := [.int (f_trial (y4_2.toInt).toNat)]) (rest := []) ⟨hx, hb, hml, hown, hG⟩ (kX8_isTune l dC dI r ct i_tapeLength i_time i_lyingCount i_rd_fault i_rd_token i_rd_kind i_sc_count i_sc_at i_A_tunes i_A_houses i_fA_length i_B_tunes i_B_houses i_fB_length i_acts_done i_acts_undone i_kn_count f_boxes f_boxKept f_trial f_offers f_A_noteCounts f_A_notes f_B_noteCounts f_B_notes f_now_where f_now_worn f_ahead_where f_ahead_worn f_acts_rows f_kn_tunes f_kn_noteTimes J L (f_trial (y4_2.toInt).toNat) H4.size hI) (cwV 1 hG (goodV gw695 gw697 gw20 gw129 gw698) rfl rfl rfl hd_X8_isTune ⟨(Nat.le_of_ble_eq_true rfl), (Nat.le_of_ble_eq_true rfl)⟩) ⟨fbR, va_recv hK hP (ci := 7) (q0 := 0) rfl rfl, pR_in hP hK⟩ rfl rfl hl.1 rfl (lv_room (Nat.le_of_ble_eq_true rfl)) dX8_barterGladness_22 ⟨(Nat.le_of_ble_eq_true rfl), (Nat.le_of_ble_eq_true rfl)⟩) hS (fun q hq h => absurd hq (Nat.not_lt.mpr h)) (fun q h => Nat.le_trans hS.1 h) (fun r_5 u_ t_ H4 locs ht hvm hw hB hz1 hk1 hS => ?_)
        subst hw
        have hP := wk hP hk1
        obtain ⟨f6, f7, f8⟩ := hB
        refine lv_if_eq (tgt := 42) hx hb dX8_barterGladness_25 (by decide) (fun c_9 => ?_) (fun c_9 => ?_)
        · skip
          have f10 : r_5.toInt = 0 := qi_eq c_9 rfl zc_0
          obtain ⟨x11, ex11⟩ : ∃ y : Int32, y = y4_2 + Int32.ofInt 1 := ⟨_, rfl⟩
          have f12 : x11.toInt = y4_2.toInt + 1 := (ox_13 (qi_add ex11 rfl (by decide) (ox_11 g4_0) (ox_219 g4_1)))
          refine lv_iinc (v := x11) (lv' := [(2, .int x11), (0, .ref (r 0)), (1, .int y4_1)]) hx hb dX8_barterGladness_42 hl (k := 2) rfl ex11.symm (by decide) rfl (fun ls hl => ?_)
          refine lv_goto (tgt := 4) hx hb dX8_barterGladness_45 (by decide) ?_
          exact ih4 y4_1 x11 H4 _ _ (ox_14 g4_0 f12) (ox_220 ie15 f3 f12) hP hS (lv_sub hl [1, 2, 0] rfl) (ox_221 hM4 f12)
        · skip
          have f13 : r_5.toInt ≠ 0 := qi_ne c_9 rfl zc_0
          have f14 : (0 : Int) ≤ (f_trial (y4_2.toInt).toNat).toInt := (ox_50 f6 f13)
          have f15 : (f_trial (y4_2.toInt).toNat).toInt + 1 ≤ i_A_tunes.toInt := (ox_51 f6 f13)
          have f16 : r_5.toInt = (1 : Int) := (ox_52 f6 f13)
          have f17 : (1 : Int) ≤ r_5.toInt := (ox_53 f7 f8 f16)
          refine lv_iload_n hx hb dX8_barterGladness_28 rfl (lv_at hl 1 rfl) ?_
          refine lv_aload_n hx hb dX8_barterGladness_29 rfl (lv_at hl 0 rfl) ?_
          refine lv_iload_n hx hb dX8_barterGladness_30 rfl (lv_at hl 2 rfl) ?_
          refine lv_aload_n hx hb dX8_barterGladness_31 rfl (lv_at hl 0 rfl) ?_
          refine gX_X8_62_0 hx hb hG hown hK hP dX8_barterGladness_32 ?_
          refine lv_iload_n hx hb dX8_barterGladness_35 rfl (lv_at hl 2 rfl) ?_
          refine ldX_15 (mm := y4_2.toInt) hx hb hK hP rfl (ox_9 g4_0) (ox_376 ie15 f3) dX8_barterGladness_36 ?_
          refine va_calli (va_runV (As := [.int y4_2, .int (f_trial (y4_2.toInt).toNat)]) (rest := [.int y4_1]) ⟨hx, hb, hml, hown, hG⟩ (kX8_rate l dC dI r ct i_tapeLength i_time i_lyingCount i_rd_fault i_rd_token i_rd_kind i_sc_count i_sc_at i_A_tunes i_A_houses i_fA_length i_B_tunes i_B_houses i_fB_length i_acts_done i_acts_undone i_kn_count f_boxes f_boxKept f_trial f_offers f_A_noteCounts f_A_notes f_B_noteCounts f_B_notes f_now_where f_now_worn f_ahead_where f_ahead_worn f_acts_rows f_kn_tunes f_kn_noteTimes J L y4_2 (f_trial (y4_2.toInt).toNat) H4.size hI (ox_6 g4_0) (ox_444 ie15 f3) (ox_54 f14 f15) (ox_211 ie13 f15)) (cwV 2 hG (goodV gw953 gw955 gw40 gw129 gw956) rfl rfl rfl hd_X8_rate ⟨(Nat.le_of_ble_eq_true rfl), (Nat.le_of_ble_eq_true rfl)⟩) ⟨fbR, va_recv hK hP (ci := 7) (q0 := 0) rfl rfl, pR_in hP hK⟩ rfl rfl hl.1 rfl (lv_room (Nat.le_of_ble_eq_true rfl)) dX8_barterGladness_37 ⟨(Nat.le_of_ble_eq_true rfl), (Nat.le_of_ble_eq_true rfl)⟩) hS (fun q hq h => absurd hq (Nat.not_lt.mpr h)) (fun q h => Nat.le_trans hS.1 h) (fun r_19 u_ t_ H18 locs ht hvm hw hB hz1 hk1 hS => ?_)
          subst hw
          have hP := wk hP hk1
          refine lv_iadd hx hb dX8_barterGladness_40 ?_
          refine lv_topi (fun x20 ex20 => ?_)
          refine lv_istore_n (lv' := [(1, .int x20), (0, .ref (r 0)), (2, .int y4_2)]) hx hb dX8_barterGladness_41 rfl hl (by decide) rfl (fun ls hl => ?_)
          obtain ⟨x21, ex21⟩ : ∃ y : Int32, y = y4_2 + Int32.ofInt 1 := ⟨_, rfl⟩
          have f22 : x21.toInt = y4_2.toInt + 1 := (ox_13 (qi_add ex21 rfl (by decide) (ox_11 g4_0) (ox_219 g4_1)))
          refine lv_iinc (v := x21) (lv' := [(2, .int x21), (1, .int x20), (0, .ref (r 0))]) hx hb dX8_barterGladness_42 hl (k := 2) rfl ex21.symm (by decide) rfl (fun ls hl => ?_)
          refine lv_goto (tgt := 4) hx hb dX8_barterGladness_45 (by decide) ?_
          exact ih4 x20 x21 H18 _ _ (ox_14 g4_0 f22) (ox_220 ie15 f3 f22) hP hS (lv_sub hl [2, 1, 0] rfl) (ox_221 hM4 f22)
  exact L4 (-1 * (0 : Int32).toInt + 4 + 1).toNat 0 0 s.heap _ _ (ox_27 zc_0) (ox_224 zc_0) hP hS (lv_sub hl [2, 1, 0] rfl) (mlt (ox_225 zc_0))
set_option maxHeartbeats 4000000 in
set_option maxRecDepth 100000 in
theorem kX8_barter (l : Launch) (dC : Nat → ClassId) (dI : Nat → Nat → Nat) (r : Nat → Nat) (ct : Nat → ClassId) (i_tapeLength i_time i_lyingCount i_rd_fault i_rd_token i_rd_kind i_sc_count i_sc_at i_A_tunes i_A_houses i_fA_length i_B_tunes i_B_houses i_fB_length i_acts_done i_acts_undone i_kn_count : Int32) (f_boxes f_boxKept f_trial f_offers f_A_noteCounts f_A_notes f_B_noteCounts f_B_notes f_now_where f_now_worn f_ahead_where f_ahead_worn f_acts_rows f_kn_tunes f_kn_noteTimes : Nat → Int32) (J : Nat → Nat → Int32) (L : Nat → Nat → Int64) (sz : Nat) (hI : (IX i_tapeLength i_time i_lyingCount i_rd_token i_sc_count i_sc_at i_A_tunes i_A_houses i_fA_length i_B_tunes i_B_houses i_fB_length i_acts_done i_acts_undone i_kn_count f_boxes f_A_noteCounts f_A_notes f_B_noteCounts f_B_notes f_now_worn f_ahead_worn f_acts_rows f_kn_tunes)) (hp0 : WB i_A_tunes f_now_where) : Met l yX8_barter (.code yX8_barter cX8_barter 6 (some .int) :: GW) { frames := 14, cells := 0, slots := 0, locals := 490 } (va_Pc [.ref (r 0)] (pW (dC, dI) (WX r ct i_tapeLength i_time i_lyingCount i_rd_fault i_rd_token i_rd_kind i_sc_count i_sc_at i_A_tunes i_A_houses i_fA_length i_B_tunes i_B_houses i_fB_length i_acts_done i_acts_undone i_kn_count f_boxes f_boxKept f_trial f_offers f_A_noteCounts f_A_notes f_B_noteCounts f_B_notes f_now_where f_now_worn f_ahead_where f_ahead_worn f_acts_rows f_kn_tunes f_kn_noteTimes J L) (TX ct) sz)) (va_Qi (fun (r0 : Int32) (u : Int32) => r0 = u) (fun (u : Int32) (t : State) => ∃ (n_i_lyingCount : Int32) (n_f_trial n_f_offers : Nat → Int32) (n_J : Nat → Nat → Int32), va_P (dC, dI) vwCl (WX r ct i_tapeLength i_time n_i_lyingCount i_rd_fault i_rd_token i_rd_kind i_sc_count i_sc_at i_A_tunes i_A_houses i_fA_length i_B_tunes i_B_houses i_fB_length i_acts_done i_acts_undone i_kn_count f_boxes f_boxKept n_f_trial n_f_offers f_A_noteCounts f_A_notes f_B_noteCounts f_B_notes f_now_where f_now_worn f_ahead_where f_ahead_worn f_acts_rows f_kn_tunes f_kn_noteTimes n_J L) t.heap ∧ va_D (va_A (WX r ct i_tapeLength i_time i_lyingCount i_rd_fault i_rd_token i_rd_kind i_sc_count i_sc_at i_A_tunes i_A_houses i_fA_length i_B_tunes i_B_houses i_fB_length i_acts_done i_acts_undone i_kn_count f_boxes f_boxKept f_trial f_offers f_A_noteCounts f_A_notes f_B_noteCounts f_B_notes f_now_where f_now_worn f_ahead_where f_ahead_worn f_acts_rows f_kn_tunes f_kn_noteTimes J L) sz) (WX r ct i_tapeLength i_time n_i_lyingCount i_rd_fault i_rd_token i_rd_kind i_sc_count i_sc_at i_A_tunes i_A_houses i_fA_length i_B_tunes i_B_houses i_fB_length i_acts_done i_acts_undone i_kn_count f_boxes f_boxKept n_f_trial n_f_offers f_A_noteCounts f_A_notes f_B_noteCounts f_B_notes f_now_where f_now_worn f_ahead_where f_ahead_worn f_acts_rows f_kn_tunes f_kn_noteTimes n_J L) ∧ (IX i_tapeLength i_time n_i_lyingCount i_rd_token i_sc_count i_sc_at i_A_tunes i_A_houses i_fA_length i_B_tunes i_B_houses i_fB_length i_acts_done i_acts_undone i_kn_count f_boxes f_A_noteCounts f_A_notes f_B_noteCounts f_B_notes f_now_worn f_ahead_worn f_acts_rows f_kn_tunes)) (va_A (WX r ct i_tapeLength i_time i_lyingCount i_rd_fault i_rd_token i_rd_kind i_sc_count i_sc_at i_A_tunes i_A_houses i_fA_length i_B_tunes i_B_houses i_fB_length i_acts_done i_acts_undone i_kn_count f_boxes f_boxKept f_trial f_offers f_A_noteCounts f_A_notes f_B_noteCounts f_B_notes f_now_where f_now_worn f_ahead_where f_ahead_worn f_acts_rows f_kn_tunes f_kn_noteTimes J L) sz)) 0 0 (va_A (WX r ct i_tapeLength i_time i_lyingCount i_rd_fault i_rd_token i_rd_kind i_sc_count i_sc_at i_A_tunes i_A_houses i_fA_length i_B_tunes i_B_houses i_fB_length i_acts_done i_acts_undone i_kn_count f_boxes f_boxKept f_trial f_offers f_A_noteCounts f_A_notes f_B_noteCounts f_B_notes f_now_where f_now_worn f_ahead_where f_ahead_worn f_acts_rows f_kn_tunes f_kn_noteTimes J L) sz) := by
  refine Met.ofW (cc := cX8_barter) (maxL := 6) (ret := (some .int)) (by decide) rfl ?_
  intro p e s m args below meth c0 s₁ B hml hv
  obtain ⟨rfl, hsz, hP, hK, hD0⟩ := hv
  have hx := B.exec
  have hb := B.bytes
  have hr := B.returns
  have hts := atoms_spec (ws := .code yX8_barter cX8_barter 6 (some .int) :: GW) B.pre
  have hG : ∀ w ∈ GW, w.before _ s = true := fun w h => hts w (List.mem_cons_of_mem _ h)
  have hown : s.vm.findClass RX8 = some m.cls := findClass_of_methodNamed B.named
  subst hsz
  have hD := hD0.self (sz := s.heap.size)
  generalize hAe : va_A (WX r ct i_tapeLength i_time i_lyingCount i_rd_fault i_rd_token i_rd_kind i_sc_count i_sc_at i_A_tunes i_A_houses i_fA_length i_B_tunes i_B_houses i_fB_length i_acts_done i_acts_undone i_kn_count f_boxes f_boxKept f_trial f_offers f_A_noteCounts f_A_notes f_B_noteCounts f_B_notes f_now_where f_now_worn f_ahead_where f_ahead_worn f_acts_rows f_kn_tunes f_kn_noteTimes J L) s.heap.size = A at hD ⊢
  have hA : ∀ q : Nat, s.heap.size ≤ q → A q := fun q h => by rw [← hAe]; exact Or.inr h
  have hS : va_S A s.heap s.heap [] := va_S.rf
  have hP : va_P (dC, dI) vwCl (WX r ct i_tapeLength i_time i_lyingCount i_rd_fault i_rd_token i_rd_kind i_sc_count i_sc_at i_A_tunes i_A_houses i_fA_length i_B_tunes i_B_houses i_fB_length i_acts_done i_acts_undone i_kn_count f_boxes f_boxKept f_trial f_offers f_A_noteCounts f_A_notes f_B_noteCounts f_B_notes f_now_where f_now_worn f_ahead_where f_ahead_worn f_acts_rows f_kn_tunes f_kn_noteTimes J L) s.heap := hP
  have hl := lv_entry ([.ref (r 0)]) (n := 6) (Nat.le_of_ble_eq_true rfl)
  rw [lg_entry_eq]
  generalize (lg_sl ([.ref (r 0)]) ++ List.replicate (6 - (lg_sl ([.ref (r 0)])).length) Slot.unset).toArray = ls at hl ⊢
  have hl : lv_has ls 6 [(0, .ref (r 0))] := hl
  refine nameQ (fun Q hQ => ?_)
  obtain ⟨ie0, ie1, ie2, ie3, ie4, ie5, ie6, ie7, ie8, ie9, ie10, ie11, ie12, ie13, ie14, ie15, ie16, ie17, ie18, ie19, ie20, ie21, ie22, ie23, ie24, ie25, ie26, ie27, ie28, ie29, ie30, ie31, ie32, ie33, ie34, ie35, ie36, ie37, ie38, ie39⟩ := id hI
  refine lv_aload_n hx hb dX8_barter_0 rfl (lv_at hl 0 rfl) ?_
  have hFc := frA hD hS hA
  refine va_callv (va_runV (As := []) (rest := []) ⟨hx, hb, hml, hown, hG⟩ (kX8_rateAll l dC dI r ct i_tapeLength i_time i_lyingCount i_rd_fault i_rd_token i_rd_kind i_sc_count i_sc_at i_A_tunes i_A_houses i_fA_length i_B_tunes i_B_houses i_fB_length i_acts_done i_acts_undone i_kn_count f_boxes f_boxKept f_trial f_offers f_A_noteCounts f_A_notes f_B_noteCounts f_B_notes f_now_where f_now_worn f_ahead_where f_ahead_worn f_acts_rows f_kn_tunes f_kn_noteTimes J L s.heap.size hI) (cwV 0 hG (goodV gw944 gw946 gw38 gw129 gw947) rfl rfl rfl hd_X8_rateAll ⟨(Nat.le_of_ble_eq_true rfl), (Nat.le_of_ble_eq_true rfl)⟩) ⟨fbW, va_recv hK hP (ci := 7) (q0 := 0) rfl rfl, pW_in hP hK hD⟩ rfl rfl hl.1 rfl (lv_room (Nat.le_of_ble_eq_true rfl)) dX8_barter_1 ⟨(Nat.le_of_ble_eq_true rfl), (Nat.le_of_ble_eq_true rfl)⟩) hS (fun q _ h => hFc q h) hFc (fun _ t_ H1 locs ht hvm hw hB hz1 hk1 hS => ?_)
  obtain ⟨J3, hP1, hD1, hI4⟩ := hB
  rw [ht] at hP1
  have hP := hP1
  have hD := dW hFc hD1
  obtain ⟨im5, im6, im7, im8, im9, im10, im11, im12, im13, im14, im15, im16, im17, im18, im19, im20, im21, im22, im23, im24, im25, im26, im27, im28, im29, im30, im31, im32, im33, im34, im35, im36, im37, im38, im39, im40, im41, im42, im43, im44⟩ := id hI4
  refine lv_iconst (v := 0) hx hb dX8_barter_4 (by decide) ?_
  refine lv_istore_n (lv' := [(1, .int 0), (0, .ref (r 0))]) hx hb dX8_barter_5 rfl hl (by decide) rfl (fun ls hl => ?_)
  have L6 : ∀ (N6 : Nat) (y6_1 : Int32) (m6_f_offers : Nat → Int32) (H6 : Heap) (locs : List Loc) (ls : Array Slot) (g6_0 : (0 : Int) ≤ y6_1.toInt) (g6_1 : y6_1.toInt ≤ (4 : Int)) (gr6_0 : RGP 0 y6_1.toInt (-1) 4 m6_f_offers) (hP : va_P (dC, dI) vwCl (WX r ct i_tapeLength i_time i_lyingCount i_rd_fault i_rd_token i_rd_kind i_sc_count i_sc_at i_A_tunes i_A_houses i_fA_length i_B_tunes i_B_houses i_fB_length i_acts_done i_acts_undone i_kn_count f_boxes f_boxKept f_trial m6_f_offers f_A_noteCounts f_A_notes f_B_noteCounts f_B_notes f_now_where f_now_worn f_ahead_where f_ahead_worn f_acts_rows f_kn_tunes f_kn_noteTimes J3 L) H6) (hD : va_D A (WX r ct i_tapeLength i_time i_lyingCount i_rd_fault i_rd_token i_rd_kind i_sc_count i_sc_at i_A_tunes i_A_houses i_fA_length i_B_tunes i_B_houses i_fB_length i_acts_done i_acts_undone i_kn_count f_boxes f_boxKept f_trial m6_f_offers f_A_noteCounts f_A_notes f_B_noteCounts f_B_notes f_now_where f_now_worn f_ahead_where f_ahead_worn f_acts_rows f_kn_tunes f_kn_noteTimes J3 L)) (hS : va_S A s.heap H6 locs) (hl : lv_has ls 6 [(0, .ref (r 0)), (1, .int y6_1)]) (hM : -1 * y6_1.toInt + 4 < (N6 : Int)), W p l e { frames := 14, cells := 0, slots := 0, locals := 490 } s m ([.ref (r 0)] : List Value).toArray below meth c0 H6 locs 0 0 Q (F0 m 6 ls []) := by
    intro N6
    induction N6 with
    | zero =>
      intro y6_1 m6_f_offers H6 locs ls g6_0 g6_1 gr6_0 hP hD hS hl hM
      exact ((ox_218 hM g6_0 g6_1)).elim
    | succ N6 ih6 =>
      intro y6_1 m6_f_offers H6 locs ls g6_0 g6_1 gr6_0 hP hD hS hl hM
      have hM6 := msucc hM
      refine lv_iload_n hx hb dX8_barter_6 rfl (lv_at hl 1 rfl) ?_
      refine lv_aload_n hx hb dX8_barter_7 rfl (lv_at hl 0 rfl) ?_
      refine gX_X8_23_0 hx hb hG hown hK hP dX8_barter_8 ?_
      refine gX_X8_99_3 hx hb hG hown hK hP dX8_barter_11 ?_
      refine lv_icmp_ge (tgt := 37) hx hb dX8_barter_14 (by decide) (fun c_45 => ?_) (fun c_45 => ?_)
      · skip
        have f46 : i_A_houses.toInt ≤ y6_1.toInt := qi_le c_45 rfl rfl
        refine lv_ldc (v := (-1000000000)) hx hb hown (hG _ gw777) dX8_barter_37 ?_
        refine lv_istore_n (lv' := [(1, .int (-1000000000)), (0, .ref (r 0))]) hx hb dX8_barter_39 rfl hl (by decide) rfl (fun ls hl => ?_)
        refine lv_iconst (v := 1) hx hb dX8_barter_40 (by decide) ?_
        refine lv_aload_n hx hb dX8_barter_41 rfl (lv_at hl 1 rfl) ?_
        refine gX_X8_23_0 hx hb hG hown hK hP dX8_barter_42 ?_
        refine gX_X8_108_3 hx hb hG hown hK hP dX8_barter_45 ?_
        refine va_mmax hx hb (hml.trans hl.1.symm) hown (hG _ gw948) (hG _ gw775) (hG _ gw139) (hG _ gw776) (Nat.le_of_ble_eq_true rfl) (Nat.le_of_ble_eq_true rfl) (Nat.le_of_ble_eq_true rfl) (Nat.le_of_ble_eq_true rfl) dX8_barter_48 ?_
        refine lv_topi (fun x47 ex47 => ?_)
        have f48 : (i_A_tunes.toInt ≤ 1 ∧ x47.toInt = 1) ∨ (1 ≤ i_A_tunes.toInt ∧ x47.toInt = i_A_tunes.toInt) := mmax_or2 ex47 zc_1 rfl
        refine lv_istore_n (lv' := [(2, .int x47), (1, .int (-1000000000)), (0, .ref (r 0))]) hx hb dX8_barter_51 rfl hl (by decide) rfl (fun ls hl => ?_)
        refine lv_aload_n hx hb dX8_barter_52 rfl (lv_at hl 2 rfl) ?_
        refine lv_iload_n hx hb dX8_barter_53 rfl (lv_at hl 0 rfl) ?_
        refine va_calli (va_runV (As := [.int x47]) (rest := []) ⟨hx, hb, hml, hown, hG⟩ (kX8_rowsOf l dC dI r ct i_tapeLength i_time i_lyingCount i_rd_fault i_rd_token i_rd_kind i_sc_count i_sc_at i_A_tunes i_A_houses i_fA_length i_B_tunes i_B_houses i_fB_length i_acts_done i_acts_undone i_kn_count f_boxes f_boxKept f_trial m6_f_offers f_A_noteCounts f_A_notes f_B_noteCounts f_B_notes f_now_where f_now_worn f_ahead_where f_ahead_worn f_acts_rows f_kn_tunes f_kn_noteTimes J3 L x47 H6.size hI4) (cwV 1 hG (goodV gw899 gw901 gw31 gw129 gw902) rfl rfl rfl hd_X8_rowsOf ⟨(Nat.le_of_ble_eq_true rfl), (Nat.le_of_ble_eq_true rfl)⟩) ⟨fbR, va_recv hK hP (ci := 7) (q0 := 0) rfl rfl, pR_in hP hK⟩ rfl rfl hl.1 rfl (lv_room (Nat.le_of_ble_eq_true rfl)) dX8_barter_54 ⟨(Nat.le_of_ble_eq_true rfl), (Nat.le_of_ble_eq_true rfl)⟩) hS (fun q hq h => absurd hq (Nat.not_lt.mpr h)) (fun q h => hA q (Nat.le_trans hS.1 h)) (fun r_50 u_ t_ H49 locs ht hvm hw hB hz1 hk1 hS => ?_)
        subst hw
        have hP := wk hP hk1
        refine lv_istore_n (lv' := [(3, .int r_50), (2, .int x47), (1, .int (-1000000000)), (0, .ref (r 0))]) hx hb dX8_barter_57 rfl hl (by decide) rfl (fun ls hl => ?_)
        refine lv_iconst (v := 0) hx hb dX8_barter_58 (by decide) ?_
        refine lv_istore (lv' := [(4, .int 0), (3, .int r_50), (2, .int x47), (1, .int (-1000000000)), (0, .ref (r 0))]) hx hb dX8_barter_59 hl (by decide) rfl (fun ls hl => ?_)
        have L61 : ∀ (N61 : Nat) (y61_1 y61_4 : Int32) (m61_i_lyingCount : Int32) (m61_f_trial : Nat → Int32) (m61_J : Nat → Nat → Int32) (H61 : Heap) (locs : List Loc) (ls : Array Slot) (g61_0 : (0 : Int) ≤ y61_1.toInt + 1000000000) (g61_1 : (0 : Int) ≤ y61_4.toInt) (g61_2 : y61_4.toInt ≤ (2147483647 : Int)) (g61_3 : (0 : Int) ≤ m61_i_lyingCount.toInt) (g61_4 : m61_i_lyingCount.toInt ≤ (4 : Int)) (gi61_i_lyingCount_lo : (0 : Int) ≤ m61_i_lyingCount.toInt) (gi61_i_lyingCount_hi : m61_i_lyingCount.toInt ≤ (4 : Int)) (hP : va_P (dC, dI) vwCl (WX r ct i_tapeLength i_time m61_i_lyingCount i_rd_fault i_rd_token i_rd_kind i_sc_count i_sc_at i_A_tunes i_A_houses i_fA_length i_B_tunes i_B_houses i_fB_length i_acts_done i_acts_undone i_kn_count f_boxes f_boxKept m61_f_trial m6_f_offers f_A_noteCounts f_A_notes f_B_noteCounts f_B_notes f_now_where f_now_worn f_ahead_where f_ahead_worn f_acts_rows f_kn_tunes f_kn_noteTimes m61_J L) H61) (hD : va_D A (WX r ct i_tapeLength i_time m61_i_lyingCount i_rd_fault i_rd_token i_rd_kind i_sc_count i_sc_at i_A_tunes i_A_houses i_fA_length i_B_tunes i_B_houses i_fB_length i_acts_done i_acts_undone i_kn_count f_boxes f_boxKept m61_f_trial m6_f_offers f_A_noteCounts f_A_notes f_B_noteCounts f_B_notes f_now_where f_now_worn f_ahead_where f_ahead_worn f_acts_rows f_kn_tunes f_kn_noteTimes m61_J L)) (hS : va_S A s.heap H61 locs) (hl : lv_has ls 6 [(0, .ref (r 0)), (1, .int y61_1), (2, .int x47), (3, .int r_50), (4, .int y61_4)]) (hM : -1 * y61_4.toInt + 2147483647 < (N61 : Int)), W p l e { frames := 14, cells := 0, slots := 0, locals := 490 } s m ([.ref (r 0)] : List Value).toArray below meth c0 H61 locs 0 0 Q (F0 m 61 ls []) := by
          intro N61
          induction N61 with
          | zero =>
            intro y61_1 y61_4 m61_i_lyingCount m61_f_trial m61_J H61 locs ls g61_0 g61_1 g61_2 g61_3 g61_4 gi61_i_lyingCount_lo gi61_i_lyingCount_hi hP hD hS hl hM
            exact ((ox_381 hM g61_1 g61_2)).elim
          | succ N61 ih61 =>
            intro y61_1 y61_4 m61_i_lyingCount m61_f_trial m61_J H61 locs ls g61_0 g61_1 g61_2 g61_3 g61_4 gi61_i_lyingCount_lo gi61_i_lyingCount_hi hP hD hS hl hM
            have hM61 := msucc hM
            refine lv_iload hx hb dX8_barter_61 (lv_at hl 4 rfl) ?_
            refine lv_iload_n hx hb dX8_barter_63 rfl (lv_at hl 3 rfl) ?_
            refine lv_icmp_ge (tgt := 111) hx hb dX8_barter_64 (by decide) (fun c_51 => ?_) (fun c_51 => ?_)
            · skip
              have f52 : r_50.toInt ≤ y61_4.toInt := qi_le c_51 rfl rfl
              refine lv_iload_n hx hb dX8_barter_111 rfl (lv_at hl 1 rfl) ?_
              rw [hQ]
              exact W.iret (v := y61_1) hx hb hr (fun t ht hW => ⟨⟨y61_1, y61_1, rfl, rfl, ⟨m61_i_lyingCount, m61_f_trial, m6_f_offers, m61_J, by rw [ht]; exact hP, hD, ⟨ie0, ie1, ie2, ie3, gi61_i_lyingCount_lo, gi61_i_lyingCount_hi, ie6, ie7, ie8, ie9, ie10, ie11, ie12, ie13, ie14, ie15, ie16, ie17, ie18, ie19, ie20, ie21, ie22, ie23, ie24, ie25, ie26, ie27, ie28, ie29, ie30, ie31, ie32, ie33, ie34, ie35, ie36, ie37, ie38, ie39⟩⟩⟩, hS.F ht⟩) hS.2.2 dX8_barter_112
            · skip
              have f53 : y61_4.toInt < r_50.toInt := qi_nle c_51 rfl rfl
              refine lv_aload_n hx hb dX8_barter_67 rfl (lv_at hl 0 rfl) ?_
              refine lv_iload hx hb dX8_barter_68 (lv_at hl 4 rfl) ?_
              refine lv_iload_n hx hb dX8_barter_70 rfl (lv_at hl 2 rfl) ?_
              have hFc := frA hD hS hA
              refine va_callv (va_runV (As := [.int y61_4, .int x47]) (rest := []) ⟨hx, hb, hml, hown, hG⟩ (kX8_spread_v2 l dC dI r ct i_tapeLength i_time m61_i_lyingCount i_rd_fault i_rd_token i_rd_kind i_sc_count i_sc_at i_A_tunes i_A_houses i_fA_length i_B_tunes i_B_houses i_fB_length i_acts_done i_acts_undone i_kn_count f_boxes f_boxKept m61_f_trial m6_f_offers f_A_noteCounts f_A_notes f_B_noteCounts f_B_notes f_now_where f_now_worn f_ahead_where f_ahead_worn f_acts_rows f_kn_tunes f_kn_noteTimes m61_J L y61_4 x47 H61.size ⟨ie0, ie1, ie2, ie3, gi61_i_lyingCount_lo, gi61_i_lyingCount_hi, ie6, ie7, ie8, ie9, ie10, ie11, ie12, ie13, ie14, ie15, ie16, ie17, ie18, ie19, ie20, ie21, ie22, ie23, ie24, ie25, ie26, ie27, ie28, ie29, ie30, ie31, ie32, ie33, ie34, ie35, ie36, ie37, ie38, ie39⟩ (ox_6 g61_1) (ox_450 ie12 ie13 f48)) (cwV 2 hG (goodV gw903 gw905 gw32 gw129 gw906) rfl rfl rfl hd_X8_spread ⟨(Nat.le_of_ble_eq_true rfl), (Nat.le_of_ble_eq_true rfl)⟩) ⟨fbW, va_recv hK hP (ci := 7) (q0 := 0) rfl rfl, pW_in hP hK hD⟩ rfl rfl hl.1 rfl (lv_room (Nat.le_of_ble_eq_true rfl)) dX8_barter_71 ⟨(Nat.le_of_ble_eq_true rfl), (Nat.le_of_ble_eq_true rfl)⟩) hS (fun q _ h => hFc q h) hFc (fun _ t_ H54 locs ht hvm hw hB hz1 hk1 hS => ?_)
              obtain ⟨z56, hP1, hD1, hI58, f57⟩ := hB
              rw [ht] at hP1
              have hP := hP1
              have hD := dW hFc hD1
              obtain ⟨im59, im60, im61, im62, im63, im64, im65, im66, im67, im68, im69, im70, im71, im72, im73, im74, im75, im76, im77, im78, im79, im80, im81, im82, im83, im84, im85, im86, im87, im88, im89, im90, im91, im92, im93, im94, im95, im96, im97, im98⟩ := id hI58
              refine lv_aload_n hx hb dX8_barter_74 rfl (lv_at hl 0 rfl) ?_
              have hFc := frA hD hS hA
              refine va_calli (va_runV (As := []) (rest := []) ⟨hx, hb, hml, hown, hG⟩ (kX8_trialIsBarter l dC dI r ct i_tapeLength i_time m61_i_lyingCount i_rd_fault i_rd_token i_rd_kind i_sc_count i_sc_at i_A_tunes i_A_houses i_fA_length i_B_tunes i_B_houses i_fB_length i_acts_done i_acts_undone i_kn_count f_boxes f_boxKept z56 m6_f_offers f_A_noteCounts f_A_notes f_B_noteCounts f_B_notes f_now_where f_now_worn f_ahead_where f_ahead_worn f_acts_rows f_kn_tunes f_kn_noteTimes m61_J L H54.size hI58 f57 (RGP_sub gr6_0 (ox_451) (ox_452 f46))) (cwV 0 hG (goodV gw949 gw951 gw39 gw129 gw952) rfl rfl rfl hd_X8_trialIsBarter ⟨(Nat.le_of_ble_eq_true rfl), (Nat.le_of_ble_eq_true rfl)⟩) ⟨fbW, va_recv hK hP (ci := 7) (q0 := 0) rfl rfl, pW_in hP hK hD⟩ rfl rfl hl.1 rfl (lv_room (Nat.le_of_ble_eq_true rfl)) dX8_barter_75 ⟨(Nat.le_of_ble_eq_true rfl), (Nat.le_of_ble_eq_true rfl)⟩) hS (fun q _ h => hFc q h) hFc (fun r_100 u_ t_ H99 locs ht hvm hw hB hz1 hk1 hS => ?_)
              subst hw
              obtain ⟨z101, hP1, hD1, hI105, f102, f103, f104⟩ := hB
              rw [ht] at hP1
              have hP := hP1
              have hD := dW hFc hD1
              obtain ⟨im106, im107, im108, im109, im110, im111, im112, im113, im114, im115, im116, im117, im118, im119, im120, im121, im122, im123, im124, im125, im126, im127, im128, im129, im130, im131, im132, im133, im134, im135, im136, im137, im138, im139, im140, im141, im142, im143, im144, im145⟩ := id hI105
              refine lv_if_eq (tgt := 88) hx hb dX8_barter_78 (by decide) (fun c_146 => ?_) (fun c_146 => ?_)
              · skip
                have f147 : r_100.toInt = 0 := qi_eq c_146 rfl zc_0
                have f148 : r_100.toInt = (0 : Int) := (ox_92 f103 f104 f147)
                refine lv_ldc (v := (-1000000000)) hx hb hown (hG _ gw777) dX8_barter_88 ?_
                refine lv_istore (lv' := [(5, .int (-1000000000)), (0, .ref (r 0)), (1, .int y61_1), (2, .int x47), (3, .int r_50), (4, .int y61_4)]) hx hb dX8_barter_90 hl (by decide) rfl (fun ls hl => ?_)
                refine lv_iload hx hb dX8_barter_92 (lv_at hl 0 rfl) ?_
                refine lv_iload_n hx hb dX8_barter_94 rfl (lv_at hl 2 rfl) ?_
                refine lv_icmp_le (tgt := 105) hx hb dX8_barter_95 (by decide) (fun c_149 => ?_) (fun c_149 => ((ox_453 (qi_nle c_149 zc_m1000000000 rfl) g61_0)).elim)
                have f150 : (-1000000000) ≤ y61_1.toInt := qi_le c_149 zc_m1000000000 rfl
                obtain ⟨x151, ex151⟩ : ∃ y : Int32, y = y61_4 + Int32.ofInt 1 := ⟨_, rfl⟩
                have f152 : (-2147483648) ≤ r_50.toInt ∧ r_50.toInt ≤ 2147483647 := i32_rg _
                have f153 : (-2147483648) ≤ y61_4.toInt ∧ y61_4.toInt ≤ 2147483647 := i32_rg _
                have f154 : x151.toInt = y61_4.toInt + 1 := (ox_13 (qi_add ex151 rfl (by decide) (ox_11 g61_1) (ox_384 f53 f152)))
                refine lv_iinc (v := x151) (lv' := [(4, .int x151), (5, .int (-1000000000)), (0, .ref (r 0)), (1, .int y61_1), (2, .int x47), (3, .int r_50)]) hx hb dX8_barter_105 hl (k := 5) rfl ex151.symm (by decide) rfl (fun ls hl => ?_)
                refine lv_goto (tgt := 61) hx hb dX8_barter_108 (by decide) ?_
                exact ih61 y61_1 x151 m61_i_lyingCount z101 m61_J H99 _ _ (ox_454 g61_0 f150) (ox_14 g61_1 f154) (ox_386 f53 f152 f154) (ox_6 g61_3) (ox_390 g61_4) gi61_i_lyingCount_lo gi61_i_lyingCount_hi hP hD hS (lv_sub hl [2, 3, 4, 5, 0] rfl) (ox_387 hM61 f154)
              · skip
                have f155 : r_100.toInt ≠ 0 := qi_ne c_146 rfl zc_0
                have f156 : r_100.toInt = (1 : Int) := (ox_209 f102 f155)
                have f157 : (1 : Int) ≤ r_100.toInt := (ox_53 f103 f104 f156)
                refine lv_aload_n hx hb dX8_barter_81 rfl (lv_at hl 0 rfl) ?_
                refine va_calli (va_runV (As := []) (rest := []) ⟨hx, hb, hml, hown, hG⟩ (kX8_barterGladness l dC dI r ct i_tapeLength i_time m61_i_lyingCount i_rd_fault i_rd_token i_rd_kind i_sc_count i_sc_at i_A_tunes i_A_houses i_fA_length i_B_tunes i_B_houses i_fB_length i_acts_done i_acts_undone i_kn_count f_boxes f_boxKept z101 m6_f_offers f_A_noteCounts f_A_notes f_B_noteCounts f_B_notes f_now_where f_now_worn f_ahead_where f_ahead_worn f_acts_rows f_kn_tunes f_kn_noteTimes m61_J L H99.size hI105) (cwV 0 hG (goodV gw957 gw959 gw41 gw129 gw960) rfl rfl rfl hd_X8_barterGladness ⟨(Nat.le_of_ble_eq_true rfl), (Nat.le_of_ble_eq_true rfl)⟩) ⟨fbR, va_recv hK hP (ci := 7) (q0 := 0) rfl rfl, pR_in hP hK⟩ rfl rfl hl.1 rfl (lv_room (Nat.le_of_ble_eq_true rfl)) dX8_barter_82 ⟨(Nat.le_of_ble_eq_true rfl), (Nat.le_of_ble_eq_true rfl)⟩) hS (fun q hq h => absurd hq (Nat.not_lt.mpr h)) (fun q h => hA q (Nat.le_trans hS.1 h)) (fun r_159 u_ t_ H158 locs ht hvm hw hB hz1 hk1 hS => ?_)
                subst hw
                have hP := wk hP hk1
                refine lv_goto (tgt := 90) hx hb dX8_barter_85 (by decide) ?_
                refine lv_istore (lv' := [(5, .int r_159), (0, .ref (r 0)), (1, .int y61_1), (2, .int x47), (3, .int r_50), (4, .int y61_4)]) hx hb dX8_barter_90 hl (by decide) rfl (fun ls hl => ?_)
                refine lv_iload hx hb dX8_barter_92 (lv_at hl 0 rfl) ?_
                refine lv_iload_n hx hb dX8_barter_94 rfl (lv_at hl 2 rfl) ?_
                refine lv_icmp_le (tgt := 105) hx hb dX8_barter_95 (by decide) (fun c_160 => ?_) (fun c_160 => ?_)
                · skip
                  have f161 : r_159.toInt ≤ y61_1.toInt := qi_le c_160 rfl rfl
                  obtain ⟨x162, ex162⟩ : ∃ y : Int32, y = y61_4 + Int32.ofInt 1 := ⟨_, rfl⟩
                  have f163 : (-2147483648) ≤ r_50.toInt ∧ r_50.toInt ≤ 2147483647 := i32_rg _
                  have f164 : (-2147483648) ≤ y61_4.toInt ∧ y61_4.toInt ≤ 2147483647 := i32_rg _
                  have f165 : x162.toInt = y61_4.toInt + 1 := (ox_13 (qi_add ex162 rfl (by decide) (ox_11 g61_1) (ox_384 f53 f163)))
                  refine lv_iinc (v := x162) (lv' := [(4, .int x162), (5, .int r_159), (0, .ref (r 0)), (1, .int y61_1), (2, .int x47), (3, .int r_50)]) hx hb dX8_barter_105 hl (k := 5) rfl ex162.symm (by decide) rfl (fun ls hl => ?_)
                  refine lv_goto (tgt := 61) hx hb dX8_barter_108 (by decide) ?_
                  exact ih61 y61_1 x162 m61_i_lyingCount z101 m61_J H158 _ _ (ox_455 g61_0 f161) (ox_14 g61_1 f165) (ox_386 f53 f163 f165) (ox_6 g61_3) (ox_390 g61_4) gi61_i_lyingCount_lo gi61_i_lyingCount_hi hP hD hS (lv_sub hl [2, 3, 4, 5, 0] rfl) (ox_387 hM61 f165)
                · skip
                  have f166 : y61_1.toInt < r_159.toInt := qi_nle c_160 rfl rfl
                  refine lv_iload hx hb dX8_barter_98 (lv_at hl 0 rfl) ?_
                  refine lv_istore_n (lv' := [(1, .int r_159), (5, .int r_159), (0, .ref (r 0)), (2, .int x47), (3, .int r_50), (4, .int y61_4)]) hx hb dX8_barter_100 rfl hl (by decide) rfl (fun ls hl => ?_)
                  refine lv_aload_n hx hb dX8_barter_101 rfl (lv_at hl 2 rfl) ?_
                  have hFc := frA hD hS hA
                  refine va_callv (va_runV (As := []) (rest := []) ⟨hx, hb, hml, hown, hG⟩ (kX8_layTrial l dC dI r ct i_tapeLength i_time m61_i_lyingCount i_rd_fault i_rd_token i_rd_kind i_sc_count i_sc_at i_A_tunes i_A_houses i_fA_length i_B_tunes i_B_houses i_fB_length i_acts_done i_acts_undone i_kn_count f_boxes f_boxKept z101 m6_f_offers f_A_noteCounts f_A_notes f_B_noteCounts f_B_notes f_now_where f_now_worn f_ahead_where f_ahead_worn f_acts_rows f_kn_tunes f_kn_noteTimes m61_J L H158.size hI105) (cwV 0 hG (goodV gw918 gw920 gw35 gw129 gw921) rfl rfl rfl hd_X8_layTrial ⟨(Nat.le_of_ble_eq_true rfl), (Nat.le_of_ble_eq_true rfl)⟩) ⟨fbW, va_recv hK hP (ci := 7) (q0 := 0) rfl rfl, pW_in hP hK hD⟩ rfl rfl hl.1 rfl (lv_room (Nat.le_of_ble_eq_true rfl)) dX8_barter_102 ⟨(Nat.le_of_ble_eq_true rfl), (Nat.le_of_ble_eq_true rfl)⟩) hS (fun q _ h => hFc q h) hFc (fun _ t_ H167 locs ht hvm hw hB hz1 hk1 hS => ?_)
                  obtain ⟨x169, J170, hP1, hD1, hI171⟩ := hB
                  rw [ht] at hP1
                  have hP := hP1
                  have hD := dW hFc hD1
                  obtain ⟨im172, im173, im174, im175, im176, im177, im178, im179, im180, im181, im182, im183, im184, im185, im186, im187, im188, im189, im190, im191, im192, im193, im194, im195, im196, im197, im198, im199, im200, im201, im202, im203, im204, im205, im206, im207, im208, im209, im210, im211⟩ := id hI171
                  obtain ⟨x212, ex212⟩ : ∃ y : Int32, y = y61_4 + Int32.ofInt 1 := ⟨_, rfl⟩
                  have f213 : (-2147483648) ≤ r_50.toInt ∧ r_50.toInt ≤ 2147483647 := i32_rg _
                  have f214 : (-2147483648) ≤ y61_4.toInt ∧ y61_4.toInt ≤ 2147483647 := i32_rg _
                  have f215 : x212.toInt = y61_4.toInt + 1 := (ox_13 (qi_add ex212 rfl (by decide) (ox_11 g61_1) (ox_384 f53 f213)))
                  refine lv_iinc (v := x212) (lv' := [(4, .int x212), (1, .int r_159), (5, .int r_159), (0, .ref (r 0)), (2, .int x47), (3, .int r_50)]) hx hb dX8_barter_105 hl (k := 5) rfl ex212.symm (by decide) rfl (fun ls hl => ?_)
                  refine lv_goto (tgt := 61) hx hb dX8_barter_108 (by decide) ?_
                  exact ih61 r_159 x212 x169 z101 J170 H167 _ _ (ox_456 g61_0 f166) (ox_14 g61_1 f215) (ox_386 f53 f213 f215) (ox_103 im176 im177) (ox_104 im176 im177) im176 im177 hP hD hS (lv_sub hl [3, 1, 4, 5, 0] rfl) (ox_387 hM61 f215)
        exact L61 (-1 * (0 : Int32).toInt + 2147483647 + 1).toNat (-1000000000) 0 i_lyingCount f_trial J3 H49 _ _ (ox_457 zc_m1000000000) (ox_27 zc_0) (ox_396 zc_0) (ox_103 ie4 ie5) (ox_104 ie4 ie5) ie4 ie5 hP hD hS (lv_sub hl [4, 3, 2, 1, 0] rfl) (mlt (ox_397 zc_0))
      · skip
        have f216 : y6_1.toInt < i_A_houses.toInt := qi_nle c_45 rfl rfl
        refine lv_aload_n hx hb dX8_barter_17 rfl (lv_at hl 0 rfl) ?_
        refine gX_X8_65_0 hx hb hG hown hK hP dX8_barter_18 ?_
        refine lv_iload_n hx hb dX8_barter_21 rfl (lv_at hl 1 rfl) ?_
        refine lv_aload_n hx hb dX8_barter_22 rfl (lv_at hl 0 rfl) ?_
        refine gX_X8_30_0 hx hb hG hown hK hP dX8_barter_23 ?_
        refine lv_iload_n hx hb dX8_barter_26 rfl (lv_at hl 1 rfl) ?_
        refine va_calli (va_runV (As := [.int y6_1]) (rest := [.int y6_1, .ref (r 16)]) ⟨hx, hb, hml, hown, hG⟩ (kX7_onApprovalIn l dC dI r ct i_tapeLength i_time i_lyingCount i_rd_fault i_rd_token i_rd_kind i_sc_count i_sc_at i_A_tunes i_A_houses i_fA_length i_B_tunes i_B_houses i_fB_length i_acts_done i_acts_undone i_kn_count f_boxes f_boxKept f_trial m6_f_offers f_A_noteCounts f_A_notes f_B_noteCounts f_B_notes f_now_where f_now_worn f_ahead_where f_ahead_worn f_acts_rows f_kn_tunes f_kn_noteTimes J3 L y6_1 H6.size hI4 (ox_6 g6_0) hp0) (cwV 1 hG (goodV gw720 gw721 gw722 gw134 gw723) rfl rfl rfl hd_X7_onApprovalIn ⟨(Nat.le_of_ble_eq_true rfl), (Nat.le_of_ble_eq_true rfl)⟩) ⟨fbR, va_recv hK hP (ci := 6) (q0 := 7) rfl rfl, pR_in hP hK⟩ rfl rfl hl.1 rfl (lv_room (Nat.le_of_ble_eq_true rfl)) dX8_barter_27 ⟨(Nat.le_of_ble_eq_true rfl), (Nat.le_of_ble_eq_true rfl)⟩) hS (fun q hq h => absurd hq (Nat.not_lt.mpr h)) (fun q h => hA q (Nat.le_trans hS.1 h)) (fun r_218 u_ t_ H217 locs ht hvm hw hB hz1 hk1 hS => ?_)
        subst hw
        have hP := wk hP hk1
        obtain ⟨f219, f220, f221⟩ := hB
        refine stX_16 (mm := y6_1.toInt) hx hb hK hP hD hS rfl (ox_9 g6_0) (ox_376 ie15 f216) dX8_barter_30 (fun z223 H222 locs ez223 hP hD hS => ?_)
        obtain ⟨x224, ex224⟩ : ∃ y : Int32, y = y6_1 + Int32.ofInt 1 := ⟨_, rfl⟩
        have f225 : x224.toInt = y6_1.toInt + 1 := (ox_13 (qi_add ex224 rfl (by decide) (ox_11 g6_0) (ox_219 g6_1)))
        refine lv_iinc (v := x224) (lv' := [(1, .int x224), (0, .ref (r 0))]) hx hb dX8_barter_31 hl (k := 1) rfl ex224.symm (by decide) rfl (fun ls hl => ?_)
        refine lv_goto (tgt := 6) hx hb dX8_barter_34 (by decide) ?_
        exact ih6 x224 z223 H222 _ _ (ox_14 g6_0 f225) (ox_220 ie15 f216 f225) (RGP_up gr6_0 ez223 (ox_451) (ox_9 g6_0) (ox_293) (ox_13 f225) (ox_458 f219 f220 f221) (ox_459 f219 f220 f221)) hP hD hS (lv_sub hl [1, 0] rfl) (ox_221 hM6 f225)
  exact L6 (-1 * (0 : Int32).toInt + 4 + 1).toNat 0 f_offers H1 _ _ (ox_27 zc_0) (ox_224 zc_0) (RGP_nil (ox_460 zc_0)) hP hD hS (lv_sub hl [1, 0] rfl) (mlt (ox_225 zc_0))
set_option maxHeartbeats 4000000 in
set_option maxRecDepth 100000 in
theorem kX8_isNote (l : Launch) (dC : Nat → ClassId) (dI : Nat → Nat → Nat) (p0 : Int32) (sz : Nat) : Met l yX8_isNote (.code yX8_isNote cX8_isNote 1 (some .boolean) :: GW) { frames := 2, cells := 0, slots := 0, locals := 100 } (va_Pc [.int p0] (pR (dC, dI) [] [] sz)) (va_Qi (fun (r0 : Int32) (u : Int32) => r0 = u) (fun (u : Int32) (t : State) => (((p0.toInt + 1 ≤ (0 : Int)) ∧ (u.toInt = (0 : Int))) ∨ (((0 : Int) ≤ p0.toInt) ∧ ((7 : Int) ≤ p0.toInt) ∧ (u.toInt = (0 : Int))) ∨ (((0 : Int) ≤ p0.toInt) ∧ (p0.toInt ≤ (6 : Int)) ∧ (u.toInt = (1 : Int)))) ∧ ((0 : Int) ≤ u.toInt) ∧ (u.toInt ≤ (1 : Int))) (fun q => sz ≤ q)) 0 0 (fun q => sz ≤ q) := by
  refine Met.ofW (cc := cX8_isNote) (maxL := 1) (ret := (some .boolean)) (by decide) rfl ?_
  intro p e s m args below meth c0 s₁ B hml hv
  obtain ⟨rfl, hsz, hP, hK⟩ := hv
  have hx := B.exec
  have hb := B.bytes
  have hr := B.returns
  have hts := atoms_spec (ws := .code yX8_isNote cX8_isNote 1 (some .boolean) :: GW) B.pre
  have hG : ∀ w ∈ GW, w.before _ s = true := fun w h => hts w (List.mem_cons_of_mem _ h)
  have hown : s.vm.findClass RX8 = some m.cls := findClass_of_methodNamed B.named
  subst hsz
  have hS : va_S (fun q => s.heap.size ≤ q) s.heap s.heap [] := va_S.rf
  have hP : va_P (dC, dI) vwCl [] s.heap := hP
  have hl := lv_entry ([.int p0]) (n := 1) (Nat.le_of_ble_eq_true rfl)
  rw [lg_entry_eq]
  generalize (lg_sl ([.int p0]) ++ List.replicate (1 - (lg_sl ([.int p0])).length) Slot.unset).toArray = ls at hl ⊢
  have hl : lv_has ls 1 [(0, .int p0)] := hl
  refine nameQ (fun Q hQ => ?_)
  refine lv_iload_n hx hb dX8_isNote_0 rfl (lv_at hl 0 rfl) ?_
  refine lv_if_lt (tgt := 14) hx hb dX8_isNote_1 (by decide) (fun c_1 => ?_) (fun c_1 => ?_)
  · skip
    have f2 : p0.toInt < 0 := qi_lt c_1 rfl zc_0
    refine lv_iconst (v := 0) hx hb dX8_isNote_14 (by decide) ?_
    rw [hQ]
    exact W.zret (v := 0) hx hb hr (by decide) (fun t ht hW => ⟨⟨0, 0, rfl, rfl, ⟨(ox_461 f2 zc_0), (ox_27 zc_0), (ox_28 zc_0)⟩⟩, hS.F ht⟩) hS.2.2 dX8_isNote_15
  · skip
    have f3 : 0 ≤ p0.toInt := qi_nlt c_1 rfl zc_0
    refine lv_iload_n hx hb dX8_isNote_4 rfl (lv_at hl 0 rfl) ?_
    refine lv_bipush (v := 7) hx hb dX8_isNote_5 (by decide) ?_
    refine lv_icmp_ge (tgt := 14) hx hb dX8_isNote_7 (by decide) (fun c_4 => ?_) (fun c_4 => ?_)
    · skip
      have f5 : 7 ≤ p0.toInt := qi_le c_4 zc_7 rfl
      refine lv_iconst (v := 0) hx hb dX8_isNote_14 (by decide) ?_
      rw [hQ]
      exact W.zret (v := 0) hx hb hr (by decide) (fun t ht hW => ⟨⟨0, 0, rfl, rfl, ⟨(ox_462 f3 f5 zc_0), (ox_27 zc_0), (ox_28 zc_0)⟩⟩, hS.F ht⟩) hS.2.2 dX8_isNote_15
    · skip
      have f6 : p0.toInt < 7 := qi_nle c_4 zc_7 rfl
      refine lv_iconst (v := 1) hx hb dX8_isNote_10 (by decide) ?_
      refine lv_goto (tgt := 15) hx hb dX8_isNote_11 (by decide) ?_
      rw [hQ]
      exact W.zret (v := 1) hx hb hr (by decide) (fun t ht hW => ⟨⟨1, 1, rfl, rfl, ⟨(ox_463 f3 f6 zc_1), (ox_31 zc_1), (ox_32 zc_1)⟩⟩, hS.F ht⟩) hS.2.2 dX8_isNote_15
set_option maxHeartbeats 4000000 in
set_option maxRecDepth 100000 in
theorem kX8_tunesWith (l : Launch) (dC : Nat → ClassId) (dI : Nat → Nat → Nat) (r : Nat → Nat) (ct : Nat → ClassId) (i_tapeLength i_time i_lyingCount i_rd_fault i_rd_token i_rd_kind i_sc_count i_sc_at i_A_tunes i_A_houses i_fA_length i_B_tunes i_B_houses i_fB_length i_acts_done i_acts_undone i_kn_count : Int32) (f_boxes f_boxKept f_trial f_offers f_A_noteCounts f_A_notes f_B_noteCounts f_B_notes f_now_where f_now_worn f_ahead_where f_ahead_worn f_acts_rows f_kn_tunes f_kn_noteTimes : Nat → Int32) (J : Nat → Nat → Int32) (L : Nat → Nat → Int64) (p0 p1 p2 p3 : Int32) (sz : Nat) (hI : (IX i_tapeLength i_time i_lyingCount i_rd_token i_sc_count i_sc_at i_A_tunes i_A_houses i_fA_length i_B_tunes i_B_houses i_fB_length i_acts_done i_acts_undone i_kn_count f_boxes f_A_noteCounts f_A_notes f_B_noteCounts f_B_notes f_now_worn f_ahead_worn f_acts_rows f_kn_tunes)) (hz_p3 : 0 ≤ p3.toInt ∧ p3.toInt ≤ 1) : Met l yX8_tunesWith (.code yX8_tunesWith cX8_tunesWith 9 (some .int) :: GW) { frames := 8, cells := 0, slots := 0, locals := 295 } (va_Pc [.ref (r 0), .int p0, .int p1, .int p2, .int p3] (pR (dC, dI) (WX r ct i_tapeLength i_time i_lyingCount i_rd_fault i_rd_token i_rd_kind i_sc_count i_sc_at i_A_tunes i_A_houses i_fA_length i_B_tunes i_B_houses i_fB_length i_acts_done i_acts_undone i_kn_count f_boxes f_boxKept f_trial f_offers f_A_noteCounts f_A_notes f_B_noteCounts f_B_notes f_now_where f_now_worn f_ahead_where f_ahead_worn f_acts_rows f_kn_tunes f_kn_noteTimes J L) (TX ct) sz)) (va_Qi (fun (r0 : Int32) (u : Int32) => r0 = u) (fun (u : Int32) (t : State) => True) (fun q => sz ≤ q)) 0 0 (fun q => sz ≤ q) := by
  refine Met.ofW (cc := cX8_tunesWith) (maxL := 9) (ret := (some .int)) (by decide) rfl ?_
  intro p e s m args below meth c0 s₁ B hml hv
  obtain ⟨rfl, hsz, hP, hK⟩ := hv
  have hx := B.exec
  have hb := B.bytes
  have hr := B.returns
  have hts := atoms_spec (ws := .code yX8_tunesWith cX8_tunesWith 9 (some .int) :: GW) B.pre
  have hG : ∀ w ∈ GW, w.before _ s = true := fun w h => hts w (List.mem_cons_of_mem _ h)
  have hown : s.vm.findClass RX8 = some m.cls := findClass_of_methodNamed B.named
  subst hsz
  have hS : va_S (fun q => s.heap.size ≤ q) s.heap s.heap [] := va_S.rf
  have hP : va_P (dC, dI) vwCl (WX r ct i_tapeLength i_time i_lyingCount i_rd_fault i_rd_token i_rd_kind i_sc_count i_sc_at i_A_tunes i_A_houses i_fA_length i_B_tunes i_B_houses i_fB_length i_acts_done i_acts_undone i_kn_count f_boxes f_boxKept f_trial f_offers f_A_noteCounts f_A_notes f_B_noteCounts f_B_notes f_now_where f_now_worn f_ahead_where f_ahead_worn f_acts_rows f_kn_tunes f_kn_noteTimes J L) s.heap := hP
  have hl := lv_entry ([.ref (r 0), .int p0, .int p1, .int p2, .int p3]) (n := 9) (Nat.le_of_ble_eq_true rfl)
  rw [lg_entry_eq]
  generalize (lg_sl ([.ref (r 0), .int p0, .int p1, .int p2, .int p3]) ++ List.replicate (9 - (lg_sl ([.ref (r 0), .int p0, .int p1, .int p2, .int p3])).length) Slot.unset).toArray = ls at hl ⊢
  have hl : lv_has ls 9 [(0, .ref (r 0)), (1, .int p0), (2, .int p1), (3, .int p2), (4, .int p3)] := hl
  refine nameQ (fun Q hQ => ?_)
  obtain ⟨ie0, ie1, ie2, ie3, ie4, ie5, ie6, ie7, ie8, ie9, ie10, ie11, ie12, ie13, ie14, ie15, ie16, ie17, ie18, ie19, ie20, ie21, ie22, ie23, ie24, ie25, ie26, ie27, ie28, ie29, ie30, ie31, ie32, ie33, ie34, ie35, ie36, ie37, ie38, ie39⟩ := id hI
  refine lv_iconst (v := 0) hx hb dX8_tunesWith_0 (by decide) ?_
  refine lv_istore (lv' := [(5, .int 0), (0, .ref (r 0)), (1, .int p0), (2, .int p1), (3, .int p2), (4, .int p3)]) hx hb dX8_tunesWith_1 hl (by decide) rfl (fun ls hl => ?_)
  refine lv_iconst (v := 0) hx hb dX8_tunesWith_3 (by decide) ?_
  refine lv_istore (lv' := [(6, .int 0), (5, .int 0), (0, .ref (r 0)), (1, .int p0), (2, .int p1), (3, .int p2), (4, .int p3)]) hx hb dX8_tunesWith_4 hl (by decide) rfl (fun ls hl => ?_)
  have L6 : ∀ (N6 : Nat) (y6_5 y6_6 : Int32) (H6 : Heap) (locs : List Loc) (ls : Array Slot) (g6_0 : (0 : Int) ≤ y6_6.toInt) (g6_1 : y6_6.toInt ≤ (5 : Int)) (hP : va_P (dC, dI) vwCl (WX r ct i_tapeLength i_time i_lyingCount i_rd_fault i_rd_token i_rd_kind i_sc_count i_sc_at i_A_tunes i_A_houses i_fA_length i_B_tunes i_B_houses i_fB_length i_acts_done i_acts_undone i_kn_count f_boxes f_boxKept f_trial f_offers f_A_noteCounts f_A_notes f_B_noteCounts f_B_notes f_now_where f_now_worn f_ahead_where f_ahead_worn f_acts_rows f_kn_tunes f_kn_noteTimes J L) H6) (hS : va_S (fun q => s.heap.size ≤ q) s.heap H6 locs) (hl : lv_has ls 9 [(0, .ref (r 0)), (1, .int p0), (2, .int p1), (3, .int p2), (4, .int p3), (5, .int y6_5), (6, .int y6_6)]) (hM : -1 * y6_6.toInt + 5 < (N6 : Int)), W p l e { frames := 8, cells := 0, slots := 0, locals := 295 } s m ([.ref (r 0), .int p0, .int p1, .int p2, .int p3] : List Value).toArray below meth c0 H6 locs 0 0 Q (F0 m 6 ls []) := by
    intro N6
    induction N6 with
    | zero =>
      intro y6_5 y6_6 H6 locs ls g6_0 g6_1 hP hS hl hM
      exact ((ox_82 hM g6_0 g6_1)).elim
    | succ N6 ih6 =>
      intro y6_5 y6_6 H6 locs ls g6_0 g6_1 hP hS hl hM
      have hM6 := msucc hM
      refine lv_iload hx hb dX8_tunesWith_6 (lv_at hl 6 rfl) ?_
      refine lv_aload_n hx hb dX8_tunesWith_8 rfl (lv_at hl 0 rfl) ?_
      refine gX_X8_23_0 hx hb hG hown hK hP dX8_tunesWith_9 ?_
      refine gX_X8_108_3 hx hb hG hown hK hP dX8_tunesWith_12 ?_
      refine lv_icmp_ge (tgt := 88) hx hb dX8_tunesWith_15 (by decide) (fun c_1 => ?_) (fun c_1 => ?_)
      · skip
        have f2 : i_A_tunes.toInt ≤ y6_6.toInt := qi_le c_1 rfl rfl
        refine lv_iload hx hb dX8_tunesWith_88 (lv_at hl 5 rfl) ?_
        rw [hQ]
        exact W.iret (v := y6_5) hx hb hr (fun t ht hW => ⟨⟨y6_5, y6_5, rfl, rfl, trivial⟩, hS.F ht⟩) hS.2.2 dX8_tunesWith_90
      · skip
        have f3 : y6_6.toInt < i_A_tunes.toInt := qi_nle c_1 rfl rfl
        refine lv_aload_n hx hb dX8_tunesWith_18 rfl (lv_at hl 0 rfl) ?_
        refine gX_X8_30_0 hx hb hG hown hK hP dX8_tunesWith_19 ?_
        refine gX_X8_118_7 hx hb hG hown hK hP dX8_tunesWith_22 ?_
        refine lv_iload hx hb dX8_tunesWith_25 (lv_at hl 6 rfl) ?_
        refine ldX_43 (mm := y6_6.toInt) hx hb hK hP rfl (ox_9 g6_0) (ox_99 ie13 f3) dX8_tunesWith_27 ?_
        have f4 : 0 ≤ (f_now_worn (y6_6.toInt).toNat).toInt ∧ (f_now_worn (y6_6.toInt).toNat).toInt ≤ 99 := ie36 (y6_6.toInt)
        refine lv_istore (lv' := [(7, .int (f_now_worn (y6_6.toInt).toNat)), (0, .ref (r 0)), (1, .int p0), (2, .int p1), (3, .int p2), (4, .int p3), (5, .int y6_5), (6, .int y6_6)]) hx hb dX8_tunesWith_28 hl (by decide) rfl (fun ls hl => ?_)
        refine lv_iload hx hb dX8_tunesWith_30 (lv_at hl 5 rfl) ?_
        refine lv_if_eq (tgt := 51) hx hb dX8_tunesWith_32 (by decide) (fun c_5 => ?_) (fun c_5 => ?_)
        · skip
          have f6 : p3.toInt = 0 := qi_eq c_5 rfl zc_0
          refine lv_iconst (v := 0) hx hb dX8_tunesWith_51 (by decide) ?_
          refine lv_istore (lv' := [(8, .int 0), (7, .int (f_now_worn (y6_6.toInt).toNat)), (0, .ref (r 0)), (1, .int p0), (2, .int p1), (3, .int p2), (4, .int p3), (5, .int y6_5), (6, .int y6_6)]) hx hb dX8_tunesWith_52 hl (by decide) rfl (fun ls hl => ?_)
          refine lv_aload_n hx hb dX8_tunesWith_54 rfl (lv_at hl 2 rfl) ?_
          refine gX_X8_23_0 hx hb hG hown hK hP dX8_tunesWith_55 ?_
          refine lv_iload hx hb dX8_tunesWith_58 (lv_at hl 8 rfl) ?_
          refine lv_iload hx hb dX8_tunesWith_60 (lv_at hl 1 rfl) ?_
          refine lv_iload hx hb dX8_tunesWith_62 (lv_at hl 0 rfl) ?_
          refine lv_iload_n hx hb dX8_tunesWith_64 rfl (lv_at hl 3 rfl) ?_
          refine lv_iload_n hx hb dX8_tunesWith_65 rfl (lv_at hl 4 rfl) ?_
          refine lv_iload_n hx hb dX8_tunesWith_66 rfl (lv_at hl 5 rfl) ?_
          refine va_calli (va_runV (As := [.int y6_6, .int (f_now_worn (y6_6.toInt).toNat), .int 0, .int p0, .int p1, .int p2]) (rest := []) ⟨hx, hb, hml, hown, hG⟩ (kX4_hasTurn l dC dI r ct i_tapeLength i_time i_lyingCount i_rd_fault i_rd_token i_rd_kind i_sc_count i_sc_at i_A_tunes i_A_houses i_fA_length i_B_tunes i_B_houses i_fB_length i_acts_done i_acts_undone i_kn_count f_boxes f_boxKept f_trial f_offers f_A_noteCounts f_A_notes f_B_noteCounts f_B_notes f_now_where f_now_worn f_ahead_where f_ahead_worn f_acts_rows f_kn_tunes f_kn_noteTimes J L y6_6 (f_now_worn (y6_6.toInt).toNat) 0 p0 p1 p2 H6.size hI (ox_6 g6_0) (ox_223 f3) (ox_56 f4) (ox_57 f4) (ox_27 zc_0) (ox_205 zc_0)) (cwV 6 hG (goodV gw1008 gw759 gw760 gw132 gw761) rfl rfl rfl hd_X4_hasTurn ⟨(Nat.le_of_ble_eq_true rfl), (Nat.le_of_ble_eq_true rfl)⟩) ⟨fbR, va_recv hK hP (ci := 3) (q0 := 3) rfl rfl, pR_in hP hK⟩ rfl rfl hl.1 rfl (lv_room (Nat.le_of_ble_eq_true rfl)) dX8_tunesWith_67 ⟨(Nat.le_of_ble_eq_true rfl), (Nat.le_of_ble_eq_true rfl)⟩) hS (fun q hq h => absurd hq (Nat.not_lt.mpr h)) (fun q h => Nat.le_trans hS.1 h) (fun r_8 u_ t_ H7 locs ht hvm hw hB hz1 hk1 hS => ?_)
          subst hw
          have hP := wk hP hk1
          obtain ⟨f9, f10, f11⟩ := hB
          refine lv_if_eq (tgt := 82) hx hb dX8_tunesWith_70 (by decide) (fun c_12 => ?_) (fun c_12 => ?_)
          · skip
            have f13 : r_8.toInt = 0 := qi_eq c_12 rfl zc_0
            have f14 : r_8.toInt = (0 : Int) := (ox_92 f10 f11 f13)
            obtain ⟨x15, ex15⟩ : ∃ y : Int32, y = y6_6 + Int32.ofInt 1 := ⟨_, rfl⟩
            have f16 : x15.toInt = y6_6.toInt + 1 := (ox_13 (qi_add ex15 rfl (by decide) (ox_11 g6_0) (ox_87 g6_1)))
            refine lv_iinc (v := x15) (lv' := [(6, .int x15), (8, .int 0), (7, .int (f_now_worn (y6_6.toInt).toNat)), (0, .ref (r 0)), (1, .int p0), (2, .int p1), (3, .int p2), (4, .int p3), (5, .int y6_5)]) hx hb dX8_tunesWith_82 hl (k := 8) rfl ex15.symm (by decide) rfl (fun ls hl => ?_)
            refine lv_goto (tgt := 6) hx hb dX8_tunesWith_85 (by decide) ?_
            exact ih6 y6_5 x15 H7 _ _ (ox_14 g6_0 f16) (ox_98 ie13 f3 f16) hP hS (lv_sub hl [3, 4, 5, 6, 7, 8, 0] rfl) (ox_89 hM6 f16)
          · skip
            have f17 : r_8.toInt ≠ 0 := qi_ne c_12 rfl zc_0
            have f18 : r_8.toInt = (1 : Int) := (ox_91 f9 f17)
            have f19 : (1 : Int) ≤ r_8.toInt := (ox_53 f10 f11 f18)
            refine lv_iload hx hb dX8_tunesWith_73 (lv_at hl 7 rfl) ?_
            refine lv_iconst (v := 1) hx hb dX8_tunesWith_75 (by decide) ?_
            refine lv_iload hx hb dX8_tunesWith_76 (lv_at hl 8 rfl) ?_
            refine lv_ishl hx hb dX8_tunesWith_78 ?_
            refine lv_topi (fun x20 ex20 => ?_)
            refine lv_ior hx hb dX8_tunesWith_79 ?_
            refine lv_topi (fun x21 ex21 => ?_)
            refine lv_istore (lv' := [(5, .int x21), (8, .int 0), (7, .int (f_now_worn (y6_6.toInt).toNat)), (0, .ref (r 0)), (1, .int p0), (2, .int p1), (3, .int p2), (4, .int p3), (6, .int y6_6)]) hx hb dX8_tunesWith_80 hl (by decide) rfl (fun ls hl => ?_)
            obtain ⟨x22, ex22⟩ : ∃ y : Int32, y = y6_6 + Int32.ofInt 1 := ⟨_, rfl⟩
            have f23 : x22.toInt = y6_6.toInt + 1 := (ox_13 (qi_add ex22 rfl (by decide) (ox_11 g6_0) (ox_87 g6_1)))
            refine lv_iinc (v := x22) (lv' := [(6, .int x22), (5, .int x21), (8, .int 0), (7, .int (f_now_worn (y6_6.toInt).toNat)), (0, .ref (r 0)), (1, .int p0), (2, .int p1), (3, .int p2), (4, .int p3)]) hx hb dX8_tunesWith_82 hl (k := 8) rfl ex22.symm (by decide) rfl (fun ls hl => ?_)
            refine lv_goto (tgt := 6) hx hb dX8_tunesWith_85 (by decide) ?_
            exact ih6 x21 x22 H7 _ _ (ox_14 g6_0 f23) (ox_98 ie13 f3 f23) hP hS (lv_sub hl [4, 5, 6, 7, 8, 1, 0] rfl) (ox_89 hM6 f23)
        · skip
          have f24 : p3.toInt ≠ 0 := qi_ne c_5 rfl zc_0
          have f25 : (1 : Int) ≤ p3.toInt := (ox_191 hz_p3 f24)
          refine lv_aload_n hx hb dX8_tunesWith_35 rfl (lv_at hl 1 rfl) ?_
          refine gX_X8_23_0 hx hb hG hown hK hP dX8_tunesWith_36 ?_
          refine lv_iload hx hb dX8_tunesWith_39 (lv_at hl 7 rfl) ?_
          refine lv_iload hx hb dX8_tunesWith_41 (lv_at hl 0 rfl) ?_
          refine va_calli (va_runV (As := [.int y6_6, .int (f_now_worn (y6_6.toInt).toNat)]) (rest := []) ⟨hx, hb, hml, hown, hG⟩ (kX4_left l dC dI r ct i_tapeLength i_time i_lyingCount i_rd_fault i_rd_token i_rd_kind i_sc_count i_sc_at i_A_tunes i_A_houses i_fA_length i_B_tunes i_B_houses i_fB_length i_acts_done i_acts_undone i_kn_count f_boxes f_boxKept f_trial f_offers f_A_noteCounts f_A_notes f_B_noteCounts f_B_notes f_now_where f_now_worn f_ahead_where f_ahead_worn f_acts_rows f_kn_tunes f_kn_noteTimes J L y6_6 (f_now_worn (y6_6.toInt).toNat) H6.size hI (ox_6 g6_0) (ox_223 f3) (ox_56 f4) (ox_57 f4)) (cwV 2 hG (goodV gw699 gw700 gw701 gw132 gw702) rfl rfl rfl hd_X4_left ⟨(Nat.le_of_ble_eq_true rfl), (Nat.le_of_ble_eq_true rfl)⟩) ⟨fbR, va_recv hK hP (ci := 3) (q0 := 3) rfl rfl, pR_in hP hK⟩ rfl rfl hl.1 rfl (lv_room (Nat.le_of_ble_eq_true rfl)) dX8_tunesWith_43 ⟨(Nat.le_of_ble_eq_true rfl), (Nat.le_of_ble_eq_true rfl)⟩) hS (fun q hq h => absurd hq (Nat.not_lt.mpr h)) (fun q h => Nat.le_trans hS.1 h) (fun r_27 u_ t_ H26 locs ht hvm hw hB hz1 hk1 hS => ?_)
          subst hw
          have hP := wk hP hk1
          obtain ⟨f28, f29, f30, f31, f32⟩ := hB
          refine lv_iconst (v := 3) hx hb dX8_tunesWith_46 (by decide) ?_
          refine lv_isub hx hb dX8_tunesWith_47 ?_
          refine lv_topi (fun x33 ex33 => ?_)
          have f34 : x33.toInt = r_27.toInt + (-3) := (ox_466 (qi_sub ex33 rfl zc_3 (ox_464 f28 f29) (ox_465 f28 f29)))
          refine lv_goto (tgt := 52) hx hb dX8_tunesWith_48 (by decide) ?_
          refine lv_istore (lv' := [(8, .int x33), (7, .int (f_now_worn (y6_6.toInt).toNat)), (0, .ref (r 0)), (1, .int p0), (2, .int p1), (3, .int p2), (4, .int p3), (5, .int y6_5), (6, .int y6_6)]) hx hb dX8_tunesWith_52 hl (by decide) rfl (fun ls hl => ?_)
          refine lv_aload_n hx hb dX8_tunesWith_54 rfl (lv_at hl 2 rfl) ?_
          refine gX_X8_23_0 hx hb hG hown hK hP dX8_tunesWith_55 ?_
          refine lv_iload hx hb dX8_tunesWith_58 (lv_at hl 8 rfl) ?_
          refine lv_iload hx hb dX8_tunesWith_60 (lv_at hl 1 rfl) ?_
          refine lv_iload hx hb dX8_tunesWith_62 (lv_at hl 0 rfl) ?_
          refine lv_iload_n hx hb dX8_tunesWith_64 rfl (lv_at hl 3 rfl) ?_
          refine lv_iload_n hx hb dX8_tunesWith_65 rfl (lv_at hl 4 rfl) ?_
          refine lv_iload_n hx hb dX8_tunesWith_66 rfl (lv_at hl 5 rfl) ?_
          refine va_calli (va_runV (As := [.int y6_6, .int (f_now_worn (y6_6.toInt).toNat), .int x33, .int p0, .int p1, .int p2]) (rest := []) ⟨hx, hb, hml, hown, hG⟩ (kX4_hasTurn l dC dI r ct i_tapeLength i_time i_lyingCount i_rd_fault i_rd_token i_rd_kind i_sc_count i_sc_at i_A_tunes i_A_houses i_fA_length i_B_tunes i_B_houses i_fB_length i_acts_done i_acts_undone i_kn_count f_boxes f_boxKept f_trial f_offers f_A_noteCounts f_A_notes f_B_noteCounts f_B_notes f_now_where f_now_worn f_ahead_where f_ahead_worn f_acts_rows f_kn_tunes f_kn_noteTimes J L y6_6 (f_now_worn (y6_6.toInt).toNat) x33 p0 p1 p2 H26.size hI (ox_6 g6_0) (ox_223 f3) (ox_56 f4) (ox_57 f4) (ox_467 f28 f29 f34) (ox_468 f28 f29 f34)) (cwV 6 hG (goodV gw1008 gw759 gw760 gw132 gw761) rfl rfl rfl hd_X4_hasTurn ⟨(Nat.le_of_ble_eq_true rfl), (Nat.le_of_ble_eq_true rfl)⟩) ⟨fbR, va_recv hK hP (ci := 3) (q0 := 3) rfl rfl, pR_in hP hK⟩ rfl rfl hl.1 rfl (lv_room (Nat.le_of_ble_eq_true rfl)) dX8_tunesWith_67 ⟨(Nat.le_of_ble_eq_true rfl), (Nat.le_of_ble_eq_true rfl)⟩) hS (fun q hq h => absurd hq (Nat.not_lt.mpr h)) (fun q h => Nat.le_trans hS.1 h) (fun r_36 u_ t_ H35 locs ht hvm hw hB hz1 hk1 hS => ?_)
          subst hw
          have hP := wk hP hk1
          obtain ⟨f37, f38, f39⟩ := hB
          refine lv_if_eq (tgt := 82) hx hb dX8_tunesWith_70 (by decide) (fun c_40 => ?_) (fun c_40 => ?_)
          · skip
            have f41 : r_36.toInt = 0 := qi_eq c_40 rfl zc_0
            have f42 : r_36.toInt = (0 : Int) := (ox_92 f38 f39 f41)
            obtain ⟨x43, ex43⟩ : ∃ y : Int32, y = y6_6 + Int32.ofInt 1 := ⟨_, rfl⟩
            have f44 : x43.toInt = y6_6.toInt + 1 := (ox_13 (qi_add ex43 rfl (by decide) (ox_11 g6_0) (ox_87 g6_1)))
            refine lv_iinc (v := x43) (lv' := [(6, .int x43), (8, .int x33), (7, .int (f_now_worn (y6_6.toInt).toNat)), (0, .ref (r 0)), (1, .int p0), (2, .int p1), (3, .int p2), (4, .int p3), (5, .int y6_5)]) hx hb dX8_tunesWith_82 hl (k := 8) rfl ex43.symm (by decide) rfl (fun ls hl => ?_)
            refine lv_goto (tgt := 6) hx hb dX8_tunesWith_85 (by decide) ?_
            exact ih6 y6_5 x43 H35 _ _ (ox_14 g6_0 f44) (ox_98 ie13 f3 f44) hP hS (lv_sub hl [3, 4, 5, 6, 7, 8, 0] rfl) (ox_89 hM6 f44)
          · skip
            have f45 : r_36.toInt ≠ 0 := qi_ne c_40 rfl zc_0
            have f46 : r_36.toInt = (1 : Int) := (ox_91 f37 f45)
            have f47 : (1 : Int) ≤ r_36.toInt := (ox_53 f38 f39 f46)
            refine lv_iload hx hb dX8_tunesWith_73 (lv_at hl 7 rfl) ?_
            refine lv_iconst (v := 1) hx hb dX8_tunesWith_75 (by decide) ?_
            refine lv_iload hx hb dX8_tunesWith_76 (lv_at hl 8 rfl) ?_
            refine lv_ishl hx hb dX8_tunesWith_78 ?_
            refine lv_topi (fun x48 ex48 => ?_)
            refine lv_ior hx hb dX8_tunesWith_79 ?_
            refine lv_topi (fun x49 ex49 => ?_)
            refine lv_istore (lv' := [(5, .int x49), (8, .int x33), (7, .int (f_now_worn (y6_6.toInt).toNat)), (0, .ref (r 0)), (1, .int p0), (2, .int p1), (3, .int p2), (4, .int p3), (6, .int y6_6)]) hx hb dX8_tunesWith_80 hl (by decide) rfl (fun ls hl => ?_)
            obtain ⟨x50, ex50⟩ : ∃ y : Int32, y = y6_6 + Int32.ofInt 1 := ⟨_, rfl⟩
            have f51 : x50.toInt = y6_6.toInt + 1 := (ox_13 (qi_add ex50 rfl (by decide) (ox_11 g6_0) (ox_87 g6_1)))
            refine lv_iinc (v := x50) (lv' := [(6, .int x50), (5, .int x49), (8, .int x33), (7, .int (f_now_worn (y6_6.toInt).toNat)), (0, .ref (r 0)), (1, .int p0), (2, .int p1), (3, .int p2), (4, .int p3)]) hx hb dX8_tunesWith_82 hl (k := 8) rfl ex50.symm (by decide) rfl (fun ls hl => ?_)
            refine lv_goto (tgt := 6) hx hb dX8_tunesWith_85 (by decide) ?_
            exact ih6 x49 x50 H35 _ _ (ox_14 g6_0 f51) (ox_98 ie13 f3 f51) hP hS (lv_sub hl [4, 5, 6, 7, 8, 1, 0] rfl) (ox_89 hM6 f51)
  exact L6 (-1 * (0 : Int32).toInt + 5 + 1).toNat 0 0 s.heap _ _ (ox_27 zc_0) (ox_95 zc_0) hP hS (lv_sub hl [2, 3, 4, 5, 6, 1, 0] rfl) (mlt (ox_96 zc_0))
set_option maxHeartbeats 4000000 in
set_option maxRecDepth 100000 in
theorem kX8_find (l : Launch) (dC : Nat → ClassId) (dI : Nat → Nat → Nat) (r : Nat → Nat) (ct : Nat → ClassId) (i_tapeLength i_time i_lyingCount i_rd_fault i_rd_token i_rd_kind i_sc_count i_sc_at i_A_tunes i_A_houses i_fA_length i_B_tunes i_B_houses i_fB_length i_acts_done i_acts_undone i_kn_count : Int32) (f_boxes f_boxKept f_trial f_offers f_A_noteCounts f_A_notes f_B_noteCounts f_B_notes f_now_where f_now_worn f_ahead_where f_ahead_worn f_acts_rows f_kn_tunes f_kn_noteTimes : Nat → Int32) (J : Nat → Nat → Int32) (L : Nat → Nat → Int64) (p0 p1 p2 : Int32) (sz : Nat) (hI : (IX i_tapeLength i_time i_lyingCount i_rd_token i_sc_count i_sc_at i_A_tunes i_A_houses i_fA_length i_B_tunes i_B_houses i_fB_length i_acts_done i_acts_undone i_kn_count f_boxes f_A_noteCounts f_A_notes f_B_noteCounts f_B_notes f_now_worn f_ahead_worn f_acts_rows f_kn_tunes)) : Met l yX8_find (.code yX8_find cX8_find 4 (some .int) :: GW) { frames := 10, cells := 0, slots := 0, locals := 363 } (va_Pc [.ref (r 0), .int p0, .int p1, .int p2] (pR (dC, dI) (WX r ct i_tapeLength i_time i_lyingCount i_rd_fault i_rd_token i_rd_kind i_sc_count i_sc_at i_A_tunes i_A_houses i_fA_length i_B_tunes i_B_houses i_fB_length i_acts_done i_acts_undone i_kn_count f_boxes f_boxKept f_trial f_offers f_A_noteCounts f_A_notes f_B_noteCounts f_B_notes f_now_where f_now_worn f_ahead_where f_ahead_worn f_acts_rows f_kn_tunes f_kn_noteTimes J L) (TX ct) sz)) (va_Qi (fun (r0 : Int32) (u : Int32) => r0 = u) (fun (u : Int32) (t : State) => True) (fun q => sz ≤ q)) 0 0 (fun q => sz ≤ q) := by
  refine Met.ofW (cc := cX8_find) (maxL := 4) (ret := (some .int)) (by decide) rfl ?_
  intro p e s m args below meth c0 s₁ B hml hv
  obtain ⟨rfl, hsz, hP, hK⟩ := hv
  have hx := B.exec
  have hb := B.bytes
  have hr := B.returns
  have hts := atoms_spec (ws := .code yX8_find cX8_find 4 (some .int) :: GW) B.pre
  have hG : ∀ w ∈ GW, w.before _ s = true := fun w h => hts w (List.mem_cons_of_mem _ h)
  have hown : s.vm.findClass RX8 = some m.cls := findClass_of_methodNamed B.named
  subst hsz
  have hS : va_S (fun q => s.heap.size ≤ q) s.heap s.heap [] := va_S.rf
  have hP : va_P (dC, dI) vwCl (WX r ct i_tapeLength i_time i_lyingCount i_rd_fault i_rd_token i_rd_kind i_sc_count i_sc_at i_A_tunes i_A_houses i_fA_length i_B_tunes i_B_houses i_fB_length i_acts_done i_acts_undone i_kn_count f_boxes f_boxKept f_trial f_offers f_A_noteCounts f_A_notes f_B_noteCounts f_B_notes f_now_where f_now_worn f_ahead_where f_ahead_worn f_acts_rows f_kn_tunes f_kn_noteTimes J L) s.heap := hP
  have hl := lv_entry ([.ref (r 0), .int p0, .int p1, .int p2]) (n := 4) (Nat.le_of_ble_eq_true rfl)
  rw [lg_entry_eq]
  generalize (lg_sl ([.ref (r 0), .int p0, .int p1, .int p2]) ++ List.replicate (4 - (lg_sl ([.ref (r 0), .int p0, .int p1, .int p2])).length) Slot.unset).toArray = ls at hl ⊢
  have hl : lv_has ls 4 [(0, .ref (r 0)), (1, .int p0), (2, .int p1), (3, .int p2)] := hl
  refine nameQ (fun Q hQ => ?_)
  obtain ⟨ie0, ie1, ie2, ie3, ie4, ie5, ie6, ie7, ie8, ie9, ie10, ie11, ie12, ie13, ie14, ie15, ie16, ie17, ie18, ie19, ie20, ie21, ie22, ie23, ie24, ie25, ie26, ie27, ie28, ie29, ie30, ie31, ie32, ie33, ie34, ie35, ie36, ie37, ie38, ie39⟩ := id hI
  refine lv_iload_n hx hb dX8_find_0 rfl (lv_at hl 1 rfl) ?_
  refine va_calli (va_runS (As := [.int p0]) (rest := []) ⟨hx, hb, hml, hown, hG⟩ (kX8_isNote l dC dI p0 s.heap.size) (va_cwS 1 hG (goodS gw1001 gw1002 gw129 gw1003) rfl rfl rfl hd_X8_isNote ⟨(Nat.le_of_ble_eq_true rfl), (Nat.le_of_ble_eq_true rfl)⟩) ⟨fbR, pR_in emptyP (emptyK hK)⟩ rfl rfl hl.1 rfl (lv_room (Nat.le_of_ble_eq_true rfl)) dX8_find_1 ⟨(Nat.le_of_ble_eq_true rfl), (Nat.le_of_ble_eq_true rfl)⟩) hS (fun q hq h => absurd hq (Nat.not_lt.mpr h)) (fun q h => Nat.le_trans hS.1 h) (fun r_2 u_ t_ H1 locs ht hvm hw hB hz1 hk1 hS => ?_)
  subst hw
  have hP := wk hP hk1
  obtain ⟨f3, f4, f5⟩ := hB
  refine lv_if_eq (tgt := 32) hx hb dX8_find_4 (by decide) (fun c_6 => ?_) (fun c_6 => ?_)
  · skip
    have f7 : r_2.toInt = 0 := qi_eq c_6 rfl zc_0
    refine lv_iconst (v := (-1)) hx hb dX8_find_32 (by decide) ?_
    rw [hQ]
    exact W.iret (v := (-1)) hx hb hr (fun t ht hW => ⟨⟨(-1), (-1), rfl, rfl, trivial⟩, hS.F ht⟩) hS.2.2 dX8_find_33
  · skip
    have f8 : r_2.toInt ≠ 0 := qi_ne c_6 rfl zc_0
    have f9 : (0 : Int) ≤ p0.toInt := (ox_469 f3 f8)
    have f10 : p0.toInt ≤ (6 : Int) := (ox_470 f3 f8)
    have f11 : r_2.toInt = (1 : Int) := (ox_471 f3 f8)
    have f12 : (1 : Int) ≤ r_2.toInt := (ox_53 f4 f5 f11)
    refine lv_iload_n hx hb dX8_find_7 rfl (lv_at hl 2 rfl) ?_
    refine va_calli (va_runS (As := [.int p1]) (rest := []) ⟨hx, hb, hml, hown, hG⟩ (kX8_isNote l dC dI p1 H1.size) (va_cwS 1 hG (goodS gw1001 gw1002 gw129 gw1003) rfl rfl rfl hd_X8_isNote ⟨(Nat.le_of_ble_eq_true rfl), (Nat.le_of_ble_eq_true rfl)⟩) ⟨fbR, pR_in emptyP (emptyK hK)⟩ rfl rfl hl.1 rfl (lv_room (Nat.le_of_ble_eq_true rfl)) dX8_find_8 ⟨(Nat.le_of_ble_eq_true rfl), (Nat.le_of_ble_eq_true rfl)⟩) hS (fun q hq h => absurd hq (Nat.not_lt.mpr h)) (fun q h => Nat.le_trans hS.1 h) (fun r_14 u_ t_ H13 locs ht hvm hw hB hz1 hk1 hS => ?_)
    subst hw
    have hP := wk hP hk1
    obtain ⟨f15, f16, f17⟩ := hB
    refine lv_if_eq (tgt := 32) hx hb dX8_find_11 (by decide) (fun c_18 => ?_) (fun c_18 => ?_)
    · skip
      have f19 : r_14.toInt = 0 := qi_eq c_18 rfl zc_0
      refine lv_iconst (v := (-1)) hx hb dX8_find_32 (by decide) ?_
      rw [hQ]
      exact W.iret (v := (-1)) hx hb hr (fun t ht hW => ⟨⟨(-1), (-1), rfl, rfl, trivial⟩, hS.F ht⟩) hS.2.2 dX8_find_33
    · skip
      have f20 : r_14.toInt ≠ 0 := qi_ne c_18 rfl zc_0
      have f21 : (0 : Int) ≤ p1.toInt := (ox_469 f15 f20)
      have f22 : p1.toInt ≤ (6 : Int) := (ox_470 f15 f20)
      have f23 : r_14.toInt = (1 : Int) := (ox_471 f15 f20)
      have f24 : (1 : Int) ≤ r_14.toInt := (ox_53 f16 f17 f23)
      refine lv_iload_n hx hb dX8_find_14 rfl (lv_at hl 3 rfl) ?_
      refine va_calli (va_runS (As := [.int p2]) (rest := []) ⟨hx, hb, hml, hown, hG⟩ (kX8_isNote l dC dI p2 H13.size) (va_cwS 1 hG (goodS gw1001 gw1002 gw129 gw1003) rfl rfl rfl hd_X8_isNote ⟨(Nat.le_of_ble_eq_true rfl), (Nat.le_of_ble_eq_true rfl)⟩) ⟨fbR, pR_in emptyP (emptyK hK)⟩ rfl rfl hl.1 rfl (lv_room (Nat.le_of_ble_eq_true rfl)) dX8_find_15 ⟨(Nat.le_of_ble_eq_true rfl), (Nat.le_of_ble_eq_true rfl)⟩) hS (fun q hq h => absurd hq (Nat.not_lt.mpr h)) (fun q h => Nat.le_trans hS.1 h) (fun r_26 u_ t_ H25 locs ht hvm hw hB hz1 hk1 hS => ?_)
      subst hw
      have hP := wk hP hk1
      obtain ⟨f27, f28, f29⟩ := hB
      refine lv_if_eq (tgt := 32) hx hb dX8_find_18 (by decide) (fun c_30 => ?_) (fun c_30 => ?_)
      · skip
        have f31 : r_26.toInt = 0 := qi_eq c_30 rfl zc_0
        refine lv_iconst (v := (-1)) hx hb dX8_find_32 (by decide) ?_
        rw [hQ]
        exact W.iret (v := (-1)) hx hb hr (fun t ht hW => ⟨⟨(-1), (-1), rfl, rfl, trivial⟩, hS.F ht⟩) hS.2.2 dX8_find_33
      · skip
        have f32 : r_26.toInt ≠ 0 := qi_ne c_30 rfl zc_0
        have f33 : (0 : Int) ≤ p2.toInt := (ox_469 f27 f32)
        have f34 : p2.toInt ≤ (6 : Int) := (ox_470 f27 f32)
        have f35 : r_26.toInt = (1 : Int) := (ox_471 f27 f32)
        have f36 : (1 : Int) ≤ r_26.toInt := (ox_53 f28 f29 f35)
        refine lv_aload_n hx hb dX8_find_21 rfl (lv_at hl 0 rfl) ?_
        refine lv_iload_n hx hb dX8_find_22 rfl (lv_at hl 1 rfl) ?_
        refine lv_iload_n hx hb dX8_find_23 rfl (lv_at hl 2 rfl) ?_
        refine lv_iload_n hx hb dX8_find_24 rfl (lv_at hl 3 rfl) ?_
        refine lv_iconst (v := 0) hx hb dX8_find_25 (by decide) ?_
        refine va_calli (va_runV (As := [.int p0, .int p1, .int p2, .int 0]) (rest := []) ⟨hx, hb, hml, hown, hG⟩ (kX8_tunesWith l dC dI r ct i_tapeLength i_time i_lyingCount i_rd_fault i_rd_token i_rd_kind i_sc_count i_sc_at i_A_tunes i_A_houses i_fA_length i_B_tunes i_B_houses i_fB_length i_acts_done i_acts_undone i_kn_count f_boxes f_boxKept f_trial f_offers f_A_noteCounts f_A_notes f_B_noteCounts f_B_notes f_now_where f_now_worn f_ahead_where f_ahead_worn f_acts_rows f_kn_tunes f_kn_noteTimes J L p0 p1 p2 0 H25.size hI (ox_472 zc_0)) (cwV 4 hG (goodV gw1004 gw1006 gw47 gw129 gw1007) rfl rfl rfl hd_X8_tunesWith ⟨(Nat.le_of_ble_eq_true rfl), (Nat.le_of_ble_eq_true rfl)⟩) ⟨fbR, va_recv hK hP (ci := 7) (q0 := 0) rfl rfl, pR_in hP hK⟩ rfl rfl hl.1 rfl (lv_room (Nat.le_of_ble_eq_true rfl)) dX8_find_26 ⟨(Nat.le_of_ble_eq_true rfl), (Nat.le_of_ble_eq_true rfl)⟩) hS (fun q hq h => absurd hq (Nat.not_lt.mpr h)) (fun q h => Nat.le_trans hS.1 h) (fun r_38 u_ t_ H37 locs ht hvm hw hB hz1 hk1 hS => ?_)
        subst hw
        have hP := wk hP hk1
        refine lv_goto (tgt := 33) hx hb dX8_find_29 (by decide) ?_
        rw [hQ]
        exact W.iret (v := r_38) hx hb hr (fun t ht hW => ⟨⟨r_38, r_38, rfl, rfl, trivial⟩, hS.F ht⟩) hS.2.2 dX8_find_33
set_option maxHeartbeats 4000000 in
set_option maxRecDepth 100000 in
theorem kX8_hum (l : Launch) (dC : Nat → ClassId) (dI : Nat → Nat → Nat) (r : Nat → Nat) (ct : Nat → ClassId) (i_tapeLength i_time i_lyingCount i_rd_fault i_rd_token i_rd_kind i_sc_count i_sc_at i_A_tunes i_A_houses i_fA_length i_B_tunes i_B_houses i_fB_length i_acts_done i_acts_undone i_kn_count : Int32) (f_boxes f_boxKept f_trial f_offers f_A_noteCounts f_A_notes f_B_noteCounts f_B_notes f_now_where f_now_worn f_ahead_where f_ahead_worn f_acts_rows f_kn_tunes f_kn_noteTimes : Nat → Int32) (J : Nat → Nat → Int32) (L : Nat → Nat → Int64) (p0 p1 p2 : Int32) (sz : Nat) (hI : (IX i_tapeLength i_time i_lyingCount i_rd_token i_sc_count i_sc_at i_A_tunes i_A_houses i_fA_length i_B_tunes i_B_houses i_fB_length i_acts_done i_acts_undone i_kn_count f_boxes f_A_noteCounts f_A_notes f_B_noteCounts f_B_notes f_now_worn f_ahead_worn f_acts_rows f_kn_tunes)) : Met l yX8_hum (.code yX8_hum cX8_hum 4 (some .int) :: GW) { frames := 10, cells := 0, slots := 0, locals := 363 } (va_Pc [.ref (r 0), .int p0, .int p1, .int p2] (pR (dC, dI) (WX r ct i_tapeLength i_time i_lyingCount i_rd_fault i_rd_token i_rd_kind i_sc_count i_sc_at i_A_tunes i_A_houses i_fA_length i_B_tunes i_B_houses i_fB_length i_acts_done i_acts_undone i_kn_count f_boxes f_boxKept f_trial f_offers f_A_noteCounts f_A_notes f_B_noteCounts f_B_notes f_now_where f_now_worn f_ahead_where f_ahead_worn f_acts_rows f_kn_tunes f_kn_noteTimes J L) (TX ct) sz)) (va_Qi (fun (r0 : Int32) (u : Int32) => r0 = u) (fun (u : Int32) (t : State) => True) (fun q => sz ≤ q)) 0 0 (fun q => sz ≤ q) := by
  refine Met.ofW (cc := cX8_hum) (maxL := 4) (ret := (some .int)) (by decide) rfl ?_
  intro p e s m args below meth c0 s₁ B hml hv
  obtain ⟨rfl, hsz, hP, hK⟩ := hv
  have hx := B.exec
  have hb := B.bytes
  have hr := B.returns
  have hts := atoms_spec (ws := .code yX8_hum cX8_hum 4 (some .int) :: GW) B.pre
  have hG : ∀ w ∈ GW, w.before _ s = true := fun w h => hts w (List.mem_cons_of_mem _ h)
  have hown : s.vm.findClass RX8 = some m.cls := findClass_of_methodNamed B.named
  subst hsz
  have hS : va_S (fun q => s.heap.size ≤ q) s.heap s.heap [] := va_S.rf
  have hP : va_P (dC, dI) vwCl (WX r ct i_tapeLength i_time i_lyingCount i_rd_fault i_rd_token i_rd_kind i_sc_count i_sc_at i_A_tunes i_A_houses i_fA_length i_B_tunes i_B_houses i_fB_length i_acts_done i_acts_undone i_kn_count f_boxes f_boxKept f_trial f_offers f_A_noteCounts f_A_notes f_B_noteCounts f_B_notes f_now_where f_now_worn f_ahead_where f_ahead_worn f_acts_rows f_kn_tunes f_kn_noteTimes J L) s.heap := hP
  have hl := lv_entry ([.ref (r 0), .int p0, .int p1, .int p2]) (n := 4) (Nat.le_of_ble_eq_true rfl)
  rw [lg_entry_eq]
  generalize (lg_sl ([.ref (r 0), .int p0, .int p1, .int p2]) ++ List.replicate (4 - (lg_sl ([.ref (r 0), .int p0, .int p1, .int p2])).length) Slot.unset).toArray = ls at hl ⊢
  have hl : lv_has ls 4 [(0, .ref (r 0)), (1, .int p0), (2, .int p1), (3, .int p2)] := hl
  refine nameQ (fun Q hQ => ?_)
  obtain ⟨ie0, ie1, ie2, ie3, ie4, ie5, ie6, ie7, ie8, ie9, ie10, ie11, ie12, ie13, ie14, ie15, ie16, ie17, ie18, ie19, ie20, ie21, ie22, ie23, ie24, ie25, ie26, ie27, ie28, ie29, ie30, ie31, ie32, ie33, ie34, ie35, ie36, ie37, ie38, ie39⟩ := id hI
  refine lv_iload_n hx hb dX8_hum_0 rfl (lv_at hl 1 rfl) ?_
  refine va_calli (va_runS (As := [.int p0]) (rest := []) ⟨hx, hb, hml, hown, hG⟩ (kX8_isNote l dC dI p0 s.heap.size) (va_cwS 1 hG (goodS gw1001 gw1002 gw129 gw1003) rfl rfl rfl hd_X8_isNote ⟨(Nat.le_of_ble_eq_true rfl), (Nat.le_of_ble_eq_true rfl)⟩) ⟨fbR, pR_in emptyP (emptyK hK)⟩ rfl rfl hl.1 rfl (lv_room (Nat.le_of_ble_eq_true rfl)) dX8_hum_1 ⟨(Nat.le_of_ble_eq_true rfl), (Nat.le_of_ble_eq_true rfl)⟩) hS (fun q hq h => absurd hq (Nat.not_lt.mpr h)) (fun q h => Nat.le_trans hS.1 h) (fun r_2 u_ t_ H1 locs ht hvm hw hB hz1 hk1 hS => ?_)
  subst hw
  have hP := wk hP hk1
  obtain ⟨f3, f4, f5⟩ := hB
  refine lv_if_eq (tgt := 32) hx hb dX8_hum_4 (by decide) (fun c_6 => ?_) (fun c_6 => ?_)
  · skip
    have f7 : r_2.toInt = 0 := qi_eq c_6 rfl zc_0
    refine lv_iconst (v := (-1)) hx hb dX8_hum_32 (by decide) ?_
    rw [hQ]
    exact W.iret (v := (-1)) hx hb hr (fun t ht hW => ⟨⟨(-1), (-1), rfl, rfl, trivial⟩, hS.F ht⟩) hS.2.2 dX8_hum_33
  · skip
    have f8 : r_2.toInt ≠ 0 := qi_ne c_6 rfl zc_0
    have f9 : (0 : Int) ≤ p0.toInt := (ox_469 f3 f8)
    have f10 : p0.toInt ≤ (6 : Int) := (ox_470 f3 f8)
    have f11 : r_2.toInt = (1 : Int) := (ox_471 f3 f8)
    have f12 : (1 : Int) ≤ r_2.toInt := (ox_53 f4 f5 f11)
    refine lv_iload_n hx hb dX8_hum_7 rfl (lv_at hl 2 rfl) ?_
    refine va_calli (va_runS (As := [.int p1]) (rest := []) ⟨hx, hb, hml, hown, hG⟩ (kX8_isNote l dC dI p1 H1.size) (va_cwS 1 hG (goodS gw1001 gw1002 gw129 gw1003) rfl rfl rfl hd_X8_isNote ⟨(Nat.le_of_ble_eq_true rfl), (Nat.le_of_ble_eq_true rfl)⟩) ⟨fbR, pR_in emptyP (emptyK hK)⟩ rfl rfl hl.1 rfl (lv_room (Nat.le_of_ble_eq_true rfl)) dX8_hum_8 ⟨(Nat.le_of_ble_eq_true rfl), (Nat.le_of_ble_eq_true rfl)⟩) hS (fun q hq h => absurd hq (Nat.not_lt.mpr h)) (fun q h => Nat.le_trans hS.1 h) (fun r_14 u_ t_ H13 locs ht hvm hw hB hz1 hk1 hS => ?_)
    subst hw
    have hP := wk hP hk1
    obtain ⟨f15, f16, f17⟩ := hB
    refine lv_if_eq (tgt := 32) hx hb dX8_hum_11 (by decide) (fun c_18 => ?_) (fun c_18 => ?_)
    · skip
      have f19 : r_14.toInt = 0 := qi_eq c_18 rfl zc_0
      refine lv_iconst (v := (-1)) hx hb dX8_hum_32 (by decide) ?_
      rw [hQ]
      exact W.iret (v := (-1)) hx hb hr (fun t ht hW => ⟨⟨(-1), (-1), rfl, rfl, trivial⟩, hS.F ht⟩) hS.2.2 dX8_hum_33
    · skip
      have f20 : r_14.toInt ≠ 0 := qi_ne c_18 rfl zc_0
      have f21 : (0 : Int) ≤ p1.toInt := (ox_469 f15 f20)
      have f22 : p1.toInt ≤ (6 : Int) := (ox_470 f15 f20)
      have f23 : r_14.toInt = (1 : Int) := (ox_471 f15 f20)
      have f24 : (1 : Int) ≤ r_14.toInt := (ox_53 f16 f17 f23)
      refine lv_iload_n hx hb dX8_hum_14 rfl (lv_at hl 3 rfl) ?_
      refine va_calli (va_runS (As := [.int p2]) (rest := []) ⟨hx, hb, hml, hown, hG⟩ (kX8_isNote l dC dI p2 H13.size) (va_cwS 1 hG (goodS gw1001 gw1002 gw129 gw1003) rfl rfl rfl hd_X8_isNote ⟨(Nat.le_of_ble_eq_true rfl), (Nat.le_of_ble_eq_true rfl)⟩) ⟨fbR, pR_in emptyP (emptyK hK)⟩ rfl rfl hl.1 rfl (lv_room (Nat.le_of_ble_eq_true rfl)) dX8_hum_15 ⟨(Nat.le_of_ble_eq_true rfl), (Nat.le_of_ble_eq_true rfl)⟩) hS (fun q hq h => absurd hq (Nat.not_lt.mpr h)) (fun q h => Nat.le_trans hS.1 h) (fun r_26 u_ t_ H25 locs ht hvm hw hB hz1 hk1 hS => ?_)
      subst hw
      have hP := wk hP hk1
      obtain ⟨f27, f28, f29⟩ := hB
      refine lv_if_eq (tgt := 32) hx hb dX8_hum_18 (by decide) (fun c_30 => ?_) (fun c_30 => ?_)
      · skip
        have f31 : r_26.toInt = 0 := qi_eq c_30 rfl zc_0
        refine lv_iconst (v := (-1)) hx hb dX8_hum_32 (by decide) ?_
        rw [hQ]
        exact W.iret (v := (-1)) hx hb hr (fun t ht hW => ⟨⟨(-1), (-1), rfl, rfl, trivial⟩, hS.F ht⟩) hS.2.2 dX8_hum_33
      · skip
        have f32 : r_26.toInt ≠ 0 := qi_ne c_30 rfl zc_0
        have f33 : (0 : Int) ≤ p2.toInt := (ox_469 f27 f32)
        have f34 : p2.toInt ≤ (6 : Int) := (ox_470 f27 f32)
        have f35 : r_26.toInt = (1 : Int) := (ox_471 f27 f32)
        have f36 : (1 : Int) ≤ r_26.toInt := (ox_53 f28 f29 f35)
        refine lv_aload_n hx hb dX8_hum_21 rfl (lv_at hl 0 rfl) ?_
        refine lv_iload_n hx hb dX8_hum_22 rfl (lv_at hl 1 rfl) ?_
        refine lv_iload_n hx hb dX8_hum_23 rfl (lv_at hl 2 rfl) ?_
        refine lv_iload_n hx hb dX8_hum_24 rfl (lv_at hl 3 rfl) ?_
        refine lv_iconst (v := 1) hx hb dX8_hum_25 (by decide) ?_
        refine va_calli (va_runV (As := [.int p0, .int p1, .int p2, .int 1]) (rest := []) ⟨hx, hb, hml, hown, hG⟩ (kX8_tunesWith l dC dI r ct i_tapeLength i_time i_lyingCount i_rd_fault i_rd_token i_rd_kind i_sc_count i_sc_at i_A_tunes i_A_houses i_fA_length i_B_tunes i_B_houses i_fB_length i_acts_done i_acts_undone i_kn_count f_boxes f_boxKept f_trial f_offers f_A_noteCounts f_A_notes f_B_noteCounts f_B_notes f_now_where f_now_worn f_ahead_where f_ahead_worn f_acts_rows f_kn_tunes f_kn_noteTimes J L p0 p1 p2 1 H25.size hI (ox_473 zc_1)) (cwV 4 hG (goodV gw1004 gw1006 gw47 gw129 gw1007) rfl rfl rfl hd_X8_tunesWith ⟨(Nat.le_of_ble_eq_true rfl), (Nat.le_of_ble_eq_true rfl)⟩) ⟨fbR, va_recv hK hP (ci := 7) (q0 := 0) rfl rfl, pR_in hP hK⟩ rfl rfl hl.1 rfl (lv_room (Nat.le_of_ble_eq_true rfl)) dX8_hum_26 ⟨(Nat.le_of_ble_eq_true rfl), (Nat.le_of_ble_eq_true rfl)⟩) hS (fun q hq h => absurd hq (Nat.not_lt.mpr h)) (fun q h => Nat.le_trans hS.1 h) (fun r_38 u_ t_ H37 locs ht hvm hw hB hz1 hk1 hS => ?_)
        subst hw
        have hP := wk hP hk1
        refine lv_goto (tgt := 33) hx hb dX8_hum_29 (by decide) ?_
        rw [hQ]
        exact W.iret (v := r_38) hx hb hr (fun t ht hW => ⟨⟨r_38, r_38, rfl, rfl, trivial⟩, hS.F ht⟩) hS.2.2 dX8_hum_33
set_option maxHeartbeats 4000000 in
set_option maxRecDepth 100000 in
theorem kX8_spinsters (l : Launch) (dC : Nat → ClassId) (dI : Nat → Nat → Nat) (r : Nat → Nat) (ct : Nat → ClassId) (i_tapeLength i_time i_lyingCount i_rd_fault i_rd_token i_rd_kind i_sc_count i_sc_at i_A_tunes i_A_houses i_fA_length i_B_tunes i_B_houses i_fB_length i_acts_done i_acts_undone i_kn_count : Int32) (f_boxes f_boxKept f_trial f_offers f_A_noteCounts f_A_notes f_B_noteCounts f_B_notes f_now_where f_now_worn f_ahead_where f_ahead_worn f_acts_rows f_kn_tunes f_kn_noteTimes : Nat → Int32) (J : Nat → Nat → Int32) (L : Nat → Nat → Int64) (sz : Nat) (hI : (IX i_tapeLength i_time i_lyingCount i_rd_token i_sc_count i_sc_at i_A_tunes i_A_houses i_fA_length i_B_tunes i_B_houses i_fB_length i_acts_done i_acts_undone i_kn_count f_boxes f_A_noteCounts f_A_notes f_B_noteCounts f_B_notes f_now_worn f_ahead_worn f_acts_rows f_kn_tunes)) : Met l yX8_spinsters (.code yX8_spinsters cX8_spinsters 3 (some .int) :: GW) { frames := 16, cells := 0, slots := 0, locals := 552 } (va_Pc [.ref (r 0)] (pW (dC, dI) (WX r ct i_tapeLength i_time i_lyingCount i_rd_fault i_rd_token i_rd_kind i_sc_count i_sc_at i_A_tunes i_A_houses i_fA_length i_B_tunes i_B_houses i_fB_length i_acts_done i_acts_undone i_kn_count f_boxes f_boxKept f_trial f_offers f_A_noteCounts f_A_notes f_B_noteCounts f_B_notes f_now_where f_now_worn f_ahead_where f_ahead_worn f_acts_rows f_kn_tunes f_kn_noteTimes J L) (TX ct) sz)) (va_Qi (fun (r0 : Int32) (u : Int32) => r0 = u) (fun (u : Int32) (t : State) => ∃ (n_J : Nat → Nat → Int32), va_P (dC, dI) vwCl (WX r ct i_tapeLength i_time i_lyingCount i_rd_fault i_rd_token i_rd_kind i_sc_count i_sc_at i_A_tunes i_A_houses i_fA_length i_B_tunes i_B_houses i_fB_length i_acts_done i_acts_undone i_kn_count f_boxes f_boxKept f_trial f_offers f_A_noteCounts f_A_notes f_B_noteCounts f_B_notes f_now_where f_now_worn f_ahead_where f_ahead_worn f_acts_rows f_kn_tunes f_kn_noteTimes n_J L) t.heap ∧ va_D (va_A (WX r ct i_tapeLength i_time i_lyingCount i_rd_fault i_rd_token i_rd_kind i_sc_count i_sc_at i_A_tunes i_A_houses i_fA_length i_B_tunes i_B_houses i_fB_length i_acts_done i_acts_undone i_kn_count f_boxes f_boxKept f_trial f_offers f_A_noteCounts f_A_notes f_B_noteCounts f_B_notes f_now_where f_now_worn f_ahead_where f_ahead_worn f_acts_rows f_kn_tunes f_kn_noteTimes J L) sz) (WX r ct i_tapeLength i_time i_lyingCount i_rd_fault i_rd_token i_rd_kind i_sc_count i_sc_at i_A_tunes i_A_houses i_fA_length i_B_tunes i_B_houses i_fB_length i_acts_done i_acts_undone i_kn_count f_boxes f_boxKept f_trial f_offers f_A_noteCounts f_A_notes f_B_noteCounts f_B_notes f_now_where f_now_worn f_ahead_where f_ahead_worn f_acts_rows f_kn_tunes f_kn_noteTimes n_J L) ∧ (IX i_tapeLength i_time i_lyingCount i_rd_token i_sc_count i_sc_at i_A_tunes i_A_houses i_fA_length i_B_tunes i_B_houses i_fB_length i_acts_done i_acts_undone i_kn_count f_boxes f_A_noteCounts f_A_notes f_B_noteCounts f_B_notes f_now_worn f_ahead_worn f_acts_rows f_kn_tunes)) (va_A (WX r ct i_tapeLength i_time i_lyingCount i_rd_fault i_rd_token i_rd_kind i_sc_count i_sc_at i_A_tunes i_A_houses i_fA_length i_B_tunes i_B_houses i_fB_length i_acts_done i_acts_undone i_kn_count f_boxes f_boxKept f_trial f_offers f_A_noteCounts f_A_notes f_B_noteCounts f_B_notes f_now_where f_now_worn f_ahead_where f_ahead_worn f_acts_rows f_kn_tunes f_kn_noteTimes J L) sz)) 0 0 (va_A (WX r ct i_tapeLength i_time i_lyingCount i_rd_fault i_rd_token i_rd_kind i_sc_count i_sc_at i_A_tunes i_A_houses i_fA_length i_B_tunes i_B_houses i_fB_length i_acts_done i_acts_undone i_kn_count f_boxes f_boxKept f_trial f_offers f_A_noteCounts f_A_notes f_B_noteCounts f_B_notes f_now_where f_now_worn f_ahead_where f_ahead_worn f_acts_rows f_kn_tunes f_kn_noteTimes J L) sz) := by
  refine Met.ofW (cc := cX8_spinsters) (maxL := 3) (ret := (some .int)) (by decide) rfl ?_
  intro p e s m args below meth c0 s₁ B hml hv
  obtain ⟨rfl, hsz, hP, hK, hD0⟩ := hv
  have hx := B.exec
  have hb := B.bytes
  have hr := B.returns
  have hts := atoms_spec (ws := .code yX8_spinsters cX8_spinsters 3 (some .int) :: GW) B.pre
  have hG : ∀ w ∈ GW, w.before _ s = true := fun w h => hts w (List.mem_cons_of_mem _ h)
  have hown : s.vm.findClass RX8 = some m.cls := findClass_of_methodNamed B.named
  subst hsz
  have hD := hD0.self (sz := s.heap.size)
  generalize hAe : va_A (WX r ct i_tapeLength i_time i_lyingCount i_rd_fault i_rd_token i_rd_kind i_sc_count i_sc_at i_A_tunes i_A_houses i_fA_length i_B_tunes i_B_houses i_fB_length i_acts_done i_acts_undone i_kn_count f_boxes f_boxKept f_trial f_offers f_A_noteCounts f_A_notes f_B_noteCounts f_B_notes f_now_where f_now_worn f_ahead_where f_ahead_worn f_acts_rows f_kn_tunes f_kn_noteTimes J L) s.heap.size = A at hD ⊢
  have hA : ∀ q : Nat, s.heap.size ≤ q → A q := fun q h => by rw [← hAe]; exact Or.inr h
  have hS : va_S A s.heap s.heap [] := va_S.rf
  have hP : va_P (dC, dI) vwCl (WX r ct i_tapeLength i_time i_lyingCount i_rd_fault i_rd_token i_rd_kind i_sc_count i_sc_at i_A_tunes i_A_houses i_fA_length i_B_tunes i_B_houses i_fB_length i_acts_done i_acts_undone i_kn_count f_boxes f_boxKept f_trial f_offers f_A_noteCounts f_A_notes f_B_noteCounts f_B_notes f_now_where f_now_worn f_ahead_where f_ahead_worn f_acts_rows f_kn_tunes f_kn_noteTimes J L) s.heap := hP
  have hl := lv_entry ([.ref (r 0)]) (n := 3) (Nat.le_of_ble_eq_true rfl)
  rw [lg_entry_eq]
  generalize (lg_sl ([.ref (r 0)]) ++ List.replicate (3 - (lg_sl ([.ref (r 0)])).length) Slot.unset).toArray = ls at hl ⊢
  have hl : lv_has ls 3 [(0, .ref (r 0))] := hl
  refine nameQ (fun Q hQ => ?_)
  obtain ⟨ie0, ie1, ie2, ie3, ie4, ie5, ie6, ie7, ie8, ie9, ie10, ie11, ie12, ie13, ie14, ie15, ie16, ie17, ie18, ie19, ie20, ie21, ie22, ie23, ie24, ie25, ie26, ie27, ie28, ie29, ie30, ie31, ie32, ie33, ie34, ie35, ie36, ie37, ie38, ie39⟩ := id hI
  refine lv_iconst (v := 1) hx hb dX8_spinsters_0 (by decide) ?_
  refine lv_aload_n hx hb dX8_spinsters_1 rfl (lv_at hl 0 rfl) ?_
  refine gX_X8_23_0 hx hb hG hown hK hP dX8_spinsters_2 ?_
  refine gX_X8_108_3 hx hb hG hown hK hP dX8_spinsters_5 ?_
  refine lv_ishl hx hb dX8_spinsters_8 ?_
  refine lv_topi (fun x1 ex1 => ?_)
  refine lv_iconst (v := 1) hx hb dX8_spinsters_9 (by decide) ?_
  refine lv_isub hx hb dX8_spinsters_10 ?_
  refine lv_topi (fun x2 ex2 => ?_)
  refine lv_istore_n (lv' := [(1, .int x2), (0, .ref (r 0))]) hx hb dX8_spinsters_11 rfl hl (by decide) rfl (fun ls hl => ?_)
  refine lv_iconst (v := 0) hx hb dX8_spinsters_12 (by decide) ?_
  refine lv_istore_n (lv' := [(2, .int 0), (1, .int x2), (0, .ref (r 0))]) hx hb dX8_spinsters_13 rfl hl (by decide) rfl (fun ls hl => ?_)
  have L14 : ∀ (N14 : Nat) (y14_1 y14_2 : Int32) (m14_J : Nat → Nat → Int32) (H14 : Heap) (locs : List Loc) (ls : Array Slot) (g14_0 : (0 : Int) ≤ y14_2.toInt) (g14_1 : y14_2.toInt ≤ (4 : Int)) (hP : va_P (dC, dI) vwCl (WX r ct i_tapeLength i_time i_lyingCount i_rd_fault i_rd_token i_rd_kind i_sc_count i_sc_at i_A_tunes i_A_houses i_fA_length i_B_tunes i_B_houses i_fB_length i_acts_done i_acts_undone i_kn_count f_boxes f_boxKept f_trial f_offers f_A_noteCounts f_A_notes f_B_noteCounts f_B_notes f_now_where f_now_worn f_ahead_where f_ahead_worn f_acts_rows f_kn_tunes f_kn_noteTimes m14_J L) H14) (hD : va_D A (WX r ct i_tapeLength i_time i_lyingCount i_rd_fault i_rd_token i_rd_kind i_sc_count i_sc_at i_A_tunes i_A_houses i_fA_length i_B_tunes i_B_houses i_fB_length i_acts_done i_acts_undone i_kn_count f_boxes f_boxKept f_trial f_offers f_A_noteCounts f_A_notes f_B_noteCounts f_B_notes f_now_where f_now_worn f_ahead_where f_ahead_worn f_acts_rows f_kn_tunes f_kn_noteTimes m14_J L)) (hS : va_S A s.heap H14 locs) (hl : lv_has ls 3 [(0, .ref (r 0)), (1, .int y14_1), (2, .int y14_2)]) (hM : -1 * y14_2.toInt + 4 < (N14 : Int)), W p l e { frames := 16, cells := 0, slots := 0, locals := 552 } s m ([.ref (r 0)] : List Value).toArray below meth c0 H14 locs 0 0 Q (F0 m 14 ls []) := by
    intro N14
    induction N14 with
    | zero =>
      intro y14_1 y14_2 m14_J H14 locs ls g14_0 g14_1 hP hD hS hl hM
      exact ((ox_218 hM g14_0 g14_1)).elim
    | succ N14 ih14 =>
      intro y14_1 y14_2 m14_J H14 locs ls g14_0 g14_1 hP hD hS hl hM
      have hM14 := msucc hM
      refine lv_iload_n hx hb dX8_spinsters_14 rfl (lv_at hl 2 rfl) ?_
      refine lv_aload_n hx hb dX8_spinsters_15 rfl (lv_at hl 0 rfl) ?_
      refine gX_X8_23_0 hx hb hG hown hK hP dX8_spinsters_16 ?_
      refine gX_X8_99_3 hx hb hG hown hK hP dX8_spinsters_19 ?_
      refine lv_icmp_ge (tgt := 41) hx hb dX8_spinsters_22 (by decide) (fun c_3 => ?_) (fun c_3 => ?_)
      · skip
        have f4 : i_A_houses.toInt ≤ y14_2.toInt := qi_le c_3 rfl rfl
        refine lv_iload_n hx hb dX8_spinsters_41 rfl (lv_at hl 1 rfl) ?_
        rw [hQ]
        exact W.iret (v := y14_1) hx hb hr (fun t ht hW => ⟨⟨y14_1, y14_1, rfl, rfl, ⟨m14_J, by rw [ht]; exact hP, hD, hI⟩⟩, hS.F ht⟩) hS.2.2 dX8_spinsters_42
      · skip
        have f5 : y14_2.toInt < i_A_houses.toInt := qi_nle c_3 rfl rfl
        refine lv_iload_n hx hb dX8_spinsters_25 rfl (lv_at hl 1 rfl) ?_
        refine lv_aload_n hx hb dX8_spinsters_26 rfl (lv_at hl 0 rfl) ?_
        refine lv_iload_n hx hb dX8_spinsters_27 rfl (lv_at hl 2 rfl) ?_
        have hFc := frA hD hS hA
        refine va_calli (va_runV (As := [.int y14_2]) (rest := [.int y14_1]) ⟨hx, hb, hml, hown, hG⟩ (kX8_takenNow l dC dI r ct i_tapeLength i_time i_lyingCount i_rd_fault i_rd_token i_rd_kind i_sc_count i_sc_at i_A_tunes i_A_houses i_fA_length i_B_tunes i_B_houses i_fB_length i_acts_done i_acts_undone i_kn_count f_boxes f_boxKept f_trial f_offers f_A_noteCounts f_A_notes f_B_noteCounts f_B_notes f_now_where f_now_worn f_ahead_where f_ahead_worn f_acts_rows f_kn_tunes f_kn_noteTimes m14_J L y14_2 H14.size hI (ox_6 g14_0) (ox_223 f5)) (cwV 1 hG (goodV gw861 gw863 gw27 gw129 gw864) rfl rfl rfl hd_X8_takenNow ⟨(Nat.le_of_ble_eq_true rfl), (Nat.le_of_ble_eq_true rfl)⟩) ⟨fbW, va_recv hK hP (ci := 7) (q0 := 0) rfl rfl, pW_in hP hK hD⟩ rfl rfl hl.1 rfl (lv_room (Nat.le_of_ble_eq_true rfl)) dX8_spinsters_28 ⟨(Nat.le_of_ble_eq_true rfl), (Nat.le_of_ble_eq_true rfl)⟩) hS (fun q _ h => hFc q h) hFc (fun r_7 u_ t_ H6 locs ht hvm hw hB hz1 hk1 hS => ?_)
        subst hw
        obtain ⟨J8, hP1, hD1, hI9⟩ := hB
        rw [ht] at hP1
        have hP := hP1
        have hD := dW hFc hD1
        obtain ⟨im10, im11, im12, im13, im14, im15, im16, im17, im18, im19, im20, im21, im22, im23, im24, im25, im26, im27, im28, im29, im30, im31, im32, im33, im34, im35, im36, im37, im38, im39, im40, im41, im42, im43, im44, im45, im46, im47, im48, im49⟩ := id hI9
        refine lv_iconst (v := (-1)) hx hb dX8_spinsters_31 (by decide) ?_
        refine lv_ixor hx hb dX8_spinsters_32 ?_
        refine lv_topi (fun x50 ex50 => ?_)
        refine lv_iand hx hb dX8_spinsters_33 ?_
        refine lv_topi (fun x51 ex51 => ?_)
        refine lv_istore_n (lv' := [(1, .int x51), (0, .ref (r 0)), (2, .int y14_2)]) hx hb dX8_spinsters_34 rfl hl (by decide) rfl (fun ls hl => ?_)
        obtain ⟨x52, ex52⟩ : ∃ y : Int32, y = y14_2 + Int32.ofInt 1 := ⟨_, rfl⟩
        have f53 : x52.toInt = y14_2.toInt + 1 := (ox_13 (qi_add ex52 rfl (by decide) (ox_11 g14_0) (ox_219 g14_1)))
        refine lv_iinc (v := x52) (lv' := [(2, .int x52), (1, .int x51), (0, .ref (r 0))]) hx hb dX8_spinsters_35 hl (k := 2) rfl ex52.symm (by decide) rfl (fun ls hl => ?_)
        refine lv_goto (tgt := 14) hx hb dX8_spinsters_38 (by decide) ?_
        exact ih14 x51 x52 J8 H6 _ _ (ox_14 g14_0 f53) (ox_220 ie15 f5 f53) hP hD hS (lv_sub hl [2, 1, 0] rfl) (ox_221 hM14 f53)
  exact L14 (-1 * (0 : Int32).toInt + 4 + 1).toNat x2 0 J s.heap _ _ (ox_27 zc_0) (ox_224 zc_0) hP hD hS (lv_sub hl [2, 1, 0] rfl) (mlt (ox_225 zc_0))
