set_option maxHeartbeats 4000000 in
set_option maxRecDepth 100000 in
theorem kX8_roundPrice (l : Launch) (dC : Nat → ClassId) (dI : Nat → Nat → Nat) (r : Nat → Nat) (ct : Nat → ClassId) (i_tapeLength i_time i_lyingCount i_rd_fault i_rd_token i_rd_kind i_sc_count i_sc_at i_A_tunes i_A_houses i_fA_length i_B_tunes i_B_houses i_fB_length i_acts_done i_acts_undone i_kn_count : Int32) (f_boxes f_boxKept f_trial f_offers f_A_noteCounts f_A_notes f_B_noteCounts f_B_notes f_now_where f_now_worn f_ahead_where f_ahead_worn f_acts_rows f_kn_tunes f_kn_noteTimes : Nat → Int32) (J : Nat → Nat → Int32) (L : Nat → Nat → Int64) (sz : Nat) (hI : (IX i_tapeLength i_time i_lyingCount i_rd_token i_sc_count i_sc_at i_A_tunes i_A_houses i_fA_length i_B_tunes i_B_houses i_fB_length i_acts_done i_acts_undone i_kn_count f_boxes f_A_noteCounts f_A_notes f_B_noteCounts f_B_notes f_now_worn f_ahead_worn f_acts_rows f_kn_tunes)) : Met l yX8_roundPrice (.code yX8_roundPrice cX8_roundPrice 3 (some .int) :: GW) { frames := 4, cells := 0, slots := 0, locals := 161 } (va_Pc [.ref (r 0)] (pR (dC, dI) (WX r ct i_tapeLength i_time i_lyingCount i_rd_fault i_rd_token i_rd_kind i_sc_count i_sc_at i_A_tunes i_A_houses i_fA_length i_B_tunes i_B_houses i_fB_length i_acts_done i_acts_undone i_kn_count f_boxes f_boxKept f_trial f_offers f_A_noteCounts f_A_notes f_B_noteCounts f_B_notes f_now_where f_now_worn f_ahead_where f_ahead_worn f_acts_rows f_kn_tunes f_kn_noteTimes J L) (TX ct) sz)) (va_Qi (fun (r0 : Int32) (u : Int32) => r0 = u) (fun (u : Int32) (t : State) => True) (fun q => sz ≤ q)) 0 0 (fun q => sz ≤ q) := by
  refine Met.ofW (cc := cX8_roundPrice) (maxL := 3) (ret := (some .int)) (by decide) rfl ?_
  intro p e s m args below meth c0 s₁ B hml hv
  obtain ⟨rfl, hsz, hP, hK⟩ := hv
  have hx := B.exec
  have hb := B.bytes
  have hr := B.returns
  have hts := atoms_spec (ws := .code yX8_roundPrice cX8_roundPrice 3 (some .int) :: GW) B.pre
  have hG : ∀ w ∈ GW, w.before _ s = true := fun w h => hts w (List.mem_cons_of_mem _ h)
  have hown : s.vm.findClass RX8 = some m.cls := findClass_of_methodNamed B.named
  subst hsz
  have hS : va_S (fun q => s.heap.size ≤ q) s.heap s.heap [] := va_S.rf
  have hP : va_P (dC, dI) vwCl (WX r ct i_tapeLength i_time i_lyingCount i_rd_fault i_rd_token i_rd_kind i_sc_count i_sc_at i_A_tunes i_A_houses i_fA_length i_B_tunes i_B_houses i_fB_length i_acts_done i_acts_undone i_kn_count f_boxes f_boxKept f_trial f_offers f_A_noteCounts f_A_notes f_B_noteCounts f_B_notes f_now_where f_now_worn f_ahead_where f_ahead_worn f_acts_rows f_kn_tunes f_kn_noteTimes J L) s.heap := hP
  have hl := lv_entry ([.ref (r 0)]) (n := 3) (Nat.le_of_ble_eq_true rfl)
  rw [lg_entry_eq]
  generalize (lg_sl ([.ref (r 0)]) ++ List.replicate (3 - (lg_sl ([.ref (r 0)])).length) Slot.unset).toArray = ls at hl ⊢
  have hl : lv_has ls 3 [(0, .ref (r 0))] := hl
  refine nameQ (fun Q hQ => ?_)
  obtain ⟨ie0, ie1, ie2, ie3, ie4, ie5, ie6, ie7, ie8, ie9, ie10, ie11, ie12, ie13, ie14, ie15, ie16, ie17, ie18, ie19, ie20, ie21, ie22, ie23, ie24, ie25, ie26, ie27, ie28, ie29, ie30, ie31, ie32, ie33, ie34, ie35, ie36, ie37, ie38, ie39⟩ := id hI
  refine lv_iconst (v := 0) hx hb dX8_roundPrice_0 (by decide) ?_
  refine lv_istore_n (lv' := [(1, .int 0), (0, .ref (r 0))]) hx hb dX8_roundPrice_1 rfl hl (by decide) rfl (fun ls hl => ?_)
  refine lv_iconst (v := 0) hx hb dX8_roundPrice_2 (by decide) ?_
  refine lv_istore_n (lv' := [(2, .int 0), (1, .int 0), (0, .ref (r 0))]) hx hb dX8_roundPrice_3 rfl hl (by decide) rfl (fun ls hl => ?_)
  have L4 : ∀ (N4 : Nat) (y4_1 y4_2 : Int32) (H4 : Heap) (locs : List Loc) (ls : Array Slot) (g4_0 : (0 : Int) ≤ y4_2.toInt) (g4_1 : y4_2.toInt ≤ (4 : Int)) (hP : va_P (dC, dI) vwCl (WX r ct i_tapeLength i_time i_lyingCount i_rd_fault i_rd_token i_rd_kind i_sc_count i_sc_at i_A_tunes i_A_houses i_fA_length i_B_tunes i_B_houses i_fB_length i_acts_done i_acts_undone i_kn_count f_boxes f_boxKept f_trial f_offers f_A_noteCounts f_A_notes f_B_noteCounts f_B_notes f_now_where f_now_worn f_ahead_where f_ahead_worn f_acts_rows f_kn_tunes f_kn_noteTimes J L) H4) (hS : va_S (fun q => s.heap.size ≤ q) s.heap H4 locs) (hl : lv_has ls 3 [(0, .ref (r 0)), (1, .int y4_1), (2, .int y4_2)]) (hM : -1 * y4_2.toInt + 4 < (N4 : Int)), W p l e { frames := 4, cells := 0, slots := 0, locals := 161 } s m ([.ref (r 0)] : List Value).toArray below meth c0 H4 locs 0 0 Q (F0 m 4 ls []) := by
    intro N4
    induction N4 with
    | zero =>
      intro y4_1 y4_2 H4 locs ls g4_0 g4_1 hP hS hl hM
      exact ((ox_218 hM g4_0 g4_1)).elim
    | succ N4 ih4 =>
      intro y4_1 y4_2 H4 locs ls g4_0 g4_1 hP hS hl hM
      have hM4 := msucc hM
      refine lv_iload_n hx hb dX8_roundPrice_4 rfl (lv_at hl 2 rfl) ?_
      refine lv_aload_n hx hb dX8_roundPrice_5 rfl (lv_at hl 0 rfl) ?_
      refine gX_X8_23_0 hx hb hG hown hK hP dX8_roundPrice_6 ?_
      refine gX_X8_99_3 hx hb hG hown hK hP dX8_roundPrice_9 ?_
      refine lv_icmp_ge (tgt := 51) hx hb dX8_roundPrice_12 (by decide) (fun c_1 => ?_) (fun c_1 => ?_)
      · skip
        have f2 : i_A_houses.toInt ≤ y4_2.toInt := qi_le c_1 rfl rfl
        refine lv_iload_n hx hb dX8_roundPrice_51 rfl (lv_at hl 1 rfl) ?_
        rw [hQ]
        exact W.iret (v := y4_1) hx hb hr (fun t ht hW => ⟨⟨y4_1, y4_1, rfl, rfl, trivial⟩, hS.F ht⟩) hS.2.2 dX8_roundPrice_52
      · skip
        have f3 : y4_2.toInt < i_A_houses.toInt := qi_nle c_1 rfl rfl
        refine lv_aload_n hx hb dX8_roundPrice_15 rfl (lv_at hl 0 rfl) ?_
        refine lv_aload_n hx hb dX8_roundPrice_16 rfl (lv_at hl 0 rfl) ?_
        refine gX_X8_62_0 hx hb hG hown hK hP dX8_roundPrice_17 ?_
        refine lv_iload_n hx hb dX8_roundPrice_20 rfl (lv_at hl 2 rfl) ?_
        refine ldX_15 (mm := y4_2.toInt) hx hb hK hP rfl (ox_9 g4_0) (ox_376 ie15 f3) dX8_roundPrice_21 ?_
        refine va_calli (va_runV (As := [.int (f_trial (y4_2.toInt).toNat)]) (rest := []) ⟨hx, hb, hml, hown, hG⟩ (kX8_isTune l dC dI r ct i_tapeLength i_time i_lyingCount i_rd_fault i_rd_token i_rd_kind i_sc_count i_sc_at i_A_tunes i_A_houses i_fA_length i_B_tunes i_B_houses i_fB_length i_acts_done i_acts_undone i_kn_count f_boxes f_boxKept f_trial f_offers f_A_noteCounts f_A_notes f_B_noteCounts f_B_notes f_now_where f_now_worn f_ahead_where f_ahead_worn f_acts_rows f_kn_tunes f_kn_noteTimes J L (f_trial (y4_2.toInt).toNat) H4.size hI) (cwV 1 hG (goodV gw695 gw697 gw20 gw129 gw698) rfl rfl rfl hd_X8_isTune ⟨(Nat.le_of_ble_eq_true rfl), (Nat.le_of_ble_eq_true rfl)⟩) ⟨fbR, va_recv hK hP (ci := 7) (q0 := 0) rfl rfl, pR_in hP hK⟩ rfl rfl hl.1 rfl (lv_room (Nat.le_of_ble_eq_true rfl)) dX8_roundPrice_22 ⟨(Nat.le_of_ble_eq_true rfl), (Nat.le_of_ble_eq_true rfl)⟩) hS (fun q hq h => absurd hq (Nat.not_lt.mpr h)) (fun q h => Nat.le_trans hS.1 h) (fun r_5 u_ t_ H4 locs ht hvm hw hB hz1 hk1 hS => ?_)
        subst hw
        have hP := wk hP hk1
        obtain ⟨f6, f7, f8⟩ := hB
        refine lv_if_eq (tgt := 45) hx hb dX8_roundPrice_25 (by decide) (fun c_9 => ?_) (fun c_9 => ?_)
        · skip
          have f10 : r_5.toInt = 0 := qi_eq c_9 rfl zc_0
          obtain ⟨x11, ex11⟩ : ∃ y : Int32, y = y4_2 + Int32.ofInt 1 := ⟨_, rfl⟩
          have f12 : x11.toInt = y4_2.toInt + 1 := (ox_13 (qi_add ex11 rfl (by decide) (ox_11 g4_0) (ox_219 g4_1)))
          refine lv_iinc (v := x11) (lv' := [(2, .int x11), (0, .ref (r 0)), (1, .int y4_1)]) hx hb dX8_roundPrice_45 hl (k := 2) rfl ex11.symm (by decide) rfl (fun ls hl => ?_)
          refine lv_goto (tgt := 4) hx hb dX8_roundPrice_48 (by decide) ?_
          exact ih4 y4_1 x11 H4 _ _ (ox_14 g4_0 f12) (ox_220 ie15 f3 f12) hP hS (lv_sub hl [1, 2, 0] rfl) (ox_221 hM4 f12)
        · skip
          have f13 : r_5.toInt ≠ 0 := qi_ne c_9 rfl zc_0
          have f14 : (0 : Int) ≤ (f_trial (y4_2.toInt).toNat).toInt := (ox_50 f6 f13)
          have f15 : (f_trial (y4_2.toInt).toNat).toInt + 1 ≤ i_A_tunes.toInt := (ox_51 f6 f13)
          have f16 : r_5.toInt = (1 : Int) := (ox_52 f6 f13)
          have f17 : (1 : Int) ≤ r_5.toInt := (ox_53 f7 f8 f16)
          refine lv_iload_n hx hb dX8_roundPrice_28 rfl (lv_at hl 1 rfl) ?_
          refine lv_aload_n hx hb dX8_roundPrice_29 rfl (lv_at hl 0 rfl) ?_
          refine gX_X8_23_0 hx hb hG hown hK hP dX8_roundPrice_30 ?_
          refine gX_X8_115_3 hx hb hG hown hK hP dX8_roundPrice_33 ?_
          refine lv_aload_n hx hb dX8_roundPrice_36 rfl (lv_at hl 0 rfl) ?_
          refine gX_X8_62_0 hx hb hG hown hK hP dX8_roundPrice_37 ?_
          refine lv_iload_n hx hb dX8_roundPrice_40 rfl (lv_at hl 2 rfl) ?_
          refine ldX_15 (mm := y4_2.toInt) hx hb hK hP rfl (ox_9 g4_0) (ox_376 ie15 f3) dX8_roundPrice_41 ?_
          refine ldX_23 (mm := (f_trial (y4_2.toInt).toNat).toInt) hx hb hK hP rfl (ox_33 f14 f15) (ox_34 ie13 f15) dX8_roundPrice_42 (fun x18 => ?_)
          refine lv_iadd hx hb dX8_roundPrice_43 ?_
          refine lv_topi (fun x19 ex19 => ?_)
          refine lv_istore_n (lv' := [(1, .int x19), (0, .ref (r 0)), (2, .int y4_2)]) hx hb dX8_roundPrice_44 rfl hl (by decide) rfl (fun ls hl => ?_)
          obtain ⟨x20, ex20⟩ : ∃ y : Int32, y = y4_2 + Int32.ofInt 1 := ⟨_, rfl⟩
          have f21 : x20.toInt = y4_2.toInt + 1 := (ox_13 (qi_add ex20 rfl (by decide) (ox_11 g4_0) (ox_219 g4_1)))
          refine lv_iinc (v := x20) (lv' := [(2, .int x20), (1, .int x19), (0, .ref (r 0))]) hx hb dX8_roundPrice_45 hl (k := 2) rfl ex20.symm (by decide) rfl (fun ls hl => ?_)
          refine lv_goto (tgt := 4) hx hb dX8_roundPrice_48 (by decide) ?_
          exact ih4 x19 x20 H4 _ _ (ox_14 g4_0 f21) (ox_220 ie15 f3 f21) hP hS (lv_sub hl [2, 1, 0] rfl) (ox_221 hM4 f21)
  exact L4 (-1 * (0 : Int32).toInt + 4 + 1).toNat 0 0 s.heap _ _ (ox_27 zc_0) (ox_224 zc_0) hP hS (lv_sub hl [2, 1, 0] rfl) (mlt (ox_225 zc_0))
set_option maxHeartbeats 4000000 in
set_option maxRecDepth 100000 in
theorem kX8_layTrial (l : Launch) (dC : Nat → ClassId) (dI : Nat → Nat → Nat) (r : Nat → Nat) (ct : Nat → ClassId) (i_tapeLength i_time i_lyingCount i_rd_fault i_rd_token i_rd_kind i_sc_count i_sc_at i_A_tunes i_A_houses i_fA_length i_B_tunes i_B_houses i_fB_length i_acts_done i_acts_undone i_kn_count : Int32) (f_boxes f_boxKept f_trial f_offers f_A_noteCounts f_A_notes f_B_noteCounts f_B_notes f_now_where f_now_worn f_ahead_where f_ahead_worn f_acts_rows f_kn_tunes f_kn_noteTimes : Nat → Int32) (J : Nat → Nat → Int32) (L : Nat → Nat → Int64) (sz : Nat) (hI : (IX i_tapeLength i_time i_lyingCount i_rd_token i_sc_count i_sc_at i_A_tunes i_A_houses i_fA_length i_B_tunes i_B_houses i_fB_length i_acts_done i_acts_undone i_kn_count f_boxes f_A_noteCounts f_A_notes f_B_noteCounts f_B_notes f_now_worn f_ahead_worn f_acts_rows f_kn_tunes)) : Met l yX8_layTrial (.code yX8_layTrial cX8_layTrial 2 none :: GW) { frames := 2, cells := 0, slots := 0, locals := 100 } (va_Pc [.ref (r 0)] (pW (dC, dI) (WX r ct i_tapeLength i_time i_lyingCount i_rd_fault i_rd_token i_rd_kind i_sc_count i_sc_at i_A_tunes i_A_houses i_fA_length i_B_tunes i_B_houses i_fB_length i_acts_done i_acts_undone i_kn_count f_boxes f_boxKept f_trial f_offers f_A_noteCounts f_A_notes f_B_noteCounts f_B_notes f_now_where f_now_worn f_ahead_where f_ahead_worn f_acts_rows f_kn_tunes f_kn_noteTimes J L) (TX ct) sz)) (va_Qv (fun _ : Unit => True) (fun (_ : Unit) (t : State) => ∃ (n_i_lyingCount : Int32) (n_J : Nat → Nat → Int32), va_P (dC, dI) vwCl (WX r ct i_tapeLength i_time n_i_lyingCount i_rd_fault i_rd_token i_rd_kind i_sc_count i_sc_at i_A_tunes i_A_houses i_fA_length i_B_tunes i_B_houses i_fB_length i_acts_done i_acts_undone i_kn_count f_boxes f_boxKept f_trial f_offers f_A_noteCounts f_A_notes f_B_noteCounts f_B_notes f_now_where f_now_worn f_ahead_where f_ahead_worn f_acts_rows f_kn_tunes f_kn_noteTimes n_J L) t.heap ∧ va_D (va_A (WX r ct i_tapeLength i_time i_lyingCount i_rd_fault i_rd_token i_rd_kind i_sc_count i_sc_at i_A_tunes i_A_houses i_fA_length i_B_tunes i_B_houses i_fB_length i_acts_done i_acts_undone i_kn_count f_boxes f_boxKept f_trial f_offers f_A_noteCounts f_A_notes f_B_noteCounts f_B_notes f_now_where f_now_worn f_ahead_where f_ahead_worn f_acts_rows f_kn_tunes f_kn_noteTimes J L) sz) (WX r ct i_tapeLength i_time n_i_lyingCount i_rd_fault i_rd_token i_rd_kind i_sc_count i_sc_at i_A_tunes i_A_houses i_fA_length i_B_tunes i_B_houses i_fB_length i_acts_done i_acts_undone i_kn_count f_boxes f_boxKept f_trial f_offers f_A_noteCounts f_A_notes f_B_noteCounts f_B_notes f_now_where f_now_worn f_ahead_where f_ahead_worn f_acts_rows f_kn_tunes f_kn_noteTimes n_J L) ∧ (IX i_tapeLength i_time n_i_lyingCount i_rd_token i_sc_count i_sc_at i_A_tunes i_A_houses i_fA_length i_B_tunes i_B_houses i_fB_length i_acts_done i_acts_undone i_kn_count f_boxes f_A_noteCounts f_A_notes f_B_noteCounts f_B_notes f_now_worn f_ahead_worn f_acts_rows f_kn_tunes)) (va_A (WX r ct i_tapeLength i_time i_lyingCount i_rd_fault i_rd_token i_rd_kind i_sc_count i_sc_at i_A_tunes i_A_houses i_fA_length i_B_tunes i_B_houses i_fB_length i_acts_done i_acts_undone i_kn_count f_boxes f_boxKept f_trial f_offers f_A_noteCounts f_A_notes f_B_noteCounts f_B_notes f_now_where f_now_worn f_ahead_where f_ahead_worn f_acts_rows f_kn_tunes f_kn_noteTimes J L) sz)) 0 0 (va_A (WX r ct i_tapeLength i_time i_lyingCount i_rd_fault i_rd_token i_rd_kind i_sc_count i_sc_at i_A_tunes i_A_houses i_fA_length i_B_tunes i_B_houses i_fB_length i_acts_done i_acts_undone i_kn_count f_boxes f_boxKept f_trial f_offers f_A_noteCounts f_A_notes f_B_noteCounts f_B_notes f_now_where f_now_worn f_ahead_where f_ahead_worn f_acts_rows f_kn_tunes f_kn_noteTimes J L) sz) := by
  refine Met.ofW (cc := cX8_layTrial) (maxL := 2) (ret := none) (by decide) rfl ?_
  intro p e s m args below meth c0 s₁ B hml hv
  obtain ⟨rfl, hsz, hP, hK, hD0⟩ := hv
  have hx := B.exec
  have hb := B.bytes
  have hr := B.returns
  have hts := atoms_spec (ws := .code yX8_layTrial cX8_layTrial 2 none :: GW) B.pre
  have hG : ∀ w ∈ GW, w.before _ s = true := fun w h => hts w (List.mem_cons_of_mem _ h)
  have hown : s.vm.findClass RX8 = some m.cls := findClass_of_methodNamed B.named
  subst hsz
  have hD := hD0.self (sz := s.heap.size)
  generalize hAe : va_A (WX r ct i_tapeLength i_time i_lyingCount i_rd_fault i_rd_token i_rd_kind i_sc_count i_sc_at i_A_tunes i_A_houses i_fA_length i_B_tunes i_B_houses i_fB_length i_acts_done i_acts_undone i_kn_count f_boxes f_boxKept f_trial f_offers f_A_noteCounts f_A_notes f_B_noteCounts f_B_notes f_now_where f_now_worn f_ahead_where f_ahead_worn f_acts_rows f_kn_tunes f_kn_noteTimes J L) s.heap.size = A at hD ⊢
  have hA : ∀ q : Nat, s.heap.size ≤ q → A q := fun q h => by rw [← hAe]; exact Or.inr h
  have hS : va_S A s.heap s.heap [] := va_S.rf
  have hP : va_P (dC, dI) vwCl (WX r ct i_tapeLength i_time i_lyingCount i_rd_fault i_rd_token i_rd_kind i_sc_count i_sc_at i_A_tunes i_A_houses i_fA_length i_B_tunes i_B_houses i_fB_length i_acts_done i_acts_undone i_kn_count f_boxes f_boxKept f_trial f_offers f_A_noteCounts f_A_notes f_B_noteCounts f_B_notes f_now_where f_now_worn f_ahead_where f_ahead_worn f_acts_rows f_kn_tunes f_kn_noteTimes J L) s.heap := hP
  have hl := lv_entry ([.ref (r 0)]) (n := 2) (Nat.le_of_ble_eq_true rfl)
  rw [lg_entry_eq]
  generalize (lg_sl ([.ref (r 0)]) ++ List.replicate (2 - (lg_sl ([.ref (r 0)])).length) Slot.unset).toArray = ls at hl ⊢
  have hl : lv_has ls 2 [(0, .ref (r 0))] := hl
  refine nameQ (fun Q hQ => ?_)
  obtain ⟨ie0, ie1, ie2, ie3, ie4, ie5, ie6, ie7, ie8, ie9, ie10, ie11, ie12, ie13, ie14, ie15, ie16, ie17, ie18, ie19, ie20, ie21, ie22, ie23, ie24, ie25, ie26, ie27, ie28, ie29, ie30, ie31, ie32, ie33, ie34, ie35, ie36, ie37, ie38, ie39⟩ := id hI
  refine lv_aload_n hx hb dX8_layTrial_0 rfl (lv_at hl 0 rfl) ?_
  refine lv_aload_n hx hb dX8_layTrial_1 rfl (lv_at hl 0 rfl) ?_
  refine gX_X8_23_0 hx hb hG hown hK hP dX8_layTrial_2 ?_
  refine gX_X8_99_3 hx hb hG hown hK hP dX8_layTrial_5 ?_
  refine pX_X8_96_0 hx hb hG hown hK hP hD hS dX8_layTrial_8 (fun H1 locs hP hD hS => ?_)
  refine lv_iconst (v := 0) hx hb dX8_layTrial_11 (by decide) ?_
  refine lv_istore_n (lv' := [(1, .int 0), (0, .ref (r 0))]) hx hb dX8_layTrial_12 rfl hl (by decide) rfl (fun ls hl => ?_)
  have L13 : ∀ (N13 : Nat) (y13_1 : Int32) (m13_J : Nat → Nat → Int32) (H13 : Heap) (locs : List Loc) (ls : Array Slot) (g13_0 : (0 : Int) ≤ y13_1.toInt) (g13_1 : y13_1.toInt ≤ (4 : Int)) (hP : va_P (dC, dI) vwCl (WX r ct i_tapeLength i_time i_A_houses i_rd_fault i_rd_token i_rd_kind i_sc_count i_sc_at i_A_tunes i_A_houses i_fA_length i_B_tunes i_B_houses i_fB_length i_acts_done i_acts_undone i_kn_count f_boxes f_boxKept f_trial f_offers f_A_noteCounts f_A_notes f_B_noteCounts f_B_notes f_now_where f_now_worn f_ahead_where f_ahead_worn f_acts_rows f_kn_tunes f_kn_noteTimes m13_J L) H13) (hD : va_D A (WX r ct i_tapeLength i_time i_A_houses i_rd_fault i_rd_token i_rd_kind i_sc_count i_sc_at i_A_tunes i_A_houses i_fA_length i_B_tunes i_B_houses i_fB_length i_acts_done i_acts_undone i_kn_count f_boxes f_boxKept f_trial f_offers f_A_noteCounts f_A_notes f_B_noteCounts f_B_notes f_now_where f_now_worn f_ahead_where f_ahead_worn f_acts_rows f_kn_tunes f_kn_noteTimes m13_J L)) (hS : va_S A s.heap H13 locs) (hl : lv_has ls 2 [(0, .ref (r 0)), (1, .int y13_1)]) (hM : -1 * y13_1.toInt + 4 < (N13 : Int)), W p l e { frames := 2, cells := 0, slots := 0, locals := 100 } s m ([.ref (r 0)] : List Value).toArray below meth c0 H13 locs 0 0 Q (F0 m 13 ls []) := by
    intro N13
    induction N13 with
    | zero =>
      intro y13_1 m13_J H13 locs ls g13_0 g13_1 hP hD hS hl hM
      exact ((ox_218 hM g13_0 g13_1)).elim
    | succ N13 ih13 =>
      intro y13_1 m13_J H13 locs ls g13_0 g13_1 hP hD hS hl hM
      have hM13 := msucc hM
      refine lv_iload_n hx hb dX8_layTrial_13 rfl (lv_at hl 1 rfl) ?_
      refine lv_aload_n hx hb dX8_layTrial_14 rfl (lv_at hl 0 rfl) ?_
      refine gX_X8_96_0 hx hb hG hown hK hP dX8_layTrial_15 ?_
      refine lv_icmp_ge (tgt := 39) hx hb dX8_layTrial_18 (by decide) (fun c_2 => ?_) (fun c_2 => ?_)
      · skip
        have f3 : i_A_houses.toInt ≤ y13_1.toInt := qi_le c_2 rfl rfl
        rw [hQ]
        exact W.vret hx hb hr (fun t ht hW => ⟨⟨(), rfl, trivial, ⟨i_A_houses, m13_J, by rw [ht]; exact hP, hD, ⟨ie0, ie1, ie2, ie3, (ox_377 ie14 ie15 f3), (ox_378 ie14 ie15 f3), ie6, ie7, ie8, ie9, ie10, ie11, ie12, ie13, ie14, ie15, ie16, ie17, ie18, ie19, ie20, ie21, ie22, ie23, ie24, ie25, ie26, ie27, ie28, ie29, ie30, ie31, ie32, ie33, ie34, ie35, ie36, ie37, ie38, ie39⟩⟩⟩, hS.F ht⟩) hS.2.2 dX8_layTrial_39
      · skip
        have f4 : y13_1.toInt < i_A_houses.toInt := qi_nle c_2 rfl rfl
        refine lv_aload_n hx hb dX8_layTrial_21 rfl (lv_at hl 0 rfl) ?_
        refine gX_X8_59_0 hx hb hG hown hK hP dX8_layTrial_22 ?_
        refine lv_iload_n hx hb dX8_layTrial_25 rfl (lv_at hl 1 rfl) ?_
        refine lv_aload_n hx hb dX8_layTrial_26 rfl (lv_at hl 0 rfl) ?_
        refine gX_X8_62_0 hx hb hG hown hK hP dX8_layTrial_27 ?_
        refine lv_iload_n hx hb dX8_layTrial_30 rfl (lv_at hl 1 rfl) ?_
        refine ldX_15 (mm := y13_1.toInt) hx hb hK hP rfl (ox_9 g13_0) (ox_376 ie15 f4) dX8_layTrial_31 ?_
        refine stX_14 (mm := y13_1.toInt) hx hb hK hP hD hS rfl (ox_9 g13_0) (ox_376 ie15 f4) dX8_layTrial_32 (fun J6 H5 locs hP hD hS => ?_)
        obtain ⟨x7, ex7⟩ : ∃ y : Int32, y = y13_1 + Int32.ofInt 1 := ⟨_, rfl⟩
        have f8 : x7.toInt = y13_1.toInt + 1 := (ox_13 (qi_add ex7 rfl (by decide) (ox_11 g13_0) (ox_219 g13_1)))
        refine lv_iinc (v := x7) (lv' := [(1, .int x7), (0, .ref (r 0))]) hx hb dX8_layTrial_33 hl (k := 1) rfl ex7.symm (by decide) rfl (fun ls hl => ?_)
        refine lv_goto (tgt := 13) hx hb dX8_layTrial_36 (by decide) ?_
        exact ih13 x7 J6 H5 _ _ (ox_14 g13_0 f8) (ox_220 ie15 f4 f8) hP hD hS (lv_sub hl [1, 0] rfl) (ox_221 hM13 f8)
  exact L13 (-1 * (0 : Int32).toInt + 4 + 1).toNat 0 J H1 _ _ (ox_27 zc_0) (ox_224 zc_0) hP hD hS (lv_sub hl [1, 0] rfl) (mlt (ox_225 zc_0))
set_option maxHeartbeats 4000000 in
set_option maxRecDepth 100000 in
theorem kX8_round (l : Launch) (dC : Nat → ClassId) (dI : Nat → Nat → Nat) (r : Nat → Nat) (ct : Nat → ClassId) (i_tapeLength i_time i_lyingCount i_rd_fault i_rd_token i_rd_kind i_sc_count i_sc_at i_A_tunes i_A_houses i_fA_length i_B_tunes i_B_houses i_fB_length i_acts_done i_acts_undone i_kn_count : Int32) (f_boxes f_boxKept f_trial f_offers f_A_noteCounts f_A_notes f_B_noteCounts f_B_notes f_now_where f_now_worn f_ahead_where f_ahead_worn f_acts_rows f_kn_tunes f_kn_noteTimes : Nat → Int32) (J : Nat → Nat → Int32) (L : Nat → Nat → Int64) (p0 : Int32) (sz : Nat) (hI : (IX i_tapeLength i_time i_lyingCount i_rd_token i_sc_count i_sc_at i_A_tunes i_A_houses i_fA_length i_B_tunes i_B_houses i_fB_length i_acts_done i_acts_undone i_kn_count f_boxes f_A_noteCounts f_A_notes f_B_noteCounts f_B_notes f_now_worn f_ahead_worn f_acts_rows f_kn_tunes)) (hp0 : WB i_A_tunes f_now_where) : Met l yX8_round (.code yX8_round cX8_round 9 (some .int) :: GW) { frames := 16, cells := 0, slots := 0, locals := 552 } (va_Pc [.ref (r 0), .int p0] (pW (dC, dI) (WX r ct i_tapeLength i_time i_lyingCount i_rd_fault i_rd_token i_rd_kind i_sc_count i_sc_at i_A_tunes i_A_houses i_fA_length i_B_tunes i_B_houses i_fB_length i_acts_done i_acts_undone i_kn_count f_boxes f_boxKept f_trial f_offers f_A_noteCounts f_A_notes f_B_noteCounts f_B_notes f_now_where f_now_worn f_ahead_where f_ahead_worn f_acts_rows f_kn_tunes f_kn_noteTimes J L) (TX ct) sz)) (va_Qi (fun (r0 : Int32) (u : Int32) => r0 = u) (fun (u : Int32) (t : State) => ∃ (n_i_lyingCount : Int32) (n_f_trial n_f_offers : Nat → Int32) (n_J : Nat → Nat → Int32), va_P (dC, dI) vwCl (WX r ct i_tapeLength i_time n_i_lyingCount i_rd_fault i_rd_token i_rd_kind i_sc_count i_sc_at i_A_tunes i_A_houses i_fA_length i_B_tunes i_B_houses i_fB_length i_acts_done i_acts_undone i_kn_count f_boxes f_boxKept n_f_trial n_f_offers f_A_noteCounts f_A_notes f_B_noteCounts f_B_notes f_now_where f_now_worn f_ahead_where f_ahead_worn f_acts_rows f_kn_tunes f_kn_noteTimes n_J L) t.heap ∧ va_D (va_A (WX r ct i_tapeLength i_time i_lyingCount i_rd_fault i_rd_token i_rd_kind i_sc_count i_sc_at i_A_tunes i_A_houses i_fA_length i_B_tunes i_B_houses i_fB_length i_acts_done i_acts_undone i_kn_count f_boxes f_boxKept f_trial f_offers f_A_noteCounts f_A_notes f_B_noteCounts f_B_notes f_now_where f_now_worn f_ahead_where f_ahead_worn f_acts_rows f_kn_tunes f_kn_noteTimes J L) sz) (WX r ct i_tapeLength i_time n_i_lyingCount i_rd_fault i_rd_token i_rd_kind i_sc_count i_sc_at i_A_tunes i_A_houses i_fA_length i_B_tunes i_B_houses i_fB_length i_acts_done i_acts_undone i_kn_count f_boxes f_boxKept n_f_trial n_f_offers f_A_noteCounts f_A_notes f_B_noteCounts f_B_notes f_now_where f_now_worn f_ahead_where f_ahead_worn f_acts_rows f_kn_tunes f_kn_noteTimes n_J L) ∧ (IX i_tapeLength i_time n_i_lyingCount i_rd_token i_sc_count i_sc_at i_A_tunes i_A_houses i_fA_length i_B_tunes i_B_houses i_fB_length i_acts_done i_acts_undone i_kn_count f_boxes f_A_noteCounts f_A_notes f_B_noteCounts f_B_notes f_now_worn f_ahead_worn f_acts_rows f_kn_tunes)) (va_A (WX r ct i_tapeLength i_time i_lyingCount i_rd_fault i_rd_token i_rd_kind i_sc_count i_sc_at i_A_tunes i_A_houses i_fA_length i_B_tunes i_B_houses i_fB_length i_acts_done i_acts_undone i_kn_count f_boxes f_boxKept f_trial f_offers f_A_noteCounts f_A_notes f_B_noteCounts f_B_notes f_now_where f_now_worn f_ahead_where f_ahead_worn f_acts_rows f_kn_tunes f_kn_noteTimes J L) sz)) 0 0 (va_A (WX r ct i_tapeLength i_time i_lyingCount i_rd_fault i_rd_token i_rd_kind i_sc_count i_sc_at i_A_tunes i_A_houses i_fA_length i_B_tunes i_B_houses i_fB_length i_acts_done i_acts_undone i_kn_count f_boxes f_boxKept f_trial f_offers f_A_noteCounts f_A_notes f_B_noteCounts f_B_notes f_now_where f_now_worn f_ahead_where f_ahead_worn f_acts_rows f_kn_tunes f_kn_noteTimes J L) sz) := by
  refine Met.ofW (cc := cX8_round) (maxL := 9) (ret := (some .int)) (by decide) rfl ?_
  intro p e s m args below meth c0 s₁ B hml hv
  obtain ⟨rfl, hsz, hP, hK, hD0⟩ := hv
  have hx := B.exec
  have hb := B.bytes
  have hr := B.returns
  have hts := atoms_spec (ws := .code yX8_round cX8_round 9 (some .int) :: GW) B.pre
  have hG : ∀ w ∈ GW, w.before _ s = true := fun w h => hts w (List.mem_cons_of_mem _ h)
  have hown : s.vm.findClass RX8 = some m.cls := findClass_of_methodNamed B.named
  subst hsz
  have hD := hD0.self (sz := s.heap.size)
  generalize hAe : va_A (WX r ct i_tapeLength i_time i_lyingCount i_rd_fault i_rd_token i_rd_kind i_sc_count i_sc_at i_A_tunes i_A_houses i_fA_length i_B_tunes i_B_houses i_fB_length i_acts_done i_acts_undone i_kn_count f_boxes f_boxKept f_trial f_offers f_A_noteCounts f_A_notes f_B_noteCounts f_B_notes f_now_where f_now_worn f_ahead_where f_ahead_worn f_acts_rows f_kn_tunes f_kn_noteTimes J L) s.heap.size = A at hD ⊢
  have hA : ∀ q : Nat, s.heap.size ≤ q → A q := fun q h => by rw [← hAe]; exact Or.inr h
  have hS : va_S A s.heap s.heap [] := va_S.rf
  have hP : va_P (dC, dI) vwCl (WX r ct i_tapeLength i_time i_lyingCount i_rd_fault i_rd_token i_rd_kind i_sc_count i_sc_at i_A_tunes i_A_houses i_fA_length i_B_tunes i_B_houses i_fB_length i_acts_done i_acts_undone i_kn_count f_boxes f_boxKept f_trial f_offers f_A_noteCounts f_A_notes f_B_noteCounts f_B_notes f_now_where f_now_worn f_ahead_where f_ahead_worn f_acts_rows f_kn_tunes f_kn_noteTimes J L) s.heap := hP
  have hl := lv_entry ([.ref (r 0), .int p0]) (n := 9) (Nat.le_of_ble_eq_true rfl)
  rw [lg_entry_eq]
  generalize (lg_sl ([.ref (r 0), .int p0]) ++ List.replicate (9 - (lg_sl ([.ref (r 0), .int p0])).length) Slot.unset).toArray = ls at hl ⊢
  have hl : lv_has ls 9 [(0, .ref (r 0)), (1, .int p0)] := hl
  refine nameQ (fun Q hQ => ?_)
  obtain ⟨ie0, ie1, ie2, ie3, ie4, ie5, ie6, ie7, ie8, ie9, ie10, ie11, ie12, ie13, ie14, ie15, ie16, ie17, ie18, ie19, ie20, ie21, ie22, ie23, ie24, ie25, ie26, ie27, ie28, ie29, ie30, ie31, ie32, ie33, ie34, ie35, ie36, ie37, ie38, ie39⟩ := id hI
  refine lv_iload_n hx hb dX8_round_0 rfl (lv_at hl 1 rfl) ?_
  refine lv_if_lt (tgt := 9) hx hb dX8_round_1 (by decide) (fun c_1 => ?_) (fun c_1 => ?_)
  · skip
    have f2 : p0.toInt < 0 := qi_lt c_1 rfl zc_0
    refine lv_iconst (v := (-1)) hx hb dX8_round_9 (by decide) ?_
    rw [hQ]
    exact W.iret (v := (-1)) hx hb hr (fun t ht hW => ⟨⟨(-1), (-1), rfl, rfl, ⟨i_lyingCount, f_trial, f_offers, J, by rw [ht]; exact hP, hD, hI⟩⟩, hS.F ht⟩) hS.2.2 dX8_round_10
  · skip
    have f3 : 0 ≤ p0.toInt := qi_nlt c_1 rfl zc_0
    refine lv_iload_n hx hb dX8_round_4 rfl (lv_at hl 1 rfl) ?_
    refine lv_iconst (v := 1) hx hb dX8_round_5 (by decide) ?_
    refine lv_icmp_le (tgt := 11) hx hb dX8_round_6 (by decide) (fun c_4 => ?_) (fun c_4 => ?_)
    · skip
      have f5 : p0.toInt ≤ 1 := qi_le c_4 rfl zc_1
      refine lv_aload_n hx hb dX8_round_11 rfl (lv_at hl 0 rfl) ?_
      refine va_calli (va_runV (As := []) (rest := []) ⟨hx, hb, hml, hown, hG⟩ (kX8_onCart l dC dI r ct i_tapeLength i_time i_lyingCount i_rd_fault i_rd_token i_rd_kind i_sc_count i_sc_at i_A_tunes i_A_houses i_fA_length i_B_tunes i_B_houses i_fB_length i_acts_done i_acts_undone i_kn_count f_boxes f_boxKept f_trial f_offers f_A_noteCounts f_A_notes f_B_noteCounts f_B_notes f_now_where f_now_worn f_ahead_where f_ahead_worn f_acts_rows f_kn_tunes f_kn_noteTimes J L s.heap.size hI) (cwV 0 hG (goodV gw895 gw897 gw30 gw129 gw898) rfl rfl rfl hd_X8_onCart ⟨(Nat.le_of_ble_eq_true rfl), (Nat.le_of_ble_eq_true rfl)⟩) ⟨fbR, va_recv hK hP (ci := 7) (q0 := 0) rfl rfl, pR_in hP hK⟩ rfl rfl hl.1 rfl (lv_room (Nat.le_of_ble_eq_true rfl)) dX8_round_12 ⟨(Nat.le_of_ble_eq_true rfl), (Nat.le_of_ble_eq_true rfl)⟩) hS (fun q hq h => absurd hq (Nat.not_lt.mpr h)) (fun q h => hA q (Nat.le_trans hS.1 h)) (fun r_7 u_ t_ H6 locs ht hvm hw hB hz1 hk1 hS => ?_)
      subst hw
      have hP := wk hP hk1
      refine lv_istore_n (lv' := [(2, .int r_7), (0, .ref (r 0)), (1, .int p0)]) hx hb dX8_round_15 rfl hl (by decide) rfl (fun ls hl => ?_)
      refine lv_iconst (v := 0) hx hb dX8_round_16 (by decide) ?_
      refine lv_istore_n (lv' := [(3, .int 0), (2, .int r_7), (0, .ref (r 0)), (1, .int p0)]) hx hb dX8_round_17 rfl hl (by decide) rfl (fun ls hl => ?_)
      have L18 : ∀ (N18 : Nat) (y18_3 : Int32) (m18_f_offers : Nat → Int32) (m18_J : Nat → Nat → Int32) (H18 : Heap) (locs : List Loc) (ls : Array Slot) (g18_0 : (0 : Int) ≤ y18_3.toInt) (g18_1 : y18_3.toInt ≤ (4 : Int)) (hP : va_P (dC, dI) vwCl (WX r ct i_tapeLength i_time i_lyingCount i_rd_fault i_rd_token i_rd_kind i_sc_count i_sc_at i_A_tunes i_A_houses i_fA_length i_B_tunes i_B_houses i_fB_length i_acts_done i_acts_undone i_kn_count f_boxes f_boxKept f_trial m18_f_offers f_A_noteCounts f_A_notes f_B_noteCounts f_B_notes f_now_where f_now_worn f_ahead_where f_ahead_worn f_acts_rows f_kn_tunes f_kn_noteTimes m18_J L) H18) (hD : va_D A (WX r ct i_tapeLength i_time i_lyingCount i_rd_fault i_rd_token i_rd_kind i_sc_count i_sc_at i_A_tunes i_A_houses i_fA_length i_B_tunes i_B_houses i_fB_length i_acts_done i_acts_undone i_kn_count f_boxes f_boxKept f_trial m18_f_offers f_A_noteCounts f_A_notes f_B_noteCounts f_B_notes f_now_where f_now_worn f_ahead_where f_ahead_worn f_acts_rows f_kn_tunes f_kn_noteTimes m18_J L)) (hS : va_S A s.heap H18 locs) (hl : lv_has ls 9 [(0, .ref (r 0)), (1, .int p0), (2, .int r_7), (3, .int y18_3)]) (hM : -1 * y18_3.toInt + 4 < (N18 : Int)), W p l e { frames := 16, cells := 0, slots := 0, locals := 552 } s m ([.ref (r 0), .int p0] : List Value).toArray below meth c0 H18 locs 0 0 Q (F0 m 18 ls []) := by
        intro N18
        induction N18 with
        | zero =>
          intro y18_3 m18_f_offers m18_J H18 locs ls g18_0 g18_1 hP hD hS hl hM
          exact ((ox_218 hM g18_0 g18_1)).elim
        | succ N18 ih18 =>
          intro y18_3 m18_f_offers m18_J H18 locs ls g18_0 g18_1 hP hD hS hl hM
          have hM18 := msucc hM
          refine lv_iload_n hx hb dX8_round_18 rfl (lv_at hl 3 rfl) ?_
          refine lv_aload_n hx hb dX8_round_19 rfl (lv_at hl 0 rfl) ?_
          refine gX_X8_23_0 hx hb hG hown hK hP dX8_round_20 ?_
          refine gX_X8_99_3 hx hb hG hown hK hP dX8_round_23 ?_
          refine lv_icmp_ge (tgt := 64) hx hb dX8_round_26 (by decide) (fun c_8 => ?_) (fun c_8 => ?_)
          · skip
            have f9 : i_A_houses.toInt ≤ y18_3.toInt := qi_le c_8 rfl rfl
            refine lv_iconst (v := (-1)) hx hb dX8_round_64 (by decide) ?_
            refine lv_istore_n (lv' := [(3, .int (-1)), (0, .ref (r 0)), (1, .int p0), (2, .int r_7)]) hx hb dX8_round_65 rfl hl (by decide) rfl (fun ls hl => ?_)
            refine lv_iconst (v := (-1)) hx hb dX8_round_66 (by decide) ?_
            refine lv_istore (lv' := [(4, .int (-1)), (3, .int (-1)), (0, .ref (r 0)), (1, .int p0), (2, .int r_7)]) hx hb dX8_round_67 hl (by decide) rfl (fun ls hl => ?_)
            refine lv_aload_n hx hb dX8_round_69 rfl (lv_at hl 2 rfl) ?_
            refine lv_aload_n hx hb dX8_round_70 rfl (lv_at hl 2 rfl) ?_
            refine gX_X8_23_0 hx hb hG hown hK hP dX8_round_71 ?_
            refine gX_X8_108_3 hx hb hG hown hK hP dX8_round_74 ?_
            refine lv_iconst (v := 1) hx hb dX8_round_77 (by decide) ?_
            refine lv_iadd hx hb dX8_round_78 ?_
            refine lv_topi (fun x10 ex10 => ?_)
            have f11 : x10.toInt = i_A_tunes.toInt + 1 := (ox_13 (qi_add ex10 rfl zc_1 (ox_379 ie12 ie13) (ox_380 ie12 ie13)))
            refine va_calli (va_runV (As := [.int x10]) (rest := []) ⟨hx, hb, hml, hown, hG⟩ (kX8_rowsOf l dC dI r ct i_tapeLength i_time i_lyingCount i_rd_fault i_rd_token i_rd_kind i_sc_count i_sc_at i_A_tunes i_A_houses i_fA_length i_B_tunes i_B_houses i_fB_length i_acts_done i_acts_undone i_kn_count f_boxes f_boxKept f_trial m18_f_offers f_A_noteCounts f_A_notes f_B_noteCounts f_B_notes f_now_where f_now_worn f_ahead_where f_ahead_worn f_acts_rows f_kn_tunes f_kn_noteTimes m18_J L x10 H18.size hI) (cwV 1 hG (goodV gw899 gw901 gw31 gw129 gw902) rfl rfl rfl hd_X8_rowsOf ⟨(Nat.le_of_ble_eq_true rfl), (Nat.le_of_ble_eq_true rfl)⟩) ⟨fbR, va_recv hK hP (ci := 7) (q0 := 0) rfl rfl, pR_in hP hK⟩ rfl rfl hl.1 rfl (lv_room (Nat.le_of_ble_eq_true rfl)) dX8_round_79 ⟨(Nat.le_of_ble_eq_true rfl), (Nat.le_of_ble_eq_true rfl)⟩) hS (fun q hq h => absurd hq (Nat.not_lt.mpr h)) (fun q h => hA q (Nat.le_trans hS.1 h)) (fun r_13 u_ t_ H12 locs ht hvm hw hB hz1 hk1 hS => ?_)
            subst hw
            have hP := wk hP hk1
            refine lv_istore (lv' := [(5, .int r_13), (4, .int (-1)), (3, .int (-1)), (0, .ref (r 0)), (1, .int p0), (2, .int r_7)]) hx hb dX8_round_82 hl (by decide) rfl (fun ls hl => ?_)
            refine lv_iconst (v := 0) hx hb dX8_round_84 (by decide) ?_
            refine lv_istore (lv' := [(6, .int 0), (5, .int r_13), (4, .int (-1)), (3, .int (-1)), (0, .ref (r 0)), (1, .int p0), (2, .int r_7)]) hx hb dX8_round_85 hl (by decide) rfl (fun ls hl => ?_)
            have L87 : ∀ (N87 : Nat) (y87_3 y87_4 y87_6 : Int32) (m87_i_lyingCount : Int32) (m87_f_trial : Nat → Int32) (m87_J : Nat → Nat → Int32) (H87 : Heap) (locs : List Loc) (ls : Array Slot) (g87_0 : (0 : Int) ≤ y87_3.toInt + 1) (g87_1 : (0 : Int) ≤ y87_6.toInt) (g87_2 : y87_6.toInt ≤ (2147483647 : Int)) (g87_3 : (0 : Int) ≤ m87_i_lyingCount.toInt) (g87_4 : m87_i_lyingCount.toInt ≤ (4 : Int)) (gi87_i_lyingCount_lo : (0 : Int) ≤ m87_i_lyingCount.toInt) (gi87_i_lyingCount_hi : m87_i_lyingCount.toInt ≤ (4 : Int)) (hP : va_P (dC, dI) vwCl (WX r ct i_tapeLength i_time m87_i_lyingCount i_rd_fault i_rd_token i_rd_kind i_sc_count i_sc_at i_A_tunes i_A_houses i_fA_length i_B_tunes i_B_houses i_fB_length i_acts_done i_acts_undone i_kn_count f_boxes f_boxKept m87_f_trial m18_f_offers f_A_noteCounts f_A_notes f_B_noteCounts f_B_notes f_now_where f_now_worn f_ahead_where f_ahead_worn f_acts_rows f_kn_tunes f_kn_noteTimes m87_J L) H87) (hD : va_D A (WX r ct i_tapeLength i_time m87_i_lyingCount i_rd_fault i_rd_token i_rd_kind i_sc_count i_sc_at i_A_tunes i_A_houses i_fA_length i_B_tunes i_B_houses i_fB_length i_acts_done i_acts_undone i_kn_count f_boxes f_boxKept m87_f_trial m18_f_offers f_A_noteCounts f_A_notes f_B_noteCounts f_B_notes f_now_where f_now_worn f_ahead_where f_ahead_worn f_acts_rows f_kn_tunes f_kn_noteTimes m87_J L)) (hS : va_S A s.heap H87 locs) (hl : lv_has ls 9 [(0, .ref (r 0)), (1, .int p0), (2, .int r_7), (3, .int y87_3), (4, .int y87_4), (5, .int r_13), (6, .int y87_6)]) (hM : -1 * y87_6.toInt + 2147483647 < (N87 : Int)), W p l e { frames := 16, cells := 0, slots := 0, locals := 552 } s m ([.ref (r 0), .int p0] : List Value).toArray below meth c0 H87 locs 0 0 Q (F0 m 87 ls []) := by
              intro N87
              induction N87 with
              | zero =>
                intro y87_3 y87_4 y87_6 m87_i_lyingCount m87_f_trial m87_J H87 locs ls g87_0 g87_1 g87_2 g87_3 g87_4 gi87_i_lyingCount_lo gi87_i_lyingCount_hi hP hD hS hl hM
                exact ((ox_381 hM g87_1 g87_2)).elim
              | succ N87 ih87 =>
                intro y87_3 y87_4 y87_6 m87_i_lyingCount m87_f_trial m87_J H87 locs ls g87_0 g87_1 g87_2 g87_3 g87_4 gi87_i_lyingCount_lo gi87_i_lyingCount_hi hP hD hS hl hM
                have hM87 := msucc hM
                refine lv_iload hx hb dX8_round_87 (lv_at hl 6 rfl) ?_
                refine lv_iload hx hb dX8_round_89 (lv_at hl 5 rfl) ?_
                refine lv_icmp_ge (tgt := 166) hx hb dX8_round_91 (by decide) (fun c_14 => ?_) (fun c_14 => ?_)
                · skip
                  have f15 : r_13.toInt ≤ y87_6.toInt := qi_le c_14 rfl rfl
                  refine lv_iload_n hx hb dX8_round_166 rfl (lv_at hl 1 rfl) ?_
                  refine lv_if_ne (tgt := 174) hx hb dX8_round_167 (by decide) (fun c_16 => ?_) (fun c_16 => ?_)
                  · skip
                    have f17 : p0.toInt ≠ 0 := qi_ne c_16 rfl zc_0
                    have f18 : (1 : Int) ≤ p0.toInt := (ox_382 f3 f5 f17)
                    refine lv_iload hx hb dX8_round_174 (lv_at hl 4 rfl) ?_
                    rw [hQ]
                    exact W.iret (v := y87_4) hx hb hr (fun t ht hW => ⟨⟨y87_4, y87_4, rfl, rfl, ⟨m87_i_lyingCount, m87_f_trial, m18_f_offers, m87_J, by rw [ht]; exact hP, hD, ⟨ie0, ie1, ie2, ie3, gi87_i_lyingCount_lo, gi87_i_lyingCount_hi, ie6, ie7, ie8, ie9, ie10, ie11, ie12, ie13, ie14, ie15, ie16, ie17, ie18, ie19, ie20, ie21, ie22, ie23, ie24, ie25, ie26, ie27, ie28, ie29, ie30, ie31, ie32, ie33, ie34, ie35, ie36, ie37, ie38, ie39⟩⟩⟩, hS.F ht⟩) hS.2.2 dX8_round_176
                  · skip
                    have f19 : p0.toInt = 0 := qi_eq c_16 rfl zc_0
                    refine lv_iload_n hx hb dX8_round_170 rfl (lv_at hl 3 rfl) ?_
                    refine lv_goto (tgt := 176) hx hb dX8_round_171 (by decide) ?_
                    rw [hQ]
                    exact W.iret (v := y87_3) hx hb hr (fun t ht hW => ⟨⟨y87_3, y87_3, rfl, rfl, ⟨m87_i_lyingCount, m87_f_trial, m18_f_offers, m87_J, by rw [ht]; exact hP, hD, ⟨ie0, ie1, ie2, ie3, gi87_i_lyingCount_lo, gi87_i_lyingCount_hi, ie6, ie7, ie8, ie9, ie10, ie11, ie12, ie13, ie14, ie15, ie16, ie17, ie18, ie19, ie20, ie21, ie22, ie23, ie24, ie25, ie26, ie27, ie28, ie29, ie30, ie31, ie32, ie33, ie34, ie35, ie36, ie37, ie38, ie39⟩⟩⟩, hS.F ht⟩) hS.2.2 dX8_round_176
                · skip
                  have f20 : y87_6.toInt < r_13.toInt := qi_nle c_14 rfl rfl
                  refine lv_aload_n hx hb dX8_round_94 rfl (lv_at hl 0 rfl) ?_
                  refine lv_iload hx hb dX8_round_95 (lv_at hl 6 rfl) ?_
                  refine lv_aload_n hx hb dX8_round_97 rfl (lv_at hl 0 rfl) ?_
                  refine gX_X8_23_0 hx hb hG hown hK hP dX8_round_98 ?_
                  refine gX_X8_108_3 hx hb hG hown hK hP dX8_round_101 ?_
                  refine lv_iconst (v := 1) hx hb dX8_round_104 (by decide) ?_
                  refine lv_iadd hx hb dX8_round_105 ?_
                  refine lv_topi (fun x21 ex21 => ?_)
                  have f22 : x21.toInt = i_A_tunes.toInt + 1 := (ox_13 (qi_add ex21 rfl zc_1 (ox_379 ie12 ie13) (ox_380 ie12 ie13)))
                  have hFc := frA hD hS hA
                  refine va_callv (va_runV (As := [.int y87_6, .int x21]) (rest := []) ⟨hx, hb, hml, hown, hG⟩ (kX8_spread l dC dI r ct i_tapeLength i_time m87_i_lyingCount i_rd_fault i_rd_token i_rd_kind i_sc_count i_sc_at i_A_tunes i_A_houses i_fA_length i_B_tunes i_B_houses i_fB_length i_acts_done i_acts_undone i_kn_count f_boxes f_boxKept m87_f_trial m18_f_offers f_A_noteCounts f_A_notes f_B_noteCounts f_B_notes f_now_where f_now_worn f_ahead_where f_ahead_worn f_acts_rows f_kn_tunes f_kn_noteTimes m87_J L y87_6 x21 H87.size ⟨ie0, ie1, ie2, ie3, gi87_i_lyingCount_lo, gi87_i_lyingCount_hi, ie6, ie7, ie8, ie9, ie10, ie11, ie12, ie13, ie14, ie15, ie16, ie17, ie18, ie19, ie20, ie21, ie22, ie23, ie24, ie25, ie26, ie27, ie28, ie29, ie30, ie31, ie32, ie33, ie34, ie35, ie36, ie37, ie38, ie39⟩ (ox_6 g87_1) (ox_383 ie12 ie13 f22)) (cwV 2 hG (goodV gw903 gw905 gw32 gw129 gw906) rfl rfl rfl hd_X8_spread ⟨(Nat.le_of_ble_eq_true rfl), (Nat.le_of_ble_eq_true rfl)⟩) ⟨fbW, va_recv hK hP (ci := 7) (q0 := 0) rfl rfl, pW_in hP hK hD⟩ rfl rfl hl.1 rfl (lv_room (Nat.le_of_ble_eq_true rfl)) dX8_round_106 ⟨(Nat.le_of_ble_eq_true rfl), (Nat.le_of_ble_eq_true rfl)⟩) hS (fun q _ h => hFc q h) hFc (fun _ t_ H23 locs ht hvm hw hB hz1 hk1 hS => ?_)
                  obtain ⟨z25, hP1, hD1, hI27, f26⟩ := hB
                  rw [ht] at hP1
                  have hP := hP1
                  have hD := dW hFc hD1
                  obtain ⟨im28, im29, im30, im31, im32, im33, im34, im35, im36, im37, im38, im39, im40, im41, im42, im43, im44, im45, im46, im47, im48, im49, im50, im51, im52, im53, im54, im55, im56, im57, im58, im59, im60, im61, im62, im63, im64, im65, im66, im67⟩ := id hI27
                  refine lv_aload_n hx hb dX8_round_109 rfl (lv_at hl 0 rfl) ?_
                  have hFc := frA hD hS hA
                  refine va_calli (va_runV (As := []) (rest := []) ⟨hx, hb, hml, hown, hG⟩ (kX8_roundCount l dC dI r ct i_tapeLength i_time m87_i_lyingCount i_rd_fault i_rd_token i_rd_kind i_sc_count i_sc_at i_A_tunes i_A_houses i_fA_length i_B_tunes i_B_houses i_fB_length i_acts_done i_acts_undone i_kn_count f_boxes f_boxKept z25 m18_f_offers f_A_noteCounts f_A_notes f_B_noteCounts f_B_notes f_now_where f_now_worn f_ahead_where f_ahead_worn f_acts_rows f_kn_tunes f_kn_noteTimes m87_J L H23.size hI27) (cwV 0 hG (goodV gw907 gw909 gw33 gw129 gw910) rfl rfl rfl hd_X8_roundCount ⟨(Nat.le_of_ble_eq_true rfl), (Nat.le_of_ble_eq_true rfl)⟩) ⟨fbW, va_recv hK hP (ci := 7) (q0 := 0) rfl rfl, pW_in hP hK hD⟩ rfl rfl hl.1 rfl (lv_room (Nat.le_of_ble_eq_true rfl)) dX8_round_110 ⟨(Nat.le_of_ble_eq_true rfl), (Nat.le_of_ble_eq_true rfl)⟩) hS (fun q _ h => hFc q h) hFc (fun r_69 u_ t_ H68 locs ht hvm hw hB hz1 hk1 hS => ?_)
                  subst hw
                  obtain ⟨z70, hP1, hD1, hI71⟩ := hB
                  rw [ht] at hP1
                  have hP := hP1
                  have hD := dW hFc hD1
                  obtain ⟨im72, im73, im74, im75, im76, im77, im78, im79, im80, im81, im82, im83, im84, im85, im86, im87, im88, im89, im90, im91, im92, im93, im94, im95, im96, im97, im98, im99, im100, im101, im102, im103, im104, im105, im106, im107, im108, im109, im110, im111⟩ := id hI71
                  refine lv_istore (lv' := [(7, .int r_69), (0, .ref (r 0)), (1, .int p0), (2, .int r_7), (3, .int y87_3), (4, .int y87_4), (5, .int r_13), (6, .int y87_6)]) hx hb dX8_round_113 hl (by decide) rfl (fun ls hl => ?_)
                  refine lv_iload hx hb dX8_round_115 (lv_at hl 0 rfl) ?_
                  refine lv_if_ge (tgt := 124) hx hb dX8_round_117 (by decide) (fun c_112 => ?_) (fun c_112 => ?_)
                  · skip
                    have f113 : 0 ≤ r_69.toInt := qi_le c_112 zc_0 rfl
                    refine lv_aload_n hx hb dX8_round_124 rfl (lv_at hl 1 rfl) ?_
                    refine va_calli (va_runV (As := []) (rest := []) ⟨hx, hb, hml, hown, hG⟩ (kX8_roundPrice l dC dI r ct i_tapeLength i_time m87_i_lyingCount i_rd_fault i_rd_token i_rd_kind i_sc_count i_sc_at i_A_tunes i_A_houses i_fA_length i_B_tunes i_B_houses i_fB_length i_acts_done i_acts_undone i_kn_count f_boxes f_boxKept z70 m18_f_offers f_A_noteCounts f_A_notes f_B_noteCounts f_B_notes f_now_where f_now_worn f_ahead_where f_ahead_worn f_acts_rows f_kn_tunes f_kn_noteTimes m87_J L H68.size hI71) (cwV 0 hG (goodV gw914 gw916 gw34 gw129 gw917) rfl rfl rfl hd_X8_roundPrice ⟨(Nat.le_of_ble_eq_true rfl), (Nat.le_of_ble_eq_true rfl)⟩) ⟨fbR, va_recv hK hP (ci := 7) (q0 := 0) rfl rfl, pR_in hP hK⟩ rfl rfl hl.1 rfl (lv_room (Nat.le_of_ble_eq_true rfl)) dX8_round_125 ⟨(Nat.le_of_ble_eq_true rfl), (Nat.le_of_ble_eq_true rfl)⟩) hS (fun q hq h => absurd hq (Nat.not_lt.mpr h)) (fun q h => hA q (Nat.le_trans hS.1 h)) (fun r_115 u_ t_ H114 locs ht hvm hw hB hz1 hk1 hS => ?_)
                    subst hw
                    have hP := wk hP hk1
                    refine lv_istore (lv' := [(8, .int r_115), (7, .int r_69), (0, .ref (r 0)), (1, .int p0), (2, .int r_7), (3, .int y87_3), (4, .int y87_4), (5, .int r_13), (6, .int y87_6)]) hx hb dX8_round_128 hl (by decide) rfl (fun ls hl => ?_)
                    refine lv_iload hx hb dX8_round_130 (lv_at hl 1 rfl) ?_
                    refine lv_iload_n hx hb dX8_round_132 rfl (lv_at hl 5 rfl) ?_
                    refine lv_icmp_gt (tgt := 149) hx hb dX8_round_133 (by decide) (fun c_116 => ?_) (fun c_116 => ?_)
                    · skip
                      have f117 : y87_3.toInt < r_69.toInt := qi_lt c_116 rfl rfl
                      refine lv_iload hx hb dX8_round_149 (lv_at hl 1 rfl) ?_
                      refine lv_istore_n (lv' := [(3, .int r_69), (8, .int r_115), (7, .int r_69), (0, .ref (r 0)), (1, .int p0), (2, .int r_7), (4, .int y87_4), (5, .int r_13), (6, .int y87_6)]) hx hb dX8_round_151 rfl hl (by decide) rfl (fun ls hl => ?_)
                      refine lv_iload hx hb dX8_round_152 (lv_at hl 1 rfl) ?_
                      refine lv_istore (lv' := [(4, .int r_115), (3, .int r_69), (8, .int r_115), (7, .int r_69), (0, .ref (r 0)), (1, .int p0), (2, .int r_7), (5, .int r_13), (6, .int y87_6)]) hx hb dX8_round_154 hl (by decide) rfl (fun ls hl => ?_)
                      refine lv_aload_n hx hb dX8_round_156 rfl (lv_at hl 4 rfl) ?_
                      have hFc := frA hD hS hA
                      refine va_callv (va_runV (As := []) (rest := []) ⟨hx, hb, hml, hown, hG⟩ (kX8_layTrial l dC dI r ct i_tapeLength i_time m87_i_lyingCount i_rd_fault i_rd_token i_rd_kind i_sc_count i_sc_at i_A_tunes i_A_houses i_fA_length i_B_tunes i_B_houses i_fB_length i_acts_done i_acts_undone i_kn_count f_boxes f_boxKept z70 m18_f_offers f_A_noteCounts f_A_notes f_B_noteCounts f_B_notes f_now_where f_now_worn f_ahead_where f_ahead_worn f_acts_rows f_kn_tunes f_kn_noteTimes m87_J L H114.size hI71) (cwV 0 hG (goodV gw918 gw920 gw35 gw129 gw921) rfl rfl rfl hd_X8_layTrial ⟨(Nat.le_of_ble_eq_true rfl), (Nat.le_of_ble_eq_true rfl)⟩) ⟨fbW, va_recv hK hP (ci := 7) (q0 := 0) rfl rfl, pW_in hP hK hD⟩ rfl rfl hl.1 rfl (lv_room (Nat.le_of_ble_eq_true rfl)) dX8_round_157 ⟨(Nat.le_of_ble_eq_true rfl), (Nat.le_of_ble_eq_true rfl)⟩) hS (fun q _ h => hFc q h) hFc (fun _ t_ H118 locs ht hvm hw hB hz1 hk1 hS => ?_)
                      obtain ⟨x120, J121, hP1, hD1, hI122⟩ := hB
                      rw [ht] at hP1
                      have hP := hP1
                      have hD := dW hFc hD1
                      obtain ⟨im123, im124, im125, im126, im127, im128, im129, im130, im131, im132, im133, im134, im135, im136, im137, im138, im139, im140, im141, im142, im143, im144, im145, im146, im147, im148, im149, im150, im151, im152, im153, im154, im155, im156, im157, im158, im159, im160, im161, im162⟩ := id hI122
                      obtain ⟨x163, ex163⟩ : ∃ y : Int32, y = y87_6 + Int32.ofInt 1 := ⟨_, rfl⟩
                      have f164 : (-2147483648) ≤ r_13.toInt ∧ r_13.toInt ≤ 2147483647 := i32_rg _
                      have f165 : (-2147483648) ≤ y87_6.toInt ∧ y87_6.toInt ≤ 2147483647 := i32_rg _
                      have f166 : x163.toInt = y87_6.toInt + 1 := (ox_13 (qi_add ex163 rfl (by decide) (ox_11 g87_1) (ox_384 f20 f164)))
                      refine lv_iinc (v := x163) (lv' := [(6, .int x163), (4, .int r_115), (3, .int r_69), (8, .int r_115), (7, .int r_69), (0, .ref (r 0)), (1, .int p0), (2, .int r_7), (5, .int r_13)]) hx hb dX8_round_160 hl (k := 8) rfl ex163.symm (by decide) rfl (fun ls hl => ?_)
                      refine lv_goto (tgt := 87) hx hb dX8_round_163 (by decide) ?_
                      exact ih87 r_69 r_115 x163 x120 z70 J121 H118 _ _ (ox_385 f113 f117) (ox_14 g87_1 f166) (ox_386 f20 f164 f166) (ox_103 im127 im128) (ox_104 im127 im128) im127 im128 hP hD hS (lv_sub hl [5, 6, 7, 2, 1, 8, 0] rfl) (ox_387 hM87 f166)
                    · skip
                      have f167 : r_69.toInt ≤ y87_3.toInt := qi_nlt c_116 rfl rfl
                      refine lv_iload hx hb dX8_round_136 (lv_at hl 1 rfl) ?_
                      refine lv_iload_n hx hb dX8_round_138 rfl (lv_at hl 5 rfl) ?_
                      refine lv_icmp_ne (tgt := 160) hx hb dX8_round_139 (by decide) (fun c_168 => ?_) (fun c_168 => ?_)
                      · skip
                        have f169 : r_69.toInt ≠ y87_3.toInt := qi_ne c_168 rfl rfl
                        have f170 : r_69.toInt + 1 ≤ y87_3.toInt := (ox_388 f167 f169)
                        obtain ⟨x171, ex171⟩ : ∃ y : Int32, y = y87_6 + Int32.ofInt 1 := ⟨_, rfl⟩
                        have f172 : (-2147483648) ≤ r_13.toInt ∧ r_13.toInt ≤ 2147483647 := i32_rg _
                        have f173 : (-2147483648) ≤ y87_6.toInt ∧ y87_6.toInt ≤ 2147483647 := i32_rg _
                        have f174 : x171.toInt = y87_6.toInt + 1 := (ox_13 (qi_add ex171 rfl (by decide) (ox_11 g87_1) (ox_384 f20 f172)))
                        refine lv_iinc (v := x171) (lv' := [(6, .int x171), (8, .int r_115), (7, .int r_69), (0, .ref (r 0)), (1, .int p0), (2, .int r_7), (3, .int y87_3), (4, .int y87_4), (5, .int r_13)]) hx hb dX8_round_160 hl (k := 8) rfl ex171.symm (by decide) rfl (fun ls hl => ?_)
                        refine lv_goto (tgt := 87) hx hb dX8_round_163 (by decide) ?_
                        exact ih87 y87_3 y87_4 x171 m87_i_lyingCount z70 m87_J H114 _ _ (ox_389 g87_0 f167 f170) (ox_14 g87_1 f174) (ox_386 f20 f172 f174) (ox_6 g87_3) (ox_390 g87_4) gi87_i_lyingCount_lo gi87_i_lyingCount_hi hP hD hS (lv_sub hl [3, 4, 5, 6, 7, 8, 0] rfl) (ox_387 hM87 f174)
                      · skip
                        have f175 : r_69.toInt = y87_3.toInt := qi_eq c_168 rfl rfl
                        refine lv_iload hx hb dX8_round_142 (lv_at hl 0 rfl) ?_
                        refine lv_iload hx hb dX8_round_144 (lv_at hl 6 rfl) ?_
                        refine lv_icmp_le (tgt := 160) hx hb dX8_round_146 (by decide) (fun c_176 => ?_) (fun c_176 => ?_)
                        · skip
                          have f177 : r_115.toInt ≤ y87_4.toInt := qi_le c_176 rfl rfl
                          obtain ⟨x178, ex178⟩ : ∃ y : Int32, y = y87_6 + Int32.ofInt 1 := ⟨_, rfl⟩
                          have f179 : (-2147483648) ≤ r_13.toInt ∧ r_13.toInt ≤ 2147483647 := i32_rg _
                          have f180 : (-2147483648) ≤ y87_6.toInt ∧ y87_6.toInt ≤ 2147483647 := i32_rg _
                          have f181 : x178.toInt = y87_6.toInt + 1 := (ox_13 (qi_add ex178 rfl (by decide) (ox_11 g87_1) (ox_384 f20 f179)))
                          refine lv_iinc (v := x178) (lv' := [(6, .int x178), (8, .int r_115), (7, .int r_69), (0, .ref (r 0)), (1, .int p0), (2, .int r_7), (3, .int y87_3), (4, .int y87_4), (5, .int r_13)]) hx hb dX8_round_160 hl (k := 8) rfl ex178.symm (by decide) rfl (fun ls hl => ?_)
                          refine lv_goto (tgt := 87) hx hb dX8_round_163 (by decide) ?_
                          exact ih87 y87_3 y87_4 x178 m87_i_lyingCount z70 m87_J H114 _ _ (ox_391 g87_0 f167 f175) (ox_14 g87_1 f181) (ox_386 f20 f179 f181) (ox_6 g87_3) (ox_390 g87_4) gi87_i_lyingCount_lo gi87_i_lyingCount_hi hP hD hS (lv_sub hl [3, 4, 5, 6, 7, 8, 0] rfl) (ox_387 hM87 f181)
                        · skip
                          have f182 : y87_4.toInt < r_115.toInt := qi_nle c_176 rfl rfl
                          refine lv_iload hx hb dX8_round_149 (lv_at hl 1 rfl) ?_
                          refine lv_istore_n (lv' := [(3, .int r_69), (8, .int r_115), (7, .int r_69), (0, .ref (r 0)), (1, .int p0), (2, .int r_7), (4, .int y87_4), (5, .int r_13), (6, .int y87_6)]) hx hb dX8_round_151 rfl hl (by decide) rfl (fun ls hl => ?_)
                          refine lv_iload hx hb dX8_round_152 (lv_at hl 1 rfl) ?_
                          refine lv_istore (lv' := [(4, .int r_115), (3, .int r_69), (8, .int r_115), (7, .int r_69), (0, .ref (r 0)), (1, .int p0), (2, .int r_7), (5, .int r_13), (6, .int y87_6)]) hx hb dX8_round_154 hl (by decide) rfl (fun ls hl => ?_)
                          refine lv_aload_n hx hb dX8_round_156 rfl (lv_at hl 4 rfl) ?_
                          have hFc := frA hD hS hA
                          refine va_callv (va_runV (As := []) (rest := []) ⟨hx, hb, hml, hown, hG⟩ (kX8_layTrial l dC dI r ct i_tapeLength i_time m87_i_lyingCount i_rd_fault i_rd_token i_rd_kind i_sc_count i_sc_at i_A_tunes i_A_houses i_fA_length i_B_tunes i_B_houses i_fB_length i_acts_done i_acts_undone i_kn_count f_boxes f_boxKept z70 m18_f_offers f_A_noteCounts f_A_notes f_B_noteCounts f_B_notes f_now_where f_now_worn f_ahead_where f_ahead_worn f_acts_rows f_kn_tunes f_kn_noteTimes m87_J L H114.size hI71) (cwV 0 hG (goodV gw918 gw920 gw35 gw129 gw921) rfl rfl rfl hd_X8_layTrial ⟨(Nat.le_of_ble_eq_true rfl), (Nat.le_of_ble_eq_true rfl)⟩) ⟨fbW, va_recv hK hP (ci := 7) (q0 := 0) rfl rfl, pW_in hP hK hD⟩ rfl rfl hl.1 rfl (lv_room (Nat.le_of_ble_eq_true rfl)) dX8_round_157 ⟨(Nat.le_of_ble_eq_true rfl), (Nat.le_of_ble_eq_true rfl)⟩) hS (fun q _ h => hFc q h) hFc (fun _ t_ H183 locs ht hvm hw hB hz1 hk1 hS => ?_)
                          obtain ⟨x185, J186, hP1, hD1, hI187⟩ := hB
                          rw [ht] at hP1
                          have hP := hP1
                          have hD := dW hFc hD1
                          obtain ⟨im188, im189, im190, im191, im192, im193, im194, im195, im196, im197, im198, im199, im200, im201, im202, im203, im204, im205, im206, im207, im208, im209, im210, im211, im212, im213, im214, im215, im216, im217, im218, im219, im220, im221, im222, im223, im224, im225, im226, im227⟩ := id hI187
                          obtain ⟨x228, ex228⟩ : ∃ y : Int32, y = y87_6 + Int32.ofInt 1 := ⟨_, rfl⟩
                          have f229 : (-2147483648) ≤ r_13.toInt ∧ r_13.toInt ≤ 2147483647 := i32_rg _
                          have f230 : (-2147483648) ≤ y87_6.toInt ∧ y87_6.toInt ≤ 2147483647 := i32_rg _
                          have f231 : x228.toInt = y87_6.toInt + 1 := (ox_13 (qi_add ex228 rfl (by decide) (ox_11 g87_1) (ox_384 f20 f229)))
                          refine lv_iinc (v := x228) (lv' := [(6, .int x228), (4, .int r_115), (3, .int r_69), (8, .int r_115), (7, .int r_69), (0, .ref (r 0)), (1, .int p0), (2, .int r_7), (5, .int r_13)]) hx hb dX8_round_160 hl (k := 8) rfl ex228.symm (by decide) rfl (fun ls hl => ?_)
                          refine lv_goto (tgt := 87) hx hb dX8_round_163 (by decide) ?_
                          exact ih87 r_69 r_115 x228 x185 z70 J186 H183 _ _ (ox_392 f113 f167 f175) (ox_14 g87_1 f231) (ox_386 f20 f229 f231) (ox_103 im192 im193) (ox_104 im192 im193) im192 im193 hP hD hS (lv_sub hl [5, 6, 7, 2, 1, 8, 0] rfl) (ox_387 hM87 f231)
                  · skip
                    have f232 : r_69.toInt < 0 := qi_nle c_112 zc_0 rfl
                    refine lv_iconst (v := 0) hx hb dX8_round_120 (by decide) ?_
                    refine lv_goto (tgt := 128) hx hb dX8_round_121 (by decide) ?_
                    refine lv_istore (lv' := [(8, .int 0), (7, .int r_69), (0, .ref (r 0)), (1, .int p0), (2, .int r_7), (3, .int y87_3), (4, .int y87_4), (5, .int r_13), (6, .int y87_6)]) hx hb dX8_round_128 hl (by decide) rfl (fun ls hl => ?_)
                    refine lv_iload hx hb dX8_round_130 (lv_at hl 1 rfl) ?_
                    refine lv_iload_n hx hb dX8_round_132 rfl (lv_at hl 5 rfl) ?_
                    refine lv_icmp_gt (tgt := 149) hx hb dX8_round_133 (by decide) (fun c_233 => ((ox_393 (qi_lt c_233 rfl rfl) g87_0 f232)).elim) (fun c_233 => ?_)
                    have f234 : r_69.toInt ≤ y87_3.toInt := qi_nlt c_233 rfl rfl
                    refine lv_iload hx hb dX8_round_136 (lv_at hl 1 rfl) ?_
                    refine lv_iload_n hx hb dX8_round_138 rfl (lv_at hl 5 rfl) ?_
                    refine lv_icmp_ne (tgt := 160) hx hb dX8_round_139 (by decide) (fun c_235 => ?_) (fun c_235 => ?_)
                    · skip
                      have f236 : r_69.toInt ≠ y87_3.toInt := qi_ne c_235 rfl rfl
                      have f237 : r_69.toInt + 1 ≤ y87_3.toInt := (ox_394 g87_0 f232 f236)
                      obtain ⟨x238, ex238⟩ : ∃ y : Int32, y = y87_6 + Int32.ofInt 1 := ⟨_, rfl⟩
                      have f239 : (-2147483648) ≤ r_13.toInt ∧ r_13.toInt ≤ 2147483647 := i32_rg _
                      have f240 : (-2147483648) ≤ y87_6.toInt ∧ y87_6.toInt ≤ 2147483647 := i32_rg _
                      have f241 : x238.toInt = y87_6.toInt + 1 := (ox_13 (qi_add ex238 rfl (by decide) (ox_11 g87_1) (ox_384 f20 f239)))
                      refine lv_iinc (v := x238) (lv' := [(6, .int x238), (8, .int 0), (7, .int r_69), (0, .ref (r 0)), (1, .int p0), (2, .int r_7), (3, .int y87_3), (4, .int y87_4), (5, .int r_13)]) hx hb dX8_round_160 hl (k := 8) rfl ex238.symm (by decide) rfl (fun ls hl => ?_)
                      refine lv_goto (tgt := 87) hx hb dX8_round_163 (by decide) ?_
                      exact ih87 y87_3 y87_4 x238 m87_i_lyingCount z70 m87_J H68 _ _ (ox_389 g87_0 f234 f237) (ox_14 g87_1 f241) (ox_386 f20 f239 f241) (ox_6 g87_3) (ox_390 g87_4) gi87_i_lyingCount_lo gi87_i_lyingCount_hi hP hD hS (lv_sub hl [3, 4, 5, 6, 7, 8, 0] rfl) (ox_387 hM87 f241)
                    · skip
                      have f242 : r_69.toInt = y87_3.toInt := qi_eq c_235 rfl rfl
                      refine lv_iload hx hb dX8_round_142 (lv_at hl 0 rfl) ?_
                      refine lv_iload hx hb dX8_round_144 (lv_at hl 6 rfl) ?_
                      refine lv_icmp_le (tgt := 160) hx hb dX8_round_146 (by decide) (fun c_243 => ?_) (fun c_243 => ?_)
                      · skip
                        have f244 : 0 ≤ y87_4.toInt := qi_le c_243 zc_0 rfl
                        obtain ⟨x245, ex245⟩ : ∃ y : Int32, y = y87_6 + Int32.ofInt 1 := ⟨_, rfl⟩
                        have f246 : (-2147483648) ≤ r_13.toInt ∧ r_13.toInt ≤ 2147483647 := i32_rg _
                        have f247 : (-2147483648) ≤ y87_6.toInt ∧ y87_6.toInt ≤ 2147483647 := i32_rg _
                        have f248 : x245.toInt = y87_6.toInt + 1 := (ox_13 (qi_add ex245 rfl (by decide) (ox_11 g87_1) (ox_384 f20 f246)))
                        refine lv_iinc (v := x245) (lv' := [(6, .int x245), (8, .int 0), (7, .int r_69), (0, .ref (r 0)), (1, .int p0), (2, .int r_7), (3, .int y87_3), (4, .int y87_4), (5, .int r_13)]) hx hb dX8_round_160 hl (k := 8) rfl ex245.symm (by decide) rfl (fun ls hl => ?_)
                        refine lv_goto (tgt := 87) hx hb dX8_round_163 (by decide) ?_
                        exact ih87 y87_3 y87_4 x245 m87_i_lyingCount z70 m87_J H68 _ _ (ox_391 g87_0 f234 f242) (ox_14 g87_1 f248) (ox_386 f20 f246 f248) (ox_6 g87_3) (ox_390 g87_4) gi87_i_lyingCount_lo gi87_i_lyingCount_hi hP hD hS (lv_sub hl [3, 4, 5, 6, 7, 8, 0] rfl) (ox_387 hM87 f248)
                      · skip
                        have f249 : y87_4.toInt < 0 := qi_nle c_243 zc_0 rfl
                        refine lv_iload hx hb dX8_round_149 (lv_at hl 1 rfl) ?_
                        refine lv_istore_n (lv' := [(3, .int r_69), (8, .int 0), (7, .int r_69), (0, .ref (r 0)), (1, .int p0), (2, .int r_7), (4, .int y87_4), (5, .int r_13), (6, .int y87_6)]) hx hb dX8_round_151 rfl hl (by decide) rfl (fun ls hl => ?_)
                        refine lv_iload hx hb dX8_round_152 (lv_at hl 1 rfl) ?_
                        refine lv_istore (lv' := [(4, .int 0), (3, .int r_69), (8, .int 0), (7, .int r_69), (0, .ref (r 0)), (1, .int p0), (2, .int r_7), (5, .int r_13), (6, .int y87_6)]) hx hb dX8_round_154 hl (by decide) rfl (fun ls hl => ?_)
                        refine lv_aload_n hx hb dX8_round_156 rfl (lv_at hl 4 rfl) ?_
                        have hFc := frA hD hS hA
                        refine va_callv (va_runV (As := []) (rest := []) ⟨hx, hb, hml, hown, hG⟩ (kX8_layTrial l dC dI r ct i_tapeLength i_time m87_i_lyingCount i_rd_fault i_rd_token i_rd_kind i_sc_count i_sc_at i_A_tunes i_A_houses i_fA_length i_B_tunes i_B_houses i_fB_length i_acts_done i_acts_undone i_kn_count f_boxes f_boxKept z70 m18_f_offers f_A_noteCounts f_A_notes f_B_noteCounts f_B_notes f_now_where f_now_worn f_ahead_where f_ahead_worn f_acts_rows f_kn_tunes f_kn_noteTimes m87_J L H68.size hI71) (cwV 0 hG (goodV gw918 gw920 gw35 gw129 gw921) rfl rfl rfl hd_X8_layTrial ⟨(Nat.le_of_ble_eq_true rfl), (Nat.le_of_ble_eq_true rfl)⟩) ⟨fbW, va_recv hK hP (ci := 7) (q0 := 0) rfl rfl, pW_in hP hK hD⟩ rfl rfl hl.1 rfl (lv_room (Nat.le_of_ble_eq_true rfl)) dX8_round_157 ⟨(Nat.le_of_ble_eq_true rfl), (Nat.le_of_ble_eq_true rfl)⟩) hS (fun q _ h => hFc q h) hFc (fun _ t_ H250 locs ht hvm hw hB hz1 hk1 hS => ?_)
                        obtain ⟨x252, J253, hP1, hD1, hI254⟩ := hB
                        rw [ht] at hP1
                        have hP := hP1
                        have hD := dW hFc hD1
                        obtain ⟨im255, im256, im257, im258, im259, im260, im261, im262, im263, im264, im265, im266, im267, im268, im269, im270, im271, im272, im273, im274, im275, im276, im277, im278, im279, im280, im281, im282, im283, im284, im285, im286, im287, im288, im289, im290, im291, im292, im293, im294⟩ := id hI254
                        obtain ⟨x295, ex295⟩ : ∃ y : Int32, y = y87_6 + Int32.ofInt 1 := ⟨_, rfl⟩
                        have f296 : (-2147483648) ≤ r_13.toInt ∧ r_13.toInt ≤ 2147483647 := i32_rg _
                        have f297 : (-2147483648) ≤ y87_6.toInt ∧ y87_6.toInt ≤ 2147483647 := i32_rg _
                        have f298 : x295.toInt = y87_6.toInt + 1 := (ox_13 (qi_add ex295 rfl (by decide) (ox_11 g87_1) (ox_384 f20 f296)))
                        refine lv_iinc (v := x295) (lv' := [(6, .int x295), (4, .int 0), (3, .int r_69), (8, .int 0), (7, .int r_69), (0, .ref (r 0)), (1, .int p0), (2, .int r_7), (5, .int r_13)]) hx hb dX8_round_160 hl (k := 8) rfl ex295.symm (by decide) rfl (fun ls hl => ?_)
                        refine lv_goto (tgt := 87) hx hb dX8_round_163 (by decide) ?_
                        exact ih87 r_69 0 x295 x252 z70 J253 H250 _ _ (ox_395 g87_0 f242) (ox_14 g87_1 f298) (ox_386 f20 f296 f298) (ox_103 im259 im260) (ox_104 im259 im260) im259 im260 hP hD hS (lv_sub hl [5, 6, 7, 2, 1, 8, 0] rfl) (ox_387 hM87 f298)
            exact L87 (-1 * (0 : Int32).toInt + 2147483647 + 1).toNat (-1) (-1) 0 i_lyingCount f_trial m18_J H12 _ _ (ox_83 zc_m1) (ox_27 zc_0) (ox_396 zc_0) (ox_103 ie4 ie5) (ox_104 ie4 ie5) ie4 ie5 hP hD hS (lv_sub hl [4, 5, 6, 3, 2, 1, 0] rfl) (mlt (ox_397 zc_0))
          · skip
            have f299 : y18_3.toInt < i_A_houses.toInt := qi_nle c_8 rfl rfl
            refine lv_aload_n hx hb dX8_round_29 rfl (lv_at hl 0 rfl) ?_
            refine gX_X8_65_0 hx hb hG hown hK hP dX8_round_30 ?_
            refine lv_iload_n hx hb dX8_round_33 rfl (lv_at hl 3 rfl) ?_
            refine lv_aload_n hx hb dX8_round_34 rfl (lv_at hl 0 rfl) ?_
            refine gX_X8_30_0 hx hb hG hown hK hP dX8_round_35 ?_
            refine lv_iload_n hx hb dX8_round_38 rfl (lv_at hl 3 rfl) ?_
            refine va_calli (va_runV (As := [.int y18_3]) (rest := [.int y18_3, .ref (r 16)]) ⟨hx, hb, hml, hown, hG⟩ (kX7_onApprovalIn l dC dI r ct i_tapeLength i_time i_lyingCount i_rd_fault i_rd_token i_rd_kind i_sc_count i_sc_at i_A_tunes i_A_houses i_fA_length i_B_tunes i_B_houses i_fB_length i_acts_done i_acts_undone i_kn_count f_boxes f_boxKept f_trial m18_f_offers f_A_noteCounts f_A_notes f_B_noteCounts f_B_notes f_now_where f_now_worn f_ahead_where f_ahead_worn f_acts_rows f_kn_tunes f_kn_noteTimes m18_J L y18_3 H18.size hI (ox_6 g18_0) hp0) (cwV 1 hG (goodV gw720 gw721 gw722 gw134 gw723) rfl rfl rfl hd_X7_onApprovalIn ⟨(Nat.le_of_ble_eq_true rfl), (Nat.le_of_ble_eq_true rfl)⟩) ⟨fbR, va_recv hK hP (ci := 6) (q0 := 7) rfl rfl, pR_in hP hK⟩ rfl rfl hl.1 rfl (lv_room (Nat.le_of_ble_eq_true rfl)) dX8_round_39 ⟨(Nat.le_of_ble_eq_true rfl), (Nat.le_of_ble_eq_true rfl)⟩) hS (fun q hq h => absurd hq (Nat.not_lt.mpr h)) (fun q h => hA q (Nat.le_trans hS.1 h)) (fun r_301 u_ t_ H300 locs ht hvm hw hB hz1 hk1 hS => ?_)
            subst hw
            have hP := wk hP hk1
            obtain ⟨f302, f303, f304⟩ := hB
            refine lv_iconst (v := (-1)) hx hb dX8_round_42 (by decide) ?_
            refine lv_icmp_ne (tgt := 56) hx hb dX8_round_43 (by decide) (fun c_305 => ?_) (fun c_305 => ?_)
            · skip
              have f306 : r_301.toInt ≠ (-1) := qi_ne c_305 rfl zc_m1
              have f307 : (0 : Int) ≤ r_301.toInt := (ox_222 f302 f306)
              refine lv_iconst (v := 0) hx hb dX8_round_56 (by decide) ?_
              refine stX_16 (mm := y18_3.toInt) hx hb hK hP hD hS rfl (ox_9 g18_0) (ox_376 ie15 f299) dX8_round_57 (fun z309 H308 locs ez309 hP hD hS => ?_)
              obtain ⟨x310, ex310⟩ : ∃ y : Int32, y = y18_3 + Int32.ofInt 1 := ⟨_, rfl⟩
              have f311 : x310.toInt = y18_3.toInt + 1 := (ox_13 (qi_add ex310 rfl (by decide) (ox_11 g18_0) (ox_219 g18_1)))
              refine lv_iinc (v := x310) (lv' := [(3, .int x310), (0, .ref (r 0)), (1, .int p0), (2, .int r_7)]) hx hb dX8_round_58 hl (k := 3) rfl ex310.symm (by decide) rfl (fun ls hl => ?_)
              refine lv_goto (tgt := 18) hx hb dX8_round_61 (by decide) ?_
              exact ih18 x310 z309 m18_J H308 _ _ (ox_14 g18_0 f311) (ox_220 ie15 f299 f311) hP hD hS (lv_sub hl [1, 2, 3, 0] rfl) (ox_221 hM18 f311)
            · skip
              have f312 : r_301.toInt = (-1) := qi_eq c_305 rfl zc_m1
              refine lv_iload_n hx hb dX8_round_46 rfl (lv_at hl 2 rfl) ?_
              refine lv_aload_n hx hb dX8_round_47 rfl (lv_at hl 0 rfl) ?_
              refine lv_iload_n hx hb dX8_round_48 rfl (lv_at hl 3 rfl) ?_
              have hFc := frA hD hS hA
              refine va_calli (va_runV (As := [.int y18_3]) (rest := [.int r_7, .int y18_3, .ref (r 16)]) ⟨hx, hb, hml, hown, hG⟩ (kX8_takenNow l dC dI r ct i_tapeLength i_time i_lyingCount i_rd_fault i_rd_token i_rd_kind i_sc_count i_sc_at i_A_tunes i_A_houses i_fA_length i_B_tunes i_B_houses i_fB_length i_acts_done i_acts_undone i_kn_count f_boxes f_boxKept f_trial m18_f_offers f_A_noteCounts f_A_notes f_B_noteCounts f_B_notes f_now_where f_now_worn f_ahead_where f_ahead_worn f_acts_rows f_kn_tunes f_kn_noteTimes m18_J L y18_3 H300.size hI (ox_6 g18_0) (ox_223 f299)) (cwV 1 hG (goodV gw861 gw863 gw27 gw129 gw864) rfl rfl rfl hd_X8_takenNow ⟨(Nat.le_of_ble_eq_true rfl), (Nat.le_of_ble_eq_true rfl)⟩) ⟨fbW, va_recv hK hP (ci := 7) (q0 := 0) rfl rfl, pW_in hP hK hD⟩ rfl rfl hl.1 rfl (lv_room (Nat.le_of_ble_eq_true rfl)) dX8_round_49 ⟨(Nat.le_of_ble_eq_true rfl), (Nat.le_of_ble_eq_true rfl)⟩) hS (fun q _ h => hFc q h) hFc (fun r_314 u_ t_ H313 locs ht hvm hw hB hz1 hk1 hS => ?_)
              subst hw
              obtain ⟨J315, hP1, hD1, hI316⟩ := hB
              rw [ht] at hP1
              have hP := hP1
              have hD := dW hFc hD1
              obtain ⟨im317, im318, im319, im320, im321, im322, im323, im324, im325, im326, im327, im328, im329, im330, im331, im332, im333, im334, im335, im336, im337, im338, im339, im340, im341, im342, im343, im344, im345, im346, im347, im348, im349, im350, im351, im352, im353, im354, im355, im356⟩ := id hI316
              refine lv_iand hx hb dX8_round_52 ?_
              refine lv_topi (fun x357 ex357 => ?_)
              refine lv_goto (tgt := 57) hx hb dX8_round_53 (by decide) ?_
              refine stX_16 (mm := y18_3.toInt) hx hb hK hP hD hS rfl (ox_9 g18_0) (ox_376 ie15 f299) dX8_round_57 (fun z359 H358 locs ez359 hP hD hS => ?_)
              obtain ⟨x360, ex360⟩ : ∃ y : Int32, y = y18_3 + Int32.ofInt 1 := ⟨_, rfl⟩
              have f361 : x360.toInt = y18_3.toInt + 1 := (ox_13 (qi_add ex360 rfl (by decide) (ox_11 g18_0) (ox_219 g18_1)))
              refine lv_iinc (v := x360) (lv' := [(3, .int x360), (0, .ref (r 0)), (1, .int p0), (2, .int r_7)]) hx hb dX8_round_58 hl (k := 3) rfl ex360.symm (by decide) rfl (fun ls hl => ?_)
              refine lv_goto (tgt := 18) hx hb dX8_round_61 (by decide) ?_
              exact ih18 x360 z359 J315 H358 _ _ (ox_14 g18_0 f361) (ox_220 ie15 f299 f361) hP hD hS (lv_sub hl [1, 2, 3, 0] rfl) (ox_221 hM18 f361)
      exact L18 (-1 * (0 : Int32).toInt + 4 + 1).toNat 0 f_offers J H6 _ _ (ox_27 zc_0) (ox_224 zc_0) hP hD hS (lv_sub hl [2, 3, 1, 0] rfl) (mlt (ox_225 zc_0))
    · skip
      have f362 : 1 < p0.toInt := qi_nle c_4 rfl zc_1
      refine lv_iconst (v := (-1)) hx hb dX8_round_9 (by decide) ?_
      rw [hQ]
      exact W.iret (v := (-1)) hx hb hr (fun t ht hW => ⟨⟨(-1), (-1), rfl, rfl, ⟨i_lyingCount, f_trial, f_offers, J, by rw [ht]; exact hP, hD, hI⟩⟩, hS.F ht⟩) hS.2.2 dX8_round_10
set_option maxHeartbeats 4000000 in
set_option maxRecDepth 100000 in
theorem kX8_isPlace (l : Launch) (dC : Nat → ClassId) (dI : Nat → Nat → Nat) (p0 : Int32) (sz : Nat) : Met l yX8_isPlace (.code yX8_isPlace cX8_isPlace 1 (some .boolean) :: GW) { frames := 2, cells := 0, slots := 0, locals := 100 } (va_Pc [.int p0] (pR (dC, dI) [] [] sz)) (va_Qi (fun (r0 : Int32) (u : Int32) => r0 = u) (fun (u : Int32) (t : State) => (((p0.toInt + 1 ≤ (0 : Int)) ∧ (u.toInt = (0 : Int))) ∨ (((0 : Int) ≤ p0.toInt) ∧ ((100 : Int) ≤ p0.toInt) ∧ (u.toInt = (0 : Int))) ∨ (((0 : Int) ≤ p0.toInt) ∧ (p0.toInt ≤ (99 : Int)) ∧ (u.toInt = (1 : Int)))) ∧ ((0 : Int) ≤ u.toInt) ∧ (u.toInt ≤ (1 : Int))) (fun q => sz ≤ q)) 0 0 (fun q => sz ≤ q) := by
  refine Met.ofW (cc := cX8_isPlace) (maxL := 1) (ret := (some .boolean)) (by decide) rfl ?_
  intro p e s m args below meth c0 s₁ B hml hv
  obtain ⟨rfl, hsz, hP, hK⟩ := hv
  have hx := B.exec
  have hb := B.bytes
  have hr := B.returns
  have hts := atoms_spec (ws := .code yX8_isPlace cX8_isPlace 1 (some .boolean) :: GW) B.pre
  have hG : ∀ w ∈ GW, w.before _ s = true := fun w h => hts w (List.mem_cons_of_mem _ h)
  have hown : s.vm.findClass RX8 = some m.cls := findClass_of_methodNamed B.named
  subst hsz
  have hS : va_S (fun q => s.heap.size ≤ q) s.heap s.heap [] := va_S.rf
  have hP : va_P (dC, dI) vwCl [] s.heap := hP
  have hl := lv_entry ([.int p0]) (n := 1) (Nat.le_of_ble_eq_true rfl)
  rw [lg_entry_eq]
  generalize (lg_sl ([.int p0]) ++ List.replicate (1 - (lg_sl ([.int p0])).length) Slot.unset).toArray = ls at hl ⊢
  have hl : lv_has ls 1 [(0, .int p0)] := hl
  refine nameQ (fun Q hQ => ?_)
  refine lv_iload_n hx hb dX8_isPlace_0 rfl (lv_at hl 0 rfl) ?_
  refine lv_if_lt (tgt := 14) hx hb dX8_isPlace_1 (by decide) (fun c_1 => ?_) (fun c_1 => ?_)
  · skip
    have f2 : p0.toInt < 0 := qi_lt c_1 rfl zc_0
    refine lv_iconst (v := 0) hx hb dX8_isPlace_14 (by decide) ?_
    rw [hQ]
    exact W.zret (v := 0) hx hb hr (by decide) (fun t ht hW => ⟨⟨0, 0, rfl, rfl, ⟨(ox_398 f2 zc_0), (ox_27 zc_0), (ox_28 zc_0)⟩⟩, hS.F ht⟩) hS.2.2 dX8_isPlace_15
  · skip
    have f3 : 0 ≤ p0.toInt := qi_nlt c_1 rfl zc_0
    refine lv_iload_n hx hb dX8_isPlace_4 rfl (lv_at hl 0 rfl) ?_
    refine lv_bipush (v := 99) hx hb dX8_isPlace_5 (by decide) ?_
    refine lv_icmp_gt (tgt := 14) hx hb dX8_isPlace_7 (by decide) (fun c_4 => ?_) (fun c_4 => ?_)
    · skip
      have f5 : 99 < p0.toInt := qi_lt c_4 zc_99 rfl
      refine lv_iconst (v := 0) hx hb dX8_isPlace_14 (by decide) ?_
      rw [hQ]
      exact W.zret (v := 0) hx hb hr (by decide) (fun t ht hW => ⟨⟨0, 0, rfl, rfl, ⟨(ox_399 f3 f5 zc_0), (ox_27 zc_0), (ox_28 zc_0)⟩⟩, hS.F ht⟩) hS.2.2 dX8_isPlace_15
    · skip
      have f6 : p0.toInt ≤ 99 := qi_nlt c_4 zc_99 rfl
      refine lv_iconst (v := 1) hx hb dX8_isPlace_10 (by decide) ?_
      refine lv_goto (tgt := 15) hx hb dX8_isPlace_11 (by decide) ?_
      rw [hQ]
      exact W.zret (v := 1) hx hb hr (by decide) (fun t ht hW => ⟨⟨1, 1, rfl, rfl, ⟨(ox_400 f3 f6 zc_1), (ox_31 zc_1), (ox_32 zc_1)⟩⟩, hS.F ht⟩) hS.2.2 dX8_isPlace_15
set_option maxHeartbeats 4000000 in
set_option maxRecDepth 100000 in
theorem kX8_spread_v1 (l : Launch) (dC : Nat → ClassId) (dI : Nat → Nat → Nat) (r : Nat → Nat) (ct : Nat → ClassId) (i_tapeLength i_time i_lyingCount i_rd_fault i_rd_token i_rd_kind i_sc_count i_sc_at i_A_tunes i_A_houses i_fA_length i_B_tunes i_B_houses i_fB_length i_acts_done i_acts_undone i_kn_count : Int32) (f_boxes f_boxKept f_trial f_offers f_A_noteCounts f_A_notes f_B_noteCounts f_B_notes f_now_where f_now_worn f_ahead_where f_ahead_worn f_acts_rows f_kn_tunes f_kn_noteTimes : Nat → Int32) (J : Nat → Nat → Int32) (L : Nat → Nat → Int64) (p0 p1 : Int32) (sz : Nat) (hI : (IX i_tapeLength i_time i_lyingCount i_rd_token i_sc_count i_sc_at i_A_tunes i_A_houses i_fA_length i_B_tunes i_B_houses i_fB_length i_acts_done i_acts_undone i_kn_count f_boxes f_A_noteCounts f_A_notes f_B_noteCounts f_B_notes f_now_worn f_ahead_worn f_acts_rows f_kn_tunes)) (hp0 : (0 : Int) ≤ p0.toInt) (hp1 : p1.toInt ≤ (4 : Int)) : Met l yX8_spread (.code yX8_spread cX8_spread 5 none :: GW) { frames := 2, cells := 0, slots := 0, locals := 100 } (va_Pc [.ref (r 0), .int p0, .int p1] (pW (dC, dI) (WX r ct i_tapeLength i_time i_lyingCount i_rd_fault i_rd_token i_rd_kind i_sc_count i_sc_at i_A_tunes i_A_houses i_fA_length i_B_tunes i_B_houses i_fB_length i_acts_done i_acts_undone i_kn_count f_boxes f_boxKept f_trial f_offers f_A_noteCounts f_A_notes f_B_noteCounts f_B_notes f_now_where f_now_worn f_ahead_where f_ahead_worn f_acts_rows f_kn_tunes f_kn_noteTimes J L) (TX ct) sz)) (va_Qv (fun _ : Unit => True) (fun (_ : Unit) (t : State) => ∃ (n_f_trial : Nat → Int32), va_P (dC, dI) vwCl (WX r ct i_tapeLength i_time i_lyingCount i_rd_fault i_rd_token i_rd_kind i_sc_count i_sc_at i_A_tunes i_A_houses i_fA_length i_B_tunes i_B_houses i_fB_length i_acts_done i_acts_undone i_kn_count f_boxes f_boxKept n_f_trial f_offers f_A_noteCounts f_A_notes f_B_noteCounts f_B_notes f_now_where f_now_worn f_ahead_where f_ahead_worn f_acts_rows f_kn_tunes f_kn_noteTimes J L) t.heap ∧ va_D (va_A (WX r ct i_tapeLength i_time i_lyingCount i_rd_fault i_rd_token i_rd_kind i_sc_count i_sc_at i_A_tunes i_A_houses i_fA_length i_B_tunes i_B_houses i_fB_length i_acts_done i_acts_undone i_kn_count f_boxes f_boxKept f_trial f_offers f_A_noteCounts f_A_notes f_B_noteCounts f_B_notes f_now_where f_now_worn f_ahead_where f_ahead_worn f_acts_rows f_kn_tunes f_kn_noteTimes J L) sz) (WX r ct i_tapeLength i_time i_lyingCount i_rd_fault i_rd_token i_rd_kind i_sc_count i_sc_at i_A_tunes i_A_houses i_fA_length i_B_tunes i_B_houses i_fB_length i_acts_done i_acts_undone i_kn_count f_boxes f_boxKept n_f_trial f_offers f_A_noteCounts f_A_notes f_B_noteCounts f_B_notes f_now_where f_now_worn f_ahead_where f_ahead_worn f_acts_rows f_kn_tunes f_kn_noteTimes J L) ∧ (IX i_tapeLength i_time i_lyingCount i_rd_token i_sc_count i_sc_at i_A_tunes i_A_houses i_fA_length i_B_tunes i_B_houses i_fB_length i_acts_done i_acts_undone i_kn_count f_boxes f_A_noteCounts f_A_notes f_B_noteCounts f_B_notes f_now_worn f_ahead_worn f_acts_rows f_kn_tunes) ∧ (RGP 0 i_A_houses.toInt 0 3 n_f_trial)) (va_A (WX r ct i_tapeLength i_time i_lyingCount i_rd_fault i_rd_token i_rd_kind i_sc_count i_sc_at i_A_tunes i_A_houses i_fA_length i_B_tunes i_B_houses i_fB_length i_acts_done i_acts_undone i_kn_count f_boxes f_boxKept f_trial f_offers f_A_noteCounts f_A_notes f_B_noteCounts f_B_notes f_now_where f_now_worn f_ahead_where f_ahead_worn f_acts_rows f_kn_tunes f_kn_noteTimes J L) sz)) 0 0 (va_A (WX r ct i_tapeLength i_time i_lyingCount i_rd_fault i_rd_token i_rd_kind i_sc_count i_sc_at i_A_tunes i_A_houses i_fA_length i_B_tunes i_B_houses i_fB_length i_acts_done i_acts_undone i_kn_count f_boxes f_boxKept f_trial f_offers f_A_noteCounts f_A_notes f_B_noteCounts f_B_notes f_now_where f_now_worn f_ahead_where f_ahead_worn f_acts_rows f_kn_tunes f_kn_noteTimes J L) sz) := by
  refine Met.ofW (cc := cX8_spread) (maxL := 5) (ret := none) (by decide) rfl ?_
  intro p e s m args below meth c0 s₁ B hml hv
  obtain ⟨rfl, hsz, hP, hK, hD0⟩ := hv
  have hx := B.exec
  have hb := B.bytes
  have hr := B.returns
  have hts := atoms_spec (ws := .code yX8_spread cX8_spread 5 none :: GW) B.pre
  have hG : ∀ w ∈ GW, w.before _ s = true := fun w h => hts w (List.mem_cons_of_mem _ h)
  have hown : s.vm.findClass RX8 = some m.cls := findClass_of_methodNamed B.named
  subst hsz
  have hD := hD0.self (sz := s.heap.size)
  generalize hAe : va_A (WX r ct i_tapeLength i_time i_lyingCount i_rd_fault i_rd_token i_rd_kind i_sc_count i_sc_at i_A_tunes i_A_houses i_fA_length i_B_tunes i_B_houses i_fB_length i_acts_done i_acts_undone i_kn_count f_boxes f_boxKept f_trial f_offers f_A_noteCounts f_A_notes f_B_noteCounts f_B_notes f_now_where f_now_worn f_ahead_where f_ahead_worn f_acts_rows f_kn_tunes f_kn_noteTimes J L) s.heap.size = A at hD ⊢
  have hA : ∀ q : Nat, s.heap.size ≤ q → A q := fun q h => by rw [← hAe]; exact Or.inr h
  have hS : va_S A s.heap s.heap [] := va_S.rf
  have hP : va_P (dC, dI) vwCl (WX r ct i_tapeLength i_time i_lyingCount i_rd_fault i_rd_token i_rd_kind i_sc_count i_sc_at i_A_tunes i_A_houses i_fA_length i_B_tunes i_B_houses i_fB_length i_acts_done i_acts_undone i_kn_count f_boxes f_boxKept f_trial f_offers f_A_noteCounts f_A_notes f_B_noteCounts f_B_notes f_now_where f_now_worn f_ahead_where f_ahead_worn f_acts_rows f_kn_tunes f_kn_noteTimes J L) s.heap := hP
  have hl := lv_entry ([.ref (r 0), .int p0, .int p1]) (n := 5) (Nat.le_of_ble_eq_true rfl)
  rw [lg_entry_eq]
  generalize (lg_sl ([.ref (r 0), .int p0, .int p1]) ++ List.replicate (5 - (lg_sl ([.ref (r 0), .int p0, .int p1])).length) Slot.unset).toArray = ls at hl ⊢
  have hl : lv_has ls 5 [(0, .ref (r 0)), (1, .int p0), (2, .int p1)] := hl
  refine nameQ (fun Q hQ => ?_)
  obtain ⟨ie0, ie1, ie2, ie3, ie4, ie5, ie6, ie7, ie8, ie9, ie10, ie11, ie12, ie13, ie14, ie15, ie16, ie17, ie18, ie19, ie20, ie21, ie22, ie23, ie24, ie25, ie26, ie27, ie28, ie29, ie30, ie31, ie32, ie33, ie34, ie35, ie36, ie37, ie38, ie39⟩ := id hI
  refine lv_iload_n hx hb dX8_spread_0 rfl (lv_at hl 1 rfl) ?_
  refine lv_istore_n (lv' := [(3, .int p0), (0, .ref (r 0)), (1, .int p0), (2, .int p1)]) hx hb dX8_spread_1 rfl hl (by decide) rfl (fun ls hl => ?_)
  refine lv_aload_n hx hb dX8_spread_2 rfl (lv_at hl 1 rfl) ?_
  refine gX_X8_23_0 hx hb hG hown hK hP dX8_spread_3 ?_
  refine gX_X8_99_3 hx hb hG hown hK hP dX8_spread_6 ?_
  refine lv_iconst (v := 1) hx hb dX8_spread_9 (by decide) ?_
  refine lv_isub hx hb dX8_spread_10 ?_
  refine lv_topi (fun x1 ex1 => ?_)
  have f2 : x1.toInt = i_A_houses.toInt + (-1) := (ox_167 (qi_sub ex1 rfl zc_1 (ox_345 ie14 ie15) (ox_346 ie14 ie15)))
  refine lv_istore (lv' := [(4, .int x1), (3, .int p0), (0, .ref (r 0)), (1, .int p0), (2, .int p1)]) hx hb dX8_spread_11 hl (by decide) rfl (fun ls hl => ?_)
  have L13 : ∀ (N13 : Nat) (y13_3 y13_4 : Int32) (m13_f_trial : Nat → Int32) (H13 : Heap) (locs : List Loc) (ls : Array Slot) (g13_0 : (0 : Int) ≤ y13_3.toInt) (g13_1 : (0 : Int) ≤ y13_4.toInt + 1) (g13_2 : y13_4.toInt ≤ (3 : Int)) (gr13_0 : RGP (y13_4.toInt + 1) i_A_houses.toInt 0 3 m13_f_trial) (hP : va_P (dC, dI) vwCl (WX r ct i_tapeLength i_time i_lyingCount i_rd_fault i_rd_token i_rd_kind i_sc_count i_sc_at i_A_tunes i_A_houses i_fA_length i_B_tunes i_B_houses i_fB_length i_acts_done i_acts_undone i_kn_count f_boxes f_boxKept m13_f_trial f_offers f_A_noteCounts f_A_notes f_B_noteCounts f_B_notes f_now_where f_now_worn f_ahead_where f_ahead_worn f_acts_rows f_kn_tunes f_kn_noteTimes J L) H13) (hD : va_D A (WX r ct i_tapeLength i_time i_lyingCount i_rd_fault i_rd_token i_rd_kind i_sc_count i_sc_at i_A_tunes i_A_houses i_fA_length i_B_tunes i_B_houses i_fB_length i_acts_done i_acts_undone i_kn_count f_boxes f_boxKept m13_f_trial f_offers f_A_noteCounts f_A_notes f_B_noteCounts f_B_notes f_now_where f_now_worn f_ahead_where f_ahead_worn f_acts_rows f_kn_tunes f_kn_noteTimes J L)) (hS : va_S A s.heap H13 locs) (hl : lv_has ls 5 [(0, .ref (r 0)), (1, .int p0), (2, .int p1), (3, .int y13_3), (4, .int y13_4)]) (hM : y13_4.toInt + 1 < (N13 : Int)), W p l e { frames := 2, cells := 0, slots := 0, locals := 100 } s m ([.ref (r 0), .int p0, .int p1] : List Value).toArray below meth c0 H13 locs 0 0 Q (F0 m 13 ls []) := by
    intro N13
    induction N13 with
    | zero =>
      intro y13_3 y13_4 m13_f_trial H13 locs ls g13_0 g13_1 g13_2 gr13_0 hP hD hS hl hM
      exact ((ox_347 hM g13_1 g13_2)).elim
    | succ N13 ih13 =>
      intro y13_3 y13_4 m13_f_trial H13 locs ls g13_0 g13_1 g13_2 gr13_0 hP hD hS hl hM
      have hM13 := msucc hM
      refine lv_iload hx hb dX8_spread_13 (lv_at hl 4 rfl) ?_
      refine lv_if_lt (tgt := 54) hx hb dX8_spread_15 (by decide) (fun c_3 => ?_) (fun c_3 => ?_)
      · skip
        have f4 : y13_4.toInt < 0 := qi_lt c_3 rfl zc_0
        rw [hQ]
        exact W.vret hx hb hr (fun t ht hW => ⟨⟨(), rfl, trivial, ⟨m13_f_trial, by rw [ht]; exact hP, hD, hI, (RGP_sub gr13_0 (ox_348 f4) (ox_349))⟩⟩, hS.F ht⟩) hS.2.2 dX8_spread_54
      · skip
        have f5 : 0 ≤ y13_4.toInt := qi_nlt c_3 rfl zc_0
        refine lv_aload_n hx hb dX8_spread_18 rfl (lv_at hl 0 rfl) ?_
        refine gX_X8_62_0 hx hb hG hown hK hP dX8_spread_19 ?_
        refine lv_iload hx hb dX8_spread_22 (lv_at hl 4 rfl) ?_
        refine lv_iload_n hx hb dX8_spread_24 rfl (lv_at hl 2 rfl) ?_
        refine lv_if_le (tgt := 34) hx hb dX8_spread_25 (by decide) (fun c_6 => ?_) (fun c_6 => ?_)
        · skip
          have f7 : p1.toInt ≤ 0 := qi_le c_6 rfl zc_0
          refine lv_iconst (v := 0) hx hb dX8_spread_34 (by decide) ?_
          refine stX_15 (mm := y13_4.toInt) hx hb hK hP hD hS rfl (ox_350 f5) (ox_351 g13_2) dX8_spread_35 (fun z9 H8 locs ez9 hP hD hS => ?_)
          refine lv_iload_n hx hb dX8_spread_36 rfl (lv_at hl 2 rfl) ?_
          refine lv_if_le (tgt := 46) hx hb dX8_spread_37 (by decide) (fun c_10 => ?_) (fun c_10 => ((ox_401 (qi_nle c_10 rfl zc_0) hp1 f7)).elim)
          have f11 : p1.toInt ≤ 0 := qi_le c_10 rfl zc_0
          refine lv_iconst (v := 0) hx hb dX8_spread_46 (by decide) ?_
          refine lv_istore_n (lv' := [(3, .int 0), (0, .ref (r 0)), (1, .int p0), (2, .int p1), (4, .int y13_4)]) hx hb dX8_spread_47 rfl hl (by decide) rfl (fun ls hl => ?_)
          obtain ⟨x12, ex12⟩ : ∃ y : Int32, y = y13_4 + Int32.ofInt (-1) := ⟨_, rfl⟩
          have f13 : x12.toInt = y13_4.toInt + (-1) := (ox_152 (qi_add ex12 rfl (by decide) (ox_353 g13_1) (ox_354 g13_2)))
          refine lv_iinc (v := x12) (lv' := [(4, .int x12), (3, .int 0), (0, .ref (r 0)), (1, .int p0), (2, .int p1)]) hx hb dX8_spread_48 hl (k := 4) rfl ex12.symm (by decide) rfl (fun ls hl => ?_)
          refine lv_goto (tgt := 13) hx hb dX8_spread_51 (by decide) ?_
          exact ih13 0 x12 z9 H8 _ _ (ox_27 zc_0) (ox_355 f5 f13) (ox_356 g13_2 f13) (RGP_dn gr13_0 ez9 (ox_350 f5) (ox_357) (ox_358 f13) (ox_359 zc_0) (ox_402 zc_0)) hP hD hS (lv_sub hl [2, 3, 4, 1, 0] rfl) (ox_361 hM13 f13)
        · skip
          have f14 : 0 < p1.toInt := qi_nle c_6 rfl zc_0
          refine lv_iload_n hx hb dX8_spread_28 rfl (lv_at hl 3 rfl) ?_
          refine lv_iload_n hx hb dX8_spread_29 rfl (lv_at hl 2 rfl) ?_
          refine lv_irem hx hb dX8_spread_30 (qi_nz (ox_403 hp1 f14)) ?_
          refine lv_topi (fun x15 ex15 => ?_)
          have f16 : 0 ≤ x15.toInt ∧ x15.toInt < p1.toInt ∧ x15.toInt ≤ y13_3.toInt := qi_rem ex15 rfl rfl (ox_9 g13_0) (ox_403 hp1 f14)
          have f17 : x15.toInt = (y13_3.toInt % p1.toInt) := remnn ex15 rfl rfl (ox_363 g13_0 f16) (ox_404 hp1 f14 f16)
          refine lv_goto (tgt := 35) hx hb dX8_spread_31 (by decide) ?_
          refine stX_15 (mm := y13_4.toInt) hx hb hK hP hD hS rfl (ox_350 f5) (ox_351 g13_2) dX8_spread_35 (fun z19 H18 locs ez19 hP hD hS => ?_)
          refine lv_iload_n hx hb dX8_spread_36 rfl (lv_at hl 2 rfl) ?_
          refine lv_if_le (tgt := 46) hx hb dX8_spread_37 (by decide) (fun c_20 => ((ox_405 (qi_le c_20 rfl zc_0) hp1 f14 f16 f17)).elim) (fun c_20 => ?_)
          have f21 : 0 < p1.toInt := qi_nle c_20 rfl zc_0
          refine lv_iload_n hx hb dX8_spread_40 rfl (lv_at hl 3 rfl) ?_
          refine lv_iload_n hx hb dX8_spread_41 rfl (lv_at hl 2 rfl) ?_
          refine lv_idiv hx hb dX8_spread_42 (qi_nz (ox_366 f14)) ?_
          refine lv_topi (fun x22 ex22 => ?_)
          have f23 : 0 ≤ x22.toInt ∧ x22.toInt ≤ y13_3.toInt := qi_div ex22 rfl rfl (ox_367 g13_0 f16 f17) (ox_366 f14)
          have f24 : x22.toInt = (y13_3.toInt / p1.toInt) := divnn ex22 rfl rfl (ox_368 g13_0 f16 f23 f17) (ox_366 f14)
          refine lv_goto (tgt := 47) hx hb dX8_spread_43 (by decide) ?_
          refine lv_istore_n (lv' := [(3, .int x22), (0, .ref (r 0)), (1, .int p0), (2, .int p1), (4, .int y13_4)]) hx hb dX8_spread_47 rfl hl (by decide) rfl (fun ls hl => ?_)
          obtain ⟨x25, ex25⟩ : ∃ y : Int32, y = y13_4 + Int32.ofInt (-1) := ⟨_, rfl⟩
          have f26 : x25.toInt = y13_4.toInt + (-1) := (ox_152 (qi_add ex25 rfl (by decide) (ox_353 g13_1) (ox_354 g13_2)))
          refine lv_iinc (v := x25) (lv' := [(4, .int x25), (3, .int x22), (0, .ref (r 0)), (1, .int p0), (2, .int p1)]) hx hb dX8_spread_48 hl (k := 4) rfl ex25.symm (by decide) rfl (fun ls hl => ?_)
          refine lv_goto (tgt := 13) hx hb dX8_spread_51 (by decide) ?_
          exact ih13 x22 x25 z19 H18 _ _ (ox_369 f23 f24) (ox_355 f5 f26) (ox_356 g13_2 f26) (RGP_dn gr13_0 ez19 (ox_350 f5) (ox_357) (ox_358 f26) (ox_370 f16 f17) (ox_406 hp1 f16 f17)) hP hD hS (lv_sub hl [2, 3, 4, 1, 0] rfl) (ox_361 hM13 f26)
  exact L13 (x1.toInt + 1 + 1).toNat p0 x1 f_trial s.heap _ _ (ox_6 hp0) (ox_372 ie14 ie15 f2) (ox_373 ie14 ie15 f2) (RGP_nil (ox_374 f2)) hP hD hS (lv_sub hl [2, 3, 4, 1, 0] rfl) (mlt (ox_375 ie14 ie15 f2))
set_option maxHeartbeats 4000000 in
set_option maxRecDepth 100000 in
theorem kX8_trialIsOrder (l : Launch) (dC : Nat → ClassId) (dI : Nat → Nat → Nat) (r : Nat → Nat) (ct : Nat → ClassId) (i_tapeLength i_time i_lyingCount i_rd_fault i_rd_token i_rd_kind i_sc_count i_sc_at i_A_tunes i_A_houses i_fA_length i_B_tunes i_B_houses i_fB_length i_acts_done i_acts_undone i_kn_count : Int32) (f_boxes f_boxKept f_trial f_offers f_A_noteCounts f_A_notes f_B_noteCounts f_B_notes f_now_where f_now_worn f_ahead_where f_ahead_worn f_acts_rows f_kn_tunes f_kn_noteTimes : Nat → Int32) (J : Nat → Nat → Int32) (L : Nat → Nat → Int64) (sz : Nat) (hI : (IX i_tapeLength i_time i_lyingCount i_rd_token i_sc_count i_sc_at i_A_tunes i_A_houses i_fA_length i_B_tunes i_B_houses i_fB_length i_acts_done i_acts_undone i_kn_count f_boxes f_A_noteCounts f_A_notes f_B_noteCounts f_B_notes f_now_worn f_ahead_worn f_acts_rows f_kn_tunes)) : Met l yX8_trialIsOrder (.code yX8_trialIsOrder cX8_trialIsOrder 3 (some .boolean) :: GW) { frames := 4, cells := 0, slots := 0, locals := 160 } (va_Pc [.ref (r 0)] (pR (dC, dI) (WX r ct i_tapeLength i_time i_lyingCount i_rd_fault i_rd_token i_rd_kind i_sc_count i_sc_at i_A_tunes i_A_houses i_fA_length i_B_tunes i_B_houses i_fB_length i_acts_done i_acts_undone i_kn_count f_boxes f_boxKept f_trial f_offers f_A_noteCounts f_A_notes f_B_noteCounts f_B_notes f_now_where f_now_worn f_ahead_where f_ahead_worn f_acts_rows f_kn_tunes f_kn_noteTimes J L) (TX ct) sz)) (va_Qi (fun (r0 : Int32) (u : Int32) => r0 = u) (fun (u : Int32) (t : State) => (((u.toInt = (0 : Int))) ∨ ((u.toInt = (1 : Int)))) ∧ ((0 : Int) ≤ u.toInt) ∧ (u.toInt ≤ (1 : Int))) (fun q => sz ≤ q)) 0 0 (fun q => sz ≤ q) := by
  refine Met.ofW (cc := cX8_trialIsOrder) (maxL := 3) (ret := (some .boolean)) (by decide) rfl ?_
  intro p e s m args below meth c0 s₁ B hml hv
  obtain ⟨rfl, hsz, hP, hK⟩ := hv
  have hx := B.exec
  have hb := B.bytes
  have hr := B.returns
  have hts := atoms_spec (ws := .code yX8_trialIsOrder cX8_trialIsOrder 3 (some .boolean) :: GW) B.pre
  have hG : ∀ w ∈ GW, w.before _ s = true := fun w h => hts w (List.mem_cons_of_mem _ h)
  have hown : s.vm.findClass RX8 = some m.cls := findClass_of_methodNamed B.named
  subst hsz
  have hS : va_S (fun q => s.heap.size ≤ q) s.heap s.heap [] := va_S.rf
  have hP : va_P (dC, dI) vwCl (WX r ct i_tapeLength i_time i_lyingCount i_rd_fault i_rd_token i_rd_kind i_sc_count i_sc_at i_A_tunes i_A_houses i_fA_length i_B_tunes i_B_houses i_fB_length i_acts_done i_acts_undone i_kn_count f_boxes f_boxKept f_trial f_offers f_A_noteCounts f_A_notes f_B_noteCounts f_B_notes f_now_where f_now_worn f_ahead_where f_ahead_worn f_acts_rows f_kn_tunes f_kn_noteTimes J L) s.heap := hP
  have hl := lv_entry ([.ref (r 0)]) (n := 3) (Nat.le_of_ble_eq_true rfl)
  rw [lg_entry_eq]
  generalize (lg_sl ([.ref (r 0)]) ++ List.replicate (3 - (lg_sl ([.ref (r 0)])).length) Slot.unset).toArray = ls at hl ⊢
  have hl : lv_has ls 3 [(0, .ref (r 0))] := hl
  refine nameQ (fun Q hQ => ?_)
  obtain ⟨ie0, ie1, ie2, ie3, ie4, ie5, ie6, ie7, ie8, ie9, ie10, ie11, ie12, ie13, ie14, ie15, ie16, ie17, ie18, ie19, ie20, ie21, ie22, ie23, ie24, ie25, ie26, ie27, ie28, ie29, ie30, ie31, ie32, ie33, ie34, ie35, ie36, ie37, ie38, ie39⟩ := id hI
  refine lv_iconst (v := 0) hx hb dX8_trialIsOrder_0 (by decide) ?_
  refine lv_istore_n (lv' := [(1, .int 0), (0, .ref (r 0))]) hx hb dX8_trialIsOrder_1 rfl hl (by decide) rfl (fun ls hl => ?_)
  refine lv_iconst (v := 0) hx hb dX8_trialIsOrder_2 (by decide) ?_
  refine lv_istore_n (lv' := [(2, .int 0), (1, .int 0), (0, .ref (r 0))]) hx hb dX8_trialIsOrder_3 rfl hl (by decide) rfl (fun ls hl => ?_)
  have L4 : ∀ (N4 : Nat) (y4_1 y4_2 : Int32) (H4 : Heap) (locs : List Loc) (ls : Array Slot) (g4_0 : (0 : Int) ≤ y4_2.toInt) (g4_1 : y4_2.toInt ≤ (4 : Int)) (hP : va_P (dC, dI) vwCl (WX r ct i_tapeLength i_time i_lyingCount i_rd_fault i_rd_token i_rd_kind i_sc_count i_sc_at i_A_tunes i_A_houses i_fA_length i_B_tunes i_B_houses i_fB_length i_acts_done i_acts_undone i_kn_count f_boxes f_boxKept f_trial f_offers f_A_noteCounts f_A_notes f_B_noteCounts f_B_notes f_now_where f_now_worn f_ahead_where f_ahead_worn f_acts_rows f_kn_tunes f_kn_noteTimes J L) H4) (hS : va_S (fun q => s.heap.size ≤ q) s.heap H4 locs) (hl : lv_has ls 3 [(0, .ref (r 0)), (1, .int y4_1), (2, .int y4_2)]) (hM : -1 * y4_2.toInt + 4 < (N4 : Int)), W p l e { frames := 4, cells := 0, slots := 0, locals := 160 } s m ([.ref (r 0)] : List Value).toArray below meth c0 H4 locs 0 0 Q (F0 m 4 ls []) := by
    intro N4
    induction N4 with
    | zero =>
      intro y4_1 y4_2 H4 locs ls g4_0 g4_1 hP hS hl hM
      exact ((ox_218 hM g4_0 g4_1)).elim
    | succ N4 ih4 =>
      intro y4_1 y4_2 H4 locs ls g4_0 g4_1 hP hS hl hM
      have hM4 := msucc hM
      refine lv_iload_n hx hb dX8_trialIsOrder_4 rfl (lv_at hl 2 rfl) ?_
      refine lv_aload_n hx hb dX8_trialIsOrder_5 rfl (lv_at hl 0 rfl) ?_
      refine gX_X8_23_0 hx hb hG hown hK hP dX8_trialIsOrder_6 ?_
      refine gX_X8_99_3 hx hb hG hown hK hP dX8_trialIsOrder_9 ?_
      refine lv_icmp_ge (tgt := 32) hx hb dX8_trialIsOrder_12 (by decide) (fun c_1 => ?_) (fun c_1 => ?_)
      · skip
        have f2 : i_A_houses.toInt ≤ y4_2.toInt := qi_le c_1 rfl rfl
        refine lv_iload_n hx hb dX8_trialIsOrder_32 rfl (lv_at hl 1 rfl) ?_
        refine va_calli (va_runS (As := [.int y4_1]) (rest := []) ⟨hx, hb, hml, hown, hG⟩ (kJ6_bitCount_0f7a4 l dC dI y4_1 H4.size) (va_cwS 1 hG (goodS gw877 gw878 gw145 gw879) rfl rfl rfl hd_J6_bitCount_0f7a4 ⟨(Nat.le_of_ble_eq_true rfl), (Nat.le_of_ble_eq_true rfl)⟩) ⟨fbR, pR_in emptyP (emptyK hK)⟩ rfl rfl hl.1 rfl (lv_room (Nat.le_of_ble_eq_true rfl)) dX8_trialIsOrder_33 ⟨(Nat.le_of_ble_eq_true rfl), (Nat.le_of_ble_eq_true rfl)⟩) hS (fun q hq h => absurd hq (Nat.not_lt.mpr h)) (fun q h => Nat.le_trans hS.1 h) (fun r_4 u_ t_ H3 locs ht hvm hw hB hz1 hk1 hS => ?_)
        subst hw
        have hP := wk hP hk1
        refine lv_aload_n hx hb dX8_trialIsOrder_36 rfl (lv_at hl 0 rfl) ?_
        refine gX_X8_23_0 hx hb hG hown hK hP dX8_trialIsOrder_37 ?_
        refine gX_X8_99_3 hx hb hG hown hK hP dX8_trialIsOrder_40 ?_
        refine lv_icmp_ne (tgt := 50) hx hb dX8_trialIsOrder_43 (by decide) (fun c_5 => ?_) (fun c_5 => ?_)
        · skip
          have f6 : r_4.toInt ≠ i_A_houses.toInt := qi_ne c_5 rfl rfl
          refine lv_iconst (v := 0) hx hb dX8_trialIsOrder_50 (by decide) ?_
          rw [hQ]
          exact W.zret (v := 0) hx hb hr (by decide) (fun t ht hW => ⟨⟨0, 0, rfl, rfl, ⟨(ox_80 zc_0), (ox_27 zc_0), (ox_28 zc_0)⟩⟩, hS.F ht⟩) hS.2.2 dX8_trialIsOrder_51
        · skip
          have f7 : r_4.toInt = i_A_houses.toInt := qi_eq c_5 rfl rfl
          refine lv_iconst (v := 1) hx hb dX8_trialIsOrder_46 (by decide) ?_
          refine lv_goto (tgt := 51) hx hb dX8_trialIsOrder_47 (by decide) ?_
          rw [hQ]
          exact W.zret (v := 1) hx hb hr (by decide) (fun t ht hW => ⟨⟨1, 1, rfl, rfl, ⟨(ox_81 zc_1), (ox_31 zc_1), (ox_32 zc_1)⟩⟩, hS.F ht⟩) hS.2.2 dX8_trialIsOrder_51
      · skip
        have f8 : y4_2.toInt < i_A_houses.toInt := qi_nle c_1 rfl rfl
        refine lv_iload_n hx hb dX8_trialIsOrder_15 rfl (lv_at hl 1 rfl) ?_
        refine lv_iconst (v := 1) hx hb dX8_trialIsOrder_16 (by decide) ?_
        refine lv_aload_n hx hb dX8_trialIsOrder_17 rfl (lv_at hl 0 rfl) ?_
        refine gX_X8_62_0 hx hb hG hown hK hP dX8_trialIsOrder_18 ?_
        refine lv_iload_n hx hb dX8_trialIsOrder_21 rfl (lv_at hl 2 rfl) ?_
        refine ldX_15 (mm := y4_2.toInt) hx hb hK hP rfl (ox_9 g4_0) (ox_376 ie15 f8) dX8_trialIsOrder_22 ?_
        refine lv_ishl hx hb dX8_trialIsOrder_23 ?_
        refine lv_topi (fun x9 ex9 => ?_)
        refine lv_ior hx hb dX8_trialIsOrder_24 ?_
        refine lv_topi (fun x10 ex10 => ?_)
        refine lv_istore_n (lv' := [(1, .int x10), (0, .ref (r 0)), (2, .int y4_2)]) hx hb dX8_trialIsOrder_25 rfl hl (by decide) rfl (fun ls hl => ?_)
        obtain ⟨x11, ex11⟩ : ∃ y : Int32, y = y4_2 + Int32.ofInt 1 := ⟨_, rfl⟩
        have f12 : x11.toInt = y4_2.toInt + 1 := (ox_13 (qi_add ex11 rfl (by decide) (ox_11 g4_0) (ox_219 g4_1)))
        refine lv_iinc (v := x11) (lv' := [(2, .int x11), (1, .int x10), (0, .ref (r 0))]) hx hb dX8_trialIsOrder_26 hl (k := 2) rfl ex11.symm (by decide) rfl (fun ls hl => ?_)
        refine lv_goto (tgt := 4) hx hb dX8_trialIsOrder_29 (by decide) ?_
        exact ih4 x10 x11 H4 _ _ (ox_14 g4_0 f12) (ox_220 ie15 f8 f12) hP hS (lv_sub hl [2, 1, 0] rfl) (ox_221 hM4 f12)
  exact L4 (-1 * (0 : Int32).toInt + 4 + 1).toNat 0 0 s.heap _ _ (ox_27 zc_0) (ox_224 zc_0) hP hS (lv_sub hl [2, 1, 0] rfl) (mlt (ox_225 zc_0))
set_option maxHeartbeats 4000000 in
set_option maxRecDepth 100000 in
theorem kX8_wayFrom (l : Launch) (dC : Nat → ClassId) (dI : Nat → Nat → Nat) (r : Nat → Nat) (ct : Nat → ClassId) (i_tapeLength i_time i_lyingCount i_rd_fault i_rd_token i_rd_kind i_sc_count i_sc_at i_A_tunes i_A_houses i_fA_length i_B_tunes i_B_houses i_fB_length i_acts_done i_acts_undone i_kn_count : Int32) (f_boxes f_boxKept f_trial f_offers f_A_noteCounts f_A_notes f_B_noteCounts f_B_notes f_now_where f_now_worn f_ahead_where f_ahead_worn f_acts_rows f_kn_tunes f_kn_noteTimes : Nat → Int32) (J : Nat → Nat → Int32) (L : Nat → Nat → Int64) (p0 : Int32) (sz : Nat) (hI : (IX i_tapeLength i_time i_lyingCount i_rd_token i_sc_count i_sc_at i_A_tunes i_A_houses i_fA_length i_B_tunes i_B_houses i_fB_length i_acts_done i_acts_undone i_kn_count f_boxes f_A_noteCounts f_A_notes f_B_noteCounts f_B_notes f_now_worn f_ahead_worn f_acts_rows f_kn_tunes)) (hp0 : RGP 0 i_A_houses.toInt 0 3 f_trial) : Met l yX8_wayFrom (.code yX8_wayFrom cX8_wayFrom 6 (some .int) :: GW) { frames := 2, cells := 0, slots := 0, locals := 100 } (va_Pc [.ref (r 0), .int p0] (pR (dC, dI) (WX r ct i_tapeLength i_time i_lyingCount i_rd_fault i_rd_token i_rd_kind i_sc_count i_sc_at i_A_tunes i_A_houses i_fA_length i_B_tunes i_B_houses i_fB_length i_acts_done i_acts_undone i_kn_count f_boxes f_boxKept f_trial f_offers f_A_noteCounts f_A_notes f_B_noteCounts f_B_notes f_now_where f_now_worn f_ahead_where f_ahead_worn f_acts_rows f_kn_tunes f_kn_noteTimes J L) (TX ct) sz)) (va_Qi (fun (r0 : Int32) (u : Int32) => r0 = u) (fun (u : Int32) (t : State) => True) (fun q => sz ≤ q)) 0 0 (fun q => sz ≤ q) := by
  refine Met.ofW (cc := cX8_wayFrom) (maxL := 6) (ret := (some .int)) (by decide) rfl ?_
  intro p e s m args below meth c0 s₁ B hml hv
  obtain ⟨rfl, hsz, hP, hK⟩ := hv
  have hx := B.exec
  have hb := B.bytes
  have hr := B.returns
  have hts := atoms_spec (ws := .code yX8_wayFrom cX8_wayFrom 6 (some .int) :: GW) B.pre
  have hG : ∀ w ∈ GW, w.before _ s = true := fun w h => hts w (List.mem_cons_of_mem _ h)
  have hown : s.vm.findClass RX8 = some m.cls := findClass_of_methodNamed B.named
  subst hsz
  have hS : va_S (fun q => s.heap.size ≤ q) s.heap s.heap [] := va_S.rf
  have hP : va_P (dC, dI) vwCl (WX r ct i_tapeLength i_time i_lyingCount i_rd_fault i_rd_token i_rd_kind i_sc_count i_sc_at i_A_tunes i_A_houses i_fA_length i_B_tunes i_B_houses i_fB_length i_acts_done i_acts_undone i_kn_count f_boxes f_boxKept f_trial f_offers f_A_noteCounts f_A_notes f_B_noteCounts f_B_notes f_now_where f_now_worn f_ahead_where f_ahead_worn f_acts_rows f_kn_tunes f_kn_noteTimes J L) s.heap := hP
  have hl := lv_entry ([.ref (r 0), .int p0]) (n := 6) (Nat.le_of_ble_eq_true rfl)
  rw [lg_entry_eq]
  generalize (lg_sl ([.ref (r 0), .int p0]) ++ List.replicate (6 - (lg_sl ([.ref (r 0), .int p0])).length) Slot.unset).toArray = ls at hl ⊢
  have hl : lv_has ls 6 [(0, .ref (r 0)), (1, .int p0)] := hl
  refine nameQ (fun Q hQ => ?_)
  obtain ⟨ie0, ie1, ie2, ie3, ie4, ie5, ie6, ie7, ie8, ie9, ie10, ie11, ie12, ie13, ie14, ie15, ie16, ie17, ie18, ie19, ie20, ie21, ie22, ie23, ie24, ie25, ie26, ie27, ie28, ie29, ie30, ie31, ie32, ie33, ie34, ie35, ie36, ie37, ie38, ie39⟩ := id hI
  refine lv_iconst (v := 0) hx hb dX8_wayFrom_0 (by decide) ?_
  refine lv_istore_n (lv' := [(2, .int 0), (0, .ref (r 0)), (1, .int p0)]) hx hb dX8_wayFrom_1 rfl hl (by decide) rfl (fun ls hl => ?_)
  refine lv_iload_n hx hb dX8_wayFrom_2 rfl (lv_at hl 2 rfl) ?_
  refine lv_istore_n (lv' := [(3, .int p0), (2, .int 0), (0, .ref (r 0)), (1, .int p0)]) hx hb dX8_wayFrom_3 rfl hl (by decide) rfl (fun ls hl => ?_)
  refine lv_iconst (v := 0) hx hb dX8_wayFrom_4 (by decide) ?_
  refine lv_istore (lv' := [(4, .int 0), (3, .int p0), (2, .int 0), (0, .ref (r 0)), (1, .int p0)]) hx hb dX8_wayFrom_5 hl (by decide) rfl (fun ls hl => ?_)
  have L7 : ∀ (N7 : Nat) (y7_2 y7_3 y7_4 : Int32) (H7 : Heap) (locs : List Loc) (ls : Array Slot) (g7_0 : (0 : Int) ≤ y7_4.toInt) (g7_1 : y7_4.toInt ≤ (4 : Int)) (hP : va_P (dC, dI) vwCl (WX r ct i_tapeLength i_time i_lyingCount i_rd_fault i_rd_token i_rd_kind i_sc_count i_sc_at i_A_tunes i_A_houses i_fA_length i_B_tunes i_B_houses i_fB_length i_acts_done i_acts_undone i_kn_count f_boxes f_boxKept f_trial f_offers f_A_noteCounts f_A_notes f_B_noteCounts f_B_notes f_now_where f_now_worn f_ahead_where f_ahead_worn f_acts_rows f_kn_tunes f_kn_noteTimes J L) H7) (hS : va_S (fun q => s.heap.size ≤ q) s.heap H7 locs) (hl : lv_has ls 6 [(0, .ref (r 0)), (1, .int p0), (2, .int y7_2), (3, .int y7_3), (4, .int y7_4)]) (hM : -1 * y7_4.toInt + 4 < (N7 : Int)), W p l e { frames := 2, cells := 0, slots := 0, locals := 100 } s m ([.ref (r 0), .int p0] : List Value).toArray below meth c0 H7 locs 0 0 Q (F0 m 7 ls []) := by
    intro N7
    induction N7 with
    | zero =>
      intro y7_2 y7_3 y7_4 H7 locs ls g7_0 g7_1 hP hS hl hM
      exact ((ox_218 hM g7_0 g7_1)).elim
    | succ N7 ih7 =>
      intro y7_2 y7_3 y7_4 H7 locs ls g7_0 g7_1 hP hS hl hM
      have hM7 := msucc hM
      refine lv_iload hx hb dX8_wayFrom_7 (lv_at hl 4 rfl) ?_
      refine lv_aload_n hx hb dX8_wayFrom_9 rfl (lv_at hl 0 rfl) ?_
      refine gX_X8_23_0 hx hb hG hown hK hP dX8_wayFrom_10 ?_
      refine gX_X8_99_3 hx hb hG hown hK hP dX8_wayFrom_13 ?_
      refine lv_icmp_ge (tgt := 55) hx hb dX8_wayFrom_16 (by decide) (fun c_1 => ?_) (fun c_1 => ?_)
      · skip
        have f2 : i_A_houses.toInt ≤ y7_4.toInt := qi_le c_1 rfl rfl
        refine lv_iload_n hx hb dX8_wayFrom_55 rfl (lv_at hl 2 rfl) ?_
        rw [hQ]
        exact W.iret (v := y7_2) hx hb hr (fun t ht hW => ⟨⟨y7_2, y7_2, rfl, rfl, trivial⟩, hS.F ht⟩) hS.2.2 dX8_wayFrom_56
      · skip
        have f3 : y7_4.toInt < i_A_houses.toInt := qi_nle c_1 rfl rfl
        refine lv_aload_n hx hb dX8_wayFrom_19 rfl (lv_at hl 0 rfl) ?_
        refine gX_X8_23_0 hx hb hG hown hK hP dX8_wayFrom_20 ?_
        refine gX_X8_141_3 hx hb hG hown hK hP dX8_wayFrom_23 ?_
        refine lv_aload_n hx hb dX8_wayFrom_26 rfl (lv_at hl 0 rfl) ?_
        refine gX_X8_62_0 hx hb hG hown hK hP dX8_wayFrom_27 ?_
        refine lv_iload hx hb dX8_wayFrom_30 (lv_at hl 4 rfl) ?_
        refine ldX_15 (mm := y7_4.toInt) hx hb hK hP rfl (ox_9 g7_0) (ox_376 ie15 f3) dX8_wayFrom_32 ?_
        have f4 : 0 ≤ y7_4.toInt → y7_4.toInt < i_A_houses.toInt → 0 ≤ (f_trial (y7_4.toInt).toNat).toInt ∧ (f_trial (y7_4.toInt).toNat).toInt ≤ 3 := hp0 (y7_4.toInt)
        have f5 : (y7_4.toInt + 1 ≤ i_A_houses.toInt) → (((0 : Int) ≤ (f_trial (y7_4.toInt).toNat).toInt) ∧ ((f_trial (y7_4.toInt).toNat).toInt ≤ (3 : Int))) := (ox_407 g7_0 f4)
        have f6 : (0 : Int) ≤ (f_trial (y7_4.toInt).toNat).toInt := (ox_408 g7_0 f3 f4)
        have f7 : (f_trial (y7_4.toInt).toNat).toInt ≤ (3 : Int) := (ox_409 g7_0 f3 f4)
        refine ldX_26 (mm := (f_trial (y7_4.toInt).toNat).toInt) hx hb hK hP rfl (ox_410 f6 f7) (ox_411 f6 f7) dX8_wayFrom_33 (fun x8 => ?_)
        refine lv_istore (lv' := [(5, .int x8), (0, .ref (r 0)), (1, .int p0), (2, .int y7_2), (3, .int y7_3), (4, .int y7_4)]) hx hb dX8_wayFrom_34 hl (by decide) rfl (fun ls hl => ?_)
        refine lv_iload_n hx hb dX8_wayFrom_36 rfl (lv_at hl 3 rfl) ?_
        refine lv_iload hx hb dX8_wayFrom_37 (lv_at hl 0 rfl) ?_
        refine lv_iload_n hx hb dX8_wayFrom_39 rfl (lv_at hl 4 rfl) ?_
        refine lv_isub hx hb dX8_wayFrom_40 ?_
        refine lv_topi (fun x9 ex9 => ?_)
        refine va_mabs hx hb (hml.trans hl.1.symm) hown (hG _ gw937) (hG _ gw938) (hG _ gw139) (hG _ gw939) (Nat.le_of_ble_eq_true rfl) (Nat.le_of_ble_eq_true rfl) (Nat.le_of_ble_eq_true rfl) (Nat.le_of_ble_eq_true rfl) dX8_wayFrom_41 ?_
        refine lv_topi (fun x10 ex10 => ?_)
        refine lv_iadd hx hb dX8_wayFrom_44 ?_
        refine lv_topi (fun x11 ex11 => ?_)
        refine lv_istore_n (lv' := [(2, .int x11), (5, .int x8), (0, .ref (r 0)), (1, .int p0), (3, .int y7_3), (4, .int y7_4)]) hx hb dX8_wayFrom_45 rfl hl (by decide) rfl (fun ls hl => ?_)
        refine lv_iload hx hb dX8_wayFrom_46 (lv_at hl 1 rfl) ?_
        refine lv_istore_n (lv' := [(3, .int x8), (2, .int x11), (5, .int x8), (0, .ref (r 0)), (1, .int p0), (4, .int y7_4)]) hx hb dX8_wayFrom_48 rfl hl (by decide) rfl (fun ls hl => ?_)
        obtain ⟨x12, ex12⟩ : ∃ y : Int32, y = y7_4 + Int32.ofInt 1 := ⟨_, rfl⟩
        have f13 : x12.toInt = y7_4.toInt + 1 := (ox_13 (qi_add ex12 rfl (by decide) (ox_11 g7_0) (ox_219 g7_1)))
        refine lv_iinc (v := x12) (lv' := [(4, .int x12), (3, .int x8), (2, .int x11), (5, .int x8), (0, .ref (r 0)), (1, .int p0)]) hx hb dX8_wayFrom_49 hl (k := 5) rfl ex12.symm (by decide) rfl (fun ls hl => ?_)
        refine lv_goto (tgt := 7) hx hb dX8_wayFrom_52 (by decide) ?_
        exact ih7 x11 x8 x12 H7 _ _ (ox_14 g7_0 f13) (ox_220 ie15 f3 f13) hP hS (lv_sub hl [4, 5, 2, 1, 0] rfl) (ox_221 hM7 f13)
  exact L7 (-1 * (0 : Int32).toInt + 4 + 1).toNat 0 p0 0 s.heap _ _ (ox_27 zc_0) (ox_224 zc_0) hP hS (lv_sub hl [3, 4, 2, 1, 0] rfl) (mlt (ox_225 zc_0))
set_option maxHeartbeats 4000000 in
set_option maxRecDepth 100000 in
theorem kX8_walk (l : Launch) (dC : Nat → ClassId) (dI : Nat → Nat → Nat) (r : Nat → Nat) (ct : Nat → ClassId) (i_tapeLength i_time i_lyingCount i_rd_fault i_rd_token i_rd_kind i_sc_count i_sc_at i_A_tunes i_A_houses i_fA_length i_B_tunes i_B_houses i_fB_length i_acts_done i_acts_undone i_kn_count : Int32) (f_boxes f_boxKept f_trial f_offers f_A_noteCounts f_A_notes f_B_noteCounts f_B_notes f_now_where f_now_worn f_ahead_where f_ahead_worn f_acts_rows f_kn_tunes f_kn_noteTimes : Nat → Int32) (J : Nat → Nat → Int32) (L : Nat → Nat → Int64) (p0 : Int32) (sz : Nat) (hI : (IX i_tapeLength i_time i_lyingCount i_rd_token i_sc_count i_sc_at i_A_tunes i_A_houses i_fA_length i_B_tunes i_B_houses i_fB_length i_acts_done i_acts_undone i_kn_count f_boxes f_A_noteCounts f_A_notes f_B_noteCounts f_B_notes f_now_worn f_ahead_worn f_acts_rows f_kn_tunes)) : Met l yX8_walk (.code yX8_walk cX8_walk 6 (some .int) :: GW) { frames := 6, cells := 0, slots := 0, locals := 222 } (va_Pc [.ref (r 0), .int p0] (pW (dC, dI) (WX r ct i_tapeLength i_time i_lyingCount i_rd_fault i_rd_token i_rd_kind i_sc_count i_sc_at i_A_tunes i_A_houses i_fA_length i_B_tunes i_B_houses i_fB_length i_acts_done i_acts_undone i_kn_count f_boxes f_boxKept f_trial f_offers f_A_noteCounts f_A_notes f_B_noteCounts f_B_notes f_now_where f_now_worn f_ahead_where f_ahead_worn f_acts_rows f_kn_tunes f_kn_noteTimes J L) (TX ct) sz)) (va_Qi (fun (r0 : Int32) (u : Int32) => r0 = u) (fun (u : Int32) (t : State) => ∃ (n_i_lyingCount : Int32) (n_f_trial : Nat → Int32) (n_J : Nat → Nat → Int32), va_P (dC, dI) vwCl (WX r ct i_tapeLength i_time n_i_lyingCount i_rd_fault i_rd_token i_rd_kind i_sc_count i_sc_at i_A_tunes i_A_houses i_fA_length i_B_tunes i_B_houses i_fB_length i_acts_done i_acts_undone i_kn_count f_boxes f_boxKept n_f_trial f_offers f_A_noteCounts f_A_notes f_B_noteCounts f_B_notes f_now_where f_now_worn f_ahead_where f_ahead_worn f_acts_rows f_kn_tunes f_kn_noteTimes n_J L) t.heap ∧ va_D (va_A (WX r ct i_tapeLength i_time i_lyingCount i_rd_fault i_rd_token i_rd_kind i_sc_count i_sc_at i_A_tunes i_A_houses i_fA_length i_B_tunes i_B_houses i_fB_length i_acts_done i_acts_undone i_kn_count f_boxes f_boxKept f_trial f_offers f_A_noteCounts f_A_notes f_B_noteCounts f_B_notes f_now_where f_now_worn f_ahead_where f_ahead_worn f_acts_rows f_kn_tunes f_kn_noteTimes J L) sz) (WX r ct i_tapeLength i_time n_i_lyingCount i_rd_fault i_rd_token i_rd_kind i_sc_count i_sc_at i_A_tunes i_A_houses i_fA_length i_B_tunes i_B_houses i_fB_length i_acts_done i_acts_undone i_kn_count f_boxes f_boxKept n_f_trial f_offers f_A_noteCounts f_A_notes f_B_noteCounts f_B_notes f_now_where f_now_worn f_ahead_where f_ahead_worn f_acts_rows f_kn_tunes f_kn_noteTimes n_J L) ∧ (IX i_tapeLength i_time n_i_lyingCount i_rd_token i_sc_count i_sc_at i_A_tunes i_A_houses i_fA_length i_B_tunes i_B_houses i_fB_length i_acts_done i_acts_undone i_kn_count f_boxes f_A_noteCounts f_A_notes f_B_noteCounts f_B_notes f_now_worn f_ahead_worn f_acts_rows f_kn_tunes)) (va_A (WX r ct i_tapeLength i_time i_lyingCount i_rd_fault i_rd_token i_rd_kind i_sc_count i_sc_at i_A_tunes i_A_houses i_fA_length i_B_tunes i_B_houses i_fB_length i_acts_done i_acts_undone i_kn_count f_boxes f_boxKept f_trial f_offers f_A_noteCounts f_A_notes f_B_noteCounts f_B_notes f_now_where f_now_worn f_ahead_where f_ahead_worn f_acts_rows f_kn_tunes f_kn_noteTimes J L) sz)) 0 0 (va_A (WX r ct i_tapeLength i_time i_lyingCount i_rd_fault i_rd_token i_rd_kind i_sc_count i_sc_at i_A_tunes i_A_houses i_fA_length i_B_tunes i_B_houses i_fB_length i_acts_done i_acts_undone i_kn_count f_boxes f_boxKept f_trial f_offers f_A_noteCounts f_A_notes f_B_noteCounts f_B_notes f_now_where f_now_worn f_ahead_where f_ahead_worn f_acts_rows f_kn_tunes f_kn_noteTimes J L) sz) := by
  refine Met.ofW (cc := cX8_walk) (maxL := 6) (ret := (some .int)) (by decide) rfl ?_
  intro p e s m args below meth c0 s₁ B hml hv
  obtain ⟨rfl, hsz, hP, hK, hD0⟩ := hv
  have hx := B.exec
  have hb := B.bytes
  have hr := B.returns
  have hts := atoms_spec (ws := .code yX8_walk cX8_walk 6 (some .int) :: GW) B.pre
  have hG : ∀ w ∈ GW, w.before _ s = true := fun w h => hts w (List.mem_cons_of_mem _ h)
  have hown : s.vm.findClass RX8 = some m.cls := findClass_of_methodNamed B.named
  subst hsz
  have hD := hD0.self (sz := s.heap.size)
  generalize hAe : va_A (WX r ct i_tapeLength i_time i_lyingCount i_rd_fault i_rd_token i_rd_kind i_sc_count i_sc_at i_A_tunes i_A_houses i_fA_length i_B_tunes i_B_houses i_fB_length i_acts_done i_acts_undone i_kn_count f_boxes f_boxKept f_trial f_offers f_A_noteCounts f_A_notes f_B_noteCounts f_B_notes f_now_where f_now_worn f_ahead_where f_ahead_worn f_acts_rows f_kn_tunes f_kn_noteTimes J L) s.heap.size = A at hD ⊢
  have hA : ∀ q : Nat, s.heap.size ≤ q → A q := fun q h => by rw [← hAe]; exact Or.inr h
  have hS : va_S A s.heap s.heap [] := va_S.rf
  have hP : va_P (dC, dI) vwCl (WX r ct i_tapeLength i_time i_lyingCount i_rd_fault i_rd_token i_rd_kind i_sc_count i_sc_at i_A_tunes i_A_houses i_fA_length i_B_tunes i_B_houses i_fB_length i_acts_done i_acts_undone i_kn_count f_boxes f_boxKept f_trial f_offers f_A_noteCounts f_A_notes f_B_noteCounts f_B_notes f_now_where f_now_worn f_ahead_where f_ahead_worn f_acts_rows f_kn_tunes f_kn_noteTimes J L) s.heap := hP
  have hl := lv_entry ([.ref (r 0), .int p0]) (n := 6) (Nat.le_of_ble_eq_true rfl)
  rw [lg_entry_eq]
  generalize (lg_sl ([.ref (r 0), .int p0]) ++ List.replicate (6 - (lg_sl ([.ref (r 0), .int p0])).length) Slot.unset).toArray = ls at hl ⊢
  have hl : lv_has ls 6 [(0, .ref (r 0)), (1, .int p0)] := hl
  refine nameQ (fun Q hQ => ?_)
  obtain ⟨ie0, ie1, ie2, ie3, ie4, ie5, ie6, ie7, ie8, ie9, ie10, ie11, ie12, ie13, ie14, ie15, ie16, ie17, ie18, ie19, ie20, ie21, ie22, ie23, ie24, ie25, ie26, ie27, ie28, ie29, ie30, ie31, ie32, ie33, ie34, ie35, ie36, ie37, ie38, ie39⟩ := id hI
  refine lv_iload_n hx hb dX8_walk_0 rfl (lv_at hl 1 rfl) ?_
  refine va_calli (va_runS (As := [.int p0]) (rest := []) ⟨hx, hb, hml, hown, hG⟩ (kX8_isPlace l dC dI p0 s.heap.size) (va_cwS 1 hG (goodS gw926 gw927 gw129 gw928) rfl rfl rfl hd_X8_isPlace ⟨(Nat.le_of_ble_eq_true rfl), (Nat.le_of_ble_eq_true rfl)⟩) ⟨fbR, pR_in emptyP (emptyK hK)⟩ rfl rfl hl.1 rfl (lv_room (Nat.le_of_ble_eq_true rfl)) dX8_walk_1 ⟨(Nat.le_of_ble_eq_true rfl), (Nat.le_of_ble_eq_true rfl)⟩) hS (fun q hq h => absurd hq (Nat.not_lt.mpr h)) (fun q h => hA q (Nat.le_trans hS.1 h)) (fun r_2 u_ t_ H1 locs ht hvm hw hB hz1 hk1 hS => ?_)
  subst hw
  have hP := wk hP hk1
  obtain ⟨f3, f4, f5⟩ := hB
  refine lv_if_ne (tgt := 9) hx hb dX8_walk_4 (by decide) (fun c_6 => ?_) (fun c_6 => ?_)
  · skip
    have f7 : r_2.toInt ≠ 0 := qi_ne c_6 rfl zc_0
    have f8 : (0 : Int) ≤ p0.toInt := (ox_412 f3 f7)
    have f9 : p0.toInt ≤ (99 : Int) := (ox_413 f3 f7)
    have f10 : r_2.toInt = (1 : Int) := (ox_414 f3 f7)
    have f11 : (1 : Int) ≤ r_2.toInt := (ox_53 f4 f5 f10)
    refine lv_sipush (v := 400) hx hb dX8_walk_9 (by decide) ?_
    refine lv_istore_n (lv' := [(2, .int 400), (0, .ref (r 0)), (1, .int p0)]) hx hb dX8_walk_12 rfl hl (by decide) rfl (fun ls hl => ?_)
    refine lv_aload_n hx hb dX8_walk_13 rfl (lv_at hl 1 rfl) ?_
    refine lv_aload_n hx hb dX8_walk_14 rfl (lv_at hl 1 rfl) ?_
    refine gX_X8_23_0 hx hb hG hown hK hP dX8_walk_15 ?_
    refine gX_X8_99_3 hx hb hG hown hK hP dX8_walk_18 ?_
    refine va_calli (va_runV (As := [.int i_A_houses]) (rest := []) ⟨hx, hb, hml, hown, hG⟩ (kX8_rowsOf l dC dI r ct i_tapeLength i_time i_lyingCount i_rd_fault i_rd_token i_rd_kind i_sc_count i_sc_at i_A_tunes i_A_houses i_fA_length i_B_tunes i_B_houses i_fB_length i_acts_done i_acts_undone i_kn_count f_boxes f_boxKept f_trial f_offers f_A_noteCounts f_A_notes f_B_noteCounts f_B_notes f_now_where f_now_worn f_ahead_where f_ahead_worn f_acts_rows f_kn_tunes f_kn_noteTimes J L i_A_houses H1.size hI) (cwV 1 hG (goodV gw899 gw901 gw31 gw129 gw902) rfl rfl rfl hd_X8_rowsOf ⟨(Nat.le_of_ble_eq_true rfl), (Nat.le_of_ble_eq_true rfl)⟩) ⟨fbR, va_recv hK hP (ci := 7) (q0 := 0) rfl rfl, pR_in hP hK⟩ rfl rfl hl.1 rfl (lv_room (Nat.le_of_ble_eq_true rfl)) dX8_walk_21 ⟨(Nat.le_of_ble_eq_true rfl), (Nat.le_of_ble_eq_true rfl)⟩) hS (fun q hq h => absurd hq (Nat.not_lt.mpr h)) (fun q h => hA q (Nat.le_trans hS.1 h)) (fun r_13 u_ t_ H12 locs ht hvm hw hB hz1 hk1 hS => ?_)
    subst hw
    have hP := wk hP hk1
    refine lv_istore_n (lv' := [(3, .int r_13), (2, .int 400), (0, .ref (r 0)), (1, .int p0)]) hx hb dX8_walk_24 rfl hl (by decide) rfl (fun ls hl => ?_)
    refine lv_iconst (v := 0) hx hb dX8_walk_25 (by decide) ?_
    refine lv_istore (lv' := [(4, .int 0), (3, .int r_13), (2, .int 400), (0, .ref (r 0)), (1, .int p0)]) hx hb dX8_walk_26 hl (by decide) rfl (fun ls hl => ?_)
    have L28 : ∀ (N28 : Nat) (y28_2 y28_4 : Int32) (m28_i_lyingCount : Int32) (m28_f_trial : Nat → Int32) (m28_J : Nat → Nat → Int32) (H28 : Heap) (locs : List Loc) (ls : Array Slot) (g28_0 : y28_2.toInt ≤ (400 : Int)) (g28_1 : (0 : Int) ≤ y28_4.toInt) (g28_2 : y28_4.toInt ≤ (2147483647 : Int)) (g28_3 : (0 : Int) ≤ m28_i_lyingCount.toInt) (g28_4 : m28_i_lyingCount.toInt ≤ (4 : Int)) (gi28_i_lyingCount_lo : (0 : Int) ≤ m28_i_lyingCount.toInt) (gi28_i_lyingCount_hi : m28_i_lyingCount.toInt ≤ (4 : Int)) (hP : va_P (dC, dI) vwCl (WX r ct i_tapeLength i_time m28_i_lyingCount i_rd_fault i_rd_token i_rd_kind i_sc_count i_sc_at i_A_tunes i_A_houses i_fA_length i_B_tunes i_B_houses i_fB_length i_acts_done i_acts_undone i_kn_count f_boxes f_boxKept m28_f_trial f_offers f_A_noteCounts f_A_notes f_B_noteCounts f_B_notes f_now_where f_now_worn f_ahead_where f_ahead_worn f_acts_rows f_kn_tunes f_kn_noteTimes m28_J L) H28) (hD : va_D A (WX r ct i_tapeLength i_time m28_i_lyingCount i_rd_fault i_rd_token i_rd_kind i_sc_count i_sc_at i_A_tunes i_A_houses i_fA_length i_B_tunes i_B_houses i_fB_length i_acts_done i_acts_undone i_kn_count f_boxes f_boxKept m28_f_trial f_offers f_A_noteCounts f_A_notes f_B_noteCounts f_B_notes f_now_where f_now_worn f_ahead_where f_ahead_worn f_acts_rows f_kn_tunes f_kn_noteTimes m28_J L)) (hS : va_S A s.heap H28 locs) (hl : lv_has ls 6 [(0, .ref (r 0)), (1, .int p0), (2, .int y28_2), (3, .int r_13), (4, .int y28_4)]) (hM : -1 * y28_4.toInt + 2147483647 < (N28 : Int)), W p l e { frames := 6, cells := 0, slots := 0, locals := 222 } s m ([.ref (r 0), .int p0] : List Value).toArray below meth c0 H28 locs 0 0 Q (F0 m 28 ls []) := by
      intro N28
      induction N28 with
      | zero =>
        intro y28_2 y28_4 m28_i_lyingCount m28_f_trial m28_J H28 locs ls g28_0 g28_1 g28_2 g28_3 g28_4 gi28_i_lyingCount_lo gi28_i_lyingCount_hi hP hD hS hl hM
        exact ((ox_381 hM g28_1 g28_2)).elim
      | succ N28 ih28 =>
        intro y28_2 y28_4 m28_i_lyingCount m28_f_trial m28_J H28 locs ls g28_0 g28_1 g28_2 g28_3 g28_4 gi28_i_lyingCount_lo gi28_i_lyingCount_hi hP hD hS hl hM
        have hM28 := msucc hM
        refine lv_iload hx hb dX8_walk_28 (lv_at hl 4 rfl) ?_
        refine lv_iload_n hx hb dX8_walk_30 rfl (lv_at hl 3 rfl) ?_
        refine lv_icmp_ge (tgt := 86) hx hb dX8_walk_31 (by decide) (fun c_14 => ?_) (fun c_14 => ?_)
        · skip
          have f15 : r_13.toInt ≤ y28_4.toInt := qi_le c_14 rfl rfl
          refine lv_iload_n hx hb dX8_walk_86 rfl (lv_at hl 2 rfl) ?_
          rw [hQ]
          exact W.iret (v := y28_2) hx hb hr (fun t ht hW => ⟨⟨y28_2, y28_2, rfl, rfl, ⟨m28_i_lyingCount, m28_f_trial, m28_J, by rw [ht]; exact hP, hD, ⟨ie0, ie1, ie2, ie3, gi28_i_lyingCount_lo, gi28_i_lyingCount_hi, ie6, ie7, ie8, ie9, ie10, ie11, ie12, ie13, ie14, ie15, ie16, ie17, ie18, ie19, ie20, ie21, ie22, ie23, ie24, ie25, ie26, ie27, ie28, ie29, ie30, ie31, ie32, ie33, ie34, ie35, ie36, ie37, ie38, ie39⟩⟩⟩, hS.F ht⟩) hS.2.2 dX8_walk_87
        · skip
          have f16 : y28_4.toInt < r_13.toInt := qi_nle c_14 rfl rfl
          refine lv_aload_n hx hb dX8_walk_34 rfl (lv_at hl 0 rfl) ?_
          refine lv_iload hx hb dX8_walk_35 (lv_at hl 4 rfl) ?_
          refine lv_aload_n hx hb dX8_walk_37 rfl (lv_at hl 0 rfl) ?_
          refine gX_X8_23_0 hx hb hG hown hK hP dX8_walk_38 ?_
          refine gX_X8_99_3 hx hb hG hown hK hP dX8_walk_41 ?_
          have hFc := frA hD hS hA
          refine va_callv (va_runV (As := [.int y28_4, .int i_A_houses]) (rest := []) ⟨hx, hb, hml, hown, hG⟩ (kX8_spread_v1 l dC dI r ct i_tapeLength i_time m28_i_lyingCount i_rd_fault i_rd_token i_rd_kind i_sc_count i_sc_at i_A_tunes i_A_houses i_fA_length i_B_tunes i_B_houses i_fB_length i_acts_done i_acts_undone i_kn_count f_boxes f_boxKept m28_f_trial f_offers f_A_noteCounts f_A_notes f_B_noteCounts f_B_notes f_now_where f_now_worn f_ahead_where f_ahead_worn f_acts_rows f_kn_tunes f_kn_noteTimes m28_J L y28_4 i_A_houses H28.size ⟨ie0, ie1, ie2, ie3, gi28_i_lyingCount_lo, gi28_i_lyingCount_hi, ie6, ie7, ie8, ie9, ie10, ie11, ie12, ie13, ie14, ie15, ie16, ie17, ie18, ie19, ie20, ie21, ie22, ie23, ie24, ie25, ie26, ie27, ie28, ie29, ie30, ie31, ie32, ie33, ie34, ie35, ie36, ie37, ie38, ie39⟩ (ox_6 g28_1) (ox_104 ie14 ie15)) (cwV 2 hG (goodV gw903 gw905 gw32 gw129 gw906) rfl rfl rfl hd_X8_spread ⟨(Nat.le_of_ble_eq_true rfl), (Nat.le_of_ble_eq_true rfl)⟩) ⟨fbW, va_recv hK hP (ci := 7) (q0 := 0) rfl rfl, pW_in hP hK hD⟩ rfl rfl hl.1 rfl (lv_room (Nat.le_of_ble_eq_true rfl)) dX8_walk_44 ⟨(Nat.le_of_ble_eq_true rfl), (Nat.le_of_ble_eq_true rfl)⟩) hS (fun q _ h => hFc q h) hFc (fun _ t_ H17 locs ht hvm hw hB hz1 hk1 hS => ?_)
          obtain ⟨z19, hP1, hD1, hI21, f20⟩ := hB
          rw [ht] at hP1
          have hP := hP1
          have hD := dW hFc hD1
          obtain ⟨im22, im23, im24, im25, im26, im27, im28, im29, im30, im31, im32, im33, im34, im35, im36, im37, im38, im39, im40, im41, im42, im43, im44, im45, im46, im47, im48, im49, im50, im51, im52, im53, im54, im55, im56, im57, im58, im59, im60, im61⟩ := id hI21
          refine lv_aload_n hx hb dX8_walk_47 rfl (lv_at hl 0 rfl) ?_
          refine va_calli (va_runV (As := []) (rest := []) ⟨hx, hb, hml, hown, hG⟩ (kX8_trialIsOrder l dC dI r ct i_tapeLength i_time m28_i_lyingCount i_rd_fault i_rd_token i_rd_kind i_sc_count i_sc_at i_A_tunes i_A_houses i_fA_length i_B_tunes i_B_houses i_fB_length i_acts_done i_acts_undone i_kn_count f_boxes f_boxKept z19 f_offers f_A_noteCounts f_A_notes f_B_noteCounts f_B_notes f_now_where f_now_worn f_ahead_where f_ahead_worn f_acts_rows f_kn_tunes f_kn_noteTimes m28_J L H17.size hI21) (cwV 0 hG (goodV gw929 gw931 gw36 gw129 gw932) rfl rfl rfl hd_X8_trialIsOrder ⟨(Nat.le_of_ble_eq_true rfl), (Nat.le_of_ble_eq_true rfl)⟩) ⟨fbR, va_recv hK hP (ci := 7) (q0 := 0) rfl rfl, pR_in hP hK⟩ rfl rfl hl.1 rfl (lv_room (Nat.le_of_ble_eq_true rfl)) dX8_walk_48 ⟨(Nat.le_of_ble_eq_true rfl), (Nat.le_of_ble_eq_true rfl)⟩) hS (fun q hq h => absurd hq (Nat.not_lt.mpr h)) (fun q h => hA q (Nat.le_trans hS.1 h)) (fun r_63 u_ t_ H62 locs ht hvm hw hB hz1 hk1 hS => ?_)
          subst hw
          have hP := wk hP hk1
          obtain ⟨f64, f65, f66⟩ := hB
          refine lv_if_eq (tgt := 62) hx hb dX8_walk_51 (by decide) (fun c_67 => ?_) (fun c_67 => ?_)
          · skip
            have f68 : r_63.toInt = 0 := qi_eq c_67 rfl zc_0
            have f69 : r_63.toInt = (0 : Int) := (ox_92 f65 f66 f68)
            refine lv_sipush (v := 400) hx hb dX8_walk_62 (by decide) ?_
            refine lv_istore (lv' := [(5, .int 400), (0, .ref (r 0)), (1, .int p0), (2, .int y28_2), (3, .int r_13), (4, .int y28_4)]) hx hb dX8_walk_65 hl (by decide) rfl (fun ls hl => ?_)
            refine lv_iload hx hb dX8_walk_67 (lv_at hl 0 rfl) ?_
            refine lv_iload_n hx hb dX8_walk_69 rfl (lv_at hl 3 rfl) ?_
            refine lv_icmp_ge (tgt := 80) hx hb dX8_walk_70 (by decide) (fun c_70 => ?_) (fun c_70 => ((ox_415 (qi_nle c_70 rfl zc_400) g28_0)).elim)
            have f71 : y28_2.toInt ≤ 400 := qi_le c_70 rfl zc_400
            obtain ⟨x72, ex72⟩ : ∃ y : Int32, y = y28_4 + Int32.ofInt 1 := ⟨_, rfl⟩
            have f73 : (-2147483648) ≤ r_13.toInt ∧ r_13.toInt ≤ 2147483647 := i32_rg _
            have f74 : (-2147483648) ≤ y28_4.toInt ∧ y28_4.toInt ≤ 2147483647 := i32_rg _
            have f75 : x72.toInt = y28_4.toInt + 1 := (ox_13 (qi_add ex72 rfl (by decide) (ox_11 g28_1) (ox_384 f16 f73)))
            refine lv_iinc (v := x72) (lv' := [(4, .int x72), (5, .int 400), (0, .ref (r 0)), (1, .int p0), (2, .int y28_2), (3, .int r_13)]) hx hb dX8_walk_80 hl (k := 5) rfl ex72.symm (by decide) rfl (fun ls hl => ?_)
            refine lv_goto (tgt := 28) hx hb dX8_walk_83 (by decide) ?_
            exact ih28 y28_2 x72 m28_i_lyingCount z19 m28_J H62 _ _ (ox_416 g28_0 f71) (ox_14 g28_1 f75) (ox_386 f16 f73 f75) (ox_6 g28_3) (ox_390 g28_4) gi28_i_lyingCount_lo gi28_i_lyingCount_hi hP hD hS (lv_sub hl [2, 3, 4, 5, 0] rfl) (ox_387 hM28 f75)
          · skip
            have f76 : r_63.toInt ≠ 0 := qi_ne c_67 rfl zc_0
            have f77 : r_63.toInt = (1 : Int) := (ox_91 f64 f76)
            have f78 : (1 : Int) ≤ r_63.toInt := (ox_53 f65 f66 f77)
            refine lv_aload_n hx hb dX8_walk_54 rfl (lv_at hl 0 rfl) ?_
            refine lv_iload_n hx hb dX8_walk_55 rfl (lv_at hl 1 rfl) ?_
            refine va_calli (va_runV (As := [.int p0]) (rest := []) ⟨hx, hb, hml, hown, hG⟩ (kX8_wayFrom l dC dI r ct i_tapeLength i_time m28_i_lyingCount i_rd_fault i_rd_token i_rd_kind i_sc_count i_sc_at i_A_tunes i_A_houses i_fA_length i_B_tunes i_B_houses i_fB_length i_acts_done i_acts_undone i_kn_count f_boxes f_boxKept z19 f_offers f_A_noteCounts f_A_notes f_B_noteCounts f_B_notes f_now_where f_now_worn f_ahead_where f_ahead_worn f_acts_rows f_kn_tunes f_kn_noteTimes m28_J L p0 H62.size hI21 f20) (cwV 1 hG (goodV gw933 gw935 gw37 gw129 gw936) rfl rfl rfl hd_X8_wayFrom ⟨(Nat.le_of_ble_eq_true rfl), (Nat.le_of_ble_eq_true rfl)⟩) ⟨fbR, va_recv hK hP (ci := 7) (q0 := 0) rfl rfl, pR_in hP hK⟩ rfl rfl hl.1 rfl (lv_room (Nat.le_of_ble_eq_true rfl)) dX8_walk_56 ⟨(Nat.le_of_ble_eq_true rfl), (Nat.le_of_ble_eq_true rfl)⟩) hS (fun q hq h => absurd hq (Nat.not_lt.mpr h)) (fun q h => hA q (Nat.le_trans hS.1 h)) (fun r_80 u_ t_ H79 locs ht hvm hw hB hz1 hk1 hS => ?_)
            subst hw
            have hP := wk hP hk1
            refine lv_goto (tgt := 65) hx hb dX8_walk_59 (by decide) ?_
            refine lv_istore (lv' := [(5, .int r_80), (0, .ref (r 0)), (1, .int p0), (2, .int y28_2), (3, .int r_13), (4, .int y28_4)]) hx hb dX8_walk_65 hl (by decide) rfl (fun ls hl => ?_)
            refine lv_iload hx hb dX8_walk_67 (lv_at hl 0 rfl) ?_
            refine lv_iload_n hx hb dX8_walk_69 rfl (lv_at hl 3 rfl) ?_
            refine lv_icmp_ge (tgt := 80) hx hb dX8_walk_70 (by decide) (fun c_81 => ?_) (fun c_81 => ?_)
            · skip
              have f82 : y28_2.toInt ≤ r_80.toInt := qi_le c_81 rfl rfl
              obtain ⟨x83, ex83⟩ : ∃ y : Int32, y = y28_4 + Int32.ofInt 1 := ⟨_, rfl⟩
              have f84 : (-2147483648) ≤ r_13.toInt ∧ r_13.toInt ≤ 2147483647 := i32_rg _
              have f85 : (-2147483648) ≤ y28_4.toInt ∧ y28_4.toInt ≤ 2147483647 := i32_rg _
              have f86 : x83.toInt = y28_4.toInt + 1 := (ox_13 (qi_add ex83 rfl (by decide) (ox_11 g28_1) (ox_384 f16 f84)))
              refine lv_iinc (v := x83) (lv' := [(4, .int x83), (5, .int r_80), (0, .ref (r 0)), (1, .int p0), (2, .int y28_2), (3, .int r_13)]) hx hb dX8_walk_80 hl (k := 5) rfl ex83.symm (by decide) rfl (fun ls hl => ?_)
              refine lv_goto (tgt := 28) hx hb dX8_walk_83 (by decide) ?_
              exact ih28 y28_2 x83 m28_i_lyingCount z19 m28_J H79 _ _ (ox_417 g28_0 f82) (ox_14 g28_1 f86) (ox_386 f16 f84 f86) (ox_6 g28_3) (ox_390 g28_4) gi28_i_lyingCount_lo gi28_i_lyingCount_hi hP hD hS (lv_sub hl [2, 3, 4, 5, 0] rfl) (ox_387 hM28 f86)
            · skip
              have f87 : r_80.toInt < y28_2.toInt := qi_nle c_81 rfl rfl
              refine lv_iload hx hb dX8_walk_73 (lv_at hl 0 rfl) ?_
              refine lv_istore_n (lv' := [(2, .int r_80), (5, .int r_80), (0, .ref (r 0)), (1, .int p0), (3, .int r_13), (4, .int y28_4)]) hx hb dX8_walk_75 rfl hl (by decide) rfl (fun ls hl => ?_)
              refine lv_aload_n hx hb dX8_walk_76 rfl (lv_at hl 2 rfl) ?_
              have hFc := frA hD hS hA
              refine va_callv (va_runV (As := []) (rest := []) ⟨hx, hb, hml, hown, hG⟩ (kX8_layTrial l dC dI r ct i_tapeLength i_time m28_i_lyingCount i_rd_fault i_rd_token i_rd_kind i_sc_count i_sc_at i_A_tunes i_A_houses i_fA_length i_B_tunes i_B_houses i_fB_length i_acts_done i_acts_undone i_kn_count f_boxes f_boxKept z19 f_offers f_A_noteCounts f_A_notes f_B_noteCounts f_B_notes f_now_where f_now_worn f_ahead_where f_ahead_worn f_acts_rows f_kn_tunes f_kn_noteTimes m28_J L H79.size hI21) (cwV 0 hG (goodV gw918 gw920 gw35 gw129 gw921) rfl rfl rfl hd_X8_layTrial ⟨(Nat.le_of_ble_eq_true rfl), (Nat.le_of_ble_eq_true rfl)⟩) ⟨fbW, va_recv hK hP (ci := 7) (q0 := 0) rfl rfl, pW_in hP hK hD⟩ rfl rfl hl.1 rfl (lv_room (Nat.le_of_ble_eq_true rfl)) dX8_walk_77 ⟨(Nat.le_of_ble_eq_true rfl), (Nat.le_of_ble_eq_true rfl)⟩) hS (fun q _ h => hFc q h) hFc (fun _ t_ H88 locs ht hvm hw hB hz1 hk1 hS => ?_)
              obtain ⟨x90, J91, hP1, hD1, hI92⟩ := hB
              rw [ht] at hP1
              have hP := hP1
              have hD := dW hFc hD1
              obtain ⟨im93, im94, im95, im96, im97, im98, im99, im100, im101, im102, im103, im104, im105, im106, im107, im108, im109, im110, im111, im112, im113, im114, im115, im116, im117, im118, im119, im120, im121, im122, im123, im124, im125, im126, im127, im128, im129, im130, im131, im132⟩ := id hI92
              obtain ⟨x133, ex133⟩ : ∃ y : Int32, y = y28_4 + Int32.ofInt 1 := ⟨_, rfl⟩
              have f134 : (-2147483648) ≤ r_13.toInt ∧ r_13.toInt ≤ 2147483647 := i32_rg _
              have f135 : (-2147483648) ≤ y28_4.toInt ∧ y28_4.toInt ≤ 2147483647 := i32_rg _
              have f136 : x133.toInt = y28_4.toInt + 1 := (ox_13 (qi_add ex133 rfl (by decide) (ox_11 g28_1) (ox_384 f16 f134)))
              refine lv_iinc (v := x133) (lv' := [(4, .int x133), (2, .int r_80), (5, .int r_80), (0, .ref (r 0)), (1, .int p0), (3, .int r_13)]) hx hb dX8_walk_80 hl (k := 5) rfl ex133.symm (by decide) rfl (fun ls hl => ?_)
              refine lv_goto (tgt := 28) hx hb dX8_walk_83 (by decide) ?_
              exact ih28 r_80 x133 x90 z19 J91 H88 _ _ (ox_418 g28_0 f87) (ox_14 g28_1 f136) (ox_386 f16 f134 f136) (ox_103 im97 im98) (ox_104 im97 im98) im97 im98 hP hD hS (lv_sub hl [3, 4, 1, 5, 0] rfl) (ox_387 hM28 f136)
    exact L28 (-1 * (0 : Int32).toInt + 2147483647 + 1).toNat 400 0 i_lyingCount f_trial J H12 _ _ (ox_419 zc_400) (ox_27 zc_0) (ox_396 zc_0) (ox_103 ie4 ie5) (ox_104 ie4 ie5) ie4 ie5 hP hD hS (lv_sub hl [3, 4, 2, 1, 0] rfl) (mlt (ox_397 zc_0))
  · skip
    have f137 : r_2.toInt = 0 := qi_eq c_6 rfl zc_0
    refine lv_iconst (v := (-1)) hx hb dX8_walk_7 (by decide) ?_
    rw [hQ]
    exact W.iret (v := (-1)) hx hb hr (fun t ht hW => ⟨⟨(-1), (-1), rfl, rfl, ⟨i_lyingCount, f_trial, J, by rw [ht]; exact hP, hD, hI⟩⟩, hS.F ht⟩) hS.2.2 dX8_walk_8
set_option maxHeartbeats 4000000 in
set_option maxRecDepth 100000 in
theorem kX8_rateAll (l : Launch) (dC : Nat → ClassId) (dI : Nat → Nat → Nat) (r : Nat → Nat) (ct : Nat → ClassId) (i_tapeLength i_time i_lyingCount i_rd_fault i_rd_token i_rd_kind i_sc_count i_sc_at i_A_tunes i_A_houses i_fA_length i_B_tunes i_B_houses i_fB_length i_acts_done i_acts_undone i_kn_count : Int32) (f_boxes f_boxKept f_trial f_offers f_A_noteCounts f_A_notes f_B_noteCounts f_B_notes f_now_where f_now_worn f_ahead_where f_ahead_worn f_acts_rows f_kn_tunes f_kn_noteTimes : Nat → Int32) (J : Nat → Nat → Int32) (L : Nat → Nat → Int64) (sz : Nat) (hI : (IX i_tapeLength i_time i_lyingCount i_rd_token i_sc_count i_sc_at i_A_tunes i_A_houses i_fA_length i_B_tunes i_B_houses i_fB_length i_acts_done i_acts_undone i_kn_count f_boxes f_A_noteCounts f_A_notes f_B_noteCounts f_B_notes f_now_worn f_ahead_worn f_acts_rows f_kn_tunes)) : Met l yX8_rateAll (.code yX8_rateAll cX8_rateAll 3 none :: GW) { frames := 12, cells := 0, slots := 0, locals := 428 } (va_Pc [.ref (r 0)] (pW (dC, dI) (WX r ct i_tapeLength i_time i_lyingCount i_rd_fault i_rd_token i_rd_kind i_sc_count i_sc_at i_A_tunes i_A_houses i_fA_length i_B_tunes i_B_houses i_fB_length i_acts_done i_acts_undone i_kn_count f_boxes f_boxKept f_trial f_offers f_A_noteCounts f_A_notes f_B_noteCounts f_B_notes f_now_where f_now_worn f_ahead_where f_ahead_worn f_acts_rows f_kn_tunes f_kn_noteTimes J L) (TX ct) sz)) (va_Qv (fun _ : Unit => True) (fun (_ : Unit) (t : State) => ∃ (n_J : Nat → Nat → Int32), va_P (dC, dI) vwCl (WX r ct i_tapeLength i_time i_lyingCount i_rd_fault i_rd_token i_rd_kind i_sc_count i_sc_at i_A_tunes i_A_houses i_fA_length i_B_tunes i_B_houses i_fB_length i_acts_done i_acts_undone i_kn_count f_boxes f_boxKept f_trial f_offers f_A_noteCounts f_A_notes f_B_noteCounts f_B_notes f_now_where f_now_worn f_ahead_where f_ahead_worn f_acts_rows f_kn_tunes f_kn_noteTimes n_J L) t.heap ∧ va_D (va_A (WX r ct i_tapeLength i_time i_lyingCount i_rd_fault i_rd_token i_rd_kind i_sc_count i_sc_at i_A_tunes i_A_houses i_fA_length i_B_tunes i_B_houses i_fB_length i_acts_done i_acts_undone i_kn_count f_boxes f_boxKept f_trial f_offers f_A_noteCounts f_A_notes f_B_noteCounts f_B_notes f_now_where f_now_worn f_ahead_where f_ahead_worn f_acts_rows f_kn_tunes f_kn_noteTimes J L) sz) (WX r ct i_tapeLength i_time i_lyingCount i_rd_fault i_rd_token i_rd_kind i_sc_count i_sc_at i_A_tunes i_A_houses i_fA_length i_B_tunes i_B_houses i_fB_length i_acts_done i_acts_undone i_kn_count f_boxes f_boxKept f_trial f_offers f_A_noteCounts f_A_notes f_B_noteCounts f_B_notes f_now_where f_now_worn f_ahead_where f_ahead_worn f_acts_rows f_kn_tunes f_kn_noteTimes n_J L) ∧ (IX i_tapeLength i_time i_lyingCount i_rd_token i_sc_count i_sc_at i_A_tunes i_A_houses i_fA_length i_B_tunes i_B_houses i_fB_length i_acts_done i_acts_undone i_kn_count f_boxes f_A_noteCounts f_A_notes f_B_noteCounts f_B_notes f_now_worn f_ahead_worn f_acts_rows f_kn_tunes)) (va_A (WX r ct i_tapeLength i_time i_lyingCount i_rd_fault i_rd_token i_rd_kind i_sc_count i_sc_at i_A_tunes i_A_houses i_fA_length i_B_tunes i_B_houses i_fB_length i_acts_done i_acts_undone i_kn_count f_boxes f_boxKept f_trial f_offers f_A_noteCounts f_A_notes f_B_noteCounts f_B_notes f_now_where f_now_worn f_ahead_where f_ahead_worn f_acts_rows f_kn_tunes f_kn_noteTimes J L) sz)) 0 0 (va_A (WX r ct i_tapeLength i_time i_lyingCount i_rd_fault i_rd_token i_rd_kind i_sc_count i_sc_at i_A_tunes i_A_houses i_fA_length i_B_tunes i_B_houses i_fB_length i_acts_done i_acts_undone i_kn_count f_boxes f_boxKept f_trial f_offers f_A_noteCounts f_A_notes f_B_noteCounts f_B_notes f_now_where f_now_worn f_ahead_where f_ahead_worn f_acts_rows f_kn_tunes f_kn_noteTimes J L) sz) := by
  refine Met.ofW (cc := cX8_rateAll) (maxL := 3) (ret := none) (by decide) rfl ?_
  intro p e s m args below meth c0 s₁ B hml hv
  obtain ⟨rfl, hsz, hP, hK, hD0⟩ := hv
  have hx := B.exec
  have hb := B.bytes
  have hr := B.returns
  have hts := atoms_spec (ws := .code yX8_rateAll cX8_rateAll 3 none :: GW) B.pre
  have hG : ∀ w ∈ GW, w.before _ s = true := fun w h => hts w (List.mem_cons_of_mem _ h)
  have hown : s.vm.findClass RX8 = some m.cls := findClass_of_methodNamed B.named
  subst hsz
  have hD := hD0.self (sz := s.heap.size)
  generalize hAe : va_A (WX r ct i_tapeLength i_time i_lyingCount i_rd_fault i_rd_token i_rd_kind i_sc_count i_sc_at i_A_tunes i_A_houses i_fA_length i_B_tunes i_B_houses i_fB_length i_acts_done i_acts_undone i_kn_count f_boxes f_boxKept f_trial f_offers f_A_noteCounts f_A_notes f_B_noteCounts f_B_notes f_now_where f_now_worn f_ahead_where f_ahead_worn f_acts_rows f_kn_tunes f_kn_noteTimes J L) s.heap.size = A at hD ⊢
  have hA : ∀ q : Nat, s.heap.size ≤ q → A q := fun q h => by rw [← hAe]; exact Or.inr h
  have hS : va_S A s.heap s.heap [] := va_S.rf
  have hP : va_P (dC, dI) vwCl (WX r ct i_tapeLength i_time i_lyingCount i_rd_fault i_rd_token i_rd_kind i_sc_count i_sc_at i_A_tunes i_A_houses i_fA_length i_B_tunes i_B_houses i_fB_length i_acts_done i_acts_undone i_kn_count f_boxes f_boxKept f_trial f_offers f_A_noteCounts f_A_notes f_B_noteCounts f_B_notes f_now_where f_now_worn f_ahead_where f_ahead_worn f_acts_rows f_kn_tunes f_kn_noteTimes J L) s.heap := hP
  have hl := lv_entry ([.ref (r 0)]) (n := 3) (Nat.le_of_ble_eq_true rfl)
  rw [lg_entry_eq]
  generalize (lg_sl ([.ref (r 0)]) ++ List.replicate (3 - (lg_sl ([.ref (r 0)])).length) Slot.unset).toArray = ls at hl ⊢
  have hl : lv_has ls 3 [(0, .ref (r 0))] := hl
  refine nameQ (fun Q hQ => ?_)
  obtain ⟨ie0, ie1, ie2, ie3, ie4, ie5, ie6, ie7, ie8, ie9, ie10, ie11, ie12, ie13, ie14, ie15, ie16, ie17, ie18, ie19, ie20, ie21, ie22, ie23, ie24, ie25, ie26, ie27, ie28, ie29, ie30, ie31, ie32, ie33, ie34, ie35, ie36, ie37, ie38, ie39⟩ := id hI
  refine lv_iconst (v := 0) hx hb dX8_rateAll_0 (by decide) ?_
  refine lv_istore_n (lv' := [(1, .int 0), (0, .ref (r 0))]) hx hb dX8_rateAll_1 rfl hl (by decide) rfl (fun ls hl => ?_)
  have L2 : ∀ (N2 : Nat) (y2_1 : Int32) (m2_J : Nat → Nat → Int32) (H2 : Heap) (locs : List Loc) (ls : Array Slot) (g2_0 : (0 : Int) ≤ y2_1.toInt) (g2_1 : y2_1.toInt ≤ (4 : Int)) (hP : va_P (dC, dI) vwCl (WX r ct i_tapeLength i_time i_lyingCount i_rd_fault i_rd_token i_rd_kind i_sc_count i_sc_at i_A_tunes i_A_houses i_fA_length i_B_tunes i_B_houses i_fB_length i_acts_done i_acts_undone i_kn_count f_boxes f_boxKept f_trial f_offers f_A_noteCounts f_A_notes f_B_noteCounts f_B_notes f_now_where f_now_worn f_ahead_where f_ahead_worn f_acts_rows f_kn_tunes f_kn_noteTimes m2_J L) H2) (hD : va_D A (WX r ct i_tapeLength i_time i_lyingCount i_rd_fault i_rd_token i_rd_kind i_sc_count i_sc_at i_A_tunes i_A_houses i_fA_length i_B_tunes i_B_houses i_fB_length i_acts_done i_acts_undone i_kn_count f_boxes f_boxKept f_trial f_offers f_A_noteCounts f_A_notes f_B_noteCounts f_B_notes f_now_where f_now_worn f_ahead_where f_ahead_worn f_acts_rows f_kn_tunes f_kn_noteTimes m2_J L)) (hS : va_S A s.heap H2 locs) (hl : lv_has ls 3 [(0, .ref (r 0)), (1, .int y2_1)]) (hM : -1 * y2_1.toInt + 4 < (N2 : Int)), W p l e { frames := 12, cells := 0, slots := 0, locals := 428 } s m ([.ref (r 0)] : List Value).toArray below meth c0 H2 locs 0 0 Q (F0 m 2 ls []) := by
    intro N2
    induction N2 with
    | zero =>
      intro y2_1 m2_J H2 locs ls g2_0 g2_1 hP hD hS hl hM
      exact ((ox_218 hM g2_0 g2_1)).elim
    | succ N2 ih2 =>
      intro y2_1 m2_J H2 locs ls g2_0 g2_1 hP hD hS hl hM
      have hM2 := msucc hM
      refine lv_iload_n hx hb dX8_rateAll_2 rfl (lv_at hl 1 rfl) ?_
      refine lv_aload_n hx hb dX8_rateAll_3 rfl (lv_at hl 0 rfl) ?_
      refine gX_X8_23_0 hx hb hG hown hK hP dX8_rateAll_4 ?_
      refine gX_X8_99_3 hx hb hG hown hK hP dX8_rateAll_7 ?_
      refine lv_icmp_ge (tgt := 54) hx hb dX8_rateAll_10 (by decide) (fun c_1 => ?_) (fun c_1 => ?_)
      · skip
        have f2 : i_A_houses.toInt ≤ y2_1.toInt := qi_le c_1 rfl rfl
        rw [hQ]
        exact W.vret hx hb hr (fun t ht hW => ⟨⟨(), rfl, trivial, ⟨m2_J, by rw [ht]; exact hP, hD, hI⟩⟩, hS.F ht⟩) hS.2.2 dX8_rateAll_54
      · skip
        have f3 : y2_1.toInt < i_A_houses.toInt := qi_nle c_1 rfl rfl
        refine lv_iconst (v := 0) hx hb dX8_rateAll_13 (by decide) ?_
        refine lv_istore_n (lv' := [(2, .int 0), (0, .ref (r 0)), (1, .int y2_1)]) hx hb dX8_rateAll_14 rfl hl (by decide) rfl (fun ls hl => ?_)
        have L15 : ∀ (N15 : Nat) (y15_2 : Int32) (m15_J : Nat → Nat → Int32) (H15 : Heap) (locs : List Loc) (ls : Array Slot) (g15_0 : (0 : Int) ≤ y15_2.toInt) (g15_1 : y15_2.toInt ≤ (5 : Int)) (hP : va_P (dC, dI) vwCl (WX r ct i_tapeLength i_time i_lyingCount i_rd_fault i_rd_token i_rd_kind i_sc_count i_sc_at i_A_tunes i_A_houses i_fA_length i_B_tunes i_B_houses i_fB_length i_acts_done i_acts_undone i_kn_count f_boxes f_boxKept f_trial f_offers f_A_noteCounts f_A_notes f_B_noteCounts f_B_notes f_now_where f_now_worn f_ahead_where f_ahead_worn f_acts_rows f_kn_tunes f_kn_noteTimes m15_J L) H15) (hD : va_D A (WX r ct i_tapeLength i_time i_lyingCount i_rd_fault i_rd_token i_rd_kind i_sc_count i_sc_at i_A_tunes i_A_houses i_fA_length i_B_tunes i_B_houses i_fB_length i_acts_done i_acts_undone i_kn_count f_boxes f_boxKept f_trial f_offers f_A_noteCounts f_A_notes f_B_noteCounts f_B_notes f_now_where f_now_worn f_ahead_where f_ahead_worn f_acts_rows f_kn_tunes f_kn_noteTimes m15_J L)) (hS : va_S A s.heap H15 locs) (hl : lv_has ls 3 [(0, .ref (r 0)), (1, .int y2_1), (2, .int y15_2)]) (hM : -1 * y15_2.toInt + 5 < (N15 : Int)), W p l e { frames := 12, cells := 0, slots := 0, locals := 428 } s m ([.ref (r 0)] : List Value).toArray below meth c0 H15 locs 0 0 Q (F0 m 15 ls []) := by
          intro N15
          induction N15 with
          | zero =>
            intro y15_2 m15_J H15 locs ls g15_0 g15_1 hP hD hS hl hM
            exact ((ox_82 hM g15_0 g15_1)).elim
          | succ N15 ih15 =>
            intro y15_2 m15_J H15 locs ls g15_0 g15_1 hP hD hS hl hM
            have hM15 := msucc hM
            refine lv_iload_n hx hb dX8_rateAll_15 rfl (lv_at hl 2 rfl) ?_
            refine lv_aload_n hx hb dX8_rateAll_16 rfl (lv_at hl 0 rfl) ?_
            refine gX_X8_23_0 hx hb hG hown hK hP dX8_rateAll_17 ?_
            refine gX_X8_108_3 hx hb hG hown hK hP dX8_rateAll_20 ?_
            refine lv_icmp_ge (tgt := 48) hx hb dX8_rateAll_23 (by decide) (fun c_4 => ?_) (fun c_4 => ?_)
            · skip
              have f5 : i_A_tunes.toInt ≤ y15_2.toInt := qi_le c_4 rfl rfl
              obtain ⟨x6, ex6⟩ : ∃ y : Int32, y = y2_1 + Int32.ofInt 1 := ⟨_, rfl⟩
              have f7 : x6.toInt = y2_1.toInt + 1 := (ox_13 (qi_add ex6 rfl (by decide) (ox_11 g2_0) (ox_219 g2_1)))
              refine lv_iinc (v := x6) (lv' := [(1, .int x6), (0, .ref (r 0)), (2, .int y15_2)]) hx hb dX8_rateAll_48 hl (k := 1) rfl ex6.symm (by decide) rfl (fun ls hl => ?_)
              refine lv_goto (tgt := 2) hx hb dX8_rateAll_51 (by decide) ?_
              exact ih2 x6 m15_J H15 _ _ (ox_14 g2_0 f7) (ox_220 ie15 f3 f7) hP hD hS (lv_sub hl [1, 0] rfl) (ox_221 hM2 f7)
            · skip
              have f8 : y15_2.toInt < i_A_tunes.toInt := qi_nle c_4 rfl rfl
              refine lv_aload_n hx hb dX8_rateAll_26 rfl (lv_at hl 0 rfl) ?_
              refine gX_X8_68_0 hx hb hG hown hK hP dX8_rateAll_27 ?_
              refine lv_iload_n hx hb dX8_rateAll_30 rfl (lv_at hl 1 rfl) ?_
              refine lv_iconst (v := 5) hx hb dX8_rateAll_31 (by decide) ?_
              refine lv_imul hx hb dX8_rateAll_32 ?_
              refine lv_topi (fun x9 ex9 => ?_)
              have f10 : x9.toInt = 5 * y2_1.toInt := (ox_422 (qi_mul ex9 rfl zc_5 (ox_420 g2_0) (ox_421 g2_1)))
              refine lv_iload_n hx hb dX8_rateAll_33 rfl (lv_at hl 2 rfl) ?_
              refine lv_iadd hx hb dX8_rateAll_34 ?_
              refine lv_topi (fun x11 ex11 => ?_)
              have f12 : x11.toInt = y15_2.toInt + 5 * y2_1.toInt := (ox_425 (qi_add ex11 rfl rfl (ox_423 g2_0 g15_0 f10) (ox_424 g2_1 g15_1 f10)) f10)
              refine lv_aload_n hx hb dX8_rateAll_35 rfl (lv_at hl 0 rfl) ?_
              refine lv_iload_n hx hb dX8_rateAll_36 rfl (lv_at hl 1 rfl) ?_
              refine lv_iload_n hx hb dX8_rateAll_37 rfl (lv_at hl 2 rfl) ?_
              have hFc := frA hD hS hA
              refine va_calli (va_runV (As := [.int y2_1, .int y15_2]) (rest := [.int x11, .ref (r 17)]) ⟨hx, hb, hml, hown, hG⟩ (kX8_gladNow l dC dI r ct i_tapeLength i_time i_lyingCount i_rd_fault i_rd_token i_rd_kind i_sc_count i_sc_at i_A_tunes i_A_houses i_fA_length i_B_tunes i_B_houses i_fB_length i_acts_done i_acts_undone i_kn_count f_boxes f_boxKept f_trial f_offers f_A_noteCounts f_A_notes f_B_noteCounts f_B_notes f_now_where f_now_worn f_ahead_where f_ahead_worn f_acts_rows f_kn_tunes f_kn_noteTimes m15_J L y2_1 y15_2 H15.size hI (ox_6 g2_0) (ox_223 f3) (ox_6 g15_0) (ox_223 f8)) (cwV 2 hG (goodV gw737 gw739 gw23 gw129 gw740) rfl rfl rfl hd_X8_gladNow ⟨(Nat.le_of_ble_eq_true rfl), (Nat.le_of_ble_eq_true rfl)⟩) ⟨fbW, va_recv hK hP (ci := 7) (q0 := 0) rfl rfl, pW_in hP hK hD⟩ rfl rfl hl.1 rfl (lv_room (Nat.le_of_ble_eq_true rfl)) dX8_rateAll_38 ⟨(Nat.le_of_ble_eq_true rfl), (Nat.le_of_ble_eq_true rfl)⟩) hS (fun q _ h => hFc q h) hFc (fun r_14 u_ t_ H13 locs ht hvm hw hB hz1 hk1 hS => ?_)
              subst hw
              obtain ⟨J15, hP1, hD1, hI16⟩ := hB
              rw [ht] at hP1
              have hP := hP1
              have hD := dW hFc hD1
              obtain ⟨im17, im18, im19, im20, im21, im22, im23, im24, im25, im26, im27, im28, im29, im30, im31, im32, im33, im34, im35, im36, im37, im38, im39, im40, im41, im42, im43, im44, im45, im46, im47, im48, im49, im50, im51, im52, im53, im54, im55, im56⟩ := id hI16
              refine stX_17 (mm := y15_2.toInt + 5 * y2_1.toInt) hx hb hK hP hD hS f12 (ox_426 g2_0 g15_0) (ox_427 ie13 ie15 f3 f8) dX8_rateAll_41 (fun J58 H57 locs hP hD hS => ?_)
              obtain ⟨x59, ex59⟩ : ∃ y : Int32, y = y15_2 + Int32.ofInt 1 := ⟨_, rfl⟩
              have f60 : x59.toInt = y15_2.toInt + 1 := (ox_13 (qi_add ex59 rfl (by decide) (ox_11 g15_0) (ox_87 g15_1)))
              refine lv_iinc (v := x59) (lv' := [(2, .int x59), (0, .ref (r 0)), (1, .int y2_1)]) hx hb dX8_rateAll_42 hl (k := 2) rfl ex59.symm (by decide) rfl (fun ls hl => ?_)
              refine lv_goto (tgt := 15) hx hb dX8_rateAll_45 (by decide) ?_
              exact ih15 x59 J58 H57 _ _ (ox_14 g15_0 f60) (ox_98 ie13 f8 f60) hP hD hS (lv_sub hl [1, 2, 0] rfl) (ox_89 hM15 f60)
        exact L15 (-1 * (0 : Int32).toInt + 5 + 1).toNat 0 m2_J H2 _ _ (ox_27 zc_0) (ox_95 zc_0) hP hD hS (lv_sub hl [1, 2, 0] rfl) (mlt (ox_96 zc_0))
  exact L2 (-1 * (0 : Int32).toInt + 4 + 1).toNat 0 J s.heap _ _ (ox_27 zc_0) (ox_224 zc_0) hP hD hS (lv_sub hl [1, 0] rfl) (mlt (ox_225 zc_0))
