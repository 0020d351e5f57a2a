set_option maxHeartbeats 4000000 in
set_option maxRecDepth 100000 in
theorem kX8_putBytes (l : Launch) (dC : Nat → ClassId) (dI : Nat → Nat → Nat) (r : Nat → Nat) (ct : Nat → ClassId) (i_tapeLength i_time i_lyingCount i_rd_fault i_rd_token i_rd_kind i_sc_count i_sc_at i_A_tunes i_A_houses i_fA_length i_B_tunes i_B_houses i_fB_length i_acts_done i_acts_undone i_kn_count : Int32) (f_boxes f_boxKept f_trial f_offers f_A_noteCounts f_A_notes f_B_noteCounts f_B_notes f_now_where f_now_worn f_ahead_where f_ahead_worn f_acts_rows f_kn_tunes f_kn_noteTimes : Nat → Int32) (J : Nat → Nat → Int32) (L : Nat → Nat → Int64) (p0 : Int32) (sz : Nat) (hI : (IX i_tapeLength i_time i_lyingCount i_rd_token i_sc_count i_sc_at i_A_tunes i_A_houses i_fA_length i_B_tunes i_B_houses i_fB_length i_acts_done i_acts_undone i_kn_count f_boxes f_A_noteCounts f_A_notes f_B_noteCounts f_B_notes f_now_worn f_ahead_worn f_acts_rows f_kn_tunes)) : Met l yX8_putBytes (.code yX8_putBytes cX8_putBytes 3 none :: GW) { frames := 2, cells := 0, slots := 0, locals := 100 } (va_Pc [.ref (r 0), .int p0] (pW (dC, dI) (WX r ct i_tapeLength i_time i_lyingCount i_rd_fault i_rd_token i_rd_kind i_sc_count i_sc_at i_A_tunes i_A_houses i_fA_length i_B_tunes i_B_houses i_fB_length i_acts_done i_acts_undone i_kn_count f_boxes f_boxKept f_trial f_offers f_A_noteCounts f_A_notes f_B_noteCounts f_B_notes f_now_where f_now_worn f_ahead_where f_ahead_worn f_acts_rows f_kn_tunes f_kn_noteTimes J L) (TX ct) sz)) (va_Qv (fun _ : Unit => True) (fun (_ : Unit) (t : State) => ∃ (n_i_tapeLength : Int32) (n_J : Nat → Nat → Int32), va_P (dC, dI) vwCl (WX r ct n_i_tapeLength i_time i_lyingCount i_rd_fault i_rd_token i_rd_kind i_sc_count i_sc_at i_A_tunes i_A_houses i_fA_length i_B_tunes i_B_houses i_fB_length i_acts_done i_acts_undone i_kn_count f_boxes f_boxKept f_trial f_offers f_A_noteCounts f_A_notes f_B_noteCounts f_B_notes f_now_where f_now_worn f_ahead_where f_ahead_worn f_acts_rows f_kn_tunes f_kn_noteTimes n_J L) t.heap ∧ va_D (va_A (WX r ct i_tapeLength i_time i_lyingCount i_rd_fault i_rd_token i_rd_kind i_sc_count i_sc_at i_A_tunes i_A_houses i_fA_length i_B_tunes i_B_houses i_fB_length i_acts_done i_acts_undone i_kn_count f_boxes f_boxKept f_trial f_offers f_A_noteCounts f_A_notes f_B_noteCounts f_B_notes f_now_where f_now_worn f_ahead_where f_ahead_worn f_acts_rows f_kn_tunes f_kn_noteTimes J L) sz) (WX r ct n_i_tapeLength i_time i_lyingCount i_rd_fault i_rd_token i_rd_kind i_sc_count i_sc_at i_A_tunes i_A_houses i_fA_length i_B_tunes i_B_houses i_fB_length i_acts_done i_acts_undone i_kn_count f_boxes f_boxKept f_trial f_offers f_A_noteCounts f_A_notes f_B_noteCounts f_B_notes f_now_where f_now_worn f_ahead_where f_ahead_worn f_acts_rows f_kn_tunes f_kn_noteTimes n_J L) ∧ (IX n_i_tapeLength i_time i_lyingCount i_rd_token i_sc_count i_sc_at i_A_tunes i_A_houses i_fA_length i_B_tunes i_B_houses i_fB_length i_acts_done i_acts_undone i_kn_count f_boxes f_A_noteCounts f_A_notes f_B_noteCounts f_B_notes f_now_worn f_ahead_worn f_acts_rows f_kn_tunes)) (va_A (WX r ct i_tapeLength i_time i_lyingCount i_rd_fault i_rd_token i_rd_kind i_sc_count i_sc_at i_A_tunes i_A_houses i_fA_length i_B_tunes i_B_houses i_fB_length i_acts_done i_acts_undone i_kn_count f_boxes f_boxKept f_trial f_offers f_A_noteCounts f_A_notes f_B_noteCounts f_B_notes f_now_where f_now_worn f_ahead_where f_ahead_worn f_acts_rows f_kn_tunes f_kn_noteTimes J L) sz)) 0 0 (va_A (WX r ct i_tapeLength i_time i_lyingCount i_rd_fault i_rd_token i_rd_kind i_sc_count i_sc_at i_A_tunes i_A_houses i_fA_length i_B_tunes i_B_houses i_fB_length i_acts_done i_acts_undone i_kn_count f_boxes f_boxKept f_trial f_offers f_A_noteCounts f_A_notes f_B_noteCounts f_B_notes f_now_where f_now_worn f_ahead_where f_ahead_worn f_acts_rows f_kn_tunes f_kn_noteTimes J L) sz) := by
  refine Met.ofW (cc := cX8_putBytes) (maxL := 3) (ret := none) (by decide) rfl ?_
  intro p e s m args below meth c0 s₁ B hml hv
  obtain ⟨rfl, hsz, hP, hK, hD0⟩ := hv
  have hx := B.exec
  have hb := B.bytes
  have hr := B.returns
  have hts := atoms_spec (ws := .code yX8_putBytes cX8_putBytes 3 none :: GW) B.pre
  have hG : ∀ w ∈ GW, w.before _ s = true := fun w h => hts w (List.mem_cons_of_mem _ h)
  have hown : s.vm.findClass RX8 = some m.cls := findClass_of_methodNamed B.named
  subst hsz
  have hD := hD0.self (sz := s.heap.size)
  generalize hAe : va_A (WX r ct i_tapeLength i_time i_lyingCount i_rd_fault i_rd_token i_rd_kind i_sc_count i_sc_at i_A_tunes i_A_houses i_fA_length i_B_tunes i_B_houses i_fB_length i_acts_done i_acts_undone i_kn_count f_boxes f_boxKept f_trial f_offers f_A_noteCounts f_A_notes f_B_noteCounts f_B_notes f_now_where f_now_worn f_ahead_where f_ahead_worn f_acts_rows f_kn_tunes f_kn_noteTimes J L) s.heap.size = A at hD ⊢
  have hA : ∀ q : Nat, s.heap.size ≤ q → A q := fun q h => by rw [← hAe]; exact Or.inr h
  have hS : va_S A s.heap s.heap [] := va_S.rf
  have hP : va_P (dC, dI) vwCl (WX r ct i_tapeLength i_time i_lyingCount i_rd_fault i_rd_token i_rd_kind i_sc_count i_sc_at i_A_tunes i_A_houses i_fA_length i_B_tunes i_B_houses i_fB_length i_acts_done i_acts_undone i_kn_count f_boxes f_boxKept f_trial f_offers f_A_noteCounts f_A_notes f_B_noteCounts f_B_notes f_now_where f_now_worn f_ahead_where f_ahead_worn f_acts_rows f_kn_tunes f_kn_noteTimes J L) s.heap := hP
  have hl := lv_entry ([.ref (r 0), .int p0]) (n := 3) (Nat.le_of_ble_eq_true rfl)
  rw [lg_entry_eq]
  generalize (lg_sl ([.ref (r 0), .int p0]) ++ List.replicate (3 - (lg_sl ([.ref (r 0), .int p0])).length) Slot.unset).toArray = ls at hl ⊢
  have hl : lv_has ls 3 [(0, .ref (r 0)), (1, .int p0)] := hl
  refine nameQ (fun Q hQ => ?_)
  obtain ⟨ie0, ie1, ie2, ie3, ie4, ie5, ie6, ie7, ie8, ie9, ie10, ie11, ie12, ie13, ie14, ie15, ie16, ie17, ie18, ie19, ie20, ie21, ie22, ie23, ie24, ie25, ie26, ie27, ie28, ie29, ie30, ie31, ie32, ie33, ie34, ie35, ie36, ie37, ie38, ie39⟩ := id hI
  refine lv_bipush (v := 24) hx hb dX8_putBytes_0 (by decide) ?_
  refine lv_istore_n (lv' := [(2, .int 24), (0, .ref (r 0)), (1, .int p0)]) hx hb dX8_putBytes_2 rfl hl (by decide) rfl (fun ls hl => ?_)
  have L3 : ∀ (N3 : Nat) (y3_2 : Int32) (m3_i_tapeLength : Int32) (m3_J : Nat → Nat → Int32) (H3 : Heap) (locs : List Loc) (ls : Array Slot) (g3_0 : (0 : Int) ≤ y3_2.toInt + 8) (g3_1 : y3_2.toInt ≤ (24 : Int)) (g3_2 : (0 : Int) ≤ m3_i_tapeLength.toInt) (g3_3 : m3_i_tapeLength.toInt ≤ (1600 : Int)) (gi3_i_tapeLength_lo : (0 : Int) ≤ m3_i_tapeLength.toInt) (gi3_i_tapeLength_hi : m3_i_tapeLength.toInt ≤ (1600 : Int)) (hP : va_P (dC, dI) vwCl (WX r ct m3_i_tapeLength i_time i_lyingCount i_rd_fault i_rd_token i_rd_kind i_sc_count i_sc_at i_A_tunes i_A_houses i_fA_length i_B_tunes i_B_houses i_fB_length i_acts_done i_acts_undone i_kn_count f_boxes f_boxKept f_trial f_offers f_A_noteCounts f_A_notes f_B_noteCounts f_B_notes f_now_where f_now_worn f_ahead_where f_ahead_worn f_acts_rows f_kn_tunes f_kn_noteTimes m3_J L) H3) (hD : va_D A (WX r ct m3_i_tapeLength i_time i_lyingCount i_rd_fault i_rd_token i_rd_kind i_sc_count i_sc_at i_A_tunes i_A_houses i_fA_length i_B_tunes i_B_houses i_fB_length i_acts_done i_acts_undone i_kn_count f_boxes f_boxKept f_trial f_offers f_A_noteCounts f_A_notes f_B_noteCounts f_B_notes f_now_where f_now_worn f_ahead_where f_ahead_worn f_acts_rows f_kn_tunes f_kn_noteTimes m3_J L)) (hS : va_S A s.heap H3 locs) (hl : lv_has ls 3 [(0, .ref (r 0)), (1, .int p0), (2, .int y3_2)]) (hM : y3_2.toInt + 8 < (N3 : Int)), W p l e { frames := 2, cells := 0, slots := 0, locals := 100 } s m ([.ref (r 0), .int p0] : List Value).toArray below meth c0 H3 locs 0 0 Q (F0 m 3 ls []) := by
    intro N3
    induction N3 with
    | zero =>
      intro y3_2 m3_i_tapeLength m3_J H3 locs ls g3_0 g3_1 g3_2 g3_3 gi3_i_tapeLength_lo gi3_i_tapeLength_hi hP hD hS hl hM
      exact ((ox_0 hM g3_0 g3_1)).elim
    | succ N3 ih3 =>
      intro y3_2 m3_i_tapeLength m3_J H3 locs ls g3_0 g3_1 g3_2 g3_3 gi3_i_tapeLength_lo gi3_i_tapeLength_hi hP hD hS hl hM
      have hM3 := msucc hM
      refine lv_iload_n hx hb dX8_putBytes_3 rfl (lv_at hl 2 rfl) ?_
      refine lv_if_lt (tgt := 46) hx hb dX8_putBytes_4 (by decide) (fun c_1 => ?_) (fun c_1 => ?_)
      · skip
        have f2 : y3_2.toInt < 0 := qi_lt c_1 rfl zc_0
        rw [hQ]
        exact W.vret hx hb hr (fun t ht hW => ⟨⟨(), rfl, trivial, ⟨m3_i_tapeLength, m3_J, by rw [ht]; exact hP, hD, ⟨gi3_i_tapeLength_lo, gi3_i_tapeLength_hi, ie2, ie3, ie4, ie5, ie6, ie7, ie8, ie9, ie10, ie11, ie12, ie13, ie14, ie15, ie16, ie17, ie18, ie19, ie20, ie21, ie22, ie23, ie24, ie25, ie26, ie27, ie28, ie29, ie30, ie31, ie32, ie33, ie34, ie35, ie36, ie37, ie38, ie39⟩⟩⟩, hS.F ht⟩) hS.2.2 dX8_putBytes_46
      · skip
        have f3 : 0 ≤ y3_2.toInt := qi_nlt c_1 rfl zc_0
        refine lv_aload_n hx hb dX8_putBytes_7 rfl (lv_at hl 0 rfl) ?_
        refine gX_X8_78_0 hx hb hG hown hK hP dX8_putBytes_8 ?_
        refine lv_sipush (v := 1600) hx hb dX8_putBytes_11 (by decide) ?_
        refine lv_icmp_ge (tgt := 40) hx hb dX8_putBytes_14 (by decide) (fun c_4 => ?_) (fun c_4 => ?_)
        · skip
          have f5 : 1600 ≤ m3_i_tapeLength.toInt := qi_le c_4 zc_1600 rfl
          obtain ⟨x6, ex6⟩ : ∃ y : Int32, y = y3_2 + Int32.ofInt (-8) := ⟨_, rfl⟩
          have f7 : x6.toInt = y3_2.toInt + (-8) := (ox_3 (qi_add ex6 rfl (by decide) (ox_1 g3_0) (ox_2 g3_1)))
          refine lv_iinc (v := x6) (lv' := [(2, .int x6), (0, .ref (r 0)), (1, .int p0)]) hx hb dX8_putBytes_40 hl (k := 2) rfl ex6.symm (by decide) rfl (fun ls hl => ?_)
          refine lv_goto (tgt := 3) hx hb dX8_putBytes_43 (by decide) ?_
          exact ih3 x6 m3_i_tapeLength m3_J H3 _ _ (ox_4 f3 f7) (ox_5 g3_1 f7) (ox_6 g3_2) (ox_7 g3_3) gi3_i_tapeLength_lo gi3_i_tapeLength_hi hP hD hS (lv_sub hl [1, 2, 0] rfl) (ox_8 hM3 f7)
        · skip
          have f8 : m3_i_tapeLength.toInt < 1600 := qi_nle c_4 zc_1600 rfl
          refine lv_aload_n hx hb dX8_putBytes_17 rfl (lv_at hl 0 rfl) ?_
          refine gX_X8_9_0 hx hb hG hown hK hP dX8_putBytes_18 ?_
          refine lv_aload_n hx hb dX8_putBytes_21 rfl (lv_at hl 0 rfl) ?_
          refine gX_X8_78_0 hx hb hG hown hK hP dX8_putBytes_22 ?_
          refine lv_iload_n hx hb dX8_putBytes_25 rfl (lv_at hl 1 rfl) ?_
          refine lv_iload_n hx hb dX8_putBytes_26 rfl (lv_at hl 2 rfl) ?_
          refine lv_iushr (v := _) hx hb dX8_putBytes_27 rfl ?_
          refine lv_topi (fun x9 ex9 => ?_)
          refine lv_i2b (v := _) hx hb dX8_putBytes_28 rfl ?_
          refine lv_topi (fun x10 ex10 => ?_)
          refine stX_11 (mm := m3_i_tapeLength.toInt) hx hb hK hP hD hS rfl (ox_9 g3_2) (ox_10 f8) dX8_putBytes_29 (fun J12 H11 locs hP hD hS => ?_)
          refine lv_aload_n hx hb dX8_putBytes_30 rfl (lv_at hl 0 rfl) ?_
          refine lv_dup hx hb dX8_putBytes_31 rfl ?_
          refine gX_X8_78_0 hx hb hG hown hK hP dX8_putBytes_32 ?_
          refine lv_iconst (v := 1) hx hb dX8_putBytes_35 (by decide) ?_
          refine lv_iadd hx hb dX8_putBytes_36 ?_
          refine lv_topi (fun x13 ex13 => ?_)
          have f14 : x13.toInt = m3_i_tapeLength.toInt + 1 := (ox_13 (qi_add ex13 rfl zc_1 (ox_11 g3_2) (ox_12 g3_3)))
          refine pX_X8_78_0 hx hb hG hown hK hP hD hS dX8_putBytes_37 (fun H15 locs hP hD hS => ?_)
          obtain ⟨x16, ex16⟩ : ∃ y : Int32, y = y3_2 + Int32.ofInt (-8) := ⟨_, rfl⟩
          have f17 : x16.toInt = y3_2.toInt + (-8) := (ox_3 (qi_add ex16 rfl (by decide) (ox_1 g3_0) (ox_2 g3_1)))
          refine lv_iinc (v := x16) (lv' := [(2, .int x16), (0, .ref (r 0)), (1, .int p0)]) hx hb dX8_putBytes_40 hl (k := 2) rfl ex16.symm (by decide) rfl (fun ls hl => ?_)
          refine lv_goto (tgt := 3) hx hb dX8_putBytes_43 (by decide) ?_
          exact ih3 x16 x13 J12 H15 _ _ (ox_4 f3 f17) (ox_5 g3_1 f17) (ox_14 g3_2 f14) (ox_15 f8 f14) (ox_14 g3_2 f14) (ox_15 f8 f14) hP hD hS (lv_sub hl [1, 2, 0] rfl) (ox_8 hM3 f17)
  exact L3 ((24 : Int32).toInt + 8 + 1).toNat 24 i_tapeLength J s.heap _ _ (ox_16 zc_24) (ox_17 zc_24) (ox_18 ie0 ie1) (ox_19 ie0 ie1) ie0 ie1 hP hD hS (lv_sub hl [1, 2, 0] rfl) (mlt (ox_20 zc_24))
set_option maxHeartbeats 4000000 in
set_option maxRecDepth 100000 in
theorem kX8_feed (l : Launch) (dC : Nat → ClassId) (dI : Nat → Nat → Nat) (r : Nat → Nat) (ct : Nat → ClassId) (i_tapeLength i_time i_lyingCount i_rd_fault i_rd_token i_rd_kind i_sc_count i_sc_at i_A_tunes i_A_houses i_fA_length i_B_tunes i_B_houses i_fB_length i_acts_done i_acts_undone i_kn_count : Int32) (f_boxes f_boxKept f_trial f_offers f_A_noteCounts f_A_notes f_B_noteCounts f_B_notes f_now_where f_now_worn f_ahead_where f_ahead_worn f_acts_rows f_kn_tunes f_kn_noteTimes : Nat → Int32) (J : Nat → Nat → Int32) (L : Nat → Nat → Int64) (p0 p1 p2 p3 p4 : Int32) (sz : Nat) (hI : (IX i_tapeLength i_time i_lyingCount i_rd_token i_sc_count i_sc_at i_A_tunes i_A_houses i_fA_length i_B_tunes i_B_houses i_fB_length i_acts_done i_acts_undone i_kn_count f_boxes f_A_noteCounts f_A_notes f_B_noteCounts f_B_notes f_now_worn f_ahead_worn f_acts_rows f_kn_tunes)) : Met l yX8_feed (.code yX8_feed cX8_feed 6 (some .int) :: GW) { frames := 4, cells := 0, slots := 0, locals := 162 } (va_Pc [.ref (r 0), .int p0, .int p1, .int p2, .int p3, .int p4] (pW (dC, dI) (WX r ct i_tapeLength i_time i_lyingCount i_rd_fault i_rd_token i_rd_kind i_sc_count i_sc_at i_A_tunes i_A_houses i_fA_length i_B_tunes i_B_houses i_fB_length i_acts_done i_acts_undone i_kn_count f_boxes f_boxKept f_trial f_offers f_A_noteCounts f_A_notes f_B_noteCounts f_B_notes f_now_where f_now_worn f_ahead_where f_ahead_worn f_acts_rows f_kn_tunes f_kn_noteTimes J L) (TX ct) sz)) (va_Qi (fun (r0 : Int32) (u : Int32) => r0 = u) (fun (u : Int32) (t : State) => ∃ (n_i_tapeLength : Int32) (n_J : Nat → Nat → Int32), va_P (dC, dI) vwCl (WX r ct n_i_tapeLength i_time i_lyingCount i_rd_fault i_rd_token i_rd_kind i_sc_count i_sc_at i_A_tunes i_A_houses i_fA_length i_B_tunes i_B_houses i_fB_length i_acts_done i_acts_undone i_kn_count f_boxes f_boxKept f_trial f_offers f_A_noteCounts f_A_notes f_B_noteCounts f_B_notes f_now_where f_now_worn f_ahead_where f_ahead_worn f_acts_rows f_kn_tunes f_kn_noteTimes n_J L) t.heap ∧ va_D (va_A (WX r ct i_tapeLength i_time i_lyingCount i_rd_fault i_rd_token i_rd_kind i_sc_count i_sc_at i_A_tunes i_A_houses i_fA_length i_B_tunes i_B_houses i_fB_length i_acts_done i_acts_undone i_kn_count f_boxes f_boxKept f_trial f_offers f_A_noteCounts f_A_notes f_B_noteCounts f_B_notes f_now_where f_now_worn f_ahead_where f_ahead_worn f_acts_rows f_kn_tunes f_kn_noteTimes J L) sz) (WX r ct n_i_tapeLength i_time i_lyingCount i_rd_fault i_rd_token i_rd_kind i_sc_count i_sc_at i_A_tunes i_A_houses i_fA_length i_B_tunes i_B_houses i_fB_length i_acts_done i_acts_undone i_kn_count f_boxes f_boxKept f_trial f_offers f_A_noteCounts f_A_notes f_B_noteCounts f_B_notes f_now_where f_now_worn f_ahead_where f_ahead_worn f_acts_rows f_kn_tunes f_kn_noteTimes n_J L) ∧ (IX n_i_tapeLength i_time i_lyingCount i_rd_token i_sc_count i_sc_at i_A_tunes i_A_houses i_fA_length i_B_tunes i_B_houses i_fB_length i_acts_done i_acts_undone i_kn_count f_boxes f_A_noteCounts f_A_notes f_B_noteCounts f_B_notes f_now_worn f_ahead_worn f_acts_rows f_kn_tunes)) (va_A (WX r ct i_tapeLength i_time i_lyingCount i_rd_fault i_rd_token i_rd_kind i_sc_count i_sc_at i_A_tunes i_A_houses i_fA_length i_B_tunes i_B_houses i_fB_length i_acts_done i_acts_undone i_kn_count f_boxes f_boxKept f_trial f_offers f_A_noteCounts f_A_notes f_B_noteCounts f_B_notes f_now_where f_now_worn f_ahead_where f_ahead_worn f_acts_rows f_kn_tunes f_kn_noteTimes J L) sz)) 0 0 (va_A (WX r ct i_tapeLength i_time i_lyingCount i_rd_fault i_rd_token i_rd_kind i_sc_count i_sc_at i_A_tunes i_A_houses i_fA_length i_B_tunes i_B_houses i_fB_length i_acts_done i_acts_undone i_kn_count f_boxes f_boxKept f_trial f_offers f_A_noteCounts f_A_notes f_B_noteCounts f_B_notes f_now_where f_now_worn f_ahead_where f_ahead_worn f_acts_rows f_kn_tunes f_kn_noteTimes J L) sz) := by
  refine Met.ofW (cc := cX8_feed) (maxL := 6) (ret := (some .int)) (by decide) rfl ?_
  intro p e s m args below meth c0 s₁ B hml hv
  obtain ⟨rfl, hsz, hP, hK, hD0⟩ := hv
  have hx := B.exec
  have hb := B.bytes
  have hr := B.returns
  have hts := atoms_spec (ws := .code yX8_feed cX8_feed 6 (some .int) :: GW) B.pre
  have hG : ∀ w ∈ GW, w.before _ s = true := fun w h => hts w (List.mem_cons_of_mem _ h)
  have hown : s.vm.findClass RX8 = some m.cls := findClass_of_methodNamed B.named
  subst hsz
  have hD := hD0.self (sz := s.heap.size)
  generalize hAe : va_A (WX r ct i_tapeLength i_time i_lyingCount i_rd_fault i_rd_token i_rd_kind i_sc_count i_sc_at i_A_tunes i_A_houses i_fA_length i_B_tunes i_B_houses i_fB_length i_acts_done i_acts_undone i_kn_count f_boxes f_boxKept f_trial f_offers f_A_noteCounts f_A_notes f_B_noteCounts f_B_notes f_now_where f_now_worn f_ahead_where f_ahead_worn f_acts_rows f_kn_tunes f_kn_noteTimes J L) s.heap.size = A at hD ⊢
  have hA : ∀ q : Nat, s.heap.size ≤ q → A q := fun q h => by rw [← hAe]; exact Or.inr h
  have hS : va_S A s.heap s.heap [] := va_S.rf
  have hP : va_P (dC, dI) vwCl (WX r ct i_tapeLength i_time i_lyingCount i_rd_fault i_rd_token i_rd_kind i_sc_count i_sc_at i_A_tunes i_A_houses i_fA_length i_B_tunes i_B_houses i_fB_length i_acts_done i_acts_undone i_kn_count f_boxes f_boxKept f_trial f_offers f_A_noteCounts f_A_notes f_B_noteCounts f_B_notes f_now_where f_now_worn f_ahead_where f_ahead_worn f_acts_rows f_kn_tunes f_kn_noteTimes J L) s.heap := hP
  have hl := lv_entry ([.ref (r 0), .int p0, .int p1, .int p2, .int p3, .int p4]) (n := 6) (Nat.le_of_ble_eq_true rfl)
  rw [lg_entry_eq]
  generalize (lg_sl ([.ref (r 0), .int p0, .int p1, .int p2, .int p3, .int p4]) ++ List.replicate (6 - (lg_sl ([.ref (r 0), .int p0, .int p1, .int p2, .int p3, .int p4])).length) Slot.unset).toArray = ls at hl ⊢
  have hl : lv_has ls 6 [(0, .ref (r 0)), (1, .int p0), (2, .int p1), (3, .int p2), (4, .int p3), (5, .int p4)] := hl
  refine nameQ (fun Q hQ => ?_)
  obtain ⟨ie0, ie1, ie2, ie3, ie4, ie5, ie6, ie7, ie8, ie9, ie10, ie11, ie12, ie13, ie14, ie15, ie16, ie17, ie18, ie19, ie20, ie21, ie22, ie23, ie24, ie25, ie26, ie27, ie28, ie29, ie30, ie31, ie32, ie33, ie34, ie35, ie36, ie37, ie38, ie39⟩ := id hI
  refine lv_aload_n hx hb dX8_feed_0 rfl (lv_at hl 0 rfl) ?_
  refine gX_X8_78_0 hx hb hG hown hK hP dX8_feed_1 ?_
  refine lv_bipush (v := 20) hx hb dX8_feed_4 (by decide) ?_
  refine lv_iadd hx hb dX8_feed_6 ?_
  refine lv_topi (fun x1 ex1 => ?_)
  have f2 : x1.toInt = i_tapeLength.toInt + 20 := (ox_23 (qi_add ex1 rfl zc_20 (ox_21 ie0 ie1) (ox_22 ie0 ie1)))
  refine lv_sipush (v := 1600) hx hb dX8_feed_7 (by decide) ?_
  refine lv_icmp_le (tgt := 15) hx hb dX8_feed_10 (by decide) (fun c_3 => ?_) (fun c_3 => ?_)
  · skip
    have f4 : x1.toInt ≤ 1600 := qi_le c_3 rfl zc_1600
    refine lv_aload_n hx hb dX8_feed_15 rfl (lv_at hl 0 rfl) ?_
    refine lv_iload_n hx hb dX8_feed_16 rfl (lv_at hl 1 rfl) ?_
    have hFc := frA hD hS hA
    refine va_callv (va_runV (As := [.int p0]) (rest := []) ⟨hx, hb, hml, hown, hG⟩ (kX8_putBytes l dC dI r ct i_tapeLength i_time i_lyingCount i_rd_fault i_rd_token i_rd_kind i_sc_count i_sc_at i_A_tunes i_A_houses i_fA_length i_B_tunes i_B_houses i_fB_length i_acts_done i_acts_undone i_kn_count f_boxes f_boxKept f_trial f_offers f_A_noteCounts f_A_notes f_B_noteCounts f_B_notes f_now_where f_now_worn f_ahead_where f_ahead_worn f_acts_rows f_kn_tunes f_kn_noteTimes J L p0 s.heap.size hI) (cwV 1 hG (goodV gw521 gw523 gw2 gw129 gw524) rfl rfl rfl hd_X8_putBytes ⟨(Nat.le_of_ble_eq_true rfl), (Nat.le_of_ble_eq_true rfl)⟩) ⟨fbW, va_recv hK hP (ci := 7) (q0 := 0) rfl rfl, pW_in hP hK hD⟩ rfl rfl hl.1 rfl (lv_room (Nat.le_of_ble_eq_true rfl)) dX8_feed_17 ⟨(Nat.le_of_ble_eq_true rfl), (Nat.le_of_ble_eq_true rfl)⟩) hS (fun q _ h => hFc q h) hFc (fun _ t_ H5 locs ht hvm hw hB hz1 hk1 hS => ?_)
    obtain ⟨x7, J8, hP1, hD1, hI9⟩ := hB
    rw [ht] at hP1
    have hP := hP1
    have hD := dW hFc hD1
    obtain ⟨im10, im11, im12, im13, im14, im15, im16, im17, im18, im19, im20, im21, im22, im23, im24, im25, im26, im27, im28, im29, im30, im31, im32, im33, im34, im35, im36, im37, im38, im39, im40, im41, im42, im43, im44, im45, im46, im47, im48, im49⟩ := id hI9
    refine lv_aload_n hx hb dX8_feed_20 rfl (lv_at hl 0 rfl) ?_
    refine lv_iload_n hx hb dX8_feed_21 rfl (lv_at hl 2 rfl) ?_
    have hFc := frA hD hS hA
    refine va_callv (va_runV (As := [.int p1]) (rest := []) ⟨hx, hb, hml, hown, hG⟩ (kX8_putBytes l dC dI r ct x7 i_time i_lyingCount i_rd_fault i_rd_token i_rd_kind i_sc_count i_sc_at i_A_tunes i_A_houses i_fA_length i_B_tunes i_B_houses i_fB_length i_acts_done i_acts_undone i_kn_count f_boxes f_boxKept f_trial f_offers f_A_noteCounts f_A_notes f_B_noteCounts f_B_notes f_now_where f_now_worn f_ahead_where f_ahead_worn f_acts_rows f_kn_tunes f_kn_noteTimes J8 L p1 H5.size hI9) (cwV 1 hG (goodV gw521 gw523 gw2 gw129 gw524) rfl rfl rfl hd_X8_putBytes ⟨(Nat.le_of_ble_eq_true rfl), (Nat.le_of_ble_eq_true rfl)⟩) ⟨fbW, va_recv hK hP (ci := 7) (q0 := 0) rfl rfl, pW_in hP hK hD⟩ rfl rfl hl.1 rfl (lv_room (Nat.le_of_ble_eq_true rfl)) dX8_feed_22 ⟨(Nat.le_of_ble_eq_true rfl), (Nat.le_of_ble_eq_true rfl)⟩) hS (fun q _ h => hFc q h) hFc (fun _ t_ H50 locs ht hvm hw hB hz1 hk1 hS => ?_)
    obtain ⟨x52, J53, hP1, hD1, hI54⟩ := hB
    rw [ht] at hP1
    have hP := hP1
    have hD := dW hFc hD1
    obtain ⟨im55, im56, im57, im58, im59, im60, im61, im62, im63, im64, im65, im66, im67, im68, im69, im70, im71, im72, im73, im74, im75, im76, im77, im78, im79, im80, im81, im82, im83, im84, im85, im86, im87, im88, im89, im90, im91, im92, im93, im94⟩ := id hI54
    refine lv_aload_n hx hb dX8_feed_25 rfl (lv_at hl 0 rfl) ?_
    refine lv_iload_n hx hb dX8_feed_26 rfl (lv_at hl 3 rfl) ?_
    have hFc := frA hD hS hA
    refine va_callv (va_runV (As := [.int p2]) (rest := []) ⟨hx, hb, hml, hown, hG⟩ (kX8_putBytes l dC dI r ct x52 i_time i_lyingCount i_rd_fault i_rd_token i_rd_kind i_sc_count i_sc_at i_A_tunes i_A_houses i_fA_length i_B_tunes i_B_houses i_fB_length i_acts_done i_acts_undone i_kn_count f_boxes f_boxKept f_trial f_offers f_A_noteCounts f_A_notes f_B_noteCounts f_B_notes f_now_where f_now_worn f_ahead_where f_ahead_worn f_acts_rows f_kn_tunes f_kn_noteTimes J53 L p2 H50.size hI54) (cwV 1 hG (goodV gw521 gw523 gw2 gw129 gw524) rfl rfl rfl hd_X8_putBytes ⟨(Nat.le_of_ble_eq_true rfl), (Nat.le_of_ble_eq_true rfl)⟩) ⟨fbW, va_recv hK hP (ci := 7) (q0 := 0) rfl rfl, pW_in hP hK hD⟩ rfl rfl hl.1 rfl (lv_room (Nat.le_of_ble_eq_true rfl)) dX8_feed_27 ⟨(Nat.le_of_ble_eq_true rfl), (Nat.le_of_ble_eq_true rfl)⟩) hS (fun q _ h => hFc q h) hFc (fun _ t_ H95 locs ht hvm hw hB hz1 hk1 hS => ?_)
    obtain ⟨x97, J98, hP1, hD1, hI99⟩ := hB
    rw [ht] at hP1
    have hP := hP1
    have hD := dW hFc hD1
    obtain ⟨im100, im101, im102, im103, im104, im105, im106, im107, im108, im109, im110, im111, im112, im113, im114, im115, im116, im117, im118, im119, im120, im121, im122, im123, im124, im125, im126, im127, im128, im129, im130, im131, im132, im133, im134, im135, im136, im137, im138, im139⟩ := id hI99
    refine lv_aload_n hx hb dX8_feed_30 rfl (lv_at hl 0 rfl) ?_
    refine lv_iload hx hb dX8_feed_31 (lv_at hl 4 rfl) ?_
    have hFc := frA hD hS hA
    refine va_callv (va_runV (As := [.int p3]) (rest := []) ⟨hx, hb, hml, hown, hG⟩ (kX8_putBytes l dC dI r ct x97 i_time i_lyingCount i_rd_fault i_rd_token i_rd_kind i_sc_count i_sc_at i_A_tunes i_A_houses i_fA_length i_B_tunes i_B_houses i_fB_length i_acts_done i_acts_undone i_kn_count f_boxes f_boxKept f_trial f_offers f_A_noteCounts f_A_notes f_B_noteCounts f_B_notes f_now_where f_now_worn f_ahead_where f_ahead_worn f_acts_rows f_kn_tunes f_kn_noteTimes J98 L p3 H95.size hI99) (cwV 1 hG (goodV gw521 gw523 gw2 gw129 gw524) rfl rfl rfl hd_X8_putBytes ⟨(Nat.le_of_ble_eq_true rfl), (Nat.le_of_ble_eq_true rfl)⟩) ⟨fbW, va_recv hK hP (ci := 7) (q0 := 0) rfl rfl, pW_in hP hK hD⟩ rfl rfl hl.1 rfl (lv_room (Nat.le_of_ble_eq_true rfl)) dX8_feed_33 ⟨(Nat.le_of_ble_eq_true rfl), (Nat.le_of_ble_eq_true rfl)⟩) hS (fun q _ h => hFc q h) hFc (fun _ t_ H140 locs ht hvm hw hB hz1 hk1 hS => ?_)
    obtain ⟨x142, J143, hP1, hD1, hI144⟩ := hB
    rw [ht] at hP1
    have hP := hP1
    have hD := dW hFc hD1
    obtain ⟨im145, im146, im147, im148, im149, im150, im151, im152, im153, im154, im155, im156, im157, im158, im159, im160, im161, im162, im163, im164, im165, im166, im167, im168, im169, im170, im171, im172, im173, im174, im175, im176, im177, im178, im179, im180, im181, im182, im183, im184⟩ := id hI144
    refine lv_aload_n hx hb dX8_feed_36 rfl (lv_at hl 0 rfl) ?_
    refine lv_iload hx hb dX8_feed_37 (lv_at hl 5 rfl) ?_
    have hFc := frA hD hS hA
    refine va_callv (va_runV (As := [.int p4]) (rest := []) ⟨hx, hb, hml, hown, hG⟩ (kX8_putBytes l dC dI r ct x142 i_time i_lyingCount i_rd_fault i_rd_token i_rd_kind i_sc_count i_sc_at i_A_tunes i_A_houses i_fA_length i_B_tunes i_B_houses i_fB_length i_acts_done i_acts_undone i_kn_count f_boxes f_boxKept f_trial f_offers f_A_noteCounts f_A_notes f_B_noteCounts f_B_notes f_now_where f_now_worn f_ahead_where f_ahead_worn f_acts_rows f_kn_tunes f_kn_noteTimes J143 L p4 H140.size hI144) (cwV 1 hG (goodV gw521 gw523 gw2 gw129 gw524) rfl rfl rfl hd_X8_putBytes ⟨(Nat.le_of_ble_eq_true rfl), (Nat.le_of_ble_eq_true rfl)⟩) ⟨fbW, va_recv hK hP (ci := 7) (q0 := 0) rfl rfl, pW_in hP hK hD⟩ rfl rfl hl.1 rfl (lv_room (Nat.le_of_ble_eq_true rfl)) dX8_feed_39 ⟨(Nat.le_of_ble_eq_true rfl), (Nat.le_of_ble_eq_true rfl)⟩) hS (fun q _ h => hFc q h) hFc (fun _ t_ H185 locs ht hvm hw hB hz1 hk1 hS => ?_)
    obtain ⟨x187, J188, hP1, hD1, hI189⟩ := hB
    rw [ht] at hP1
    have hP := hP1
    have hD := dW hFc hD1
    obtain ⟨im190, im191, im192, im193, im194, im195, im196, im197, im198, im199, im200, im201, im202, im203, im204, im205, im206, im207, im208, im209, im210, im211, im212, im213, im214, im215, im216, im217, im218, im219, im220, im221, im222, im223, im224, im225, im226, im227, im228, im229⟩ := id hI189
    refine lv_aload_n hx hb dX8_feed_42 rfl (lv_at hl 0 rfl) ?_
    refine gX_X8_78_0 hx hb hG hown hK hP dX8_feed_43 ?_
    rw [hQ]
    exact W.iret (v := x187) hx hb hr (fun t ht hW => ⟨⟨x187, x187, rfl, rfl, ⟨x187, J188, by rw [ht]; exact hP, hD, hI189⟩⟩, hS.F ht⟩) hS.2.2 dX8_feed_46
  · skip
    have f230 : 1600 < x1.toInt := qi_nle c_3 rfl zc_1600
    refine lv_iconst (v := (-1)) hx hb dX8_feed_13 (by decide) ?_
    rw [hQ]
    exact W.iret (v := (-1)) hx hb hr (fun t ht hW => ⟨⟨(-1), (-1), rfl, rfl, ⟨i_tapeLength, J, by rw [ht]; exact hP, hD, hI⟩⟩, hS.F ht⟩) hS.2.2 dX8_feed_14
set_option maxHeartbeats 4000000 in
set_option maxRecDepth 100000 in
theorem kX8_end (l : Launch) (dC : Nat → ClassId) (dI : Nat → Nat → Nat) (r : Nat → Nat) (ct : Nat → ClassId) (i_tapeLength i_time i_lyingCount i_rd_fault i_rd_token i_rd_kind i_sc_count i_sc_at i_A_tunes i_A_houses i_fA_length i_B_tunes i_B_houses i_fB_length i_acts_done i_acts_undone i_kn_count : Int32) (f_boxes f_boxKept f_trial f_offers f_A_noteCounts f_A_notes f_B_noteCounts f_B_notes f_now_where f_now_worn f_ahead_where f_ahead_worn f_acts_rows f_kn_tunes f_kn_noteTimes : Nat → Int32) (J : Nat → Nat → Int32) (L : Nat → Nat → Int64) (p0 : Int32) (sz : Nat) (hI : (IX i_tapeLength i_time i_lyingCount i_rd_token i_sc_count i_sc_at i_A_tunes i_A_houses i_fA_length i_B_tunes i_B_houses i_fB_length i_acts_done i_acts_undone i_kn_count f_boxes f_A_noteCounts f_A_notes f_B_noteCounts f_B_notes f_now_worn f_ahead_worn f_acts_rows f_kn_tunes)) : Met l yX8_end (.code yX8_end cX8_end 2 (some .int) :: GW) { frames := 2, cells := 0, slots := 0, locals := 100 } (va_Pc [.ref (r 0), .int p0] (pW (dC, dI) (WX r ct i_tapeLength i_time i_lyingCount i_rd_fault i_rd_token i_rd_kind i_sc_count i_sc_at i_A_tunes i_A_houses i_fA_length i_B_tunes i_B_houses i_fB_length i_acts_done i_acts_undone i_kn_count f_boxes f_boxKept f_trial f_offers f_A_noteCounts f_A_notes f_B_noteCounts f_B_notes f_now_where f_now_worn f_ahead_where f_ahead_worn f_acts_rows f_kn_tunes f_kn_noteTimes J L) (TX ct) sz)) (va_Qi (fun (r0 : Int32) (u : Int32) => r0 = u) (fun (u : Int32) (t : State) => ∃ (n_i_tapeLength : Int32), va_P (dC, dI) vwCl (WX r ct n_i_tapeLength i_time i_lyingCount i_rd_fault i_rd_token i_rd_kind i_sc_count i_sc_at i_A_tunes i_A_houses i_fA_length i_B_tunes i_B_houses i_fB_length i_acts_done i_acts_undone i_kn_count f_boxes f_boxKept f_trial f_offers f_A_noteCounts f_A_notes f_B_noteCounts f_B_notes f_now_where f_now_worn f_ahead_where f_ahead_worn f_acts_rows f_kn_tunes f_kn_noteTimes J L) t.heap ∧ va_D (va_A (WX r ct i_tapeLength i_time i_lyingCount i_rd_fault i_rd_token i_rd_kind i_sc_count i_sc_at i_A_tunes i_A_houses i_fA_length i_B_tunes i_B_houses i_fB_length i_acts_done i_acts_undone i_kn_count f_boxes f_boxKept f_trial f_offers f_A_noteCounts f_A_notes f_B_noteCounts f_B_notes f_now_where f_now_worn f_ahead_where f_ahead_worn f_acts_rows f_kn_tunes f_kn_noteTimes J L) sz) (WX r ct n_i_tapeLength i_time i_lyingCount i_rd_fault i_rd_token i_rd_kind i_sc_count i_sc_at i_A_tunes i_A_houses i_fA_length i_B_tunes i_B_houses i_fB_length i_acts_done i_acts_undone i_kn_count f_boxes f_boxKept f_trial f_offers f_A_noteCounts f_A_notes f_B_noteCounts f_B_notes f_now_where f_now_worn f_ahead_where f_ahead_worn f_acts_rows f_kn_tunes f_kn_noteTimes J L) ∧ (IX n_i_tapeLength i_time i_lyingCount i_rd_token i_sc_count i_sc_at i_A_tunes i_A_houses i_fA_length i_B_tunes i_B_houses i_fB_length i_acts_done i_acts_undone i_kn_count f_boxes f_A_noteCounts f_A_notes f_B_noteCounts f_B_notes f_now_worn f_ahead_worn f_acts_rows f_kn_tunes)) (va_A (WX r ct i_tapeLength i_time i_lyingCount i_rd_fault i_rd_token i_rd_kind i_sc_count i_sc_at i_A_tunes i_A_houses i_fA_length i_B_tunes i_B_houses i_fB_length i_acts_done i_acts_undone i_kn_count f_boxes f_boxKept f_trial f_offers f_A_noteCounts f_A_notes f_B_noteCounts f_B_notes f_now_where f_now_worn f_ahead_where f_ahead_worn f_acts_rows f_kn_tunes f_kn_noteTimes J L) sz)) 0 0 (va_A (WX r ct i_tapeLength i_time i_lyingCount i_rd_fault i_rd_token i_rd_kind i_sc_count i_sc_at i_A_tunes i_A_houses i_fA_length i_B_tunes i_B_houses i_fB_length i_acts_done i_acts_undone i_kn_count f_boxes f_boxKept f_trial f_offers f_A_noteCounts f_A_notes f_B_noteCounts f_B_notes f_now_where f_now_worn f_ahead_where f_ahead_worn f_acts_rows f_kn_tunes f_kn_noteTimes J L) sz) := by
  refine Met.ofW (cc := cX8_end) (maxL := 2) (ret := (some .int)) (by decide) rfl ?_
  intro p e s m args below meth c0 s₁ B hml hv
  obtain ⟨rfl, hsz, hP, hK, hD0⟩ := hv
  have hx := B.exec
  have hb := B.bytes
  have hr := B.returns
  have hts := atoms_spec (ws := .code yX8_end cX8_end 2 (some .int) :: GW) B.pre
  have hG : ∀ w ∈ GW, w.before _ s = true := fun w h => hts w (List.mem_cons_of_mem _ h)
  have hown : s.vm.findClass RX8 = some m.cls := findClass_of_methodNamed B.named
  subst hsz
  have hD := hD0.self (sz := s.heap.size)
  generalize hAe : va_A (WX r ct i_tapeLength i_time i_lyingCount i_rd_fault i_rd_token i_rd_kind i_sc_count i_sc_at i_A_tunes i_A_houses i_fA_length i_B_tunes i_B_houses i_fB_length i_acts_done i_acts_undone i_kn_count f_boxes f_boxKept f_trial f_offers f_A_noteCounts f_A_notes f_B_noteCounts f_B_notes f_now_where f_now_worn f_ahead_where f_ahead_worn f_acts_rows f_kn_tunes f_kn_noteTimes J L) s.heap.size = A at hD ⊢
  have hA : ∀ q : Nat, s.heap.size ≤ q → A q := fun q h => by rw [← hAe]; exact Or.inr h
  have hS : va_S A s.heap s.heap [] := va_S.rf
  have hP : va_P (dC, dI) vwCl (WX r ct i_tapeLength i_time i_lyingCount i_rd_fault i_rd_token i_rd_kind i_sc_count i_sc_at i_A_tunes i_A_houses i_fA_length i_B_tunes i_B_houses i_fB_length i_acts_done i_acts_undone i_kn_count f_boxes f_boxKept f_trial f_offers f_A_noteCounts f_A_notes f_B_noteCounts f_B_notes f_now_where f_now_worn f_ahead_where f_ahead_worn f_acts_rows f_kn_tunes f_kn_noteTimes J L) s.heap := hP
  have hl := lv_entry ([.ref (r 0), .int p0]) (n := 2) (Nat.le_of_ble_eq_true rfl)
  rw [lg_entry_eq]
  generalize (lg_sl ([.ref (r 0), .int p0]) ++ List.replicate (2 - (lg_sl ([.ref (r 0), .int p0])).length) Slot.unset).toArray = ls at hl ⊢
  have hl : lv_has ls 2 [(0, .ref (r 0)), (1, .int p0)] := hl
  refine nameQ (fun Q hQ => ?_)
  obtain ⟨ie0, ie1, ie2, ie3, ie4, ie5, ie6, ie7, ie8, ie9, ie10, ie11, ie12, ie13, ie14, ie15, ie16, ie17, ie18, ie19, ie20, ie21, ie22, ie23, ie24, ie25, ie26, ie27, ie28, ie29, ie30, ie31, ie32, ie33, ie34, ie35, ie36, ie37, ie38, ie39⟩ := id hI
  refine lv_iload_n hx hb dX8_end_0 rfl (lv_at hl 1 rfl) ?_
  refine lv_if_lt (tgt := 12) hx hb dX8_end_1 (by decide) (fun c_1 => ?_) (fun c_1 => ?_)
  · skip
    have f2 : p0.toInt < 0 := qi_lt c_1 rfl zc_0
    refine lv_iconst (v := (-1)) hx hb dX8_end_12 (by decide) ?_
    rw [hQ]
    exact W.iret (v := (-1)) hx hb hr (fun t ht hW => ⟨⟨(-1), (-1), rfl, rfl, ⟨i_tapeLength, by rw [ht]; exact hP, hD, hI⟩⟩, hS.F ht⟩) hS.2.2 dX8_end_13
  · skip
    have f3 : 0 ≤ p0.toInt := qi_nlt c_1 rfl zc_0
    refine lv_iload_n hx hb dX8_end_4 rfl (lv_at hl 1 rfl) ?_
    refine lv_aload_n hx hb dX8_end_5 rfl (lv_at hl 0 rfl) ?_
    refine gX_X8_78_0 hx hb hG hown hK hP dX8_end_6 ?_
    refine lv_icmp_le (tgt := 14) hx hb dX8_end_9 (by decide) (fun c_4 => ?_) (fun c_4 => ?_)
    · skip
      have f5 : p0.toInt ≤ i_tapeLength.toInt := qi_le c_4 rfl rfl
      refine lv_aload_n hx hb dX8_end_14 rfl (lv_at hl 0 rfl) ?_
      refine lv_iload_n hx hb dX8_end_15 rfl (lv_at hl 1 rfl) ?_
      refine pX_X8_78_0 hx hb hG hown hK hP hD hS dX8_end_16 (fun H6 locs hP hD hS => ?_)
      refine lv_iload_n hx hb dX8_end_19 rfl (lv_at hl 1 rfl) ?_
      rw [hQ]
      exact W.iret (v := p0) hx hb hr (fun t ht hW => ⟨⟨p0, p0, rfl, rfl, ⟨p0, by rw [ht]; exact hP, hD, ⟨(ox_24 f3 f5), (ox_25 ie1 f5), ie2, ie3, ie4, ie5, ie6, ie7, ie8, ie9, ie10, ie11, ie12, ie13, ie14, ie15, ie16, ie17, ie18, ie19, ie20, ie21, ie22, ie23, ie24, ie25, ie26, ie27, ie28, ie29, ie30, ie31, ie32, ie33, ie34, ie35, ie36, ie37, ie38, ie39⟩⟩⟩, hS.F ht⟩) hS.2.2 dX8_end_20
    · skip
      have f7 : i_tapeLength.toInt < p0.toInt := qi_nle c_4 rfl rfl
      refine lv_iconst (v := (-1)) hx hb dX8_end_12 (by decide) ?_
      rw [hQ]
      exact W.iret (v := (-1)) hx hb hr (fun t ht hW => ⟨⟨(-1), (-1), rfl, rfl, ⟨i_tapeLength, by rw [ht]; exact hP, hD, hI⟩⟩, hS.F ht⟩) hS.2.2 dX8_end_13
set_option maxHeartbeats 4000000 in
set_option maxRecDepth 100000 in
theorem kX8_fault (l : Launch) (dC : Nat → ClassId) (dI : Nat → Nat → Nat) (r : Nat → Nat) (ct : Nat → ClassId) (i_tapeLength i_time i_lyingCount i_rd_fault i_rd_token i_rd_kind i_sc_count i_sc_at i_A_tunes i_A_houses i_fA_length i_B_tunes i_B_houses i_fB_length i_acts_done i_acts_undone i_kn_count : Int32) (f_boxes f_boxKept f_trial f_offers f_A_noteCounts f_A_notes f_B_noteCounts f_B_notes f_now_where f_now_worn f_ahead_where f_ahead_worn f_acts_rows f_kn_tunes f_kn_noteTimes : Nat → Int32) (J : Nat → Nat → Int32) (L : Nat → Nat → Int64) (p0 : Int32) (sz : Nat) (hI : (IX i_tapeLength i_time i_lyingCount i_rd_token i_sc_count i_sc_at i_A_tunes i_A_houses i_fA_length i_B_tunes i_B_houses i_fB_length i_acts_done i_acts_undone i_kn_count f_boxes f_A_noteCounts f_A_notes f_B_noteCounts f_B_notes f_now_worn f_ahead_worn f_acts_rows f_kn_tunes)) : Met l yX8_fault (.code yX8_fault cX8_fault 2 (some .int) :: GW) { frames := 2, cells := 0, slots := 0, locals := 100 } (va_Pc [.ref (r 0), .int p0] (pR (dC, dI) (WX r ct i_tapeLength i_time i_lyingCount i_rd_fault i_rd_token i_rd_kind i_sc_count i_sc_at i_A_tunes i_A_houses i_fA_length i_B_tunes i_B_houses i_fB_length i_acts_done i_acts_undone i_kn_count f_boxes f_boxKept f_trial f_offers f_A_noteCounts f_A_notes f_B_noteCounts f_B_notes f_now_where f_now_worn f_ahead_where f_ahead_worn f_acts_rows f_kn_tunes f_kn_noteTimes J L) (TX ct) sz)) (va_Qi (fun (r0 : Int32) (u : Int32) => r0 = u) (fun (u : Int32) (t : State) => True) (fun q => sz ≤ q)) 0 0 (fun q => sz ≤ q) := by
  refine Met.ofW (cc := cX8_fault) (maxL := 2) (ret := (some .int)) (by decide) rfl ?_
  intro p e s m args below meth c0 s₁ B hml hv
  obtain ⟨rfl, hsz, hP, hK⟩ := hv
  have hx := B.exec
  have hb := B.bytes
  have hr := B.returns
  have hts := atoms_spec (ws := .code yX8_fault cX8_fault 2 (some .int) :: GW) B.pre
  have hG : ∀ w ∈ GW, w.before _ s = true := fun w h => hts w (List.mem_cons_of_mem _ h)
  have hown : s.vm.findClass RX8 = some m.cls := findClass_of_methodNamed B.named
  subst hsz
  have hS : va_S (fun q => s.heap.size ≤ q) s.heap s.heap [] := va_S.rf
  have hP : va_P (dC, dI) vwCl (WX r ct i_tapeLength i_time i_lyingCount i_rd_fault i_rd_token i_rd_kind i_sc_count i_sc_at i_A_tunes i_A_houses i_fA_length i_B_tunes i_B_houses i_fB_length i_acts_done i_acts_undone i_kn_count f_boxes f_boxKept f_trial f_offers f_A_noteCounts f_A_notes f_B_noteCounts f_B_notes f_now_where f_now_worn f_ahead_where f_ahead_worn f_acts_rows f_kn_tunes f_kn_noteTimes J L) s.heap := hP
  have hl := lv_entry ([.ref (r 0), .int p0]) (n := 2) (Nat.le_of_ble_eq_true rfl)
  rw [lg_entry_eq]
  generalize (lg_sl ([.ref (r 0), .int p0]) ++ List.replicate (2 - (lg_sl ([.ref (r 0), .int p0])).length) Slot.unset).toArray = ls at hl ⊢
  have hl : lv_has ls 2 [(0, .ref (r 0)), (1, .int p0)] := hl
  refine nameQ (fun Q hQ => ?_)
  obtain ⟨ie0, ie1, ie2, ie3, ie4, ie5, ie6, ie7, ie8, ie9, ie10, ie11, ie12, ie13, ie14, ie15, ie16, ie17, ie18, ie19, ie20, ie21, ie22, ie23, ie24, ie25, ie26, ie27, ie28, ie29, ie30, ie31, ie32, ie33, ie34, ie35, ie36, ie37, ie38, ie39⟩ := id hI
  refine lv_iload_n hx hb dX8_fault_0 rfl (lv_at hl 1 rfl) ?_
  rcases ls_0_1 p0 with hs1 | hs1 | hs1
  · skip
    refine lv_lookup (off := 27) (tgt := 28) hx hb dX8_fault_1 (by decide) (by rw [hs1]; decide) (by decide) ?_
    have f2 : p0.toInt = 0 := qi_eq hs1 rfl zc_0
    refine lv_aload_n hx hb dX8_fault_28 rfl (lv_at hl 0 rfl) ?_
    refine gX_X8_16_0 hx hb hG hown hK hP dX8_fault_29 ?_
    refine gX_X8_102_1 hx hb hG hown hK hP dX8_fault_32 ?_
    rw [hQ]
    exact W.iret (v := i_rd_fault) hx hb hr (fun t ht hW => ⟨⟨i_rd_fault, i_rd_fault, rfl, rfl, trivial⟩, hS.F ht⟩) hS.2.2 dX8_fault_35
  · skip
    refine lv_lookup (off := 35) (tgt := 36) hx hb dX8_fault_1 (by decide) (by rw [hs1]; decide) (by decide) ?_
    have f3 : p0.toInt = 1 := qi_eq hs1 rfl zc_1
    refine lv_aload_n hx hb dX8_fault_36 rfl (lv_at hl 0 rfl) ?_
    refine gX_X8_16_0 hx hb hG hown hK hP dX8_fault_37 ?_
    refine gX_X8_105_1 hx hb hG hown hK hP dX8_fault_40 (fun x4 => ?_)
    rw [hQ]
    exact W.iret (v := x4) hx hb hr (fun t ht hW => ⟨⟨x4, x4, rfl, rfl, trivial⟩, hS.F ht⟩) hS.2.2 dX8_fault_43
  · skip
    refine lv_lookup (off := 43) (tgt := 44) hx hb dX8_fault_1 (by decide) (show Op.lookupswitch.offset [(0, 27), (1, 35)] 43 _ = 43 from ((lv_osw hs1.1 (by decide)).trans ((lv_osw hs1.2 (by decide)).trans rfl))) (by decide) ?_
    have f5 : p0.toInt ≠ 0 := qi_ne hs1.1 rfl zc_0
    have f6 : p0.toInt ≠ 1 := qi_ne hs1.2 rfl zc_1
    refine lv_iconst (v := (-1)) hx hb dX8_fault_44 (by decide) ?_
    rw [hQ]
    exact W.iret (v := (-1)) hx hb hr (fun t ht hW => ⟨⟨(-1), (-1), rfl, rfl, trivial⟩, hS.F ht⟩) hS.2.2 dX8_fault_45
set_option maxHeartbeats 4000000 in
set_option maxRecDepth 100000 in
theorem kX8_isTune (l : Launch) (dC : Nat → ClassId) (dI : Nat → Nat → Nat) (r : Nat → Nat) (ct : Nat → ClassId) (i_tapeLength i_time i_lyingCount i_rd_fault i_rd_token i_rd_kind i_sc_count i_sc_at i_A_tunes i_A_houses i_fA_length i_B_tunes i_B_houses i_fB_length i_acts_done i_acts_undone i_kn_count : Int32) (f_boxes f_boxKept f_trial f_offers f_A_noteCounts f_A_notes f_B_noteCounts f_B_notes f_now_where f_now_worn f_ahead_where f_ahead_worn f_acts_rows f_kn_tunes f_kn_noteTimes : Nat → Int32) (J : Nat → Nat → Int32) (L : Nat → Nat → Int64) (p0 : Int32) (sz : Nat) (hI : (IX i_tapeLength i_time i_lyingCount i_rd_token i_sc_count i_sc_at i_A_tunes i_A_houses i_fA_length i_B_tunes i_B_houses i_fB_length i_acts_done i_acts_undone i_kn_count f_boxes f_A_noteCounts f_A_notes f_B_noteCounts f_B_notes f_now_worn f_ahead_worn f_acts_rows f_kn_tunes)) : Met l yX8_isTune (.code yX8_isTune cX8_isTune 2 (some .boolean) :: GW) { frames := 2, cells := 0, slots := 0, locals := 100 } (va_Pc [.ref (r 0), .int p0] (pR (dC, dI) (WX r ct i_tapeLength i_time i_lyingCount i_rd_fault i_rd_token i_rd_kind i_sc_count i_sc_at i_A_tunes i_A_houses i_fA_length i_B_tunes i_B_houses i_fB_length i_acts_done i_acts_undone i_kn_count f_boxes f_boxKept f_trial f_offers f_A_noteCounts f_A_notes f_B_noteCounts f_B_notes f_now_where f_now_worn f_ahead_where f_ahead_worn f_acts_rows f_kn_tunes f_kn_noteTimes J L) (TX ct) sz)) (va_Qi (fun (r0 : Int32) (u : Int32) => r0 = u) (fun (u : Int32) (t : State) => (((p0.toInt + 1 ≤ (0 : Int)) ∧ (u.toInt = (0 : Int))) ∨ (((0 : Int) ≤ p0.toInt) ∧ (i_A_tunes.toInt ≤ p0.toInt) ∧ (u.toInt = (0 : Int))) ∨ (((0 : Int) ≤ p0.toInt) ∧ (p0.toInt + 1 ≤ i_A_tunes.toInt) ∧ (u.toInt = (1 : Int)))) ∧ ((0 : Int) ≤ u.toInt) ∧ (u.toInt ≤ (1 : Int))) (fun q => sz ≤ q)) 0 0 (fun q => sz ≤ q) := by
  refine Met.ofW (cc := cX8_isTune) (maxL := 2) (ret := (some .boolean)) (by decide) rfl ?_
  intro p e s m args below meth c0 s₁ B hml hv
  obtain ⟨rfl, hsz, hP, hK⟩ := hv
  have hx := B.exec
  have hb := B.bytes
  have hr := B.returns
  have hts := atoms_spec (ws := .code yX8_isTune cX8_isTune 2 (some .boolean) :: GW) B.pre
  have hG : ∀ w ∈ GW, w.before _ s = true := fun w h => hts w (List.mem_cons_of_mem _ h)
  have hown : s.vm.findClass RX8 = some m.cls := findClass_of_methodNamed B.named
  subst hsz
  have hS : va_S (fun q => s.heap.size ≤ q) s.heap s.heap [] := va_S.rf
  have hP : va_P (dC, dI) vwCl (WX r ct i_tapeLength i_time i_lyingCount i_rd_fault i_rd_token i_rd_kind i_sc_count i_sc_at i_A_tunes i_A_houses i_fA_length i_B_tunes i_B_houses i_fB_length i_acts_done i_acts_undone i_kn_count f_boxes f_boxKept f_trial f_offers f_A_noteCounts f_A_notes f_B_noteCounts f_B_notes f_now_where f_now_worn f_ahead_where f_ahead_worn f_acts_rows f_kn_tunes f_kn_noteTimes J L) s.heap := hP
  have hl := lv_entry ([.ref (r 0), .int p0]) (n := 2) (Nat.le_of_ble_eq_true rfl)
  rw [lg_entry_eq]
  generalize (lg_sl ([.ref (r 0), .int p0]) ++ List.replicate (2 - (lg_sl ([.ref (r 0), .int p0])).length) Slot.unset).toArray = ls at hl ⊢
  have hl : lv_has ls 2 [(0, .ref (r 0)), (1, .int p0)] := hl
  refine nameQ (fun Q hQ => ?_)
  obtain ⟨ie0, ie1, ie2, ie3, ie4, ie5, ie6, ie7, ie8, ie9, ie10, ie11, ie12, ie13, ie14, ie15, ie16, ie17, ie18, ie19, ie20, ie21, ie22, ie23, ie24, ie25, ie26, ie27, ie28, ie29, ie30, ie31, ie32, ie33, ie34, ie35, ie36, ie37, ie38, ie39⟩ := id hI
  refine lv_iload_n hx hb dX8_isTune_0 rfl (lv_at hl 1 rfl) ?_
  refine lv_if_lt (tgt := 19) hx hb dX8_isTune_1 (by decide) (fun c_1 => ?_) (fun c_1 => ?_)
  · skip
    have f2 : p0.toInt < 0 := qi_lt c_1 rfl zc_0
    refine lv_iconst (v := 0) hx hb dX8_isTune_19 (by decide) ?_
    rw [hQ]
    exact W.zret (v := 0) hx hb hr (by decide) (fun t ht hW => ⟨⟨0, 0, rfl, rfl, ⟨(ox_26 ie12 ie13 f2 zc_0), (ox_27 zc_0), (ox_28 zc_0)⟩⟩, hS.F ht⟩) hS.2.2 dX8_isTune_20
  · skip
    have f3 : 0 ≤ p0.toInt := qi_nlt c_1 rfl zc_0
    refine lv_iload_n hx hb dX8_isTune_4 rfl (lv_at hl 1 rfl) ?_
    refine lv_aload_n hx hb dX8_isTune_5 rfl (lv_at hl 0 rfl) ?_
    refine gX_X8_23_0 hx hb hG hown hK hP dX8_isTune_6 ?_
    refine gX_X8_108_3 hx hb hG hown hK hP dX8_isTune_9 ?_
    refine lv_icmp_ge (tgt := 19) hx hb dX8_isTune_12 (by decide) (fun c_4 => ?_) (fun c_4 => ?_)
    · skip
      have f5 : i_A_tunes.toInt ≤ p0.toInt := qi_le c_4 rfl rfl
      refine lv_iconst (v := 0) hx hb dX8_isTune_19 (by decide) ?_
      rw [hQ]
      exact W.zret (v := 0) hx hb hr (by decide) (fun t ht hW => ⟨⟨0, 0, rfl, rfl, ⟨(ox_29 f5 zc_0), (ox_27 zc_0), (ox_28 zc_0)⟩⟩, hS.F ht⟩) hS.2.2 dX8_isTune_20
    · skip
      have f6 : p0.toInt < i_A_tunes.toInt := qi_nle c_4 rfl rfl
      refine lv_iconst (v := 1) hx hb dX8_isTune_15 (by decide) ?_
      refine lv_goto (tgt := 20) hx hb dX8_isTune_16 (by decide) ?_
      rw [hQ]
      exact W.zret (v := 1) hx hb hr (by decide) (fun t ht hW => ⟨⟨1, 1, rfl, rfl, ⟨(ox_30 f3 f6 zc_1), (ox_31 zc_1), (ox_32 zc_1)⟩⟩, hS.F ht⟩) hS.2.2 dX8_isTune_20
set_option maxHeartbeats 4000000 in
set_option maxRecDepth 100000 in
theorem kX4_left (l : Launch) (dC : Nat → ClassId) (dI : Nat → Nat → Nat) (r : Nat → Nat) (ct : Nat → ClassId) (i_tapeLength i_time i_lyingCount i_rd_fault i_rd_token i_rd_kind i_sc_count i_sc_at i_A_tunes i_A_houses i_fA_length i_B_tunes i_B_houses i_fB_length i_acts_done i_acts_undone i_kn_count : Int32) (f_boxes f_boxKept f_trial f_offers f_A_noteCounts f_A_notes f_B_noteCounts f_B_notes f_now_where f_now_worn f_ahead_where f_ahead_worn f_acts_rows f_kn_tunes f_kn_noteTimes : Nat → Int32) (J : Nat → Nat → Int32) (L : Nat → Nat → Int64) (p0 p1 : Int32) (sz : Nat) (hI : (IX i_tapeLength i_time i_lyingCount i_rd_token i_sc_count i_sc_at i_A_tunes i_A_houses i_fA_length i_B_tunes i_B_houses i_fB_length i_acts_done i_acts_undone i_kn_count f_boxes f_A_noteCounts f_A_notes f_B_noteCounts f_B_notes f_now_worn f_ahead_worn f_acts_rows f_kn_tunes)) (hp0 : (0 : Int) ≤ p0.toInt) (hp1 : p0.toInt + 1 ≤ i_A_tunes.toInt) (hp2 : (0 : Int) ≤ p1.toInt) (hp3 : p1.toInt ≤ (99 : Int)) : Met l yX4_left (.code yX4_left cX4_left 4 (some .int) :: GW) { frames := 2, cells := 0, slots := 0, locals := 100 } (va_Pc [.ref (r 3), .int p0, .int p1] (pR (dC, dI) (WX r ct i_tapeLength i_time i_lyingCount i_rd_fault i_rd_token i_rd_kind i_sc_count i_sc_at i_A_tunes i_A_houses i_fA_length i_B_tunes i_B_houses i_fB_length i_acts_done i_acts_undone i_kn_count f_boxes f_boxKept f_trial f_offers f_A_noteCounts f_A_notes f_B_noteCounts f_B_notes f_now_where f_now_worn f_ahead_where f_ahead_worn f_acts_rows f_kn_tunes f_kn_noteTimes J L) (TX ct) sz)) (va_Qi (fun (r0 : Int32) (u : Int32) => r0 = u) (fun (u : Int32) (t : State) => ((3 : Int) ≤ u.toInt) ∧ (u.toInt ≤ (8 : Int)) ∧ ((3 : Int) ≤ (f_A_noteCounts (p0.toInt).toNat).toInt) ∧ ((f_A_noteCounts (p0.toInt).toNat).toInt ≤ (8 : Int)) ∧ (((u.toInt = (3 : Int)) ∧ ((f_A_noteCounts (p0.toInt).toNat).toInt ≤ p1.toInt + 3)) ∨ (u.toInt + p1.toInt = (f_A_noteCounts (p0.toInt).toNat).toInt))) (fun q => sz ≤ q)) 0 0 (fun q => sz ≤ q) := by
  refine Met.ofW (cc := cX4_left) (maxL := 4) (ret := (some .int)) (by decide) rfl ?_
  intro p e s m args below meth c0 s₁ B hml hv
  obtain ⟨rfl, hsz, hP, hK⟩ := hv
  have hx := B.exec
  have hb := B.bytes
  have hr := B.returns
  have hts := atoms_spec (ws := .code yX4_left cX4_left 4 (some .int) :: GW) B.pre
  have hG : ∀ w ∈ GW, w.before _ s = true := fun w h => hts w (List.mem_cons_of_mem _ h)
  have hown : s.vm.findClass RX4 = some m.cls := findClass_of_methodNamed B.named
  subst hsz
  have hS : va_S (fun q => s.heap.size ≤ q) s.heap s.heap [] := va_S.rf
  have hP : va_P (dC, dI) vwCl (WX r ct i_tapeLength i_time i_lyingCount i_rd_fault i_rd_token i_rd_kind i_sc_count i_sc_at i_A_tunes i_A_houses i_fA_length i_B_tunes i_B_houses i_fB_length i_acts_done i_acts_undone i_kn_count f_boxes f_boxKept f_trial f_offers f_A_noteCounts f_A_notes f_B_noteCounts f_B_notes f_now_where f_now_worn f_ahead_where f_ahead_worn f_acts_rows f_kn_tunes f_kn_noteTimes J L) s.heap := hP
  have hl := lv_entry ([.ref (r 3), .int p0, .int p1]) (n := 4) (Nat.le_of_ble_eq_true rfl)
  rw [lg_entry_eq]
  generalize (lg_sl ([.ref (r 3), .int p0, .int p1]) ++ List.replicate (4 - (lg_sl ([.ref (r 3), .int p0, .int p1])).length) Slot.unset).toArray = ls at hl ⊢
  have hl : lv_has ls 4 [(0, .ref (r 3)), (1, .int p0), (2, .int p1)] := hl
  refine nameQ (fun Q hQ => ?_)
  obtain ⟨ie0, ie1, ie2, ie3, ie4, ie5, ie6, ie7, ie8, ie9, ie10, ie11, ie12, ie13, ie14, ie15, ie16, ie17, ie18, ie19, ie20, ie21, ie22, ie23, ie24, ie25, ie26, ie27, ie28, ie29, ie30, ie31, ie32, ie33, ie34, ie35, ie36, ie37, ie38, ie39⟩ := id hI
  refine lv_aload_n hx hb dX4_left_0 rfl (lv_at hl 0 rfl) ?_
  refine gX_X4_19_3 hx hb hG hown hK hP dX4_left_1 ?_
  refine lv_iload_n hx hb dX4_left_4 rfl (lv_at hl 1 rfl) ?_
  refine ldX_24 (mm := p0.toInt) hx hb hK hP rfl (ox_33 hp0 hp1) (ox_34 ie13 hp1) dX4_left_5 ?_
  have f1 : 0 ≤ (f_A_noteCounts (p0.toInt).toNat).toInt ∧ (f_A_noteCounts (p0.toInt).toNat).toInt ≤ 8 := ie32 (p0.toInt)
  have f2 : 0 ≤ p0.toInt → p0.toInt < i_A_tunes.toInt → 3 ≤ (f_A_noteCounts (p0.toInt).toNat).toInt := ie38 (p0.toInt)
  have f3 : (p0.toInt + 1 ≤ i_A_tunes.toInt) → ((3 : Int) ≤ (f_A_noteCounts (p0.toInt).toNat).toInt) := (ox_35 hp0 f2)
  have f4 : (3 : Int) ≤ (f_A_noteCounts (p0.toInt).toNat).toInt := (ox_36 hp0 hp1 f2)
  refine lv_iload_n hx hb dX4_left_6 rfl (lv_at hl 2 rfl) ?_
  refine lv_isub hx hb dX4_left_7 ?_
  refine lv_topi (fun x5 ex5 => ?_)
  have f6 : x5.toInt = (f_A_noteCounts (p0.toInt).toNat).toInt + -1 * p1.toInt := (ox_39 (qi_sub ex5 rfl rfl (ox_37 hp3 f1) (ox_38 hp2 f1)))
  refine lv_istore_n (lv' := [(3, .int x5), (0, .ref (r 3)), (1, .int p0), (2, .int p1)]) hx hb dX4_left_8 rfl hl (by decide) rfl (fun ls hl => ?_)
  refine lv_iload_n hx hb dX4_left_9 rfl (lv_at hl 0 rfl) ?_
  refine lv_iconst (v := 3) hx hb dX4_left_10 (by decide) ?_
  refine lv_icmp_ge (tgt := 18) hx hb dX4_left_11 (by decide) (fun c_7 => ?_) (fun c_7 => ?_)
  · skip
    have f8 : 3 ≤ x5.toInt := qi_le c_7 zc_3 rfl
    refine lv_iload_n hx hb dX4_left_18 rfl (lv_at hl 0 rfl) ?_
    rw [hQ]
    exact W.iret (v := x5) hx hb hr (fun t ht hW => ⟨⟨x5, x5, rfl, rfl, ⟨(ox_40 f8 f6), (ox_41 hp2 f1 f6), (ox_42 f1 f4 f8 f6), (ox_43 f1 f4 f8 f6), (ox_44 f6)⟩⟩, hS.F ht⟩) hS.2.2 dX4_left_19
  · skip
    have f9 : x5.toInt < 3 := qi_nle c_7 zc_3 rfl
    refine lv_iconst (v := 3) hx hb dX4_left_14 (by decide) ?_
    refine lv_goto (tgt := 19) hx hb dX4_left_15 (by decide) ?_
    rw [hQ]
    exact W.iret (v := 3) hx hb hr (fun t ht hW => ⟨⟨3, 3, rfl, rfl, ⟨(ox_45 zc_3), (ox_46 zc_3), (ox_47 f1 f4 f9 f6), (ox_48 f1 f4 f9 f6), (ox_49 f9 f6 zc_3)⟩⟩, hS.F ht⟩) hS.2.2 dX4_left_19
set_option maxHeartbeats 4000000 in
set_option maxRecDepth 100000 in
theorem kX8_tune (l : Launch) (dC : Nat → ClassId) (dI : Nat → Nat → Nat) (r : Nat → Nat) (ct : Nat → ClassId) (i_tapeLength i_time i_lyingCount i_rd_fault i_rd_token i_rd_kind i_sc_count i_sc_at i_A_tunes i_A_houses i_fA_length i_B_tunes i_B_houses i_fB_length i_acts_done i_acts_undone i_kn_count : Int32) (f_boxes f_boxKept f_trial f_offers f_A_noteCounts f_A_notes f_B_noteCounts f_B_notes f_now_where f_now_worn f_ahead_where f_ahead_worn f_acts_rows f_kn_tunes f_kn_noteTimes : Nat → Int32) (J : Nat → Nat → Int32) (L : Nat → Nat → Int64) (p0 p1 : Int32) (sz : Nat) (hI : (IX i_tapeLength i_time i_lyingCount i_rd_token i_sc_count i_sc_at i_A_tunes i_A_houses i_fA_length i_B_tunes i_B_houses i_fB_length i_acts_done i_acts_undone i_kn_count f_boxes f_A_noteCounts f_A_notes f_B_noteCounts f_B_notes f_now_worn f_ahead_worn f_acts_rows f_kn_tunes)) : Met l yX8_tune (.code yX8_tune cX8_tune 3 (some .int) :: GW) { frames := 4, cells := 0, slots := 0, locals := 163 } (va_Pc [.ref (r 0), .int p0, .int p1] (pR (dC, dI) (WX r ct i_tapeLength i_time i_lyingCount i_rd_fault i_rd_token i_rd_kind i_sc_count i_sc_at i_A_tunes i_A_houses i_fA_length i_B_tunes i_B_houses i_fB_length i_acts_done i_acts_undone i_kn_count f_boxes f_boxKept f_trial f_offers f_A_noteCounts f_A_notes f_B_noteCounts f_B_notes f_now_where f_now_worn f_ahead_where f_ahead_worn f_acts_rows f_kn_tunes f_kn_noteTimes J L) (TX ct) sz)) (va_Qi (fun (r0 : Int32) (u : Int32) => r0 = u) (fun (u : Int32) (t : State) => True) (fun q => sz ≤ q)) 0 0 (fun q => sz ≤ q) := by
  refine Met.ofW (cc := cX8_tune) (maxL := 3) (ret := (some .int)) (by decide) rfl ?_
  intro p e s m args below meth c0 s₁ B hml hv
  obtain ⟨rfl, hsz, hP, hK⟩ := hv
  have hx := B.exec
  have hb := B.bytes
  have hr := B.returns
  have hts := atoms_spec (ws := .code yX8_tune cX8_tune 3 (some .int) :: GW) B.pre
  have hG : ∀ w ∈ GW, w.before _ s = true := fun w h => hts w (List.mem_cons_of_mem _ h)
  have hown : s.vm.findClass RX8 = some m.cls := findClass_of_methodNamed B.named
  subst hsz
  have hS : va_S (fun q => s.heap.size ≤ q) s.heap s.heap [] := va_S.rf
  have hP : va_P (dC, dI) vwCl (WX r ct i_tapeLength i_time i_lyingCount i_rd_fault i_rd_token i_rd_kind i_sc_count i_sc_at i_A_tunes i_A_houses i_fA_length i_B_tunes i_B_houses i_fB_length i_acts_done i_acts_undone i_kn_count f_boxes f_boxKept f_trial f_offers f_A_noteCounts f_A_notes f_B_noteCounts f_B_notes f_now_where f_now_worn f_ahead_where f_ahead_worn f_acts_rows f_kn_tunes f_kn_noteTimes J L) s.heap := hP
  have hl := lv_entry ([.ref (r 0), .int p0, .int p1]) (n := 3) (Nat.le_of_ble_eq_true rfl)
  rw [lg_entry_eq]
  generalize (lg_sl ([.ref (r 0), .int p0, .int p1]) ++ List.replicate (3 - (lg_sl ([.ref (r 0), .int p0, .int p1])).length) Slot.unset).toArray = ls at hl ⊢
  have hl : lv_has ls 3 [(0, .ref (r 0)), (1, .int p0), (2, .int p1)] := hl
  refine nameQ (fun Q hQ => ?_)
  obtain ⟨ie0, ie1, ie2, ie3, ie4, ie5, ie6, ie7, ie8, ie9, ie10, ie11, ie12, ie13, ie14, ie15, ie16, ie17, ie18, ie19, ie20, ie21, ie22, ie23, ie24, ie25, ie26, ie27, ie28, ie29, ie30, ie31, ie32, ie33, ie34, ie35, ie36, ie37, ie38, ie39⟩ := id hI
  refine lv_aload_n hx hb dX8_tune_0 rfl (lv_at hl 0 rfl) ?_
  refine lv_iload_n hx hb dX8_tune_1 rfl (lv_at hl 1 rfl) ?_
  refine va_calli (va_runV (As := [.int p0]) (rest := []) ⟨hx, hb, hml, hown, hG⟩ (kX8_isTune l dC dI r ct i_tapeLength i_time i_lyingCount i_rd_fault i_rd_token i_rd_kind i_sc_count i_sc_at i_A_tunes i_A_houses i_fA_length i_B_tunes i_B_houses i_fB_length i_acts_done i_acts_undone i_kn_count f_boxes f_boxKept f_trial f_offers f_A_noteCounts f_A_notes f_B_noteCounts f_B_notes f_now_where f_now_worn f_ahead_where f_ahead_worn f_acts_rows f_kn_tunes f_kn_noteTimes J L p0 s.heap.size hI) (cwV 1 hG (goodV gw695 gw697 gw20 gw129 gw698) rfl rfl rfl hd_X8_isTune ⟨(Nat.le_of_ble_eq_true rfl), (Nat.le_of_ble_eq_true rfl)⟩) ⟨fbR, va_recv hK hP (ci := 7) (q0 := 0) rfl rfl, pR_in hP hK⟩ rfl rfl hl.1 rfl (lv_room (Nat.le_of_ble_eq_true rfl)) dX8_tune_2 ⟨(Nat.le_of_ble_eq_true rfl), (Nat.le_of_ble_eq_true rfl)⟩) hS (fun q hq h => absurd hq (Nat.not_lt.mpr h)) (fun q h => Nat.le_trans hS.1 h) (fun r_2 u_ t_ H1 locs ht hvm hw hB hz1 hk1 hS => ?_)
  subst hw
  have hP := wk hP hk1
  obtain ⟨f3, f4, f5⟩ := hB
  refine lv_if_ne (tgt := 11) hx hb dX8_tune_5 (by decide) (fun c_6 => ?_) (fun c_6 => ?_)
  · skip
    have f7 : r_2.toInt ≠ 0 := qi_ne c_6 rfl zc_0
    have f8 : (0 : Int) ≤ p0.toInt := (ox_50 f3 f7)
    have f9 : p0.toInt + 1 ≤ i_A_tunes.toInt := (ox_51 f3 f7)
    have f10 : r_2.toInt = (1 : Int) := (ox_52 f3 f7)
    have f11 : (1 : Int) ≤ r_2.toInt := (ox_53 f4 f5 f10)
    refine lv_iload_n hx hb dX8_tune_11 rfl (lv_at hl 2 rfl) ?_
    rcases ts_0_5 p1 with hs12 | hs12 | hs12 | hs12 | hs12 | hs12 | hs12
    · skip
      refine lv_tableOut (tgt := 120) hx hb dX8_tune_12 hs12 (by decide) ?_
      refine lv_bipush (v := (-2)) hx hb dX8_tune_120 (by decide) ?_
      rw [hQ]
      exact W.iret (v := (-2)) hx hb hr (fun t ht hW => ⟨⟨(-2), (-2), rfl, rfl, trivial⟩, hS.F ht⟩) hS.2.2 dX8_tune_122
    · skip
      refine lv_tableIn (off := 40) (tgt := 52) hx hb dX8_tune_12 (by rw [hs12]; decide) (by rw [hs12]; decide) (by rw [hs12]; decide) (by decide) ?_
      have f13 : p1.toInt = 0 := qi_eq hs12 rfl zc_0
      refine lv_aload_n hx hb dX8_tune_52 rfl (lv_at hl 0 rfl) ?_
      refine gX_X8_23_0 hx hb hG hown hK hP dX8_tune_53 ?_
      refine gX_X8_115_3 hx hb hG hown hK hP dX8_tune_56 ?_
      refine lv_iload_n hx hb dX8_tune_59 rfl (lv_at hl 1 rfl) ?_
      refine ldX_23 (mm := p0.toInt) hx hb hK hP rfl (ox_33 f8 f9) (ox_34 ie13 f9) dX8_tune_60 (fun x14 => ?_)
      rw [hQ]
      exact W.iret (v := x14) hx hb hr (fun t ht hW => ⟨⟨x14, x14, rfl, rfl, trivial⟩, hS.F ht⟩) hS.2.2 dX8_tune_61
    · skip
      refine lv_tableIn (off := 50) (tgt := 62) hx hb dX8_tune_12 (by rw [hs12]; decide) (by rw [hs12]; decide) (by rw [hs12]; decide) (by decide) ?_
      have f15 : p1.toInt = 1 := qi_eq hs12 rfl zc_1
      refine lv_aload_n hx hb dX8_tune_62 rfl (lv_at hl 0 rfl) ?_
      refine gX_X8_23_0 hx hb hG hown hK hP dX8_tune_63 ?_
      refine lv_iload_n hx hb dX8_tune_66 rfl (lv_at hl 1 rfl) ?_
      refine lv_aload_n hx hb dX8_tune_67 rfl (lv_at hl 0 rfl) ?_
      refine gX_X8_30_0 hx hb hG hown hK hP dX8_tune_68 ?_
      refine gX_X8_118_7 hx hb hG hown hK hP dX8_tune_71 ?_
      refine lv_iload_n hx hb dX8_tune_74 rfl (lv_at hl 1 rfl) ?_
      refine ldX_43 (mm := p0.toInt) hx hb hK hP rfl (ox_33 f8 f9) (ox_34 ie13 f9) dX8_tune_75 ?_
      have f16 : 0 ≤ (f_now_worn (p0.toInt).toNat).toInt ∧ (f_now_worn (p0.toInt).toNat).toInt ≤ 99 := ie36 (p0.toInt)
      refine va_calli (va_runV (As := [.int p0, .int (f_now_worn (p0.toInt).toNat)]) (rest := []) ⟨hx, hb, hml, hown, hG⟩ (kX4_left l dC dI r ct i_tapeLength i_time i_lyingCount i_rd_fault i_rd_token i_rd_kind i_sc_count i_sc_at i_A_tunes i_A_houses i_fA_length i_B_tunes i_B_houses i_fB_length i_acts_done i_acts_undone i_kn_count f_boxes f_boxKept f_trial f_offers f_A_noteCounts f_A_notes f_B_noteCounts f_B_notes f_now_where f_now_worn f_ahead_where f_ahead_worn f_acts_rows f_kn_tunes f_kn_noteTimes J L p0 (f_now_worn (p0.toInt).toNat) H1.size hI (ox_54 f8 f9) (ox_55 f9) (ox_56 f16) (ox_57 f16)) (cwV 2 hG (goodV gw699 gw700 gw701 gw132 gw702) rfl rfl rfl hd_X4_left ⟨(Nat.le_of_ble_eq_true rfl), (Nat.le_of_ble_eq_true rfl)⟩) ⟨fbR, va_recv hK hP (ci := 3) (q0 := 3) rfl rfl, pR_in hP hK⟩ rfl rfl hl.1 rfl (lv_room (Nat.le_of_ble_eq_true rfl)) dX8_tune_76 ⟨(Nat.le_of_ble_eq_true rfl), (Nat.le_of_ble_eq_true rfl)⟩) hS (fun q hq h => absurd hq (Nat.not_lt.mpr h)) (fun q h => Nat.le_trans hS.1 h) (fun r_18 u_ t_ H17 locs ht hvm hw hB hz1 hk1 hS => ?_)
      subst hw
      have hP := wk hP hk1
      obtain ⟨f19, f20, f21, f22, f23⟩ := hB
      rw [hQ]
      exact W.iret (v := r_18) hx hb hr (fun t ht hW => ⟨⟨r_18, r_18, rfl, rfl, trivial⟩, hS.F ht⟩) hS.2.2 dX8_tune_79
    · skip
      refine lv_tableIn (off := 68) (tgt := 80) hx hb dX8_tune_12 (by rw [hs12]; decide) (by rw [hs12]; decide) (by rw [hs12]; decide) (by decide) ?_
      have f24 : p1.toInt = 2 := qi_eq hs12 rfl zc_2
      refine lv_aload_n hx hb dX8_tune_80 rfl (lv_at hl 0 rfl) ?_
      refine gX_X8_30_0 hx hb hG hown hK hP dX8_tune_81 ?_
      refine gX_X8_118_7 hx hb hG hown hK hP dX8_tune_84 ?_
      refine lv_iload_n hx hb dX8_tune_87 rfl (lv_at hl 1 rfl) ?_
      refine ldX_43 (mm := p0.toInt) hx hb hK hP rfl (ox_33 f8 f9) (ox_34 ie13 f9) dX8_tune_88 ?_
      have f25 : 0 ≤ (f_now_worn (p0.toInt).toNat).toInt ∧ (f_now_worn (p0.toInt).toNat).toInt ≤ 99 := ie36 (p0.toInt)
      rw [hQ]
      exact W.iret (v := (f_now_worn (p0.toInt).toNat)) hx hb hr (fun t ht hW => ⟨⟨(f_now_worn (p0.toInt).toNat), (f_now_worn (p0.toInt).toNat), rfl, rfl, trivial⟩, hS.F ht⟩) hS.2.2 dX8_tune_89
    · skip
      refine lv_tableIn (off := 78) (tgt := 90) hx hb dX8_tune_12 (by rw [hs12]; decide) (by rw [hs12]; decide) (by rw [hs12]; decide) (by decide) ?_
      have f26 : p1.toInt = 3 := qi_eq hs12 rfl zc_3
      refine lv_aload_n hx hb dX8_tune_90 rfl (lv_at hl 0 rfl) ?_
      refine gX_X8_30_0 hx hb hG hown hK hP dX8_tune_91 ?_
      refine gX_X8_125_7 hx hb hG hown hK hP dX8_tune_94 ?_
      refine lv_iload_n hx hb dX8_tune_97 rfl (lv_at hl 1 rfl) ?_
      refine ldX_41 (mm := p0.toInt) hx hb hK hP rfl (ox_33 f8 f9) (ox_34 ie13 f9) dX8_tune_98 ?_
      rw [hQ]
      exact W.iret (v := (f_now_where (p0.toInt).toNat)) hx hb hr (fun t ht hW => ⟨⟨(f_now_where (p0.toInt).toNat), (f_now_where (p0.toInt).toNat), rfl, rfl, trivial⟩, hS.F ht⟩) hS.2.2 dX8_tune_99
    · skip
      refine lv_tableIn (off := 88) (tgt := 100) hx hb dX8_tune_12 (by rw [hs12]; decide) (by rw [hs12]; decide) (by rw [hs12]; decide) (by decide) ?_
      have f27 : p1.toInt = 4 := qi_eq hs12 rfl zc_4
      refine lv_aload_n hx hb dX8_tune_100 rfl (lv_at hl 0 rfl) ?_
      refine gX_X8_30_0 hx hb hG hown hK hP dX8_tune_101 ?_
      refine gX_X8_128_7 hx hb hG hown hK hP dX8_tune_104 ?_
      refine lv_iload_n hx hb dX8_tune_107 rfl (lv_at hl 1 rfl) ?_
      refine ldX_42 (mm := p0.toInt) hx hb hK hP rfl (ox_33 f8 f9) (ox_34 ie13 f9) dX8_tune_108 (fun x28 => ?_)
      rw [hQ]
      exact W.iret (v := x28) hx hb hr (fun t ht hW => ⟨⟨x28, x28, rfl, rfl, trivial⟩, hS.F ht⟩) hS.2.2 dX8_tune_109
    · skip
      refine lv_tableIn (off := 98) (tgt := 110) hx hb dX8_tune_12 (by rw [hs12]; decide) (by rw [hs12]; decide) (by rw [hs12]; decide) (by decide) ?_
      have f29 : p1.toInt = 5 := qi_eq hs12 rfl zc_5
      refine lv_aload_n hx hb dX8_tune_110 rfl (lv_at hl 0 rfl) ?_
      refine gX_X8_30_0 hx hb hG hown hK hP dX8_tune_111 ?_
      refine gX_X8_131_7 hx hb hG hown hK hP dX8_tune_114 ?_
      refine lv_iload_n hx hb dX8_tune_117 rfl (lv_at hl 1 rfl) ?_
      refine ldX_44 (mm := p0.toInt) hx hb hK hP rfl (ox_33 f8 f9) (ox_34 ie13 f9) dX8_tune_118 (fun x30 => ?_)
      rw [hQ]
      exact W.iret (v := x30) hx hb hr (fun t ht hW => ⟨⟨x30, x30, rfl, rfl, trivial⟩, hS.F ht⟩) hS.2.2 dX8_tune_119
  · skip
    have f31 : r_2.toInt = 0 := qi_eq c_6 rfl zc_0
    refine lv_bipush (v := (-2)) hx hb dX8_tune_8 (by decide) ?_
    rw [hQ]
    exact W.iret (v := (-2)) hx hb hr (fun t ht hW => ⟨⟨(-2), (-2), rfl, rfl, trivial⟩, hS.F ht⟩) hS.2.2 dX8_tune_10
set_option maxHeartbeats 4000000 in
set_option maxRecDepth 100000 in
theorem kX4_noteLeft (l : Launch) (dC : Nat → ClassId) (dI : Nat → Nat → Nat) (r : Nat → Nat) (ct : Nat → ClassId) (i_tapeLength i_time i_lyingCount i_rd_fault i_rd_token i_rd_kind i_sc_count i_sc_at i_A_tunes i_A_houses i_fA_length i_B_tunes i_B_houses i_fB_length i_acts_done i_acts_undone i_kn_count : Int32) (f_boxes f_boxKept f_trial f_offers f_A_noteCounts f_A_notes f_B_noteCounts f_B_notes f_now_where f_now_worn f_ahead_where f_ahead_worn f_acts_rows f_kn_tunes f_kn_noteTimes : Nat → Int32) (J : Nat → Nat → Int32) (L : Nat → Nat → Int64) (p0 p1 p2 : Int32) (sz : Nat) (hI : (IX i_tapeLength i_time i_lyingCount i_rd_token i_sc_count i_sc_at i_A_tunes i_A_houses i_fA_length i_B_tunes i_B_houses i_fB_length i_acts_done i_acts_undone i_kn_count f_boxes f_A_noteCounts f_A_notes f_B_noteCounts f_B_notes f_now_worn f_ahead_worn f_acts_rows f_kn_tunes)) (hp0 : (0 : Int) ≤ p0.toInt) (hp1 : p0.toInt + 1 ≤ i_A_tunes.toInt) (hp2 : (0 : Int) ≤ p1.toInt) (hp3 : p1.toInt ≤ (99 : Int)) (hp4 : (0 : Int) ≤ p2.toInt) (hp5 : (p2.toInt ≤ (2 : Int)) ∨ (p2.toInt + p1.toInt + 1 ≤ (f_A_noteCounts (p0.toInt).toNat).toInt)) : Met l yX4_noteLeft (.code yX4_noteLeft cX4_noteLeft 5 (some .int) :: GW) { frames := 4, cells := 0, slots := 0, locals := 163 } (va_Pc [.ref (r 3), .int p0, .int p1, .int p2] (pR (dC, dI) (WX r ct i_tapeLength i_time i_lyingCount i_rd_fault i_rd_token i_rd_kind i_sc_count i_sc_at i_A_tunes i_A_houses i_fA_length i_B_tunes i_B_houses i_fB_length i_acts_done i_acts_undone i_kn_count f_boxes f_boxKept f_trial f_offers f_A_noteCounts f_A_notes f_B_noteCounts f_B_notes f_now_where f_now_worn f_ahead_where f_ahead_worn f_acts_rows f_kn_tunes f_kn_noteTimes J L) (TX ct) sz)) (va_Qi (fun (r0 : Int32) (u : Int32) => r0 = u) (fun (u : Int32) (t : State) => ((0 : Int) ≤ u.toInt) ∧ (u.toInt ≤ (6 : Int))) (fun q => sz ≤ q)) 0 0 (fun q => sz ≤ q) := by
  refine Met.ofW (cc := cX4_noteLeft) (maxL := 5) (ret := (some .int)) (by decide) rfl ?_
  intro p e s m args below meth c0 s₁ B hml hv
  obtain ⟨rfl, hsz, hP, hK⟩ := hv
  have hx := B.exec
  have hb := B.bytes
  have hr := B.returns
  have hts := atoms_spec (ws := .code yX4_noteLeft cX4_noteLeft 5 (some .int) :: GW) B.pre
  have hG : ∀ w ∈ GW, w.before _ s = true := fun w h => hts w (List.mem_cons_of_mem _ h)
  have hown : s.vm.findClass RX4 = some m.cls := findClass_of_methodNamed B.named
  subst hsz
  have hS : va_S (fun q => s.heap.size ≤ q) s.heap s.heap [] := va_S.rf
  have hP : va_P (dC, dI) vwCl (WX r ct i_tapeLength i_time i_lyingCount i_rd_fault i_rd_token i_rd_kind i_sc_count i_sc_at i_A_tunes i_A_houses i_fA_length i_B_tunes i_B_houses i_fB_length i_acts_done i_acts_undone i_kn_count f_boxes f_boxKept f_trial f_offers f_A_noteCounts f_A_notes f_B_noteCounts f_B_notes f_now_where f_now_worn f_ahead_where f_ahead_worn f_acts_rows f_kn_tunes f_kn_noteTimes J L) s.heap := hP
  have hl := lv_entry ([.ref (r 3), .int p0, .int p1, .int p2]) (n := 5) (Nat.le_of_ble_eq_true rfl)
  rw [lg_entry_eq]
  generalize (lg_sl ([.ref (r 3), .int p0, .int p1, .int p2]) ++ List.replicate (5 - (lg_sl ([.ref (r 3), .int p0, .int p1, .int p2])).length) Slot.unset).toArray = ls at hl ⊢
  have hl : lv_has ls 5 [(0, .ref (r 3)), (1, .int p0), (2, .int p1), (3, .int p2)] := hl
  refine nameQ (fun Q hQ => ?_)
  obtain ⟨ie0, ie1, ie2, ie3, ie4, ie5, ie6, ie7, ie8, ie9, ie10, ie11, ie12, ie13, ie14, ie15, ie16, ie17, ie18, ie19, ie20, ie21, ie22, ie23, ie24, ie25, ie26, ie27, ie28, ie29, ie30, ie31, ie32, ie33, ie34, ie35, ie36, ie37, ie38, ie39⟩ := id hI
  have f1 : 0 ≤ (f_A_noteCounts (p0.toInt).toNat).toInt ∧ (f_A_noteCounts (p0.toInt).toNat).toInt ≤ 8 := ie32 (p0.toInt)
  have f2 : 0 ≤ p0.toInt → p0.toInt < i_A_tunes.toInt → 3 ≤ (f_A_noteCounts (p0.toInt).toNat).toInt := ie38 (p0.toInt)
  have f3 : (p0.toInt + 1 ≤ i_A_tunes.toInt) → ((3 : Int) ≤ (f_A_noteCounts (p0.toInt).toNat).toInt) := (ox_35 hp0 f2)
  have f4 : (3 : Int) ≤ (f_A_noteCounts (p0.toInt).toNat).toInt := (ox_36 hp0 hp1 f2)
  refine lv_aload_n hx hb dX4_noteLeft_0 rfl (lv_at hl 0 rfl) ?_
  refine gX_X4_19_3 hx hb hG hown hK hP dX4_noteLeft_1 ?_
  refine lv_iload_n hx hb dX4_noteLeft_4 rfl (lv_at hl 1 rfl) ?_
  refine ldX_24 (mm := p0.toInt) hx hb hK hP rfl (ox_33 hp0 hp1) (ox_34 ie13 hp1) dX4_noteLeft_5 ?_
  refine lv_aload_n hx hb dX4_noteLeft_6 rfl (lv_at hl 0 rfl) ?_
  refine lv_iload_n hx hb dX4_noteLeft_7 rfl (lv_at hl 1 rfl) ?_
  refine lv_iload_n hx hb dX4_noteLeft_8 rfl (lv_at hl 2 rfl) ?_
  refine va_calli (va_runV (As := [.int p0, .int p1]) (rest := [.int (f_A_noteCounts (p0.toInt).toNat)]) ⟨hx, hb, hml, hown, hG⟩ (kX4_left l dC dI r ct i_tapeLength i_time i_lyingCount i_rd_fault i_rd_token i_rd_kind i_sc_count i_sc_at i_A_tunes i_A_houses i_fA_length i_B_tunes i_B_houses i_fB_length i_acts_done i_acts_undone i_kn_count f_boxes f_boxKept f_trial f_offers f_A_noteCounts f_A_notes f_B_noteCounts f_B_notes f_now_where f_now_worn f_ahead_where f_ahead_worn f_acts_rows f_kn_tunes f_kn_noteTimes J L p0 p1 s.heap.size hI (ox_54 hp0 hp1) (ox_55 hp1) (ox_58 hp2 hp3) (ox_59 hp2 hp3)) (cwV 2 hG (goodV gw711 gw700 gw701 gw132 gw702) rfl rfl rfl hd_X4_left ⟨(Nat.le_of_ble_eq_true rfl), (Nat.le_of_ble_eq_true rfl)⟩) ⟨fbR, va_recv hK hP (ci := 3) (q0 := 3) rfl rfl, pR_in hP hK⟩ rfl rfl hl.1 rfl (lv_room (Nat.le_of_ble_eq_true rfl)) dX4_noteLeft_9 ⟨(Nat.le_of_ble_eq_true rfl), (Nat.le_of_ble_eq_true rfl)⟩) hS (fun q hq h => absurd hq (Nat.not_lt.mpr h)) (fun q h => Nat.le_trans hS.1 h) (fun r_6 u_ t_ H5 locs ht hvm hw hB hz1 hk1 hS => ?_)
  subst hw
  have hP := wk hP hk1
  obtain ⟨f7, f8, f9, f10, f11⟩ := hB
  refine lv_isub hx hb dX4_noteLeft_12 ?_
  refine lv_topi (fun x12 ex12 => ?_)
  have f13 : x12.toInt = (f_A_noteCounts (p0.toInt).toNat).toInt + -1 * r_6.toInt := (ox_39 (qi_sub ex12 rfl rfl (ox_60 f1 f8) (ox_61 f1 f7)))
  refine lv_istore (lv' := [(4, .int x12), (0, .ref (r 3)), (1, .int p0), (2, .int p1), (3, .int p2)]) hx hb dX4_noteLeft_13 hl (by decide) rfl (fun ls hl => ?_)
  refine lv_aload_n hx hb dX4_noteLeft_15 rfl (lv_at hl 1 rfl) ?_
  refine gX_X4_22_3 hx hb hG hown hK hP dX4_noteLeft_16 ?_
  refine lv_iload_n hx hb dX4_noteLeft_19 rfl (lv_at hl 2 rfl) ?_
  refine lv_bipush (v := 8) hx hb dX4_noteLeft_20 (by decide) ?_
  refine lv_imul hx hb dX4_noteLeft_22 ?_
  refine lv_topi (fun x14 ex14 => ?_)
  have f15 : x14.toInt = 8 * p0.toInt := (ox_64 (qi_mul ex14 rfl zc_8 (ox_62 hp0 hp1) (ox_63 ie13 hp1)))
  refine lv_iload hx hb dX4_noteLeft_23 (lv_at hl 0 rfl) ?_
  refine lv_iadd hx hb dX4_noteLeft_25 ?_
  refine lv_topi (fun x16 ex16 => ?_)
  have f17 : x16.toInt = (f_A_noteCounts (p0.toInt).toNat).toInt + -1 * r_6.toInt + 8 * p0.toInt := (ox_67 (qi_add ex16 rfl rfl (ox_65 hp0 f1 f8 f13 f15) (ox_66 ie13 hp1 f1 f7 f13 f15)) f13 f15)
  refine lv_iload_n hx hb dX4_noteLeft_26 rfl (lv_at hl 4 rfl) ?_
  refine lv_iadd hx hb dX4_noteLeft_27 ?_
  refine lv_topi (fun x18 ex18 => ?_)
  have f19 : x18.toInt = (f_A_noteCounts (p0.toInt).toNat).toInt + p2.toInt + -1 * r_6.toInt + 8 * p0.toInt := (ox_70 (qi_add ex18 rfl rfl (ox_68 hp0 hp4 f1 f8 f17) (ox_69 ie13 hp1 hp2 hp5 f1 f7 f17)) f17)
  refine ldX_25 (mm := (f_A_noteCounts (p0.toInt).toNat).toInt + p2.toInt + -1 * r_6.toInt + 8 * p0.toInt) hx hb hK hP f19 (ox_71 hp0 hp1 hp2 hp4 f2 f11) (ox_72 ie13 hp1 hp5 f1 f7 f11) dX4_noteLeft_28 ?_
  have f20 : 0 ≤ (f_A_notes ((f_A_noteCounts (p0.toInt).toNat).toInt + p2.toInt + -1 * r_6.toInt + 8 * p0.toInt).toNat).toInt ∧ (f_A_notes ((f_A_noteCounts (p0.toInt).toNat).toInt + p2.toInt + -1 * r_6.toInt + 8 * p0.toInt).toNat).toInt ≤ 6 := ie33 ((f_A_noteCounts (p0.toInt).toNat).toInt + p2.toInt + -1 * r_6.toInt + 8 * p0.toInt)
  rw [hQ]
  exact W.iret (v := (f_A_notes ((f_A_noteCounts (p0.toInt).toNat).toInt + p2.toInt + -1 * r_6.toInt + 8 * p0.toInt).toNat)) hx hb hr (fun t ht hW => ⟨⟨(f_A_notes ((f_A_noteCounts (p0.toInt).toNat).toInt + p2.toInt + -1 * r_6.toInt + 8 * p0.toInt).toNat), (f_A_notes ((f_A_noteCounts (p0.toInt).toNat).toInt + p2.toInt + -1 * r_6.toInt + 8 * p0.toInt).toNat), rfl, rfl, ⟨(ox_73 f20), (ox_74 f20)⟩⟩, hS.F ht⟩) hS.2.2 dX4_noteLeft_29
set_option maxHeartbeats 4000000 in
set_option maxRecDepth 100000 in
theorem kX8_note (l : Launch) (dC : Nat → ClassId) (dI : Nat → Nat → Nat) (r : Nat → Nat) (ct : Nat → ClassId) (i_tapeLength i_time i_lyingCount i_rd_fault i_rd_token i_rd_kind i_sc_count i_sc_at i_A_tunes i_A_houses i_fA_length i_B_tunes i_B_houses i_fB_length i_acts_done i_acts_undone i_kn_count : Int32) (f_boxes f_boxKept f_trial f_offers f_A_noteCounts f_A_notes f_B_noteCounts f_B_notes f_now_where f_now_worn f_ahead_where f_ahead_worn f_acts_rows f_kn_tunes f_kn_noteTimes : Nat → Int32) (J : Nat → Nat → Int32) (L : Nat → Nat → Int64) (p0 p1 : Int32) (sz : Nat) (hI : (IX i_tapeLength i_time i_lyingCount i_rd_token i_sc_count i_sc_at i_A_tunes i_A_houses i_fA_length i_B_tunes i_B_houses i_fB_length i_acts_done i_acts_undone i_kn_count f_boxes f_A_noteCounts f_A_notes f_B_noteCounts f_B_notes f_now_worn f_ahead_worn f_acts_rows f_kn_tunes)) : Met l yX8_note (.code yX8_note cX8_note 3 (some .int) :: GW) { frames := 6, cells := 0, slots := 0, locals := 227 } (va_Pc [.ref (r 0), .int p0, .int p1] (pR (dC, dI) (WX r ct i_tapeLength i_time i_lyingCount i_rd_fault i_rd_token i_rd_kind i_sc_count i_sc_at i_A_tunes i_A_houses i_fA_length i_B_tunes i_B_houses i_fB_length i_acts_done i_acts_undone i_kn_count f_boxes f_boxKept f_trial f_offers f_A_noteCounts f_A_notes f_B_noteCounts f_B_notes f_now_where f_now_worn f_ahead_where f_ahead_worn f_acts_rows f_kn_tunes f_kn_noteTimes J L) (TX ct) sz)) (va_Qi (fun (r0 : Int32) (u : Int32) => r0 = u) (fun (u : Int32) (t : State) => True) (fun q => sz ≤ q)) 0 0 (fun q => sz ≤ q) := by
  refine Met.ofW (cc := cX8_note) (maxL := 3) (ret := (some .int)) (by decide) rfl ?_
  intro p e s m args below meth c0 s₁ B hml hv
  obtain ⟨rfl, hsz, hP, hK⟩ := hv
  have hx := B.exec
  have hb := B.bytes
  have hr := B.returns
  have hts := atoms_spec (ws := .code yX8_note cX8_note 3 (some .int) :: GW) B.pre
  have hG : ∀ w ∈ GW, w.before _ s = true := fun w h => hts w (List.mem_cons_of_mem _ h)
  have hown : s.vm.findClass RX8 = some m.cls := findClass_of_methodNamed B.named
  subst hsz
  have hS : va_S (fun q => s.heap.size ≤ q) s.heap s.heap [] := va_S.rf
  have hP : va_P (dC, dI) vwCl (WX r ct i_tapeLength i_time i_lyingCount i_rd_fault i_rd_token i_rd_kind i_sc_count i_sc_at i_A_tunes i_A_houses i_fA_length i_B_tunes i_B_houses i_fB_length i_acts_done i_acts_undone i_kn_count f_boxes f_boxKept f_trial f_offers f_A_noteCounts f_A_notes f_B_noteCounts f_B_notes f_now_where f_now_worn f_ahead_where f_ahead_worn f_acts_rows f_kn_tunes f_kn_noteTimes J L) s.heap := hP
  have hl := lv_entry ([.ref (r 0), .int p0, .int p1]) (n := 3) (Nat.le_of_ble_eq_true rfl)
  rw [lg_entry_eq]
  generalize (lg_sl ([.ref (r 0), .int p0, .int p1]) ++ List.replicate (3 - (lg_sl ([.ref (r 0), .int p0, .int p1])).length) Slot.unset).toArray = ls at hl ⊢
  have hl : lv_has ls 3 [(0, .ref (r 0)), (1, .int p0), (2, .int p1)] := hl
  refine nameQ (fun Q hQ => ?_)
  obtain ⟨ie0, ie1, ie2, ie3, ie4, ie5, ie6, ie7, ie8, ie9, ie10, ie11, ie12, ie13, ie14, ie15, ie16, ie17, ie18, ie19, ie20, ie21, ie22, ie23, ie24, ie25, ie26, ie27, ie28, ie29, ie30, ie31, ie32, ie33, ie34, ie35, ie36, ie37, ie38, ie39⟩ := id hI
  refine lv_aload_n hx hb dX8_note_0 rfl (lv_at hl 0 rfl) ?_
  refine lv_iload_n hx hb dX8_note_1 rfl (lv_at hl 1 rfl) ?_
  refine va_calli (va_runV (As := [.int p0]) (rest := []) ⟨hx, hb, hml, hown, hG⟩ (kX8_isTune l dC dI r ct i_tapeLength i_time i_lyingCount i_rd_fault i_rd_token i_rd_kind i_sc_count i_sc_at i_A_tunes i_A_houses i_fA_length i_B_tunes i_B_houses i_fB_length i_acts_done i_acts_undone i_kn_count f_boxes f_boxKept f_trial f_offers f_A_noteCounts f_A_notes f_B_noteCounts f_B_notes f_now_where f_now_worn f_ahead_where f_ahead_worn f_acts_rows f_kn_tunes f_kn_noteTimes J L p0 s.heap.size hI) (cwV 1 hG (goodV gw695 gw697 gw20 gw129 gw698) rfl rfl rfl hd_X8_isTune ⟨(Nat.le_of_ble_eq_true rfl), (Nat.le_of_ble_eq_true rfl)⟩) ⟨fbR, va_recv hK hP (ci := 7) (q0 := 0) rfl rfl, pR_in hP hK⟩ rfl rfl hl.1 rfl (lv_room (Nat.le_of_ble_eq_true rfl)) dX8_note_2 ⟨(Nat.le_of_ble_eq_true rfl), (Nat.le_of_ble_eq_true rfl)⟩) hS (fun q hq h => absurd hq (Nat.not_lt.mpr h)) (fun q h => Nat.le_trans hS.1 h) (fun r_2 u_ t_ H1 locs ht hvm hw hB hz1 hk1 hS => ?_)
  subst hw
  have hP := wk hP hk1
  obtain ⟨f3, f4, f5⟩ := hB
  refine lv_if_eq (tgt := 33) hx hb dX8_note_5 (by decide) (fun c_6 => ?_) (fun c_6 => ?_)
  · skip
    have f7 : r_2.toInt = 0 := qi_eq c_6 rfl zc_0
    refine lv_iconst (v := (-1)) hx hb dX8_note_33 (by decide) ?_
    rw [hQ]
    exact W.iret (v := (-1)) hx hb hr (fun t ht hW => ⟨⟨(-1), (-1), rfl, rfl, trivial⟩, hS.F ht⟩) hS.2.2 dX8_note_34
  · skip
    have f8 : r_2.toInt ≠ 0 := qi_ne c_6 rfl zc_0
    have f9 : (0 : Int) ≤ p0.toInt := (ox_50 f3 f8)
    have f10 : p0.toInt + 1 ≤ i_A_tunes.toInt := (ox_51 f3 f8)
    have f11 : r_2.toInt = (1 : Int) := (ox_52 f3 f8)
    have f12 : (1 : Int) ≤ r_2.toInt := (ox_53 f4 f5 f11)
    refine lv_iload_n hx hb dX8_note_8 rfl (lv_at hl 2 rfl) ?_
    refine lv_if_lt (tgt := 33) hx hb dX8_note_9 (by decide) (fun c_13 => ?_) (fun c_13 => ?_)
    · skip
      have f14 : p1.toInt < 0 := qi_lt c_13 rfl zc_0
      refine lv_iconst (v := (-1)) hx hb dX8_note_33 (by decide) ?_
      rw [hQ]
      exact W.iret (v := (-1)) hx hb hr (fun t ht hW => ⟨⟨(-1), (-1), rfl, rfl, trivial⟩, hS.F ht⟩) hS.2.2 dX8_note_34
    · skip
      have f15 : 0 ≤ p1.toInt := qi_nlt c_13 rfl zc_0
      refine lv_iload_n hx hb dX8_note_12 rfl (lv_at hl 2 rfl) ?_
      refine lv_aload_n hx hb dX8_note_13 rfl (lv_at hl 0 rfl) ?_
      refine gX_X8_23_0 hx hb hG hown hK hP dX8_note_14 ?_
      refine lv_iload_n hx hb dX8_note_17 rfl (lv_at hl 1 rfl) ?_
      refine lv_aload_n hx hb dX8_note_18 rfl (lv_at hl 0 rfl) ?_
      refine gX_X8_30_0 hx hb hG hown hK hP dX8_note_19 ?_
      refine gX_X8_118_7 hx hb hG hown hK hP dX8_note_22 ?_
      refine lv_iload_n hx hb dX8_note_25 rfl (lv_at hl 1 rfl) ?_
      refine ldX_43 (mm := p0.toInt) hx hb hK hP rfl (ox_33 f9 f10) (ox_34 ie13 f10) dX8_note_26 ?_
      have f16 : 0 ≤ (f_now_worn (p0.toInt).toNat).toInt ∧ (f_now_worn (p0.toInt).toNat).toInt ≤ 99 := ie36 (p0.toInt)
      refine va_calli (va_runV (As := [.int p0, .int (f_now_worn (p0.toInt).toNat)]) (rest := [.int p1]) ⟨hx, hb, hml, hown, hG⟩ (kX4_left l dC dI r ct i_tapeLength i_time i_lyingCount i_rd_fault i_rd_token i_rd_kind i_sc_count i_sc_at i_A_tunes i_A_houses i_fA_length i_B_tunes i_B_houses i_fB_length i_acts_done i_acts_undone i_kn_count f_boxes f_boxKept f_trial f_offers f_A_noteCounts f_A_notes f_B_noteCounts f_B_notes f_now_where f_now_worn f_ahead_where f_ahead_worn f_acts_rows f_kn_tunes f_kn_noteTimes J L p0 (f_now_worn (p0.toInt).toNat) H1.size hI (ox_54 f9 f10) (ox_55 f10) (ox_56 f16) (ox_57 f16)) (cwV 2 hG (goodV gw699 gw700 gw701 gw132 gw702) rfl rfl rfl hd_X4_left ⟨(Nat.le_of_ble_eq_true rfl), (Nat.le_of_ble_eq_true rfl)⟩) ⟨fbR, va_recv hK hP (ci := 3) (q0 := 3) rfl rfl, pR_in hP hK⟩ rfl rfl hl.1 rfl (lv_room (Nat.le_of_ble_eq_true rfl)) dX8_note_27 ⟨(Nat.le_of_ble_eq_true rfl), (Nat.le_of_ble_eq_true rfl)⟩) hS (fun q hq h => absurd hq (Nat.not_lt.mpr h)) (fun q h => Nat.le_trans hS.1 h) (fun r_18 u_ t_ H17 locs ht hvm hw hB hz1 hk1 hS => ?_)
      subst hw
      have hP := wk hP hk1
      obtain ⟨f19, f20, f21, f22, f23⟩ := hB
      refine lv_icmp_lt (tgt := 35) hx hb dX8_note_30 (by decide) (fun c_24 => ?_) (fun c_24 => ?_)
      · skip
        have f25 : p1.toInt < r_18.toInt := qi_lt c_24 rfl rfl
        refine lv_aload_n hx hb dX8_note_35 rfl (lv_at hl 0 rfl) ?_
        refine gX_X8_23_0 hx hb hG hown hK hP dX8_note_36 ?_
        refine lv_iload_n hx hb dX8_note_39 rfl (lv_at hl 1 rfl) ?_
        refine lv_aload_n hx hb dX8_note_40 rfl (lv_at hl 0 rfl) ?_
        refine gX_X8_30_0 hx hb hG hown hK hP dX8_note_41 ?_
        refine gX_X8_118_7 hx hb hG hown hK hP dX8_note_44 ?_
        refine lv_iload_n hx hb dX8_note_47 rfl (lv_at hl 1 rfl) ?_
        refine ldX_43 (mm := p0.toInt) hx hb hK hP rfl (ox_33 f9 f10) (ox_34 ie13 f10) dX8_note_48 ?_
        refine lv_iload_n hx hb dX8_note_49 rfl (lv_at hl 2 rfl) ?_
        refine va_calli (va_runV (As := [.int p0, .int (f_now_worn (p0.toInt).toNat), .int p1]) (rest := []) ⟨hx, hb, hml, hown, hG⟩ (kX4_noteLeft l dC dI r ct i_tapeLength i_time i_lyingCount i_rd_fault i_rd_token i_rd_kind i_sc_count i_sc_at i_A_tunes i_A_houses i_fA_length i_B_tunes i_B_houses i_fB_length i_acts_done i_acts_undone i_kn_count f_boxes f_boxKept f_trial f_offers f_A_noteCounts f_A_notes f_B_noteCounts f_B_notes f_now_where f_now_worn f_ahead_where f_ahead_worn f_acts_rows f_kn_tunes f_kn_noteTimes J L p0 (f_now_worn (p0.toInt).toNat) p1 H17.size hI (ox_54 f9 f10) (ox_55 f10) (ox_56 f16) (ox_57 f16) (ox_75 f15 f25) (ox_76 f23 f25)) (cwV 3 hG (goodV gw707 gw708 gw709 gw132 gw710) rfl rfl rfl hd_X4_noteLeft ⟨(Nat.le_of_ble_eq_true rfl), (Nat.le_of_ble_eq_true rfl)⟩) ⟨fbR, va_recv hK hP (ci := 3) (q0 := 3) rfl rfl, pR_in hP hK⟩ rfl rfl hl.1 rfl (lv_room (Nat.le_of_ble_eq_true rfl)) dX8_note_50 ⟨(Nat.le_of_ble_eq_true rfl), (Nat.le_of_ble_eq_true rfl)⟩) hS (fun q hq h => absurd hq (Nat.not_lt.mpr h)) (fun q h => Nat.le_trans hS.1 h) (fun r_27 u_ t_ H26 locs ht hvm hw hB hz1 hk1 hS => ?_)
        subst hw
        have hP := wk hP hk1
        obtain ⟨f28, f29⟩ := hB
        rw [hQ]
        exact W.iret (v := r_27) hx hb hr (fun t ht hW => ⟨⟨r_27, r_27, rfl, rfl, trivial⟩, hS.F ht⟩) hS.2.2 dX8_note_53
      · skip
        have f30 : r_18.toInt ≤ p1.toInt := qi_nlt c_24 rfl rfl
        refine lv_iconst (v := (-1)) hx hb dX8_note_33 (by decide) ?_
        rw [hQ]
        exact W.iret (v := (-1)) hx hb hr (fun t ht hW => ⟨⟨(-1), (-1), rfl, rfl, trivial⟩, hS.F ht⟩) hS.2.2 dX8_note_34
set_option maxHeartbeats 4000000 in
set_option maxRecDepth 100000 in
theorem kX8_isHouse (l : Launch) (dC : Nat → ClassId) (dI : Nat → Nat → Nat) (r : Nat → Nat) (ct : Nat → ClassId) (i_tapeLength i_time i_lyingCount i_rd_fault i_rd_token i_rd_kind i_sc_count i_sc_at i_A_tunes i_A_houses i_fA_length i_B_tunes i_B_houses i_fB_length i_acts_done i_acts_undone i_kn_count : Int32) (f_boxes f_boxKept f_trial f_offers f_A_noteCounts f_A_notes f_B_noteCounts f_B_notes f_now_where f_now_worn f_ahead_where f_ahead_worn f_acts_rows f_kn_tunes f_kn_noteTimes : Nat → Int32) (J : Nat → Nat → Int32) (L : Nat → Nat → Int64) (p0 : Int32) (sz : Nat) (hI : (IX i_tapeLength i_time i_lyingCount i_rd_token i_sc_count i_sc_at i_A_tunes i_A_houses i_fA_length i_B_tunes i_B_houses i_fB_length i_acts_done i_acts_undone i_kn_count f_boxes f_A_noteCounts f_A_notes f_B_noteCounts f_B_notes f_now_worn f_ahead_worn f_acts_rows f_kn_tunes)) : Met l yX8_isHouse (.code yX8_isHouse cX8_isHouse 2 (some .boolean) :: GW) { frames := 2, cells := 0, slots := 0, locals := 100 } (va_Pc [.ref (r 0), .int p0] (pR (dC, dI) (WX r ct i_tapeLength i_time i_lyingCount i_rd_fault i_rd_token i_rd_kind i_sc_count i_sc_at i_A_tunes i_A_houses i_fA_length i_B_tunes i_B_houses i_fB_length i_acts_done i_acts_undone i_kn_count f_boxes f_boxKept f_trial f_offers f_A_noteCounts f_A_notes f_B_noteCounts f_B_notes f_now_where f_now_worn f_ahead_where f_ahead_worn f_acts_rows f_kn_tunes f_kn_noteTimes J L) (TX ct) sz)) (va_Qi (fun (r0 : Int32) (u : Int32) => r0 = u) (fun (u : Int32) (t : State) => (((p0.toInt + 1 ≤ (0 : Int)) ∧ (u.toInt = (0 : Int))) ∨ (((0 : Int) ≤ p0.toInt) ∧ (i_A_houses.toInt ≤ p0.toInt) ∧ (u.toInt = (0 : Int))) ∨ (((0 : Int) ≤ p0.toInt) ∧ (p0.toInt + 1 ≤ i_A_houses.toInt) ∧ (u.toInt = (1 : Int)))) ∧ ((0 : Int) ≤ u.toInt) ∧ (u.toInt ≤ (1 : Int))) (fun q => sz ≤ q)) 0 0 (fun q => sz ≤ q) := by
  refine Met.ofW (cc := cX8_isHouse) (maxL := 2) (ret := (some .boolean)) (by decide) rfl ?_
  intro p e s m args below meth c0 s₁ B hml hv
  obtain ⟨rfl, hsz, hP, hK⟩ := hv
  have hx := B.exec
  have hb := B.bytes
  have hr := B.returns
  have hts := atoms_spec (ws := .code yX8_isHouse cX8_isHouse 2 (some .boolean) :: GW) B.pre
  have hG : ∀ w ∈ GW, w.before _ s = true := fun w h => hts w (List.mem_cons_of_mem _ h)
  have hown : s.vm.findClass RX8 = some m.cls := findClass_of_methodNamed B.named
  subst hsz
  have hS : va_S (fun q => s.heap.size ≤ q) s.heap s.heap [] := va_S.rf
  have hP : va_P (dC, dI) vwCl (WX r ct i_tapeLength i_time i_lyingCount i_rd_fault i_rd_token i_rd_kind i_sc_count i_sc_at i_A_tunes i_A_houses i_fA_length i_B_tunes i_B_houses i_fB_length i_acts_done i_acts_undone i_kn_count f_boxes f_boxKept f_trial f_offers f_A_noteCounts f_A_notes f_B_noteCounts f_B_notes f_now_where f_now_worn f_ahead_where f_ahead_worn f_acts_rows f_kn_tunes f_kn_noteTimes J L) s.heap := hP
  have hl := lv_entry ([.ref (r 0), .int p0]) (n := 2) (Nat.le_of_ble_eq_true rfl)
  rw [lg_entry_eq]
  generalize (lg_sl ([.ref (r 0), .int p0]) ++ List.replicate (2 - (lg_sl ([.ref (r 0), .int p0])).length) Slot.unset).toArray = ls at hl ⊢
  have hl : lv_has ls 2 [(0, .ref (r 0)), (1, .int p0)] := hl
  refine nameQ (fun Q hQ => ?_)
  obtain ⟨ie0, ie1, ie2, ie3, ie4, ie5, ie6, ie7, ie8, ie9, ie10, ie11, ie12, ie13, ie14, ie15, ie16, ie17, ie18, ie19, ie20, ie21, ie22, ie23, ie24, ie25, ie26, ie27, ie28, ie29, ie30, ie31, ie32, ie33, ie34, ie35, ie36, ie37, ie38, ie39⟩ := id hI
  refine lv_iload_n hx hb dX8_isHouse_0 rfl (lv_at hl 1 rfl) ?_
  refine lv_if_lt (tgt := 19) hx hb dX8_isHouse_1 (by decide) (fun c_1 => ?_) (fun c_1 => ?_)
  · skip
    have f2 : p0.toInt < 0 := qi_lt c_1 rfl zc_0
    refine lv_iconst (v := 0) hx hb dX8_isHouse_19 (by decide) ?_
    rw [hQ]
    exact W.zret (v := 0) hx hb hr (by decide) (fun t ht hW => ⟨⟨0, 0, rfl, rfl, ⟨(ox_77 ie14 ie15 f2 zc_0), (ox_27 zc_0), (ox_28 zc_0)⟩⟩, hS.F ht⟩) hS.2.2 dX8_isHouse_20
  · skip
    have f3 : 0 ≤ p0.toInt := qi_nlt c_1 rfl zc_0
    refine lv_iload_n hx hb dX8_isHouse_4 rfl (lv_at hl 1 rfl) ?_
    refine lv_aload_n hx hb dX8_isHouse_5 rfl (lv_at hl 0 rfl) ?_
    refine gX_X8_23_0 hx hb hG hown hK hP dX8_isHouse_6 ?_
    refine gX_X8_99_3 hx hb hG hown hK hP dX8_isHouse_9 ?_
    refine lv_icmp_ge (tgt := 19) hx hb dX8_isHouse_12 (by decide) (fun c_4 => ?_) (fun c_4 => ?_)
    · skip
      have f5 : i_A_houses.toInt ≤ p0.toInt := qi_le c_4 rfl rfl
      refine lv_iconst (v := 0) hx hb dX8_isHouse_19 (by decide) ?_
      rw [hQ]
      exact W.zret (v := 0) hx hb hr (by decide) (fun t ht hW => ⟨⟨0, 0, rfl, rfl, ⟨(ox_29 f5 zc_0), (ox_27 zc_0), (ox_28 zc_0)⟩⟩, hS.F ht⟩) hS.2.2 dX8_isHouse_20
    · skip
      have f6 : p0.toInt < i_A_houses.toInt := qi_nle c_4 rfl rfl
      refine lv_iconst (v := 1) hx hb dX8_isHouse_15 (by decide) ?_
      refine lv_goto (tgt := 20) hx hb dX8_isHouse_16 (by decide) ?_
      rw [hQ]
      exact W.zret (v := 1) hx hb hr (by decide) (fun t ht hW => ⟨⟨1, 1, rfl, rfl, ⟨(ox_30 f3 f6 zc_1), (ox_31 zc_1), (ox_32 zc_1)⟩⟩, hS.F ht⟩) hS.2.2 dX8_isHouse_20
set_option maxHeartbeats 4000000 in
set_option maxRecDepth 100000 in
theorem kX7_isPaid (l : Launch) (dC : Nat → ClassId) (dI : Nat → Nat → Nat) (r : Nat → Nat) (ct : Nat → ClassId) (i_tapeLength i_time i_lyingCount i_rd_fault i_rd_token i_rd_kind i_sc_count i_sc_at i_A_tunes i_A_houses i_fA_length i_B_tunes i_B_houses i_fB_length i_acts_done i_acts_undone i_kn_count : Int32) (f_boxes f_boxKept f_trial f_offers f_A_noteCounts f_A_notes f_B_noteCounts f_B_notes f_now_where f_now_worn f_ahead_where f_ahead_worn f_acts_rows f_kn_tunes f_kn_noteTimes : Nat → Int32) (J : Nat → Nat → Int32) (L : Nat → Nat → Int64) (p0 : Int32) (sz : Nat) (hI : (IX i_tapeLength i_time i_lyingCount i_rd_token i_sc_count i_sc_at i_A_tunes i_A_houses i_fA_length i_B_tunes i_B_houses i_fB_length i_acts_done i_acts_undone i_kn_count f_boxes f_A_noteCounts f_A_notes f_B_noteCounts f_B_notes f_now_worn f_ahead_worn f_acts_rows f_kn_tunes)) (hp0 : (0 : Int) ≤ p0.toInt) (hp1 : p0.toInt ≤ (4 : Int)) : Met l yX7_isPaid (.code yX7_isPaid cX7_isPaid 2 (some .boolean) :: GW) { frames := 2, cells := 0, slots := 0, locals := 100 } (va_Pc [.ref (r 7), .int p0] (pR (dC, dI) (WX r ct i_tapeLength i_time i_lyingCount i_rd_fault i_rd_token i_rd_kind i_sc_count i_sc_at i_A_tunes i_A_houses i_fA_length i_B_tunes i_B_houses i_fB_length i_acts_done i_acts_undone i_kn_count f_boxes f_boxKept f_trial f_offers f_A_noteCounts f_A_notes f_B_noteCounts f_B_notes f_now_where f_now_worn f_ahead_where f_ahead_worn f_acts_rows f_kn_tunes f_kn_noteTimes J L) (TX ct) sz)) (va_Qi (fun (r0 : Int32) (u : Int32) => r0 = u) (fun (u : Int32) (t : State) => (((u.toInt = (0 : Int))) ∨ ((u.toInt = (1 : Int)))) ∧ ((0 : Int) ≤ u.toInt) ∧ (u.toInt ≤ (1 : Int))) (fun q => sz ≤ q)) 0 0 (fun q => sz ≤ q) := by
  refine Met.ofW (cc := cX7_isPaid) (maxL := 2) (ret := (some .boolean)) (by decide) rfl ?_
  intro p e s m args below meth c0 s₁ B hml hv
  obtain ⟨rfl, hsz, hP, hK⟩ := hv
  have hx := B.exec
  have hb := B.bytes
  have hr := B.returns
  have hts := atoms_spec (ws := .code yX7_isPaid cX7_isPaid 2 (some .boolean) :: GW) B.pre
  have hG : ∀ w ∈ GW, w.before _ s = true := fun w h => hts w (List.mem_cons_of_mem _ h)
  have hown : s.vm.findClass RX7 = some m.cls := findClass_of_methodNamed B.named
  subst hsz
  have hS : va_S (fun q => s.heap.size ≤ q) s.heap s.heap [] := va_S.rf
  have hP : va_P (dC, dI) vwCl (WX r ct i_tapeLength i_time i_lyingCount i_rd_fault i_rd_token i_rd_kind i_sc_count i_sc_at i_A_tunes i_A_houses i_fA_length i_B_tunes i_B_houses i_fB_length i_acts_done i_acts_undone i_kn_count f_boxes f_boxKept f_trial f_offers f_A_noteCounts f_A_notes f_B_noteCounts f_B_notes f_now_where f_now_worn f_ahead_where f_ahead_worn f_acts_rows f_kn_tunes f_kn_noteTimes J L) s.heap := hP
  have hl := lv_entry ([.ref (r 7), .int p0]) (n := 2) (Nat.le_of_ble_eq_true rfl)
  rw [lg_entry_eq]
  generalize (lg_sl ([.ref (r 7), .int p0]) ++ List.replicate (2 - (lg_sl ([.ref (r 7), .int p0])).length) Slot.unset).toArray = ls at hl ⊢
  have hl : lv_has ls 2 [(0, .ref (r 7)), (1, .int p0)] := hl
  refine nameQ (fun Q hQ => ?_)
  obtain ⟨ie0, ie1, ie2, ie3, ie4, ie5, ie6, ie7, ie8, ie9, ie10, ie11, ie12, ie13, ie14, ie15, ie16, ie17, ie18, ie19, ie20, ie21, ie22, ie23, ie24, ie25, ie26, ie27, ie28, ie29, ie30, ie31, ie32, ie33, ie34, ie35, ie36, ie37, ie38, ie39⟩ := id hI
  refine lv_aload_n hx hb dX7_isPaid_0 rfl (lv_at hl 0 rfl) ?_
  refine gX_X7_15_7 hx hb hG hown hK hP dX7_isPaid_1 ?_
  refine lv_iload_n hx hb dX7_isPaid_4 rfl (lv_at hl 1 rfl) ?_
  refine ldX_42 (mm := p0.toInt) hx hb hK hP rfl (ox_78 hp0 hp1) (ox_79 hp0 hp1) dX7_isPaid_5 (fun x1 => ?_)
  refine lv_iconst (v := 1) hx hb dX7_isPaid_6 (by decide) ?_
  refine lv_icmp_ne (tgt := 14) hx hb dX7_isPaid_7 (by decide) (fun c_2 => ?_) (fun c_2 => ?_)
  · skip
    have f3 : x1.toInt ≠ 1 := qi_ne c_2 rfl zc_1
    refine lv_iconst (v := 0) hx hb dX7_isPaid_14 (by decide) ?_
    rw [hQ]
    exact W.zret (v := 0) hx hb hr (by decide) (fun t ht hW => ⟨⟨0, 0, rfl, rfl, ⟨(ox_80 zc_0), (ox_27 zc_0), (ox_28 zc_0)⟩⟩, hS.F ht⟩) hS.2.2 dX7_isPaid_15
  · skip
    have f4 : x1.toInt = 1 := qi_eq c_2 rfl zc_1
    refine lv_iconst (v := 1) hx hb dX7_isPaid_10 (by decide) ?_
    refine lv_goto (tgt := 15) hx hb dX7_isPaid_11 (by decide) ?_
    rw [hQ]
    exact W.zret (v := 1) hx hb hr (by decide) (fun t ht hW => ⟨⟨1, 1, rfl, rfl, ⟨(ox_81 zc_1), (ox_31 zc_1), (ox_32 zc_1)⟩⟩, hS.F ht⟩) hS.2.2 dX7_isPaid_15
set_option maxHeartbeats 4000000 in
set_option maxRecDepth 100000 in
theorem kX7_onApprovalIn (l : Launch) (dC : Nat → ClassId) (dI : Nat → Nat → Nat) (r : Nat → Nat) (ct : Nat → ClassId) (i_tapeLength i_time i_lyingCount i_rd_fault i_rd_token i_rd_kind i_sc_count i_sc_at i_A_tunes i_A_houses i_fA_length i_B_tunes i_B_houses i_fB_length i_acts_done i_acts_undone i_kn_count : Int32) (f_boxes f_boxKept f_trial f_offers f_A_noteCounts f_A_notes f_B_noteCounts f_B_notes f_now_where f_now_worn f_ahead_where f_ahead_worn f_acts_rows f_kn_tunes f_kn_noteTimes : Nat → Int32) (J : Nat → Nat → Int32) (L : Nat → Nat → Int64) (p0 : Int32) (sz : Nat) (hI : (IX i_tapeLength i_time i_lyingCount i_rd_token i_sc_count i_sc_at i_A_tunes i_A_houses i_fA_length i_B_tunes i_B_houses i_fB_length i_acts_done i_acts_undone i_kn_count f_boxes f_A_noteCounts f_A_notes f_B_noteCounts f_B_notes f_now_worn f_ahead_worn f_acts_rows f_kn_tunes)) (hp0 : (0 : Int) ≤ p0.toInt) (hp1 : WB i_A_tunes f_now_where) : Met l yX7_onApprovalIn (.code yX7_onApprovalIn cX7_onApprovalIn 3 (some .int) :: GW) { frames := 4, cells := 0, slots := 0, locals := 161 } (va_Pc [.ref (r 7), .int p0] (pR (dC, dI) (WX r ct i_tapeLength i_time i_lyingCount i_rd_fault i_rd_token i_rd_kind i_sc_count i_sc_at i_A_tunes i_A_houses i_fA_length i_B_tunes i_B_houses i_fB_length i_acts_done i_acts_undone i_kn_count f_boxes f_boxKept f_trial f_offers f_A_noteCounts f_A_notes f_B_noteCounts f_B_notes f_now_where f_now_worn f_ahead_where f_ahead_worn f_acts_rows f_kn_tunes f_kn_noteTimes J L) (TX ct) sz)) (va_Qi (fun (r0 : Int32) (u : Int32) => r0 = u) (fun (u : Int32) (t : State) => ((0 : Int) ≤ u.toInt + 1) ∧ (u.toInt + 1 ≤ i_A_tunes.toInt) ∧ (u.toInt ≤ (4 : Int))) (fun q => sz ≤ q)) 0 0 (fun q => sz ≤ q) := by
  refine Met.ofW (cc := cX7_onApprovalIn) (maxL := 3) (ret := (some .int)) (by decide) rfl ?_
  intro p e s m args below meth c0 s₁ B hml hv
  obtain ⟨rfl, hsz, hP, hK⟩ := hv
  have hx := B.exec
  have hb := B.bytes
  have hr := B.returns
  have hts := atoms_spec (ws := .code yX7_onApprovalIn cX7_onApprovalIn 3 (some .int) :: GW) B.pre
  have hG : ∀ w ∈ GW, w.before _ s = true := fun w h => hts w (List.mem_cons_of_mem _ h)
  have hown : s.vm.findClass RX7 = some m.cls := findClass_of_methodNamed B.named
  subst hsz
  have hS : va_S (fun q => s.heap.size ≤ q) s.heap s.heap [] := va_S.rf
  have hP : va_P (dC, dI) vwCl (WX r ct i_tapeLength i_time i_lyingCount i_rd_fault i_rd_token i_rd_kind i_sc_count i_sc_at i_A_tunes i_A_houses i_fA_length i_B_tunes i_B_houses i_fB_length i_acts_done i_acts_undone i_kn_count f_boxes f_boxKept f_trial f_offers f_A_noteCounts f_A_notes f_B_noteCounts f_B_notes f_now_where f_now_worn f_ahead_where f_ahead_worn f_acts_rows f_kn_tunes f_kn_noteTimes J L) s.heap := hP
  have hl := lv_entry ([.ref (r 7), .int p0]) (n := 3) (Nat.le_of_ble_eq_true rfl)
  rw [lg_entry_eq]
  generalize (lg_sl ([.ref (r 7), .int p0]) ++ List.replicate (3 - (lg_sl ([.ref (r 7), .int p0])).length) Slot.unset).toArray = ls at hl ⊢
  have hl : lv_has ls 3 [(0, .ref (r 7)), (1, .int p0)] := hl
  refine nameQ (fun Q hQ => ?_)
  obtain ⟨ie0, ie1, ie2, ie3, ie4, ie5, ie6, ie7, ie8, ie9, ie10, ie11, ie12, ie13, ie14, ie15, ie16, ie17, ie18, ie19, ie20, ie21, ie22, ie23, ie24, ie25, ie26, ie27, ie28, ie29, ie30, ie31, ie32, ie33, ie34, ie35, ie36, ie37, ie38, ie39⟩ := id hI
  refine lv_iconst (v := 0) hx hb dX7_onApprovalIn_0 (by decide) ?_
  refine lv_istore_n (lv' := [(2, .int 0), (0, .ref (r 7)), (1, .int p0)]) hx hb dX7_onApprovalIn_1 rfl hl (by decide) rfl (fun ls hl => ?_)
  have L2 : ∀ (N2 : Nat) (y2_2 : Int32) (H2 : Heap) (locs : List Loc) (ls : Array Slot) (g2_0 : (0 : Int) ≤ y2_2.toInt) (g2_1 : y2_2.toInt ≤ (5 : Int)) (hP : va_P (dC, dI) vwCl (WX r ct i_tapeLength i_time i_lyingCount i_rd_fault i_rd_token i_rd_kind i_sc_count i_sc_at i_A_tunes i_A_houses i_fA_length i_B_tunes i_B_houses i_fB_length i_acts_done i_acts_undone i_kn_count f_boxes f_boxKept f_trial f_offers f_A_noteCounts f_A_notes f_B_noteCounts f_B_notes f_now_where f_now_worn f_ahead_where f_ahead_worn f_acts_rows f_kn_tunes f_kn_noteTimes J L) H2) (hS : va_S (fun q => s.heap.size ≤ q) s.heap H2 locs) (hl : lv_has ls 3 [(0, .ref (r 7)), (1, .int p0), (2, .int y2_2)]) (hM : -1 * y2_2.toInt + 5 < (N2 : Int)), W p l e { frames := 4, cells := 0, slots := 0, locals := 161 } s m ([.ref (r 7), .int p0] : List Value).toArray below meth c0 H2 locs 0 0 Q (F0 m 2 ls []) := by
    intro N2
    induction N2 with
    | zero =>
      intro y2_2 H2 locs ls g2_0 g2_1 hP hS hl hM
      exact ((ox_82 hM g2_0 g2_1)).elim
    | succ N2 ih2 =>
      intro y2_2 H2 locs ls g2_0 g2_1 hP hS hl hM
      have hM2 := msucc hM
      refine lv_iload_n hx hb dX7_onApprovalIn_2 rfl (lv_at hl 2 rfl) ?_
      refine lv_iconst (v := 5) hx hb dX7_onApprovalIn_3 (by decide) ?_
      refine lv_icmp_ge (tgt := 33) hx hb dX7_onApprovalIn_4 (by decide) (fun c_1 => ?_) (fun c_1 => ?_)
      · skip
        have f2 : 5 ≤ y2_2.toInt := qi_le c_1 zc_5 rfl
        refine lv_iconst (v := (-1)) hx hb dX7_onApprovalIn_33 (by decide) ?_
        rw [hQ]
        exact W.iret (v := (-1)) hx hb hr (fun t ht hW => ⟨⟨(-1), (-1), rfl, rfl, ⟨(ox_83 zc_m1), (ox_84 ie12 ie13 zc_m1), (ox_85 zc_m1)⟩⟩, hS.F ht⟩) hS.2.2 dX7_onApprovalIn_34
      · skip
        have f3 : y2_2.toInt < 5 := qi_nle c_1 zc_5 rfl
        refine lv_aload_n hx hb dX7_onApprovalIn_7 rfl (lv_at hl 0 rfl) ?_
        refine gX_X7_9_7 hx hb hG hown hK hP dX7_onApprovalIn_8 ?_
        refine lv_iload_n hx hb dX7_onApprovalIn_11 rfl (lv_at hl 2 rfl) ?_
        refine ldX_41 (mm := y2_2.toInt) hx hb hK hP rfl (ox_9 g2_0) (ox_86 f3) dX7_onApprovalIn_12 ?_
        have f4 : i_A_tunes.toInt ≤ y2_2.toInt → y2_2.toInt < 5 → (f_now_where (y2_2.toInt).toNat).toInt = -1 := hp1 (y2_2.toInt)
        refine lv_iload_n hx hb dX7_onApprovalIn_13 rfl (lv_at hl 1 rfl) ?_
        refine lv_icmp_ne (tgt := 27) hx hb dX7_onApprovalIn_14 (by decide) (fun c_5 => ?_) (fun c_5 => ?_)
        · skip
          have f6 : (f_now_where (y2_2.toInt).toNat).toInt ≠ p0.toInt := qi_ne c_5 rfl rfl
          obtain ⟨x7, ex7⟩ : ∃ y : Int32, y = y2_2 + Int32.ofInt 1 := ⟨_, rfl⟩
          have f8 : x7.toInt = y2_2.toInt + 1 := (ox_13 (qi_add ex7 rfl (by decide) (ox_11 g2_0) (ox_87 g2_1)))
          refine lv_iinc (v := x7) (lv' := [(2, .int x7), (0, .ref (r 7)), (1, .int p0)]) hx hb dX7_onApprovalIn_27 hl (k := 2) rfl ex7.symm (by decide) rfl (fun ls hl => ?_)
          refine lv_goto (tgt := 2) hx hb dX7_onApprovalIn_30 (by decide) ?_
          exact ih2 x7 H2 _ _ (ox_14 g2_0 f8) (ox_88 f3 f8) hP hS (lv_sub hl [1, 2, 0] rfl) (ox_89 hM2 f8)
        · skip
          have f9 : (f_now_where (y2_2.toInt).toNat).toInt = p0.toInt := qi_eq c_5 rfl rfl
          refine lv_aload_n hx hb dX7_onApprovalIn_17 rfl (lv_at hl 0 rfl) ?_
          refine lv_iload_n hx hb dX7_onApprovalIn_18 rfl (lv_at hl 2 rfl) ?_
          refine va_calli (va_runV (As := [.int y2_2]) (rest := []) ⟨hx, hb, hml, hown, hG⟩ (kX7_isPaid l dC dI r ct i_tapeLength i_time i_lyingCount i_rd_fault i_rd_token i_rd_kind i_sc_count i_sc_at i_A_tunes i_A_houses i_fA_length i_B_tunes i_B_houses i_fB_length i_acts_done i_acts_undone i_kn_count f_boxes f_boxKept f_trial f_offers f_A_noteCounts f_A_notes f_B_noteCounts f_B_notes f_now_where f_now_worn f_ahead_where f_ahead_worn f_acts_rows f_kn_tunes f_kn_noteTimes J L y2_2 H2.size hI (ox_6 g2_0) (ox_90 f3)) (cwV 1 hG (goodV gw724 gw725 gw726 gw134 gw727) rfl rfl rfl hd_X7_isPaid ⟨(Nat.le_of_ble_eq_true rfl), (Nat.le_of_ble_eq_true rfl)⟩) ⟨fbR, va_recv hK hP (ci := 6) (q0 := 7) rfl rfl, pR_in hP hK⟩ rfl rfl hl.1 rfl (lv_room (Nat.le_of_ble_eq_true rfl)) dX7_onApprovalIn_19 ⟨(Nat.le_of_ble_eq_true rfl), (Nat.le_of_ble_eq_true rfl)⟩) hS (fun q hq h => absurd hq (Nat.not_lt.mpr h)) (fun q h => Nat.le_trans hS.1 h) (fun r_11 u_ t_ H10 locs ht hvm hw hB hz1 hk1 hS => ?_)
          subst hw
          have hP := wk hP hk1
          obtain ⟨f12, f13, f14⟩ := hB
          refine lv_if_ne (tgt := 27) hx hb dX7_onApprovalIn_22 (by decide) (fun c_15 => ?_) (fun c_15 => ?_)
          · skip
            have f16 : r_11.toInt ≠ 0 := qi_ne c_15 rfl zc_0
            have f17 : r_11.toInt = (1 : Int) := (ox_91 f12 f16)
            have f18 : (1 : Int) ≤ r_11.toInt := (ox_53 f13 f14 f17)
            obtain ⟨x19, ex19⟩ : ∃ y : Int32, y = y2_2 + Int32.ofInt 1 := ⟨_, rfl⟩
            have f20 : x19.toInt = y2_2.toInt + 1 := (ox_13 (qi_add ex19 rfl (by decide) (ox_11 g2_0) (ox_87 g2_1)))
            refine lv_iinc (v := x19) (lv' := [(2, .int x19), (0, .ref (r 7)), (1, .int p0)]) hx hb dX7_onApprovalIn_27 hl (k := 2) rfl ex19.symm (by decide) rfl (fun ls hl => ?_)
            refine lv_goto (tgt := 2) hx hb dX7_onApprovalIn_30 (by decide) ?_
            exact ih2 x19 H10 _ _ (ox_14 g2_0 f20) (ox_88 f3 f20) hP hS (lv_sub hl [1, 2, 0] rfl) (ox_89 hM2 f20)
          · skip
            have f21 : r_11.toInt = 0 := qi_eq c_15 rfl zc_0
            have f22 : r_11.toInt = (0 : Int) := (ox_92 f13 f14 f21)
            refine lv_iload_n hx hb dX7_onApprovalIn_25 rfl (lv_at hl 2 rfl) ?_
            rw [hQ]
            exact W.iret (v := y2_2) hx hb hr (fun t ht hW => ⟨⟨y2_2, y2_2, rfl, rfl, ⟨(ox_93 g2_0), (ox_94 hp0 f3 f4 f9), (ox_90 f3)⟩⟩, hS.F ht⟩) hS.2.2 dX7_onApprovalIn_26
  exact L2 (-1 * (0 : Int32).toInt + 5 + 1).toNat 0 s.heap _ _ (ox_27 zc_0) (ox_95 zc_0) hP hS (lv_sub hl [1, 2, 0] rfl) (mlt (ox_96 zc_0))
set_option maxHeartbeats 4000000 in
set_option maxRecDepth 100000 in
theorem kX8_paidBy (l : Launch) (dC : Nat → ClassId) (dI : Nat → Nat → Nat) (r : Nat → Nat) (ct : Nat → ClassId) (i_tapeLength i_time i_lyingCount i_rd_fault i_rd_token i_rd_kind i_sc_count i_sc_at i_A_tunes i_A_houses i_fA_length i_B_tunes i_B_houses i_fB_length i_acts_done i_acts_undone i_kn_count : Int32) (f_boxes f_boxKept f_trial f_offers f_A_noteCounts f_A_notes f_B_noteCounts f_B_notes f_now_where f_now_worn f_ahead_where f_ahead_worn f_acts_rows f_kn_tunes f_kn_noteTimes : Nat → Int32) (J : Nat → Nat → Int32) (L : Nat → Nat → Int64) (p0 : Int32) (sz : Nat) (hI : (IX i_tapeLength i_time i_lyingCount i_rd_token i_sc_count i_sc_at i_A_tunes i_A_houses i_fA_length i_B_tunes i_B_houses i_fB_length i_acts_done i_acts_undone i_kn_count f_boxes f_A_noteCounts f_A_notes f_B_noteCounts f_B_notes f_now_worn f_ahead_worn f_acts_rows f_kn_tunes)) : Met l yX8_paidBy (.code yX8_paidBy cX8_paidBy 4 (some .int) :: GW) { frames := 4, cells := 0, slots := 0, locals := 161 } (va_Pc [.ref (r 0), .int p0] (pR (dC, dI) (WX r ct i_tapeLength i_time i_lyingCount i_rd_fault i_rd_token i_rd_kind i_sc_count i_sc_at i_A_tunes i_A_houses i_fA_length i_B_tunes i_B_houses i_fB_length i_acts_done i_acts_undone i_kn_count f_boxes f_boxKept f_trial f_offers f_A_noteCounts f_A_notes f_B_noteCounts f_B_notes f_now_where f_now_worn f_ahead_where f_ahead_worn f_acts_rows f_kn_tunes f_kn_noteTimes J L) (TX ct) sz)) (va_Qi (fun (r0 : Int32) (u : Int32) => r0 = u) (fun (u : Int32) (t : State) => True) (fun q => sz ≤ q)) 0 0 (fun q => sz ≤ q) := by
  refine Met.ofW (cc := cX8_paidBy) (maxL := 4) (ret := (some .int)) (by decide) rfl ?_
  intro p e s m args below meth c0 s₁ B hml hv
  obtain ⟨rfl, hsz, hP, hK⟩ := hv
  have hx := B.exec
  have hb := B.bytes
  have hr := B.returns
  have hts := atoms_spec (ws := .code yX8_paidBy cX8_paidBy 4 (some .int) :: GW) B.pre
  have hG : ∀ w ∈ GW, w.before _ s = true := fun w h => hts w (List.mem_cons_of_mem _ h)
  have hown : s.vm.findClass RX8 = some m.cls := findClass_of_methodNamed B.named
  subst hsz
  have hS : va_S (fun q => s.heap.size ≤ q) s.heap s.heap [] := va_S.rf
  have hP : va_P (dC, dI) vwCl (WX r ct i_tapeLength i_time i_lyingCount i_rd_fault i_rd_token i_rd_kind i_sc_count i_sc_at i_A_tunes i_A_houses i_fA_length i_B_tunes i_B_houses i_fB_length i_acts_done i_acts_undone i_kn_count f_boxes f_boxKept f_trial f_offers f_A_noteCounts f_A_notes f_B_noteCounts f_B_notes f_now_where f_now_worn f_ahead_where f_ahead_worn f_acts_rows f_kn_tunes f_kn_noteTimes J L) s.heap := hP
  have hl := lv_entry ([.ref (r 0), .int p0]) (n := 4) (Nat.le_of_ble_eq_true rfl)
  rw [lg_entry_eq]
  generalize (lg_sl ([.ref (r 0), .int p0]) ++ List.replicate (4 - (lg_sl ([.ref (r 0), .int p0])).length) Slot.unset).toArray = ls at hl ⊢
  have hl : lv_has ls 4 [(0, .ref (r 0)), (1, .int p0)] := hl
  refine nameQ (fun Q hQ => ?_)
  obtain ⟨ie0, ie1, ie2, ie3, ie4, ie5, ie6, ie7, ie8, ie9, ie10, ie11, ie12, ie13, ie14, ie15, ie16, ie17, ie18, ie19, ie20, ie21, ie22, ie23, ie24, ie25, ie26, ie27, ie28, ie29, ie30, ie31, ie32, ie33, ie34, ie35, ie36, ie37, ie38, ie39⟩ := id hI
  refine lv_iconst (v := 0) hx hb dX8_paidBy_0 (by decide) ?_
  refine lv_istore_n (lv' := [(2, .int 0), (0, .ref (r 0)), (1, .int p0)]) hx hb dX8_paidBy_1 rfl hl (by decide) rfl (fun ls hl => ?_)
  refine lv_iconst (v := 0) hx hb dX8_paidBy_2 (by decide) ?_
  refine lv_istore_n (lv' := [(3, .int 0), (2, .int 0), (0, .ref (r 0)), (1, .int p0)]) hx hb dX8_paidBy_3 rfl hl (by decide) rfl (fun ls hl => ?_)
  have L4 : ∀ (N4 : Nat) (y4_2 y4_3 : Int32) (H4 : Heap) (locs : List Loc) (ls : Array Slot) (g4_0 : (0 : Int) ≤ y4_3.toInt) (g4_1 : y4_3.toInt ≤ (5 : Int)) (hP : va_P (dC, dI) vwCl (WX r ct i_tapeLength i_time i_lyingCount i_rd_fault i_rd_token i_rd_kind i_sc_count i_sc_at i_A_tunes i_A_houses i_fA_length i_B_tunes i_B_houses i_fB_length i_acts_done i_acts_undone i_kn_count f_boxes f_boxKept f_trial f_offers f_A_noteCounts f_A_notes f_B_noteCounts f_B_notes f_now_where f_now_worn f_ahead_where f_ahead_worn f_acts_rows f_kn_tunes f_kn_noteTimes J L) H4) (hS : va_S (fun q => s.heap.size ≤ q) s.heap H4 locs) (hl : lv_has ls 4 [(0, .ref (r 0)), (1, .int p0), (2, .int y4_2), (3, .int y4_3)]) (hM : -1 * y4_3.toInt + 5 < (N4 : Int)), W p l e { frames := 4, cells := 0, slots := 0, locals := 161 } s m ([.ref (r 0), .int p0] : List Value).toArray below meth c0 H4 locs 0 0 Q (F0 m 4 ls []) := by
    intro N4
    induction N4 with
    | zero =>
      intro y4_2 y4_3 H4 locs ls g4_0 g4_1 hP hS hl hM
      exact ((ox_82 hM g4_0 g4_1)).elim
    | succ N4 ih4 =>
      intro y4_2 y4_3 H4 locs ls g4_0 g4_1 hP hS hl hM
      have hM4 := msucc hM
      refine lv_iload_n hx hb dX8_paidBy_4 rfl (lv_at hl 3 rfl) ?_
      refine lv_aload_n hx hb dX8_paidBy_5 rfl (lv_at hl 0 rfl) ?_
      refine gX_X8_23_0 hx hb hG hown hK hP dX8_paidBy_6 ?_
      refine gX_X8_108_3 hx hb hG hown hK hP dX8_paidBy_9 ?_
      refine lv_icmp_ge (tgt := 51) hx hb dX8_paidBy_12 (by decide) (fun c_1 => ?_) (fun c_1 => ?_)
      · skip
        have f2 : i_A_tunes.toInt ≤ y4_3.toInt := qi_le c_1 rfl rfl
        refine lv_iload_n hx hb dX8_paidBy_51 rfl (lv_at hl 2 rfl) ?_
        rw [hQ]
        exact W.iret (v := y4_2) hx hb hr (fun t ht hW => ⟨⟨y4_2, y4_2, rfl, rfl, trivial⟩, hS.F ht⟩) hS.2.2 dX8_paidBy_52
      · skip
        have f3 : y4_3.toInt < i_A_tunes.toInt := qi_nle c_1 rfl rfl
        refine lv_aload_n hx hb dX8_paidBy_15 rfl (lv_at hl 0 rfl) ?_
        refine gX_X8_30_0 hx hb hG hown hK hP dX8_paidBy_16 ?_
        refine lv_iload_n hx hb dX8_paidBy_19 rfl (lv_at hl 3 rfl) ?_
        refine va_calli (va_runV (As := [.int y4_3]) (rest := []) ⟨hx, hb, hml, hown, hG⟩ (kX7_isPaid l dC dI r ct i_tapeLength i_time i_lyingCount i_rd_fault i_rd_token i_rd_kind i_sc_count i_sc_at i_A_tunes i_A_houses i_fA_length i_B_tunes i_B_houses i_fB_length i_acts_done i_acts_undone i_kn_count f_boxes f_boxKept f_trial f_offers f_A_noteCounts f_A_notes f_B_noteCounts f_B_notes f_now_where f_now_worn f_ahead_where f_ahead_worn f_acts_rows f_kn_tunes f_kn_noteTimes J L y4_3 H4.size hI (ox_6 g4_0) (ox_97 ie13 f3)) (cwV 1 hG (goodV gw732 gw725 gw726 gw134 gw727) rfl rfl rfl hd_X7_isPaid ⟨(Nat.le_of_ble_eq_true rfl), (Nat.le_of_ble_eq_true rfl)⟩) ⟨fbR, va_recv hK hP (ci := 6) (q0 := 7) rfl rfl, pR_in hP hK⟩ rfl rfl hl.1 rfl (lv_room (Nat.le_of_ble_eq_true rfl)) dX8_paidBy_20 ⟨(Nat.le_of_ble_eq_true rfl), (Nat.le_of_ble_eq_true rfl)⟩) hS (fun q hq h => absurd hq (Nat.not_lt.mpr h)) (fun q h => Nat.le_trans hS.1 h) (fun r_5 u_ t_ H4 locs ht hvm hw hB hz1 hk1 hS => ?_)
        subst hw
        have hP := wk hP hk1
        obtain ⟨f6, f7, f8⟩ := hB
        refine lv_if_eq (tgt := 45) hx hb dX8_paidBy_23 (by decide) (fun c_9 => ?_) (fun c_9 => ?_)
        · skip
          have f10 : r_5.toInt = 0 := qi_eq c_9 rfl zc_0
          have f11 : r_5.toInt = (0 : Int) := (ox_92 f7 f8 f10)
          obtain ⟨x12, ex12⟩ : ∃ y : Int32, y = y4_3 + Int32.ofInt 1 := ⟨_, rfl⟩
          have f13 : x12.toInt = y4_3.toInt + 1 := (ox_13 (qi_add ex12 rfl (by decide) (ox_11 g4_0) (ox_87 g4_1)))
          refine lv_iinc (v := x12) (lv' := [(3, .int x12), (0, .ref (r 0)), (1, .int p0), (2, .int y4_2)]) hx hb dX8_paidBy_45 hl (k := 3) rfl ex12.symm (by decide) rfl (fun ls hl => ?_)
          refine lv_goto (tgt := 4) hx hb dX8_paidBy_48 (by decide) ?_
          exact ih4 y4_2 x12 H4 _ _ (ox_14 g4_0 f13) (ox_98 ie13 f3 f13) hP hS (lv_sub hl [1, 2, 3, 0] rfl) (ox_89 hM4 f13)
        · skip
          have f14 : r_5.toInt ≠ 0 := qi_ne c_9 rfl zc_0
          have f15 : r_5.toInt = (1 : Int) := (ox_91 f6 f14)
          have f16 : (1 : Int) ≤ r_5.toInt := (ox_53 f7 f8 f15)
          refine lv_aload_n hx hb dX8_paidBy_26 rfl (lv_at hl 0 rfl) ?_
          refine gX_X8_30_0 hx hb hG hown hK hP dX8_paidBy_27 ?_
          refine gX_X8_125_7 hx hb hG hown hK hP dX8_paidBy_30 ?_
          refine lv_iload_n hx hb dX8_paidBy_33 rfl (lv_at hl 3 rfl) ?_
          refine ldX_41 (mm := y4_3.toInt) hx hb hK hP rfl (ox_9 g4_0) (ox_99 ie13 f3) dX8_paidBy_34 ?_
          refine lv_iload_n hx hb dX8_paidBy_35 rfl (lv_at hl 1 rfl) ?_
          refine lv_icmp_ne (tgt := 45) hx hb dX8_paidBy_36 (by decide) (fun c_17 => ?_) (fun c_17 => ?_)
          · skip
            have f18 : (f_now_where (y4_3.toInt).toNat).toInt ≠ p0.toInt := qi_ne c_17 rfl rfl
            obtain ⟨x19, ex19⟩ : ∃ y : Int32, y = y4_3 + Int32.ofInt 1 := ⟨_, rfl⟩
            have f20 : x19.toInt = y4_3.toInt + 1 := (ox_13 (qi_add ex19 rfl (by decide) (ox_11 g4_0) (ox_87 g4_1)))
            refine lv_iinc (v := x19) (lv' := [(3, .int x19), (0, .ref (r 0)), (1, .int p0), (2, .int y4_2)]) hx hb dX8_paidBy_45 hl (k := 3) rfl ex19.symm (by decide) rfl (fun ls hl => ?_)
            refine lv_goto (tgt := 4) hx hb dX8_paidBy_48 (by decide) ?_
            exact ih4 y4_2 x19 H4 _ _ (ox_14 g4_0 f20) (ox_98 ie13 f3 f20) hP hS (lv_sub hl [1, 2, 3, 0] rfl) (ox_89 hM4 f20)
          · skip
            have f21 : (f_now_where (y4_3.toInt).toNat).toInt = p0.toInt := qi_eq c_17 rfl rfl
            refine lv_iload_n hx hb dX8_paidBy_39 rfl (lv_at hl 2 rfl) ?_
            refine lv_iconst (v := 1) hx hb dX8_paidBy_40 (by decide) ?_
            refine lv_iload_n hx hb dX8_paidBy_41 rfl (lv_at hl 3 rfl) ?_
            refine lv_ishl hx hb dX8_paidBy_42 ?_
            refine lv_topi (fun x22 ex22 => ?_)
            refine lv_ior hx hb dX8_paidBy_43 ?_
            refine lv_topi (fun x23 ex23 => ?_)
            refine lv_istore_n (lv' := [(2, .int x23), (0, .ref (r 0)), (1, .int p0), (3, .int y4_3)]) hx hb dX8_paidBy_44 rfl hl (by decide) rfl (fun ls hl => ?_)
            obtain ⟨x24, ex24⟩ : ∃ y : Int32, y = y4_3 + Int32.ofInt 1 := ⟨_, rfl⟩
            have f25 : x24.toInt = y4_3.toInt + 1 := (ox_13 (qi_add ex24 rfl (by decide) (ox_11 g4_0) (ox_87 g4_1)))
            refine lv_iinc (v := x24) (lv' := [(3, .int x24), (2, .int x23), (0, .ref (r 0)), (1, .int p0)]) hx hb dX8_paidBy_45 hl (k := 3) rfl ex24.symm (by decide) rfl (fun ls hl => ?_)
            refine lv_goto (tgt := 4) hx hb dX8_paidBy_48 (by decide) ?_
            exact ih4 x23 x24 H4 _ _ (ox_14 g4_0 f25) (ox_98 ie13 f3 f25) hP hS (lv_sub hl [2, 3, 1, 0] rfl) (ox_89 hM4 f25)
  exact L4 (-1 * (0 : Int32).toInt + 5 + 1).toNat 0 0 s.heap _ _ (ox_27 zc_0) (ox_95 zc_0) hP hS (lv_sub hl [2, 3, 1, 0] rfl) (mlt (ox_96 zc_0))
set_option maxHeartbeats 4000000 in
set_option maxRecDepth 100000 in
theorem kX8_house (l : Launch) (dC : Nat → ClassId) (dI : Nat → Nat → Nat) (r : Nat → Nat) (ct : Nat → ClassId) (i_tapeLength i_time i_lyingCount i_rd_fault i_rd_token i_rd_kind i_sc_count i_sc_at i_A_tunes i_A_houses i_fA_length i_B_tunes i_B_houses i_fB_length i_acts_done i_acts_undone i_kn_count : Int32) (f_boxes f_boxKept f_trial f_offers f_A_noteCounts f_A_notes f_B_noteCounts f_B_notes f_now_where f_now_worn f_ahead_where f_ahead_worn f_acts_rows f_kn_tunes f_kn_noteTimes : Nat → Int32) (J : Nat → Nat → Int32) (L : Nat → Nat → Int64) (p0 p1 : Int32) (sz : Nat) (hI : (IX i_tapeLength i_time i_lyingCount i_rd_token i_sc_count i_sc_at i_A_tunes i_A_houses i_fA_length i_B_tunes i_B_houses i_fB_length i_acts_done i_acts_undone i_kn_count f_boxes f_A_noteCounts f_A_notes f_B_noteCounts f_B_notes f_now_worn f_ahead_worn f_acts_rows f_kn_tunes)) (hp0 : WB i_A_tunes f_now_where) : Met l yX8_house (.code yX8_house cX8_house 3 (some .int) :: GW) { frames := 6, cells := 0, slots := 0, locals := 224 } (va_Pc [.ref (r 0), .int p0, .int p1] (pR (dC, dI) (WX r ct i_tapeLength i_time i_lyingCount i_rd_fault i_rd_token i_rd_kind i_sc_count i_sc_at i_A_tunes i_A_houses i_fA_length i_B_tunes i_B_houses i_fB_length i_acts_done i_acts_undone i_kn_count f_boxes f_boxKept f_trial f_offers f_A_noteCounts f_A_notes f_B_noteCounts f_B_notes f_now_where f_now_worn f_ahead_where f_ahead_worn f_acts_rows f_kn_tunes f_kn_noteTimes J L) (TX ct) sz)) (va_Qi (fun (r0 : Int32) (u : Int32) => r0 = u) (fun (u : Int32) (t : State) => True) (fun q => sz ≤ q)) 0 0 (fun q => sz ≤ q) := by
  refine Met.ofW (cc := cX8_house) (maxL := 3) (ret := (some .int)) (by decide) rfl ?_
  intro p e s m args below meth c0 s₁ B hml hv
  obtain ⟨rfl, hsz, hP, hK⟩ := hv
  have hx := B.exec
  have hb := B.bytes
  have hr := B.returns
  have hts := atoms_spec (ws := .code yX8_house cX8_house 3 (some .int) :: GW) B.pre
  have hG : ∀ w ∈ GW, w.before _ s = true := fun w h => hts w (List.mem_cons_of_mem _ h)
  have hown : s.vm.findClass RX8 = some m.cls := findClass_of_methodNamed B.named
  subst hsz
  have hS : va_S (fun q => s.heap.size ≤ q) s.heap s.heap [] := va_S.rf
  have hP : va_P (dC, dI) vwCl (WX r ct i_tapeLength i_time i_lyingCount i_rd_fault i_rd_token i_rd_kind i_sc_count i_sc_at i_A_tunes i_A_houses i_fA_length i_B_tunes i_B_houses i_fB_length i_acts_done i_acts_undone i_kn_count f_boxes f_boxKept f_trial f_offers f_A_noteCounts f_A_notes f_B_noteCounts f_B_notes f_now_where f_now_worn f_ahead_where f_ahead_worn f_acts_rows f_kn_tunes f_kn_noteTimes J L) s.heap := hP
  have hl := lv_entry ([.ref (r 0), .int p0, .int p1]) (n := 3) (Nat.le_of_ble_eq_true rfl)
  rw [lg_entry_eq]
  generalize (lg_sl ([.ref (r 0), .int p0, .int p1]) ++ List.replicate (3 - (lg_sl ([.ref (r 0), .int p0, .int p1])).length) Slot.unset).toArray = ls at hl ⊢
  have hl : lv_has ls 3 [(0, .ref (r 0)), (1, .int p0), (2, .int p1)] := hl
  refine nameQ (fun Q hQ => ?_)
  obtain ⟨ie0, ie1, ie2, ie3, ie4, ie5, ie6, ie7, ie8, ie9, ie10, ie11, ie12, ie13, ie14, ie15, ie16, ie17, ie18, ie19, ie20, ie21, ie22, ie23, ie24, ie25, ie26, ie27, ie28, ie29, ie30, ie31, ie32, ie33, ie34, ie35, ie36, ie37, ie38, ie39⟩ := id hI
  refine lv_aload_n hx hb dX8_house_0 rfl (lv_at hl 0 rfl) ?_
  refine lv_iload_n hx hb dX8_house_1 rfl (lv_at hl 1 rfl) ?_
  refine va_calli (va_runV (As := [.int p0]) (rest := []) ⟨hx, hb, hml, hown, hG⟩ (kX8_isHouse l dC dI r ct i_tapeLength i_time i_lyingCount i_rd_fault i_rd_token i_rd_kind i_sc_count i_sc_at i_A_tunes i_A_houses i_fA_length i_B_tunes i_B_houses i_fB_length i_acts_done i_acts_undone i_kn_count f_boxes f_boxKept f_trial f_offers f_A_noteCounts f_A_notes f_B_noteCounts f_B_notes f_now_where f_now_worn f_ahead_where f_ahead_worn f_acts_rows f_kn_tunes f_kn_noteTimes J L p0 s.heap.size hI) (cwV 1 hG (goodV gw716 gw718 gw21 gw129 gw719) rfl rfl rfl hd_X8_isHouse ⟨(Nat.le_of_ble_eq_true rfl), (Nat.le_of_ble_eq_true rfl)⟩) ⟨fbR, va_recv hK hP (ci := 7) (q0 := 0) rfl rfl, pR_in hP hK⟩ rfl rfl hl.1 rfl (lv_room (Nat.le_of_ble_eq_true rfl)) dX8_house_2 ⟨(Nat.le_of_ble_eq_true rfl), (Nat.le_of_ble_eq_true rfl)⟩) hS (fun q hq h => absurd hq (Nat.not_lt.mpr h)) (fun q h => Nat.le_trans hS.1 h) (fun r_2 u_ t_ H1 locs ht hvm hw hB hz1 hk1 hS => ?_)
  subst hw
  have hP := wk hP hk1
  obtain ⟨f3, f4, f5⟩ := hB
  refine lv_if_ne (tgt := 11) hx hb dX8_house_5 (by decide) (fun c_6 => ?_) (fun c_6 => ?_)
  · skip
    have f7 : r_2.toInt ≠ 0 := qi_ne c_6 rfl zc_0
    have f8 : (0 : Int) ≤ p0.toInt := (ox_50 f3 f7)
    have f9 : p0.toInt + 1 ≤ i_A_houses.toInt := (ox_51 f3 f7)
    have f10 : r_2.toInt = (1 : Int) := (ox_52 f3 f7)
    have f11 : (1 : Int) ≤ r_2.toInt := (ox_53 f4 f5 f10)
    refine lv_iload_n hx hb dX8_house_11 rfl (lv_at hl 2 rfl) ?_
    rcases ts_0_3 p1 with hs12 | hs12 | hs12 | hs12 | hs12
    · skip
      refine lv_tableOut (tgt := 79) hx hb dX8_house_12 hs12 (by decide) ?_
      refine lv_bipush (v := (-2)) hx hb dX8_house_79 (by decide) ?_
      rw [hQ]
      exact W.iret (v := (-2)) hx hb hr (fun t ht hW => ⟨⟨(-2), (-2), rfl, rfl, trivial⟩, hS.F ht⟩) hS.2.2 dX8_house_81
    · skip
      refine lv_tableIn (off := 32) (tgt := 44) hx hb dX8_house_12 (by rw [hs12]; decide) (by rw [hs12]; decide) (by rw [hs12]; decide) (by decide) ?_
      have f13 : p1.toInt = 0 := qi_eq hs12 rfl zc_0
      refine lv_aload_n hx hb dX8_house_44 rfl (lv_at hl 0 rfl) ?_
      refine gX_X8_23_0 hx hb hG hown hK hP dX8_house_45 ?_
      refine gX_X8_141_3 hx hb hG hown hK hP dX8_house_48 ?_
      refine lv_iload_n hx hb dX8_house_51 rfl (lv_at hl 1 rfl) ?_
      refine ldX_26 (mm := p0.toInt) hx hb hK hP rfl (ox_33 f8 f9) (ox_100 ie15 f9) dX8_house_52 (fun x14 => ?_)
      rw [hQ]
      exact W.iret (v := x14) hx hb hr (fun t ht hW => ⟨⟨x14, x14, rfl, rfl, trivial⟩, hS.F ht⟩) hS.2.2 dX8_house_53
    · skip
      refine lv_tableIn (off := 42) (tgt := 54) hx hb dX8_house_12 (by rw [hs12]; decide) (by rw [hs12]; decide) (by rw [hs12]; decide) (by decide) ?_
      have f15 : p1.toInt = 1 := qi_eq hs12 rfl zc_1
      refine lv_aload_n hx hb dX8_house_54 rfl (lv_at hl 0 rfl) ?_
      refine gX_X8_30_0 hx hb hG hown hK hP dX8_house_55 ?_
      refine gX_X8_144_7 hx hb hG hown hK hP dX8_house_58 ?_
      refine lv_iload_n hx hb dX8_house_61 rfl (lv_at hl 1 rfl) ?_
      refine ldX_45 (mm := p0.toInt) hx hb hK hP rfl (ox_33 f8 f9) (ox_100 ie15 f9) dX8_house_62 (fun x16 => ?_)
      rw [hQ]
      exact W.iret (v := x16) hx hb hr (fun t ht hW => ⟨⟨x16, x16, rfl, rfl, trivial⟩, hS.F ht⟩) hS.2.2 dX8_house_63
    · skip
      refine lv_tableIn (off := 52) (tgt := 64) hx hb dX8_house_12 (by rw [hs12]; decide) (by rw [hs12]; decide) (by rw [hs12]; decide) (by decide) ?_
      have f17 : p1.toInt = 2 := qi_eq hs12 rfl zc_2
      refine lv_aload_n hx hb dX8_house_64 rfl (lv_at hl 0 rfl) ?_
      refine gX_X8_30_0 hx hb hG hown hK hP dX8_house_65 ?_
      refine lv_iload_n hx hb dX8_house_68 rfl (lv_at hl 1 rfl) ?_
      refine va_calli (va_runV (As := [.int p0]) (rest := []) ⟨hx, hb, hml, hown, hG⟩ (kX7_onApprovalIn l dC dI r ct i_tapeLength i_time i_lyingCount i_rd_fault i_rd_token i_rd_kind i_sc_count i_sc_at i_A_tunes i_A_houses i_fA_length i_B_tunes i_B_houses i_fB_length i_acts_done i_acts_undone i_kn_count f_boxes f_boxKept f_trial f_offers f_A_noteCounts f_A_notes f_B_noteCounts f_B_notes f_now_where f_now_worn f_ahead_where f_ahead_worn f_acts_rows f_kn_tunes f_kn_noteTimes J L p0 H1.size hI (ox_54 f8 f9) hp0) (cwV 1 hG (goodV gw720 gw721 gw722 gw134 gw723) rfl rfl rfl hd_X7_onApprovalIn ⟨(Nat.le_of_ble_eq_true rfl), (Nat.le_of_ble_eq_true rfl)⟩) ⟨fbR, va_recv hK hP (ci := 6) (q0 := 7) rfl rfl, pR_in hP hK⟩ rfl rfl hl.1 rfl (lv_room (Nat.le_of_ble_eq_true rfl)) dX8_house_69 ⟨(Nat.le_of_ble_eq_true rfl), (Nat.le_of_ble_eq_true rfl)⟩) hS (fun q hq h => absurd hq (Nat.not_lt.mpr h)) (fun q h => Nat.le_trans hS.1 h) (fun r_19 u_ t_ H18 locs ht hvm hw hB hz1 hk1 hS => ?_)
      subst hw
      have hP := wk hP hk1
      obtain ⟨f20, f21, f22⟩ := hB
      rw [hQ]
      exact W.iret (v := r_19) hx hb hr (fun t ht hW => ⟨⟨r_19, r_19, rfl, rfl, trivial⟩, hS.F ht⟩) hS.2.2 dX8_house_72
    · skip
      refine lv_tableIn (off := 61) (tgt := 73) hx hb dX8_house_12 (by rw [hs12]; decide) (by rw [hs12]; decide) (by rw [hs12]; decide) (by decide) ?_
      have f23 : p1.toInt = 3 := qi_eq hs12 rfl zc_3
      refine lv_aload_n hx hb dX8_house_73 rfl (lv_at hl 0 rfl) ?_
      refine lv_iload_n hx hb dX8_house_74 rfl (lv_at hl 1 rfl) ?_
      refine va_calli (va_runV (As := [.int p0]) (rest := []) ⟨hx, hb, hml, hown, hG⟩ (kX8_paidBy l dC dI r ct i_tapeLength i_time i_lyingCount i_rd_fault i_rd_token i_rd_kind i_sc_count i_sc_at i_A_tunes i_A_houses i_fA_length i_B_tunes i_B_houses i_fB_length i_acts_done i_acts_undone i_kn_count f_boxes f_boxKept f_trial f_offers f_A_noteCounts f_A_notes f_B_noteCounts f_B_notes f_now_where f_now_worn f_ahead_where f_ahead_worn f_acts_rows f_kn_tunes f_kn_noteTimes J L p0 H1.size hI) (cwV 1 hG (goodV gw728 gw730 gw22 gw129 gw731) rfl rfl rfl hd_X8_paidBy ⟨(Nat.le_of_ble_eq_true rfl), (Nat.le_of_ble_eq_true rfl)⟩) ⟨fbR, va_recv hK hP (ci := 7) (q0 := 0) rfl rfl, pR_in hP hK⟩ rfl rfl hl.1 rfl (lv_room (Nat.le_of_ble_eq_true rfl)) dX8_house_75 ⟨(Nat.le_of_ble_eq_true rfl), (Nat.le_of_ble_eq_true rfl)⟩) hS (fun q hq h => absurd hq (Nat.not_lt.mpr h)) (fun q h => Nat.le_trans hS.1 h) (fun r_25 u_ t_ H24 locs ht hvm hw hB hz1 hk1 hS => ?_)
      subst hw
      have hP := wk hP hk1
      rw [hQ]
      exact W.iret (v := r_25) hx hb hr (fun t ht hW => ⟨⟨r_25, r_25, rfl, rfl, trivial⟩, hS.F ht⟩) hS.2.2 dX8_house_78
  · skip
    have f26 : r_2.toInt = 0 := qi_eq c_6 rfl zc_0
    refine lv_bipush (v := (-2)) hx hb dX8_house_8 (by decide) ?_
    rw [hQ]
    exact W.iret (v := (-2)) hx hb hr (fun t ht hW => ⟨⟨(-2), (-2), rfl, rfl, trivial⟩, hS.F ht⟩) hS.2.2 dX8_house_10
set_option maxHeartbeats 4000000 in
set_option maxRecDepth 100000 in
theorem kX7_isOnCart (l : Launch) (dC : Nat → ClassId) (dI : Nat → Nat → Nat) (r : Nat → Nat) (ct : Nat → ClassId) (i_tapeLength i_time i_lyingCount i_rd_fault i_rd_token i_rd_kind i_sc_count i_sc_at i_A_tunes i_A_houses i_fA_length i_B_tunes i_B_houses i_fB_length i_acts_done i_acts_undone i_kn_count : Int32) (f_boxes f_boxKept f_trial f_offers f_A_noteCounts f_A_notes f_B_noteCounts f_B_notes f_now_where f_now_worn f_ahead_where f_ahead_worn f_acts_rows f_kn_tunes f_kn_noteTimes : Nat → Int32) (J : Nat → Nat → Int32) (L : Nat → Nat → Int64) (p0 : Int32) (sz : Nat) (hI : (IX i_tapeLength i_time i_lyingCount i_rd_token i_sc_count i_sc_at i_A_tunes i_A_houses i_fA_length i_B_tunes i_B_houses i_fB_length i_acts_done i_acts_undone i_kn_count f_boxes f_A_noteCounts f_A_notes f_B_noteCounts f_B_notes f_now_worn f_ahead_worn f_acts_rows f_kn_tunes)) (hp0 : (0 : Int) ≤ p0.toInt) (hp1 : p0.toInt ≤ (4 : Int)) : Met l yX7_isOnCart (.code yX7_isOnCart cX7_isOnCart 2 (some .boolean) :: GW) { frames := 2, cells := 0, slots := 0, locals := 100 } (va_Pc [.ref (r 7), .int p0] (pR (dC, dI) (WX r ct i_tapeLength i_time i_lyingCount i_rd_fault i_rd_token i_rd_kind i_sc_count i_sc_at i_A_tunes i_A_houses i_fA_length i_B_tunes i_B_houses i_fB_length i_acts_done i_acts_undone i_kn_count f_boxes f_boxKept f_trial f_offers f_A_noteCounts f_A_notes f_B_noteCounts f_B_notes f_now_where f_now_worn f_ahead_where f_ahead_worn f_acts_rows f_kn_tunes f_kn_noteTimes J L) (TX ct) sz)) (va_Qi (fun (r0 : Int32) (u : Int32) => r0 = u) (fun (u : Int32) (t : State) => ((((f_now_where (p0.toInt).toNat).toInt + 1 ≠ (0 : Int)) ∧ (u.toInt = (0 : Int))) ∨ (((f_now_where (p0.toInt).toNat).toInt + 1 = (0 : Int)) ∧ (u.toInt = (1 : Int)))) ∧ ((0 : Int) ≤ u.toInt) ∧ (u.toInt ≤ (1 : Int))) (fun q => sz ≤ q)) 0 0 (fun q => sz ≤ q) := by
  refine Met.ofW (cc := cX7_isOnCart) (maxL := 2) (ret := (some .boolean)) (by decide) rfl ?_
  intro p e s m args below meth c0 s₁ B hml hv
  obtain ⟨rfl, hsz, hP, hK⟩ := hv
  have hx := B.exec
  have hb := B.bytes
  have hr := B.returns
  have hts := atoms_spec (ws := .code yX7_isOnCart cX7_isOnCart 2 (some .boolean) :: GW) B.pre
  have hG : ∀ w ∈ GW, w.before _ s = true := fun w h => hts w (List.mem_cons_of_mem _ h)
  have hown : s.vm.findClass RX7 = some m.cls := findClass_of_methodNamed B.named
  subst hsz
  have hS : va_S (fun q => s.heap.size ≤ q) s.heap s.heap [] := va_S.rf
  have hP : va_P (dC, dI) vwCl (WX r ct i_tapeLength i_time i_lyingCount i_rd_fault i_rd_token i_rd_kind i_sc_count i_sc_at i_A_tunes i_A_houses i_fA_length i_B_tunes i_B_houses i_fB_length i_acts_done i_acts_undone i_kn_count f_boxes f_boxKept f_trial f_offers f_A_noteCounts f_A_notes f_B_noteCounts f_B_notes f_now_where f_now_worn f_ahead_where f_ahead_worn f_acts_rows f_kn_tunes f_kn_noteTimes J L) s.heap := hP
  have hl := lv_entry ([.ref (r 7), .int p0]) (n := 2) (Nat.le_of_ble_eq_true rfl)
  rw [lg_entry_eq]
  generalize (lg_sl ([.ref (r 7), .int p0]) ++ List.replicate (2 - (lg_sl ([.ref (r 7), .int p0])).length) Slot.unset).toArray = ls at hl ⊢
  have hl : lv_has ls 2 [(0, .ref (r 7)), (1, .int p0)] := hl
  refine nameQ (fun Q hQ => ?_)
  obtain ⟨ie0, ie1, ie2, ie3, ie4, ie5, ie6, ie7, ie8, ie9, ie10, ie11, ie12, ie13, ie14, ie15, ie16, ie17, ie18, ie19, ie20, ie21, ie22, ie23, ie24, ie25, ie26, ie27, ie28, ie29, ie30, ie31, ie32, ie33, ie34, ie35, ie36, ie37, ie38, ie39⟩ := id hI
  refine lv_aload_n hx hb dX7_isOnCart_0 rfl (lv_at hl 0 rfl) ?_
  refine gX_X7_9_7 hx hb hG hown hK hP dX7_isOnCart_1 ?_
  refine lv_iload_n hx hb dX7_isOnCart_4 rfl (lv_at hl 1 rfl) ?_
  refine ldX_41 (mm := p0.toInt) hx hb hK hP rfl (ox_78 hp0 hp1) (ox_79 hp0 hp1) dX7_isOnCart_5 ?_
  refine lv_iconst (v := (-1)) hx hb dX7_isOnCart_6 (by decide) ?_
  refine lv_icmp_ne (tgt := 14) hx hb dX7_isOnCart_7 (by decide) (fun c_1 => ?_) (fun c_1 => ?_)
  · skip
    have f2 : (f_now_where (p0.toInt).toNat).toInt ≠ (-1) := qi_ne c_1 rfl zc_m1
    refine lv_iconst (v := 0) hx hb dX7_isOnCart_14 (by decide) ?_
    rw [hQ]
    exact W.zret (v := 0) hx hb hr (by decide) (fun t ht hW => ⟨⟨0, 0, rfl, rfl, ⟨(ox_101 f2 zc_0), (ox_27 zc_0), (ox_28 zc_0)⟩⟩, hS.F ht⟩) hS.2.2 dX7_isOnCart_15
  · skip
    have f3 : (f_now_where (p0.toInt).toNat).toInt = (-1) := qi_eq c_1 rfl zc_m1
    refine lv_iconst (v := 1) hx hb dX7_isOnCart_10 (by decide) ?_
    refine lv_goto (tgt := 15) hx hb dX7_isOnCart_11 (by decide) ?_
    rw [hQ]
    exact W.zret (v := 1) hx hb hr (by decide) (fun t ht hW => ⟨⟨1, 1, rfl, rfl, ⟨(ox_102 f3 zc_1), (ox_31 zc_1), (ox_32 zc_1)⟩⟩, hS.F ht⟩) hS.2.2 dX7_isOnCart_15
set_option maxHeartbeats 4000000 in
set_option maxRecDepth 100000 in
theorem kX7_isOnApproval (l : Launch) (dC : Nat → ClassId) (dI : Nat → Nat → Nat) (r : Nat → Nat) (ct : Nat → ClassId) (i_tapeLength i_time i_lyingCount i_rd_fault i_rd_token i_rd_kind i_sc_count i_sc_at i_A_tunes i_A_houses i_fA_length i_B_tunes i_B_houses i_fB_length i_acts_done i_acts_undone i_kn_count : Int32) (f_boxes f_boxKept f_trial f_offers f_A_noteCounts f_A_notes f_B_noteCounts f_B_notes f_now_where f_now_worn f_ahead_where f_ahead_worn f_acts_rows f_kn_tunes f_kn_noteTimes : Nat → Int32) (J : Nat → Nat → Int32) (L : Nat → Nat → Int64) (p0 : Int32) (sz : Nat) (hI : (IX i_tapeLength i_time i_lyingCount i_rd_token i_sc_count i_sc_at i_A_tunes i_A_houses i_fA_length i_B_tunes i_B_houses i_fB_length i_acts_done i_acts_undone i_kn_count f_boxes f_A_noteCounts f_A_notes f_B_noteCounts f_B_notes f_now_worn f_ahead_worn f_acts_rows f_kn_tunes)) (hp0 : (0 : Int) ≤ p0.toInt) (hp1 : p0.toInt ≤ (4 : Int)) : Met l yX7_isOnApproval (.code yX7_isOnApproval cX7_isOnApproval 2 (some .boolean) :: GW) { frames := 4, cells := 0, slots := 0, locals := 161 } (va_Pc [.ref (r 7), .int p0] (pR (dC, dI) (WX r ct i_tapeLength i_time i_lyingCount i_rd_fault i_rd_token i_rd_kind i_sc_count i_sc_at i_A_tunes i_A_houses i_fA_length i_B_tunes i_B_houses i_fB_length i_acts_done i_acts_undone i_kn_count f_boxes f_boxKept f_trial f_offers f_A_noteCounts f_A_notes f_B_noteCounts f_B_notes f_now_where f_now_worn f_ahead_where f_ahead_worn f_acts_rows f_kn_tunes f_kn_noteTimes J L) (TX ct) sz)) (va_Qi (fun (r0 : Int32) (u : Int32) => r0 = u) (fun (u : Int32) (t : State) => (((u.toInt = (0 : Int))) ∨ ((u.toInt = (1 : Int)))) ∧ ((0 : Int) ≤ u.toInt) ∧ (u.toInt ≤ (1 : Int))) (fun q => sz ≤ q)) 0 0 (fun q => sz ≤ q) := by
  refine Met.ofW (cc := cX7_isOnApproval) (maxL := 2) (ret := (some .boolean)) (by decide) rfl ?_
  intro p e s m args below meth c0 s₁ B hml hv
  obtain ⟨rfl, hsz, hP, hK⟩ := hv
  have hx := B.exec
  have hb := B.bytes
  have hr := B.returns
  have hts := atoms_spec (ws := .code yX7_isOnApproval cX7_isOnApproval 2 (some .boolean) :: GW) B.pre
  have hG : ∀ w ∈ GW, w.before _ s = true := fun w h => hts w (List.mem_cons_of_mem _ h)
  have hown : s.vm.findClass RX7 = some m.cls := findClass_of_methodNamed B.named
  subst hsz
  have hS : va_S (fun q => s.heap.size ≤ q) s.heap s.heap [] := va_S.rf
  have hP : va_P (dC, dI) vwCl (WX r ct i_tapeLength i_time i_lyingCount i_rd_fault i_rd_token i_rd_kind i_sc_count i_sc_at i_A_tunes i_A_houses i_fA_length i_B_tunes i_B_houses i_fB_length i_acts_done i_acts_undone i_kn_count f_boxes f_boxKept f_trial f_offers f_A_noteCounts f_A_notes f_B_noteCounts f_B_notes f_now_where f_now_worn f_ahead_where f_ahead_worn f_acts_rows f_kn_tunes f_kn_noteTimes J L) s.heap := hP
  have hl := lv_entry ([.ref (r 7), .int p0]) (n := 2) (Nat.le_of_ble_eq_true rfl)
  rw [lg_entry_eq]
  generalize (lg_sl ([.ref (r 7), .int p0]) ++ List.replicate (2 - (lg_sl ([.ref (r 7), .int p0])).length) Slot.unset).toArray = ls at hl ⊢
  have hl : lv_has ls 2 [(0, .ref (r 7)), (1, .int p0)] := hl
  refine nameQ (fun Q hQ => ?_)
  obtain ⟨ie0, ie1, ie2, ie3, ie4, ie5, ie6, ie7, ie8, ie9, ie10, ie11, ie12, ie13, ie14, ie15, ie16, ie17, ie18, ie19, ie20, ie21, ie22, ie23, ie24, ie25, ie26, ie27, ie28, ie29, ie30, ie31, ie32, ie33, ie34, ie35, ie36, ie37, ie38, ie39⟩ := id hI
  refine lv_aload_n hx hb dX7_isOnApproval_0 rfl (lv_at hl 0 rfl) ?_
  refine lv_iload_n hx hb dX7_isOnApproval_1 rfl (lv_at hl 1 rfl) ?_
  refine va_calli (va_runV (As := [.int p0]) (rest := []) ⟨hx, hb, hml, hown, hG⟩ (kX7_isOnCart l dC dI r ct i_tapeLength i_time i_lyingCount i_rd_fault i_rd_token i_rd_kind i_sc_count i_sc_at i_A_tunes i_A_houses i_fA_length i_B_tunes i_B_houses i_fB_length i_acts_done i_acts_undone i_kn_count f_boxes f_boxKept f_trial f_offers f_A_noteCounts f_A_notes f_B_noteCounts f_B_notes f_now_where f_now_worn f_ahead_where f_ahead_worn f_acts_rows f_kn_tunes f_kn_noteTimes J L p0 s.heap.size hI (ox_103 hp0 hp1) (ox_104 hp0 hp1)) (cwV 1 hG (goodV gw745 gw746 gw747 gw134 gw748) rfl rfl rfl hd_X7_isOnCart ⟨(Nat.le_of_ble_eq_true rfl), (Nat.le_of_ble_eq_true rfl)⟩) ⟨fbR, va_recv hK hP (ci := 6) (q0 := 7) rfl rfl, pR_in hP hK⟩ rfl rfl hl.1 rfl (lv_room (Nat.le_of_ble_eq_true rfl)) dX7_isOnApproval_2 ⟨(Nat.le_of_ble_eq_true rfl), (Nat.le_of_ble_eq_true rfl)⟩) hS (fun q hq h => absurd hq (Nat.not_lt.mpr h)) (fun q h => Nat.le_trans hS.1 h) (fun r_2 u_ t_ H1 locs ht hvm hw hB hz1 hk1 hS => ?_)
  subst hw
  have hP := wk hP hk1
  obtain ⟨f3, f4, f5⟩ := hB
  refine lv_if_ne (tgt := 20) hx hb dX7_isOnApproval_5 (by decide) (fun c_6 => ?_) (fun c_6 => ?_)
  · skip
    have f7 : r_2.toInt ≠ 0 := qi_ne c_6 rfl zc_0
    have f8 : (f_now_where (p0.toInt).toNat).toInt + 1 = (0 : Int) := (ox_105 f3 f7)
    have f9 : r_2.toInt = (1 : Int) := (ox_106 f3 f7)
    have f10 : (1 : Int) ≤ r_2.toInt := (ox_53 f4 f5 f9)
    refine lv_iconst (v := 0) hx hb dX7_isOnApproval_20 (by decide) ?_
    rw [hQ]
    exact W.zret (v := 0) hx hb hr (by decide) (fun t ht hW => ⟨⟨0, 0, rfl, rfl, ⟨(ox_80 zc_0), (ox_27 zc_0), (ox_28 zc_0)⟩⟩, hS.F ht⟩) hS.2.2 dX7_isOnApproval_21
  · skip
    have f11 : r_2.toInt = 0 := qi_eq c_6 rfl zc_0
    have f12 : (f_now_where (p0.toInt).toNat).toInt + 1 ≠ (0 : Int) := (ox_107 f3 f11)
    have f13 : r_2.toInt = (0 : Int) := (ox_92 f4 f5 f11)
    refine lv_aload_n hx hb dX7_isOnApproval_8 rfl (lv_at hl 0 rfl) ?_
    refine lv_iload_n hx hb dX7_isOnApproval_9 rfl (lv_at hl 1 rfl) ?_
    refine va_calli (va_runV (As := [.int p0]) (rest := []) ⟨hx, hb, hml, hown, hG⟩ (kX7_isPaid l dC dI r ct i_tapeLength i_time i_lyingCount i_rd_fault i_rd_token i_rd_kind i_sc_count i_sc_at i_A_tunes i_A_houses i_fA_length i_B_tunes i_B_houses i_fB_length i_acts_done i_acts_undone i_kn_count f_boxes f_boxKept f_trial f_offers f_A_noteCounts f_A_notes f_B_noteCounts f_B_notes f_now_where f_now_worn f_ahead_where f_ahead_worn f_acts_rows f_kn_tunes f_kn_noteTimes J L p0 H1.size hI (ox_103 hp0 hp1) (ox_104 hp0 hp1)) (cwV 1 hG (goodV gw724 gw725 gw726 gw134 gw727) rfl rfl rfl hd_X7_isPaid ⟨(Nat.le_of_ble_eq_true rfl), (Nat.le_of_ble_eq_true rfl)⟩) ⟨fbR, va_recv hK hP (ci := 6) (q0 := 7) rfl rfl, pR_in hP hK⟩ rfl rfl hl.1 rfl (lv_room (Nat.le_of_ble_eq_true rfl)) dX7_isOnApproval_10 ⟨(Nat.le_of_ble_eq_true rfl), (Nat.le_of_ble_eq_true rfl)⟩) hS (fun q hq h => absurd hq (Nat.not_lt.mpr h)) (fun q h => Nat.le_trans hS.1 h) (fun r_15 u_ t_ H14 locs ht hvm hw hB hz1 hk1 hS => ?_)
    subst hw
    have hP := wk hP hk1
    obtain ⟨f16, f17, f18⟩ := hB
    refine lv_if_ne (tgt := 20) hx hb dX7_isOnApproval_13 (by decide) (fun c_19 => ?_) (fun c_19 => ?_)
    · skip
      have f20 : r_15.toInt ≠ 0 := qi_ne c_19 rfl zc_0
      have f21 : r_15.toInt = (1 : Int) := (ox_91 f16 f20)
      have f22 : (1 : Int) ≤ r_15.toInt := (ox_53 f17 f18 f21)
      refine lv_iconst (v := 0) hx hb dX7_isOnApproval_20 (by decide) ?_
      rw [hQ]
      exact W.zret (v := 0) hx hb hr (by decide) (fun t ht hW => ⟨⟨0, 0, rfl, rfl, ⟨(ox_80 zc_0), (ox_27 zc_0), (ox_28 zc_0)⟩⟩, hS.F ht⟩) hS.2.2 dX7_isOnApproval_21
    · skip
      have f23 : r_15.toInt = 0 := qi_eq c_19 rfl zc_0
      have f24 : r_15.toInt = (0 : Int) := (ox_92 f17 f18 f23)
      refine lv_iconst (v := 1) hx hb dX7_isOnApproval_16 (by decide) ?_
      refine lv_goto (tgt := 21) hx hb dX7_isOnApproval_17 (by decide) ?_
      rw [hQ]
      exact W.zret (v := 1) hx hb hr (by decide) (fun t ht hW => ⟨⟨1, 1, rfl, rfl, ⟨(ox_81 zc_1), (ox_31 zc_1), (ox_32 zc_1)⟩⟩, hS.F ht⟩) hS.2.2 dX7_isOnApproval_21
set_option maxHeartbeats 4000000 in
set_option maxRecDepth 100000 in
theorem kX4_doesLike (l : Launch) (dC : Nat → ClassId) (dI : Nat → Nat → Nat) (r : Nat → Nat) (ct : Nat → ClassId) (i_tapeLength i_time i_lyingCount i_rd_fault i_rd_token i_rd_kind i_sc_count i_sc_at i_A_tunes i_A_houses i_fA_length i_B_tunes i_B_houses i_fB_length i_acts_done i_acts_undone i_kn_count : Int32) (f_boxes f_boxKept f_trial f_offers f_A_noteCounts f_A_notes f_B_noteCounts f_B_notes f_now_where f_now_worn f_ahead_where f_ahead_worn f_acts_rows f_kn_tunes f_kn_noteTimes : Nat → Int32) (J : Nat → Nat → Int32) (L : Nat → Nat → Int64) (p0 p1 : Int32) (sz : Nat) (hI : (IX i_tapeLength i_time i_lyingCount i_rd_token i_sc_count i_sc_at i_A_tunes i_A_houses i_fA_length i_B_tunes i_B_houses i_fB_length i_acts_done i_acts_undone i_kn_count f_boxes f_A_noteCounts f_A_notes f_B_noteCounts f_B_notes f_now_worn f_ahead_worn f_acts_rows f_kn_tunes)) (hp0 : (0 : Int) ≤ p0.toInt) (hp1 : p0.toInt ≤ (3 : Int)) : Met l yX4_doesLike (.code yX4_doesLike cX4_doesLike 4 (some .boolean) :: GW) { frames := 2, cells := 0, slots := 0, locals := 100 } (va_Pc [.ref (r 3), .int p0, .int p1] (pR (dC, dI) (WX r ct i_tapeLength i_time i_lyingCount i_rd_fault i_rd_token i_rd_kind i_sc_count i_sc_at i_A_tunes i_A_houses i_fA_length i_B_tunes i_B_houses i_fB_length i_acts_done i_acts_undone i_kn_count f_boxes f_boxKept f_trial f_offers f_A_noteCounts f_A_notes f_B_noteCounts f_B_notes f_now_where f_now_worn f_ahead_where f_ahead_worn f_acts_rows f_kn_tunes f_kn_noteTimes J L) (TX ct) sz)) (va_Qi (fun (r0 : Int32) (u : Int32) => r0 = u) (fun (u : Int32) (t : State) => (((u.toInt = (1 : Int))) ∨ ((u.toInt = (0 : Int)))) ∧ ((0 : Int) ≤ u.toInt) ∧ (u.toInt ≤ (1 : Int))) (fun q => sz ≤ q)) 0 0 (fun q => sz ≤ q) := by
  refine Met.ofW (cc := cX4_doesLike) (maxL := 4) (ret := (some .boolean)) (by decide) rfl ?_
  intro p e s m args below meth c0 s₁ B hml hv
  obtain ⟨rfl, hsz, hP, hK⟩ := hv
  have hx := B.exec
  have hb := B.bytes
  have hr := B.returns
  have hts := atoms_spec (ws := .code yX4_doesLike cX4_doesLike 4 (some .boolean) :: GW) B.pre
  have hG : ∀ w ∈ GW, w.before _ s = true := fun w h => hts w (List.mem_cons_of_mem _ h)
  have hown : s.vm.findClass RX4 = some m.cls := findClass_of_methodNamed B.named
  subst hsz
  have hS : va_S (fun q => s.heap.size ≤ q) s.heap s.heap [] := va_S.rf
  have hP : va_P (dC, dI) vwCl (WX r ct i_tapeLength i_time i_lyingCount i_rd_fault i_rd_token i_rd_kind i_sc_count i_sc_at i_A_tunes i_A_houses i_fA_length i_B_tunes i_B_houses i_fB_length i_acts_done i_acts_undone i_kn_count f_boxes f_boxKept f_trial f_offers f_A_noteCounts f_A_notes f_B_noteCounts f_B_notes f_now_where f_now_worn f_ahead_where f_ahead_worn f_acts_rows f_kn_tunes f_kn_noteTimes J L) s.heap := hP
  have hl := lv_entry ([.ref (r 3), .int p0, .int p1]) (n := 4) (Nat.le_of_ble_eq_true rfl)
  rw [lg_entry_eq]
  generalize (lg_sl ([.ref (r 3), .int p0, .int p1]) ++ List.replicate (4 - (lg_sl ([.ref (r 3), .int p0, .int p1])).length) Slot.unset).toArray = ls at hl ⊢
  have hl : lv_has ls 4 [(0, .ref (r 3)), (1, .int p0), (2, .int p1)] := hl
  refine nameQ (fun Q hQ => ?_)
  obtain ⟨ie0, ie1, ie2, ie3, ie4, ie5, ie6, ie7, ie8, ie9, ie10, ie11, ie12, ie13, ie14, ie15, ie16, ie17, ie18, ie19, ie20, ie21, ie22, ie23, ie24, ie25, ie26, ie27, ie28, ie29, ie30, ie31, ie32, ie33, ie34, ie35, ie36, ie37, ie38, ie39⟩ := id hI
  refine lv_iload_n hx hb dX4_doesLike_0 rfl (lv_at hl 1 rfl) ?_
  refine lv_iconst (v := 3) hx hb dX4_doesLike_1 (by decide) ?_
  refine lv_imul hx hb dX4_doesLike_2 ?_
  refine lv_topi (fun x1 ex1 => ?_)
  have f2 : x1.toInt = 3 * p0.toInt := (ox_110 (qi_mul ex1 rfl zc_3 (ox_108 hp0 hp1) (ox_109 hp0 hp1)))
  refine lv_istore_n (lv' := [(3, .int x1), (0, .ref (r 3)), (1, .int p0), (2, .int p1)]) hx hb dX4_doesLike_3 rfl hl (by decide) rfl (fun ls hl => ?_)
  refine lv_aload_n hx hb dX4_doesLike_4 rfl (lv_at hl 1 rfl) ?_
  refine gX_X4_31_3 hx hb hG hown hK hP dX4_doesLike_5 ?_
  refine lv_iload_n hx hb dX4_doesLike_8 rfl (lv_at hl 0 rfl) ?_
  refine ldX_28 (mm := 3 * p0.toInt) hx hb hK hP f2 (ox_111 hp0 hp1) (ox_112 hp0 hp1) dX4_doesLike_9 (fun x3 => ?_)
  refine lv_iload_n hx hb dX4_doesLike_10 rfl (lv_at hl 3 rfl) ?_
  refine lv_icmp_eq (tgt := 38) hx hb dX4_doesLike_11 (by decide) (fun c_4 => ?_) (fun c_4 => ?_)
  · skip
    have f5 : x3.toInt = p1.toInt := qi_eq c_4 rfl rfl
    refine lv_iconst (v := 1) hx hb dX4_doesLike_38 (by decide) ?_
    refine lv_goto (tgt := 43) hx hb dX4_doesLike_39 (by decide) ?_
    rw [hQ]
    exact W.zret (v := 1) hx hb hr (by decide) (fun t ht hW => ⟨⟨1, 1, rfl, rfl, ⟨(ox_113 zc_1), (ox_31 zc_1), (ox_32 zc_1)⟩⟩, hS.F ht⟩) hS.2.2 dX4_doesLike_43
  · skip
    have f6 : x3.toInt ≠ p1.toInt := qi_ne c_4 rfl rfl
    refine lv_aload_n hx hb dX4_doesLike_14 rfl (lv_at hl 1 rfl) ?_
    refine gX_X4_31_3 hx hb hG hown hK hP dX4_doesLike_15 ?_
    refine lv_iload_n hx hb dX4_doesLike_18 rfl (lv_at hl 0 rfl) ?_
    refine lv_iconst (v := 1) hx hb dX4_doesLike_19 (by decide) ?_
    refine lv_iadd hx hb dX4_doesLike_20 ?_
    refine lv_topi (fun x7 ex7 => ?_)
    have f8 : x7.toInt = 3 * p0.toInt + 1 := (ox_116 (qi_add ex7 rfl zc_1 (ox_114 hp0 hp1 f2) (ox_115 hp0 hp1 f2)) f2)
    refine ldX_28 (mm := 3 * p0.toInt + 1) hx hb hK hP f8 (ox_117 hp0 hp1) (ox_118 hp0 hp1) dX4_doesLike_21 (fun x9 => ?_)
    refine lv_iload_n hx hb dX4_doesLike_22 rfl (lv_at hl 3 rfl) ?_
    refine lv_icmp_eq (tgt := 38) hx hb dX4_doesLike_23 (by decide) (fun c_10 => ?_) (fun c_10 => ?_)
    · skip
      have f11 : x9.toInt = p1.toInt := qi_eq c_10 rfl rfl
      refine lv_iconst (v := 1) hx hb dX4_doesLike_38 (by decide) ?_
      refine lv_goto (tgt := 43) hx hb dX4_doesLike_39 (by decide) ?_
      rw [hQ]
      exact W.zret (v := 1) hx hb hr (by decide) (fun t ht hW => ⟨⟨1, 1, rfl, rfl, ⟨(ox_113 zc_1), (ox_31 zc_1), (ox_32 zc_1)⟩⟩, hS.F ht⟩) hS.2.2 dX4_doesLike_43
    · skip
      have f12 : x9.toInt ≠ p1.toInt := qi_ne c_10 rfl rfl
      refine lv_aload_n hx hb dX4_doesLike_26 rfl (lv_at hl 1 rfl) ?_
      refine gX_X4_31_3 hx hb hG hown hK hP dX4_doesLike_27 ?_
      refine lv_iload_n hx hb dX4_doesLike_30 rfl (lv_at hl 0 rfl) ?_
      refine lv_iconst (v := 2) hx hb dX4_doesLike_31 (by decide) ?_
      refine lv_iadd hx hb dX4_doesLike_32 ?_
      refine lv_topi (fun x13 ex13 => ?_)
      have f14 : x13.toInt = 3 * p0.toInt + 2 := (ox_121 (qi_add ex13 rfl zc_2 (ox_119 hp0 hp1 f2) (ox_120 hp0 hp1 f2)) f2)
      refine ldX_28 (mm := 3 * p0.toInt + 2) hx hb hK hP f14 (ox_122 hp0 hp1) (ox_123 hp0 hp1) dX4_doesLike_33 (fun x15 => ?_)
      refine lv_iload_n hx hb dX4_doesLike_34 rfl (lv_at hl 3 rfl) ?_
      refine lv_icmp_ne (tgt := 42) hx hb dX4_doesLike_35 (by decide) (fun c_16 => ?_) (fun c_16 => ?_)
      · skip
        have f17 : x15.toInt ≠ p1.toInt := qi_ne c_16 rfl rfl
        refine lv_iconst (v := 0) hx hb dX4_doesLike_42 (by decide) ?_
        rw [hQ]
        exact W.zret (v := 0) hx hb hr (by decide) (fun t ht hW => ⟨⟨0, 0, rfl, rfl, ⟨(ox_124 zc_0), (ox_27 zc_0), (ox_28 zc_0)⟩⟩, hS.F ht⟩) hS.2.2 dX4_doesLike_43
      · skip
        have f18 : x15.toInt = p1.toInt := qi_eq c_16 rfl rfl
        refine lv_iconst (v := 1) hx hb dX4_doesLike_38 (by decide) ?_
        refine lv_goto (tgt := 43) hx hb dX4_doesLike_39 (by decide) ?_
        rw [hQ]
        exact W.zret (v := 1) hx hb hr (by decide) (fun t ht hW => ⟨⟨1, 1, rfl, rfl, ⟨(ox_113 zc_1), (ox_31 zc_1), (ox_32 zc_1)⟩⟩, hS.F ht⟩) hS.2.2 dX4_doesLike_43
