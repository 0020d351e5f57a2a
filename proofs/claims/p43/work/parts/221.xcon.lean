set_option maxHeartbeats 4000000 in
set_option maxRecDepth 100000 in
theorem kX3_mostAlike (l : Launch) (dC : Nat → ClassId) (dI : Nat → Nat → Nat) (r : Nat → Nat) (ct : Nat → ClassId) (i_tapeLength i_time i_lyingCount i_rd_fault i_rd_token i_rd_kind i_sc_count i_sc_at i_A_tunes i_A_houses i_fA_length i_B_tunes i_B_houses i_fB_length i_acts_done i_acts_undone i_kn_count : Int32) (f_boxes f_boxKept f_trial f_offers f_A_noteCounts f_A_notes f_B_noteCounts f_B_notes f_now_where f_now_worn f_ahead_where f_ahead_worn f_acts_rows f_kn_tunes f_kn_noteTimes : Nat → Int32) (J : Nat → Nat → Int32) (L : Nat → Nat → Int64) (p0 : Int32) (sz : Nat) (hI : (IX i_tapeLength i_time i_lyingCount i_rd_token i_sc_count i_sc_at i_A_tunes i_A_houses i_fA_length i_B_tunes i_B_houses i_fB_length i_acts_done i_acts_undone i_kn_count f_boxes f_A_noteCounts f_A_notes f_B_noteCounts f_B_notes f_now_worn f_ahead_worn f_acts_rows f_kn_tunes)) (hp0 : (0 : Int) ≤ p0.toInt) (hp1 : p0.toInt ≤ (4 : Int)) : Met l yX3_mostAlike (.code yX3_mostAlike cX3_mostAlike 7 (some .int) :: GW) { frames := 4, cells := 0, slots := 0, locals := 163 } (va_Pc [.ref (r 10), .int p0] (pW (dC, dI) (WX r ct i_tapeLength i_time i_lyingCount i_rd_fault i_rd_token i_rd_kind i_sc_count i_sc_at i_A_tunes i_A_houses i_fA_length i_B_tunes i_B_houses i_fB_length i_acts_done i_acts_undone i_kn_count f_boxes f_boxKept f_trial f_offers f_A_noteCounts f_A_notes f_B_noteCounts f_B_notes f_now_where f_now_worn f_ahead_where f_ahead_worn f_acts_rows f_kn_tunes f_kn_noteTimes J L) (TX ct) sz)) (va_Qi (fun (r0 : Int32) (u : Int32) => r0 = u) (fun (u : Int32) (t : State) => ∃ (n_J : Nat → Nat → Int32), va_P (dC, dI) vwCl (WX r ct i_tapeLength i_time i_lyingCount i_rd_fault i_rd_token i_rd_kind i_sc_count i_sc_at i_A_tunes i_A_houses i_fA_length i_B_tunes i_B_houses i_fB_length i_acts_done i_acts_undone i_kn_count f_boxes f_boxKept f_trial f_offers f_A_noteCounts f_A_notes f_B_noteCounts f_B_notes f_now_where f_now_worn f_ahead_where f_ahead_worn f_acts_rows f_kn_tunes f_kn_noteTimes n_J L) t.heap ∧ va_D (va_A (WX r ct i_tapeLength i_time i_lyingCount i_rd_fault i_rd_token i_rd_kind i_sc_count i_sc_at i_A_tunes i_A_houses i_fA_length i_B_tunes i_B_houses i_fB_length i_acts_done i_acts_undone i_kn_count f_boxes f_boxKept f_trial f_offers f_A_noteCounts f_A_notes f_B_noteCounts f_B_notes f_now_where f_now_worn f_ahead_where f_ahead_worn f_acts_rows f_kn_tunes f_kn_noteTimes J L) sz) (WX r ct i_tapeLength i_time i_lyingCount i_rd_fault i_rd_token i_rd_kind i_sc_count i_sc_at i_A_tunes i_A_houses i_fA_length i_B_tunes i_B_houses i_fB_length i_acts_done i_acts_undone i_kn_count f_boxes f_boxKept f_trial f_offers f_A_noteCounts f_A_notes f_B_noteCounts f_B_notes f_now_where f_now_worn f_ahead_where f_ahead_worn f_acts_rows f_kn_tunes f_kn_noteTimes n_J L) ∧ (IX i_tapeLength i_time i_lyingCount i_rd_token i_sc_count i_sc_at i_A_tunes i_A_houses i_fA_length i_B_tunes i_B_houses i_fB_length i_acts_done i_acts_undone i_kn_count f_boxes f_A_noteCounts f_A_notes f_B_noteCounts f_B_notes f_now_worn f_ahead_worn f_acts_rows f_kn_tunes)) (va_A (WX r ct i_tapeLength i_time i_lyingCount i_rd_fault i_rd_token i_rd_kind i_sc_count i_sc_at i_A_tunes i_A_houses i_fA_length i_B_tunes i_B_houses i_fB_length i_acts_done i_acts_undone i_kn_count f_boxes f_boxKept f_trial f_offers f_A_noteCounts f_A_notes f_B_noteCounts f_B_notes f_now_where f_now_worn f_ahead_where f_ahead_worn f_acts_rows f_kn_tunes f_kn_noteTimes J L) sz)) 0 0 (va_A (WX r ct i_tapeLength i_time i_lyingCount i_rd_fault i_rd_token i_rd_kind i_sc_count i_sc_at i_A_tunes i_A_houses i_fA_length i_B_tunes i_B_houses i_fB_length i_acts_done i_acts_undone i_kn_count f_boxes f_boxKept f_trial f_offers f_A_noteCounts f_A_notes f_B_noteCounts f_B_notes f_now_where f_now_worn f_ahead_where f_ahead_worn f_acts_rows f_kn_tunes f_kn_noteTimes J L) sz) := by
  refine Met.ofW (cc := cX3_mostAlike) (maxL := 7) (ret := (some .int)) (by decide) rfl ?_
  intro p e s m args below meth c0 s₁ B hml hv
  obtain ⟨rfl, hsz, hP, hK, hD0⟩ := hv
  have hx := B.exec
  have hb := B.bytes
  have hr := B.returns
  have hts := atoms_spec (ws := .code yX3_mostAlike cX3_mostAlike 7 (some .int) :: GW) B.pre
  have hG : ∀ w ∈ GW, w.before _ s = true := fun w h => hts w (List.mem_cons_of_mem _ h)
  have hown : s.vm.findClass RX3 = some m.cls := findClass_of_methodNamed B.named
  subst hsz
  have hD := hD0.self (sz := s.heap.size)
  generalize hAe : va_A (WX r ct i_tapeLength i_time i_lyingCount i_rd_fault i_rd_token i_rd_kind i_sc_count i_sc_at i_A_tunes i_A_houses i_fA_length i_B_tunes i_B_houses i_fB_length i_acts_done i_acts_undone i_kn_count f_boxes f_boxKept f_trial f_offers f_A_noteCounts f_A_notes f_B_noteCounts f_B_notes f_now_where f_now_worn f_ahead_where f_ahead_worn f_acts_rows f_kn_tunes f_kn_noteTimes J L) s.heap.size = A at hD ⊢
  have hA : ∀ q : Nat, s.heap.size ≤ q → A q := fun q h => by rw [← hAe]; exact Or.inr h
  have hS : va_S A s.heap s.heap [] := va_S.rf
  have hP : va_P (dC, dI) vwCl (WX r ct i_tapeLength i_time i_lyingCount i_rd_fault i_rd_token i_rd_kind i_sc_count i_sc_at i_A_tunes i_A_houses i_fA_length i_B_tunes i_B_houses i_fB_length i_acts_done i_acts_undone i_kn_count f_boxes f_boxKept f_trial f_offers f_A_noteCounts f_A_notes f_B_noteCounts f_B_notes f_now_where f_now_worn f_ahead_where f_ahead_worn f_acts_rows f_kn_tunes f_kn_noteTimes J L) s.heap := hP
  have hl := lv_entry ([.ref (r 10), .int p0]) (n := 7) (Nat.le_of_ble_eq_true rfl)
  rw [lg_entry_eq]
  generalize (lg_sl ([.ref (r 10), .int p0]) ++ List.replicate (7 - (lg_sl ([.ref (r 10), .int p0])).length) Slot.unset).toArray = ls at hl ⊢
  have hl : lv_has ls 7 [(0, .ref (r 10)), (1, .int p0)] := hl
  refine nameQ (fun Q hQ => ?_)
  obtain ⟨ie0, ie1, ie2, ie3, ie4, ie5, ie6, ie7, ie8, ie9, ie10, ie11, ie12, ie13, ie14, ie15, ie16, ie17, ie18, ie19, ie20, ie21, ie22, ie23, ie24, ie25, ie26, ie27, ie28, ie29, ie30, ie31, ie32, ie33, ie34, ie35, ie36, ie37, ie38, ie39⟩ := id hI
  refine lv_iconst (v := 0) hx hb dX3_mostAlike_0 (by decide) ?_
  refine lv_istore_n (lv' := [(2, .int 0), (0, .ref (r 10)), (1, .int p0)]) hx hb dX3_mostAlike_1 rfl hl (by decide) rfl (fun ls hl => ?_)
  refine lv_iconst (v := 0) hx hb dX3_mostAlike_2 (by decide) ?_
  refine lv_istore_n (lv' := [(3, .int 0), (2, .int 0), (0, .ref (r 10)), (1, .int p0)]) hx hb dX3_mostAlike_3 rfl hl (by decide) rfl (fun ls hl => ?_)
  refine lv_iconst (v := 0) hx hb dX3_mostAlike_4 (by decide) ?_
  refine lv_istore (lv' := [(4, .int 0), (3, .int 0), (2, .int 0), (0, .ref (r 10)), (1, .int p0)]) hx hb dX3_mostAlike_5 hl (by decide) rfl (fun ls hl => ?_)
  have L7 : ∀ (N7 : Nat) (y7_2 y7_3 y7_4 : Int32) (m7_J : Nat → Nat → Int32) (H7 : Heap) (locs : List Loc) (ls : Array Slot) (g7_0 : (0 : Int) ≤ y7_2.toInt) (g7_1 : y7_2.toInt ≤ (18 : Int)) (g7_2 : (0 : Int) ≤ y7_4.toInt) (g7_3 : y7_4.toInt ≤ (343 : Int)) (g7_4 : y7_2.toInt ≤ (18 : Int)) (hP : va_P (dC, dI) vwCl (WX r ct i_tapeLength i_time i_lyingCount i_rd_fault i_rd_token i_rd_kind i_sc_count i_sc_at i_A_tunes i_A_houses i_fA_length i_B_tunes i_B_houses i_fB_length i_acts_done i_acts_undone i_kn_count f_boxes f_boxKept f_trial f_offers f_A_noteCounts f_A_notes f_B_noteCounts f_B_notes f_now_where f_now_worn f_ahead_where f_ahead_worn f_acts_rows f_kn_tunes f_kn_noteTimes m7_J L) H7) (hD : va_D A (WX r ct i_tapeLength i_time i_lyingCount i_rd_fault i_rd_token i_rd_kind i_sc_count i_sc_at i_A_tunes i_A_houses i_fA_length i_B_tunes i_B_houses i_fB_length i_acts_done i_acts_undone i_kn_count f_boxes f_boxKept f_trial f_offers f_A_noteCounts f_A_notes f_B_noteCounts f_B_notes f_now_where f_now_worn f_ahead_where f_ahead_worn f_acts_rows f_kn_tunes f_kn_noteTimes m7_J L)) (hS : va_S A s.heap H7 locs) (hl : lv_has ls 7 [(0, .ref (r 10)), (1, .int p0), (2, .int y7_2), (3, .int y7_3), (4, .int y7_4)]) (hM : -1 * y7_4.toInt + 343 < (N7 : Int)), W p l e { frames := 4, cells := 0, slots := 0, locals := 163 } s m ([.ref (r 10), .int p0] : List Value).toArray below meth c0 H7 locs 0 0 Q (F0 m 7 ls []) := by
    intro N7
    induction N7 with
    | zero =>
      intro y7_2 y7_3 y7_4 m7_J H7 locs ls g7_0 g7_1 g7_2 g7_3 g7_4 hP hD hS hl hM
      exact ((ox_569 hM g7_2 g7_3)).elim
    | succ N7 ih7 =>
      intro y7_2 y7_3 y7_4 m7_J H7 locs ls g7_0 g7_1 g7_2 g7_3 g7_4 hP hD hS hl hM
      have hM7 := msucc hM
      refine lv_iload hx hb dX3_mostAlike_7 (lv_at hl 4 rfl) ?_
      refine lv_sipush (v := 343) hx hb dX3_mostAlike_9 (by decide) ?_
      refine lv_icmp_ge (tgt := 116) hx hb dX3_mostAlike_12 (by decide) (fun c_1 => ?_) (fun c_1 => ?_)
      · skip
        have f2 : 343 ≤ y7_4.toInt := qi_le c_1 zc_343 rfl
        refine lv_iload_n hx hb dX3_mostAlike_116 rfl (lv_at hl 3 rfl) ?_
        rw [hQ]
        exact W.iret (v := y7_3) hx hb hr (fun t ht hW => ⟨⟨y7_3, y7_3, rfl, rfl, ⟨m7_J, by rw [ht]; exact hP, hD, hI⟩⟩, hS.F ht⟩) hS.2.2 dX3_mostAlike_117
      · skip
        have f3 : y7_4.toInt < 343 := qi_nle c_1 zc_343 rfl
        refine lv_aload_n hx hb dX3_mostAlike_15 rfl (lv_at hl 0 rfl) ?_
        refine gX_X3_28_10 hx hb hG hown hK hP dX3_mostAlike_16 ?_
        refine lv_iload_n hx hb dX3_mostAlike_19 rfl (lv_at hl 1 rfl) ?_
        refine lv_sipush (v := 343) hx hb dX3_mostAlike_20 (by decide) ?_
        refine lv_imul hx hb dX3_mostAlike_23 ?_
        refine lv_topi (fun x4 ex4 => ?_)
        have f5 : x4.toInt = 343 * p0.toInt := (ox_568 (qi_mul ex4 rfl zc_343 (ox_704 hp0 hp1) (ox_705 hp0 hp1)))
        refine lv_iload hx hb dX3_mostAlike_24 (lv_at hl 4 rfl) ?_
        refine lv_iadd hx hb dX3_mostAlike_26 ?_
        refine lv_topi (fun x6 ex6 => ?_)
        have f7 : x6.toInt = y7_4.toInt + 343 * p0.toInt := (ox_572 (qi_add ex6 rfl rfl (ox_654 hp0 g7_2 f5) (ox_706 hp1 g7_3 f5)) f5)
        refine ldX_57 (mm := y7_4.toInt + 343 * p0.toInt) hx hb hK hP f7 (ox_658 hp0 g7_2) (ox_707 hp1 f3) dX3_mostAlike_27 (fun x8 => ?_)
        refine lv_istore (lv' := [(5, .int x8), (0, .ref (r 10)), (1, .int p0), (2, .int y7_2), (3, .int y7_3), (4, .int y7_4)]) hx hb dX3_mostAlike_28 hl (by decide) rfl (fun ls hl => ?_)
        refine lv_aload_n hx hb dX3_mostAlike_30 rfl (lv_at hl 1 rfl) ?_
        refine gX_X3_31_10 hx hb hG hown hK hP dX3_mostAlike_31 ?_
        refine lv_iload hx hb dX3_mostAlike_34 (lv_at hl 5 rfl) ?_
        refine ldX_58 (mm := y7_4.toInt) hx hb hK hP rfl (ox_9 g7_2) (ox_578 f3) dX3_mostAlike_36 (fun x9 => ?_)
        refine lv_if_eq (tgt := 50) hx hb dX3_mostAlike_37 (by decide) (fun c_10 => ?_) (fun c_10 => ?_)
        · skip
          have f11 : x9.toInt = 0 := qi_eq c_10 rfl zc_0
          refine lv_bipush (v := 18) hx hb dX3_mostAlike_50 (by decide) ?_
          refine lv_istore (lv' := [(6, .int 18), (5, .int x8), (0, .ref (r 10)), (1, .int p0), (2, .int y7_2), (3, .int y7_3), (4, .int y7_4)]) hx hb dX3_mostAlike_52 hl (by decide) rfl (fun ls hl => ?_)
          refine lv_iload hx hb dX3_mostAlike_54 (lv_at hl 0 rfl) ?_
          refine lv_bipush (v := 18) hx hb dX3_mostAlike_56 (by decide) ?_
          refine lv_icmp_ge (tgt := 110) hx hb dX3_mostAlike_58 (by decide) (fun c_12 => ?_) (fun c_12 => absurd (by decide) c_12)
          obtain ⟨x13, ex13⟩ : ∃ y : Int32, y = y7_4 + Int32.ofInt 1 := ⟨_, rfl⟩
          have f14 : x13.toInt = y7_4.toInt + 1 := (ox_13 (qi_add ex13 rfl (by decide) (ox_11 g7_2) (ox_575 g7_3)))
          refine lv_iinc (v := x13) (lv' := [(4, .int x13), (6, .int 18), (5, .int x8), (0, .ref (r 10)), (1, .int p0), (2, .int y7_2), (3, .int y7_3)]) hx hb dX3_mostAlike_110 hl (k := 6) rfl ex13.symm (by decide) rfl (fun ls hl => ?_)
          refine lv_goto (tgt := 7) hx hb dX3_mostAlike_113 (by decide) ?_
          exact ih7 y7_2 y7_3 x13 m7_J H7 _ _ (ox_708 g7_0 g7_1) (ox_709 g7_0 g7_1) (ox_14 g7_2 f14) (ox_576 f3 f14) (ox_709 g7_0 g7_1) hP hD hS (lv_sub hl [3, 4, 5, 6, 0] rfl) (ox_577 hM7 f14)
        · skip
          have f15 : x9.toInt ≠ 0 := qi_ne c_10 rfl zc_0
          refine lv_aload_n hx hb dX3_mostAlike_40 rfl (lv_at hl 1 rfl) ?_
          refine lv_iload hx hb dX3_mostAlike_41 (lv_at hl 0 rfl) ?_
          refine lv_iload_n hx hb dX3_mostAlike_43 rfl (lv_at hl 3 rfl) ?_
          refine va_calli (va_runV (As := [.int x8, .int y7_2]) (rest := []) ⟨hx, hb, hml, hown, hG⟩ (kX3_kindOf l dC dI r ct i_tapeLength i_time i_lyingCount i_rd_fault i_rd_token i_rd_kind i_sc_count i_sc_at i_A_tunes i_A_houses i_fA_length i_B_tunes i_B_houses i_fB_length i_acts_done i_acts_undone i_kn_count f_boxes f_boxKept f_trial f_offers f_A_noteCounts f_A_notes f_B_noteCounts f_B_notes f_now_where f_now_worn f_ahead_where f_ahead_worn f_acts_rows f_kn_tunes f_kn_noteTimes m7_J L x8 y7_2 H7.size hI (ox_708 g7_0 g7_1) (ox_709 g7_0 g7_1)) (cwV 2 hG (goodV gw1130 gw1132 gw54 gw136 gw1133) rfl rfl rfl hd_X3_kindOf ⟨(Nat.le_of_ble_eq_true rfl), (Nat.le_of_ble_eq_true rfl)⟩) ⟨fbR, va_recv hK hP (ci := 2) (q0 := 10) rfl rfl, pR_in hP hK⟩ rfl rfl hl.1 rfl (lv_room (Nat.le_of_ble_eq_true rfl)) dX3_mostAlike_44 ⟨(Nat.le_of_ble_eq_true rfl), (Nat.le_of_ble_eq_true rfl)⟩) hS (fun q hq h => absurd hq (Nat.not_lt.mpr h)) (fun q h => hA q (Nat.le_trans hS.1 h)) (fun r_17 u_ t_ H16 locs ht hvm hw hB hz1 hk1 hS => ?_)
          subst hw
          have hP := wk hP hk1
          obtain ⟨f18, f19, f20⟩ := hB
          refine lv_goto (tgt := 52) hx hb dX3_mostAlike_47 (by decide) ?_
          refine lv_istore (lv' := [(6, .int r_17), (5, .int x8), (0, .ref (r 10)), (1, .int p0), (2, .int y7_2), (3, .int y7_3), (4, .int y7_4)]) hx hb dX3_mostAlike_52 hl (by decide) rfl (fun ls hl => ?_)
          refine lv_iload hx hb dX3_mostAlike_54 (lv_at hl 0 rfl) ?_
          refine lv_bipush (v := 18) hx hb dX3_mostAlike_56 (by decide) ?_
          refine lv_icmp_ge (tgt := 110) hx hb dX3_mostAlike_58 (by decide) (fun c_21 => ?_) (fun c_21 => ?_)
          · skip
            have f22 : 18 ≤ r_17.toInt := qi_le c_21 zc_18 rfl
            have f23 : r_17.toInt = y7_2.toInt := (ox_710 g7_1 f18 f22)
            obtain ⟨x24, ex24⟩ : ∃ y : Int32, y = y7_4 + Int32.ofInt 1 := ⟨_, rfl⟩
            have f25 : x24.toInt = y7_4.toInt + 1 := (ox_13 (qi_add ex24 rfl (by decide) (ox_11 g7_2) (ox_575 g7_3)))
            refine lv_iinc (v := x24) (lv' := [(4, .int x24), (6, .int r_17), (5, .int x8), (0, .ref (r 10)), (1, .int p0), (2, .int y7_2), (3, .int y7_3)]) hx hb dX3_mostAlike_110 hl (k := 6) rfl ex24.symm (by decide) rfl (fun ls hl => ?_)
            refine lv_goto (tgt := 7) hx hb dX3_mostAlike_113 (by decide) ?_
            exact ih7 y7_2 y7_3 x24 m7_J H16 _ _ (ox_6 g7_0) (ox_701 g7_1) (ox_14 g7_2 f25) (ox_576 f3 f25) (ox_701 g7_1) hP hD hS (lv_sub hl [3, 4, 5, 6, 0] rfl) (ox_577 hM7 f25)
          · skip
            have f26 : r_17.toInt < 18 := qi_nle c_21 zc_18 rfl
            refine lv_iload hx hb dX3_mostAlike_61 (lv_at hl 0 rfl) ?_
            refine lv_iload_n hx hb dX3_mostAlike_63 rfl (lv_at hl 4 rfl) ?_
            refine lv_icmp_ne (tgt := 87) hx hb dX3_mostAlike_64 (by decide) (fun c_27 => ?_) (fun c_27 => ?_)
            · skip
              have f28 : r_17.toInt ≠ y7_2.toInt := qi_ne c_27 rfl rfl
              have f29 : (0 : Int) ≤ r_17.toInt := (ox_711 f19 f20 f26)
              have f30 : r_17.toInt ≤ (18 : Int) := (ox_701 f20)
              have f31 : r_17.toInt + 1 ≤ y7_2.toInt := (ox_712 f18 f28)
              have f32 : r_17.toInt + 1 ≤ y7_2.toInt := (ox_55 f31)
              refine lv_aload_n hx hb dX3_mostAlike_87 rfl (lv_at hl 2 rfl) ?_
              refine gX_X3_46_10 hx hb hG hown hK hP dX3_mostAlike_88 ?_
              refine lv_iload hx hb dX3_mostAlike_91 (lv_at hl 0 rfl) ?_
              refine lv_dup2_11 hx hb dX3_mostAlike_93 rfl rfl ?_
              refine ldX_63 (mm := r_17.toInt) hx hb hK hP rfl (ox_9 f19) (ox_713 f26) dX3_mostAlike_94 (fun x33 => ?_)
              refine lv_iconst (v := 1) hx hb dX3_mostAlike_95 (by decide) ?_
              refine lv_iadd hx hb dX3_mostAlike_96 ?_
              refine lv_topi (fun x34 ex34 => ?_)
              refine stX_63 (mm := r_17.toInt) hx hb hK hP hD hS rfl (ox_9 f19) (ox_713 f26) dX3_mostAlike_97 (fun J36 H35 locs hP hD hS => ?_)
              refine lv_iload_n hx hb dX3_mostAlike_98 rfl (lv_at hl 5 rfl) ?_
              refine lv_aload_n hx hb dX3_mostAlike_99 rfl (lv_at hl 2 rfl) ?_
              refine gX_X3_46_10 hx hb hG hown hK hP dX3_mostAlike_100 ?_
              refine lv_iload hx hb dX3_mostAlike_103 (lv_at hl 0 rfl) ?_
              refine ldX_63 (mm := r_17.toInt) hx hb hK hP rfl (ox_9 f19) (ox_713 f26) dX3_mostAlike_105 (fun x37 => ?_)
              refine va_mmax hx hb (hml.trans hl.1.symm) hown (hG _ gw1134) (hG _ gw775) (hG _ gw139) (hG _ gw776) (Nat.le_of_ble_eq_true rfl) (Nat.le_of_ble_eq_true rfl) (Nat.le_of_ble_eq_true rfl) (Nat.le_of_ble_eq_true rfl) dX3_mostAlike_106 ?_
              refine lv_topi (fun x38 ex38 => ?_)
              have f39 : (x37.toInt ≤ y7_3.toInt ∧ x38.toInt = y7_3.toInt) ∨ (y7_3.toInt ≤ x37.toInt ∧ x38.toInt = x37.toInt) := mmax_or2 ex38 rfl rfl
              refine lv_istore_n (lv' := [(3, .int x38), (6, .int r_17), (5, .int x8), (0, .ref (r 10)), (1, .int p0), (2, .int y7_2), (4, .int y7_4)]) hx hb dX3_mostAlike_109 rfl hl (by decide) rfl (fun ls hl => ?_)
              obtain ⟨x40, ex40⟩ : ∃ y : Int32, y = y7_4 + Int32.ofInt 1 := ⟨_, rfl⟩
              have f41 : x40.toInt = y7_4.toInt + 1 := (ox_13 (qi_add ex40 rfl (by decide) (ox_11 g7_2) (ox_575 g7_3)))
              refine lv_iinc (v := x40) (lv' := [(4, .int x40), (3, .int x38), (6, .int r_17), (5, .int x8), (0, .ref (r 10)), (1, .int p0), (2, .int y7_2)]) hx hb dX3_mostAlike_110 hl (k := 6) rfl ex40.symm (by decide) rfl (fun ls hl => ?_)
              refine lv_goto (tgt := 7) hx hb dX3_mostAlike_113 (by decide) ?_
              exact ih7 y7_2 x38 x40 J36 H35 _ _ (ox_6 g7_0) (ox_701 g7_1) (ox_14 g7_2 f41) (ox_576 f3 f41) (ox_701 g7_1) hP hD hS (lv_sub hl [4, 5, 6, 1, 0] rfl) (ox_577 hM7 f41)
            · skip
              have f42 : r_17.toInt = y7_2.toInt := qi_eq c_27 rfl rfl
              have f43 : r_17.toInt = y7_2.toInt := (ox_714 f42)
              refine lv_aload_n hx hb dX3_mostAlike_67 rfl (lv_at hl 2 rfl) ?_
              refine gX_X3_43_10 hx hb hG hown hK hP dX3_mostAlike_68 ?_
              refine lv_iload hx hb dX3_mostAlike_71 (lv_at hl 0 rfl) ?_
              refine lv_iload hx hb dX3_mostAlike_73 (lv_at hl 1 rfl) ?_
              refine stX_62 (mm := r_17.toInt) hx hb hK hP hD hS rfl (ox_9 f19) (ox_713 f26) dX3_mostAlike_75 (fun J45 H44 locs hP hD hS => ?_)
              refine lv_aload_n hx hb dX3_mostAlike_76 rfl (lv_at hl 2 rfl) ?_
              refine gX_X3_46_10 hx hb hG hown hK hP dX3_mostAlike_77 ?_
              refine lv_iload hx hb dX3_mostAlike_80 (lv_at hl 0 rfl) ?_
              refine lv_iconst (v := 0) hx hb dX3_mostAlike_82 (by decide) ?_
              refine stX_63 (mm := r_17.toInt) hx hb hK hP hD hS rfl (ox_9 f19) (ox_713 f26) dX3_mostAlike_83 (fun J47 H46 locs hP hD hS => ?_)
              obtain ⟨x48, ex48⟩ : ∃ y : Int32, y = y7_2 + Int32.ofInt 1 := ⟨_, rfl⟩
              have f49 : x48.toInt = y7_2.toInt + 1 := (ox_13 (qi_add ex48 rfl (by decide) (ox_11 g7_0) (ox_697 g7_1)))
              refine lv_iinc (v := x48) (lv' := [(2, .int x48), (6, .int r_17), (5, .int x8), (0, .ref (r 10)), (1, .int p0), (3, .int y7_3), (4, .int y7_4)]) hx hb dX3_mostAlike_84 hl (k := 4) rfl ex48.symm (by decide) rfl (fun ls hl => ?_)
              refine lv_aload_n hx hb dX3_mostAlike_87 rfl (lv_at hl 3 rfl) ?_
              refine gX_X3_46_10 hx hb hG hown hK hP dX3_mostAlike_88 ?_
              refine lv_iload hx hb dX3_mostAlike_91 (lv_at hl 1 rfl) ?_
              refine lv_dup2_11 hx hb dX3_mostAlike_93 rfl rfl ?_
              refine ldX_63 (mm := r_17.toInt) hx hb hK hP rfl (ox_9 f19) (ox_713 f26) dX3_mostAlike_94 (fun x50 => ?_)
              refine lv_iconst (v := 1) hx hb dX3_mostAlike_95 (by decide) ?_
              refine lv_iadd hx hb dX3_mostAlike_96 ?_
              refine lv_topi (fun x51 ex51 => ?_)
              refine stX_63 (mm := r_17.toInt) hx hb hK hP hD hS rfl (ox_9 f19) (ox_713 f26) dX3_mostAlike_97 (fun J53 H52 locs hP hD hS => ?_)
              refine lv_iload_n hx hb dX3_mostAlike_98 rfl (lv_at hl 5 rfl) ?_
              refine lv_aload_n hx hb dX3_mostAlike_99 rfl (lv_at hl 3 rfl) ?_
              refine gX_X3_46_10 hx hb hG hown hK hP dX3_mostAlike_100 ?_
              refine lv_iload hx hb dX3_mostAlike_103 (lv_at hl 1 rfl) ?_
              refine ldX_63 (mm := r_17.toInt) hx hb hK hP rfl (ox_9 f19) (ox_713 f26) dX3_mostAlike_105 (fun x54 => ?_)
              refine va_mmax hx hb (hml.trans hl.1.symm) hown (hG _ gw1134) (hG _ gw775) (hG _ gw139) (hG _ gw776) (Nat.le_of_ble_eq_true rfl) (Nat.le_of_ble_eq_true rfl) (Nat.le_of_ble_eq_true rfl) (Nat.le_of_ble_eq_true rfl) dX3_mostAlike_106 ?_
              refine lv_topi (fun x55 ex55 => ?_)
              have f56 : (x54.toInt ≤ y7_3.toInt ∧ x55.toInt = y7_3.toInt) ∨ (y7_3.toInt ≤ x54.toInt ∧ x55.toInt = x54.toInt) := mmax_or2 ex55 rfl rfl
              refine lv_istore_n (lv' := [(3, .int x55), (2, .int x48), (6, .int r_17), (5, .int x8), (0, .ref (r 10)), (1, .int p0), (4, .int y7_4)]) hx hb dX3_mostAlike_109 rfl hl (by decide) rfl (fun ls hl => ?_)
              obtain ⟨x57, ex57⟩ : ∃ y : Int32, y = y7_4 + Int32.ofInt 1 := ⟨_, rfl⟩
              have f58 : x57.toInt = y7_4.toInt + 1 := (ox_13 (qi_add ex57 rfl (by decide) (ox_11 g7_2) (ox_575 g7_3)))
              refine lv_iinc (v := x57) (lv' := [(4, .int x57), (3, .int x55), (2, .int x48), (6, .int r_17), (5, .int x8), (0, .ref (r 10)), (1, .int p0)]) hx hb dX3_mostAlike_110 hl (k := 6) rfl ex57.symm (by decide) rfl (fun ls hl => ?_)
              refine lv_goto (tgt := 7) hx hb dX3_mostAlike_113 (by decide) ?_
              exact ih7 x48 x55 x57 J53 H52 _ _ (ox_14 g7_0 f49) (ox_715 f26 f42 f49) (ox_14 g7_2 f58) (ox_576 f3 f58) (ox_715 f26 f42 f49) hP hD hS (lv_sub hl [5, 6, 2, 1, 0] rfl) (ox_577 hM7 f58)
  exact L7 (-1 * (0 : Int32).toInt + 343 + 1).toNat 0 0 0 J s.heap _ _ (ox_27 zc_0) (ox_702 zc_0) (ox_27 zc_0) (ox_579 zc_0) (ox_702 zc_0) hP hD hS (lv_sub hl [3, 4, 2, 1, 0] rfl) (mlt (ox_580 zc_0))
set_option maxHeartbeats 4000000 in
set_option maxRecDepth 100000 in
theorem kX8_ask (l : Launch) (dC : Nat → ClassId) (dI : Nat → Nat → Nat) (r : Nat → Nat) (ct : Nat → ClassId) (i_tapeLength i_time i_lyingCount i_rd_fault i_rd_token i_rd_kind i_sc_count i_sc_at i_A_tunes i_A_houses i_fA_length i_B_tunes i_B_houses i_fB_length i_acts_done i_acts_undone i_kn_count : Int32) (f_boxes f_boxKept f_trial f_offers f_A_noteCounts f_A_notes f_B_noteCounts f_B_notes f_now_where f_now_worn f_ahead_where f_ahead_worn f_acts_rows f_kn_tunes f_kn_noteTimes : Nat → Int32) (J : Nat → Nat → Int32) (L : Nat → Nat → Int64) (p0 p1 : Int32) (sz : Nat) (hI : (IX i_tapeLength i_time i_lyingCount i_rd_token i_sc_count i_sc_at i_A_tunes i_A_houses i_fA_length i_B_tunes i_B_houses i_fB_length i_acts_done i_acts_undone i_kn_count f_boxes f_A_noteCounts f_A_notes f_B_noteCounts f_B_notes f_now_worn f_ahead_worn f_acts_rows f_kn_tunes)) : Met l yX8_ask (.code yX8_ask cX8_ask 7 (some .int) :: GW) { frames := 14, cells := 0, slots := 0, locals := 486 } (va_Pc [.ref (r 0), .int p0, .int p1] (pW (dC, dI) (WX r ct i_tapeLength i_time i_lyingCount i_rd_fault i_rd_token i_rd_kind i_sc_count i_sc_at i_A_tunes i_A_houses i_fA_length i_B_tunes i_B_houses i_fB_length i_acts_done i_acts_undone i_kn_count f_boxes f_boxKept f_trial f_offers f_A_noteCounts f_A_notes f_B_noteCounts f_B_notes f_now_where f_now_worn f_ahead_where f_ahead_worn f_acts_rows f_kn_tunes f_kn_noteTimes J L) (TX ct) sz)) (va_Qi (fun (r0 : Int32) (u : Int32) => r0 = u) (fun (u : Int32) (t : State) => ∃ (n_f_kn_noteTimes : Nat → Int32) (n_J : Nat → Nat → Int32), va_P (dC, dI) vwCl (WX r ct i_tapeLength i_time i_lyingCount i_rd_fault i_rd_token i_rd_kind i_sc_count i_sc_at i_A_tunes i_A_houses i_fA_length i_B_tunes i_B_houses i_fB_length i_acts_done i_acts_undone i_kn_count f_boxes f_boxKept f_trial f_offers f_A_noteCounts f_A_notes f_B_noteCounts f_B_notes f_now_where f_now_worn f_ahead_where f_ahead_worn f_acts_rows f_kn_tunes n_f_kn_noteTimes n_J L) t.heap ∧ va_D (va_A (WX r ct i_tapeLength i_time i_lyingCount i_rd_fault i_rd_token i_rd_kind i_sc_count i_sc_at i_A_tunes i_A_houses i_fA_length i_B_tunes i_B_houses i_fB_length i_acts_done i_acts_undone i_kn_count f_boxes f_boxKept f_trial f_offers f_A_noteCounts f_A_notes f_B_noteCounts f_B_notes f_now_where f_now_worn f_ahead_where f_ahead_worn f_acts_rows f_kn_tunes f_kn_noteTimes J L) sz) (WX r ct i_tapeLength i_time i_lyingCount i_rd_fault i_rd_token i_rd_kind i_sc_count i_sc_at i_A_tunes i_A_houses i_fA_length i_B_tunes i_B_houses i_fB_length i_acts_done i_acts_undone i_kn_count f_boxes f_boxKept f_trial f_offers f_A_noteCounts f_A_notes f_B_noteCounts f_B_notes f_now_where f_now_worn f_ahead_where f_ahead_worn f_acts_rows f_kn_tunes n_f_kn_noteTimes n_J L) ∧ (IX i_tapeLength i_time i_lyingCount i_rd_token i_sc_count i_sc_at i_A_tunes i_A_houses i_fA_length i_B_tunes i_B_houses i_fB_length i_acts_done i_acts_undone i_kn_count f_boxes f_A_noteCounts f_A_notes f_B_noteCounts f_B_notes f_now_worn f_ahead_worn f_acts_rows f_kn_tunes)) (va_A (WX r ct i_tapeLength i_time i_lyingCount i_rd_fault i_rd_token i_rd_kind i_sc_count i_sc_at i_A_tunes i_A_houses i_fA_length i_B_tunes i_B_houses i_fB_length i_acts_done i_acts_undone i_kn_count f_boxes f_boxKept f_trial f_offers f_A_noteCounts f_A_notes f_B_noteCounts f_B_notes f_now_where f_now_worn f_ahead_where f_ahead_worn f_acts_rows f_kn_tunes f_kn_noteTimes J L) sz)) 0 0 (va_A (WX r ct i_tapeLength i_time i_lyingCount i_rd_fault i_rd_token i_rd_kind i_sc_count i_sc_at i_A_tunes i_A_houses i_fA_length i_B_tunes i_B_houses i_fB_length i_acts_done i_acts_undone i_kn_count f_boxes f_boxKept f_trial f_offers f_A_noteCounts f_A_notes f_B_noteCounts f_B_notes f_now_where f_now_worn f_ahead_where f_ahead_worn f_acts_rows f_kn_tunes f_kn_noteTimes J L) sz) := by
  refine Met.ofW (cc := cX8_ask) (maxL := 7) (ret := (some .int)) (by decide) rfl ?_
  intro p e s m args below meth c0 s₁ B hml hv
  obtain ⟨rfl, hsz, hP, hK, hD0⟩ := hv
  have hx := B.exec
  have hb := B.bytes
  have hr := B.returns
  have hts := atoms_spec (ws := .code yX8_ask cX8_ask 7 (some .int) :: GW) B.pre
  have hG : ∀ w ∈ GW, w.before _ s = true := fun w h => hts w (List.mem_cons_of_mem _ h)
  have hown : s.vm.findClass RX8 = some m.cls := findClass_of_methodNamed B.named
  subst hsz
  have hD := hD0.self (sz := s.heap.size)
  generalize hAe : va_A (WX r ct i_tapeLength i_time i_lyingCount i_rd_fault i_rd_token i_rd_kind i_sc_count i_sc_at i_A_tunes i_A_houses i_fA_length i_B_tunes i_B_houses i_fB_length i_acts_done i_acts_undone i_kn_count f_boxes f_boxKept f_trial f_offers f_A_noteCounts f_A_notes f_B_noteCounts f_B_notes f_now_where f_now_worn f_ahead_where f_ahead_worn f_acts_rows f_kn_tunes f_kn_noteTimes J L) s.heap.size = A at hD ⊢
  have hA : ∀ q : Nat, s.heap.size ≤ q → A q := fun q h => by rw [← hAe]; exact Or.inr h
  have hS : va_S A s.heap s.heap [] := va_S.rf
  have hP : va_P (dC, dI) vwCl (WX r ct i_tapeLength i_time i_lyingCount i_rd_fault i_rd_token i_rd_kind i_sc_count i_sc_at i_A_tunes i_A_houses i_fA_length i_B_tunes i_B_houses i_fB_length i_acts_done i_acts_undone i_kn_count f_boxes f_boxKept f_trial f_offers f_A_noteCounts f_A_notes f_B_noteCounts f_B_notes f_now_where f_now_worn f_ahead_where f_ahead_worn f_acts_rows f_kn_tunes f_kn_noteTimes J L) s.heap := hP
  have hl := lv_entry ([.ref (r 0), .int p0, .int p1]) (n := 7) (Nat.le_of_ble_eq_true rfl)
  rw [lg_entry_eq]
  generalize (lg_sl ([.ref (r 0), .int p0, .int p1]) ++ List.replicate (7 - (lg_sl ([.ref (r 0), .int p0, .int p1])).length) Slot.unset).toArray = ls at hl ⊢
  have hl : lv_has ls 7 [(0, .ref (r 0)), (1, .int p0), (2, .int p1)] := hl
  refine nameQ (fun Q hQ => ?_)
  obtain ⟨ie0, ie1, ie2, ie3, ie4, ie5, ie6, ie7, ie8, ie9, ie10, ie11, ie12, ie13, ie14, ie15, ie16, ie17, ie18, ie19, ie20, ie21, ie22, ie23, ie24, ie25, ie26, ie27, ie28, ie29, ie30, ie31, ie32, ie33, ie34, ie35, ie36, ie37, ie38, ie39⟩ := id hI
  refine lv_iload_n hx hb dX8_ask_0 rfl (lv_at hl 1 rfl) ?_
  refine lv_if_lt (tgt := 34) hx hb dX8_ask_1 (by decide) (fun c_1 => ?_) (fun c_1 => ?_)
  · skip
    have f2 : p0.toInt < 0 := qi_lt c_1 rfl zc_0
    refine lv_iconst (v := (-1)) hx hb dX8_ask_34 (by decide) ?_
    rw [hQ]
    exact W.iret (v := (-1)) hx hb hr (fun t ht hW => ⟨⟨(-1), (-1), rfl, rfl, ⟨f_kn_noteTimes, J, by rw [ht]; exact hP, hD, hI⟩⟩, hS.F ht⟩) hS.2.2 dX8_ask_35
  · skip
    have f3 : 0 ≤ p0.toInt := qi_nlt c_1 rfl zc_0
    refine lv_iload_n hx hb dX8_ask_4 rfl (lv_at hl 1 rfl) ?_
    refine lv_iconst (v := 1) hx hb dX8_ask_5 (by decide) ?_
    refine lv_icmp_gt (tgt := 34) hx hb dX8_ask_6 (by decide) (fun c_4 => ?_) (fun c_4 => ?_)
    · skip
      have f5 : 1 < p0.toInt := qi_lt c_4 zc_1 rfl
      refine lv_iconst (v := (-1)) hx hb dX8_ask_34 (by decide) ?_
      rw [hQ]
      exact W.iret (v := (-1)) hx hb hr (fun t ht hW => ⟨⟨(-1), (-1), rfl, rfl, ⟨f_kn_noteTimes, J, by rw [ht]; exact hP, hD, hI⟩⟩, hS.F ht⟩) hS.2.2 dX8_ask_35
    · skip
      have f6 : p0.toInt ≤ 1 := qi_nlt c_4 zc_1 rfl
      refine lv_aload_n hx hb dX8_ask_9 rfl (lv_at hl 0 rfl) ?_
      refine gX_X8_23_0 hx hb hG hown hK hP dX8_ask_10 ?_
      refine gX_X8_108_3 hx hb hG hown hK hP dX8_ask_13 ?_
      refine lv_if_eq (tgt := 34) hx hb dX8_ask_16 (by decide) (fun c_7 => ?_) (fun c_7 => ?_)
      · skip
        have f8 : i_A_tunes.toInt = 0 := qi_eq c_7 rfl zc_0
        refine lv_iconst (v := (-1)) hx hb dX8_ask_34 (by decide) ?_
        rw [hQ]
        exact W.iret (v := (-1)) hx hb hr (fun t ht hW => ⟨⟨(-1), (-1), rfl, rfl, ⟨f_kn_noteTimes, J, by rw [ht]; exact hP, hD, hI⟩⟩, hS.F ht⟩) hS.2.2 dX8_ask_35
      · skip
        have f9 : i_A_tunes.toInt ≠ 0 := qi_ne c_7 rfl zc_0
        have f10 : (1 : Int) ≤ i_A_tunes.toInt := (ox_716 ie12 ie13 f9)
        refine lv_aload_n hx hb dX8_ask_19 rfl (lv_at hl 0 rfl) ?_
        refine gX_X8_55_0 hx hb hG hown hK hP dX8_ask_20 ?_
        refine lv_aload_n hx hb dX8_ask_23 rfl (lv_at hl 0 rfl) ?_
        refine gX_X8_23_0 hx hb hG hown hK hP dX8_ask_24 ?_
        refine lv_iload_n hx hb dX8_ask_27 rfl (lv_at hl 2 rfl) ?_
        have hFc := frA hD hS hA
        refine va_calli (va_runV (As := [.ref (r 3), .int p1]) (rest := []) ⟨hx, hb, hml, hown, hG⟩ (kX3_sift l dC dI r ct i_tapeLength i_time i_lyingCount i_rd_fault i_rd_token i_rd_kind i_sc_count i_sc_at i_A_tunes i_A_houses i_fA_length i_B_tunes i_B_houses i_fB_length i_acts_done i_acts_undone i_kn_count f_boxes f_boxKept f_trial f_offers f_A_noteCounts f_A_notes f_B_noteCounts f_B_notes f_now_where f_now_worn f_ahead_where f_ahead_worn f_acts_rows f_kn_tunes f_kn_noteTimes J L p1 s.heap.size hI) (cwV 2 hG (goodV gw1078 gw1079 gw1080 gw136 gw1081) rfl rfl rfl hd_X3_sift ⟨(Nat.le_of_ble_eq_true rfl), (Nat.le_of_ble_eq_true rfl)⟩) ⟨fbW, va_recv hK hP (ci := 2) (q0 := 10) rfl rfl, pW_in hP hK hD⟩ rfl rfl hl.1 rfl (lv_room (Nat.le_of_ble_eq_true rfl)) dX8_ask_28 ⟨(Nat.le_of_ble_eq_true rfl), (Nat.le_of_ble_eq_true rfl)⟩) hS (fun q _ h => hFc q h) hFc (fun r_12 u_ t_ H11 locs ht hvm hw hB hz1 hk1 hS => ?_)
        subst hw
        obtain ⟨z13, J14, hP1, hD1, hI16, f15⟩ := hB
        rw [ht] at hP1
        have hP := hP1
        have hD := dW hFc hD1
        obtain ⟨im17, im18, im19, im20, im21, im22, im23, im24, im25, im26, im27, im28, im29, im30, im31, im32, im33, im34, im35, im36, im37, im38, im39, im40, im41, im42, im43, im44, im45, im46, im47, im48, im49, im50, im51, im52, im53, im54, im55, im56⟩ := id hI16
        refine lv_if_ne (tgt := 36) hx hb dX8_ask_31 (by decide) (fun c_57 => ?_) (fun c_57 => ?_)
        · skip
          have f58 : r_12.toInt ≠ 0 := qi_ne c_57 rfl zc_0
          have f59 : i_A_houses.toInt ≠ (0 : Int) := (ox_690 f15 f58)
          have f60 : (1 : Int) ≤ i_A_houses.toInt := (ox_691 ie14 f59)
          refine lv_iconst (v := (-1)) hx hb dX8_ask_36 (by decide) ?_
          refine lv_istore_n (lv' := [(3, .int (-1)), (0, .ref (r 0)), (1, .int p0), (2, .int p1)]) hx hb dX8_ask_37 rfl hl (by decide) rfl (fun ls hl => ?_)
          refine lv_sipush (v := 344) hx hb dX8_ask_38 (by decide) ?_
          refine lv_istore (lv' := [(4, .int 344), (3, .int (-1)), (0, .ref (r 0)), (1, .int p0), (2, .int p1)]) hx hb dX8_ask_41 hl (by decide) rfl (fun ls hl => ?_)
          refine lv_iconst (v := 0) hx hb dX8_ask_43 (by decide) ?_
          refine lv_istore (lv' := [(5, .int 0), (4, .int 344), (3, .int (-1)), (0, .ref (r 0)), (1, .int p0), (2, .int p1)]) hx hb dX8_ask_44 hl (by decide) rfl (fun ls hl => ?_)
          have L46 : ∀ (N46 : Nat) (y46_3 y46_4 y46_5 : Int32) (m46_J : Nat → Nat → Int32) (H46 : Heap) (locs : List Loc) (ls : Array Slot) (g46_0 : (0 : Int) ≤ y46_3.toInt + 1) (g46_1 : y46_3.toInt ≤ (1048576 : Int)) (g46_2 : y46_4.toInt ≤ (344 : Int)) (g46_3 : (0 : Int) ≤ y46_5.toInt) (g46_4 : y46_5.toInt ≤ (5 : Int)) (hP : va_P (dC, dI) vwCl (WX r ct i_tapeLength i_time i_lyingCount i_rd_fault i_rd_token i_rd_kind i_sc_count i_sc_at i_A_tunes i_A_houses i_fA_length i_B_tunes i_B_houses i_fB_length i_acts_done i_acts_undone i_kn_count f_boxes f_boxKept f_trial f_offers f_A_noteCounts f_A_notes f_B_noteCounts f_B_notes f_now_where f_now_worn f_ahead_where f_ahead_worn f_acts_rows f_kn_tunes z13 m46_J L) H46) (hD : va_D A (WX r ct i_tapeLength i_time i_lyingCount i_rd_fault i_rd_token i_rd_kind i_sc_count i_sc_at i_A_tunes i_A_houses i_fA_length i_B_tunes i_B_houses i_fB_length i_acts_done i_acts_undone i_kn_count f_boxes f_boxKept f_trial f_offers f_A_noteCounts f_A_notes f_B_noteCounts f_B_notes f_now_where f_now_worn f_ahead_where f_ahead_worn f_acts_rows f_kn_tunes z13 m46_J L)) (hS : va_S A s.heap H46 locs) (hl : lv_has ls 7 [(0, .ref (r 0)), (1, .int p0), (2, .int p1), (3, .int y46_3), (4, .int y46_4), (5, .int y46_5)]) (hM : -1 * y46_5.toInt + 5 < (N46 : Int)), W p l e { frames := 14, cells := 0, slots := 0, locals := 486 } s m ([.ref (r 0), .int p0, .int p1] : List Value).toArray below meth c0 H46 locs 0 0 Q (F0 m 46 ls []) := by
            intro N46
            induction N46 with
            | zero =>
              intro y46_3 y46_4 y46_5 m46_J H46 locs ls g46_0 g46_1 g46_2 g46_3 g46_4 hP hD hS hl hM
              exact ((ox_82 hM g46_3 g46_4)).elim
            | succ N46 ih46 =>
              intro y46_3 y46_4 y46_5 m46_J H46 locs ls g46_0 g46_1 g46_2 g46_3 g46_4 hP hD hS hl hM
              have hM46 := msucc hM
              refine lv_iload hx hb dX8_ask_46 (lv_at hl 5 rfl) ?_
              refine lv_aload_n hx hb dX8_ask_48 rfl (lv_at hl 0 rfl) ?_
              refine gX_X8_23_0 hx hb hG hown hK hP dX8_ask_49 ?_
              refine gX_X8_108_3 hx hb hG hown hK hP dX8_ask_52 ?_
              refine lv_icmp_ge (tgt := 89) hx hb dX8_ask_55 (by decide) (fun c_61 => ?_) (fun c_61 => ?_)
              · skip
                have f62 : i_A_tunes.toInt ≤ y46_5.toInt := qi_le c_61 rfl rfl
                refine lv_iload_n hx hb dX8_ask_89 rfl (lv_at hl 1 rfl) ?_
                refine lv_if_ne (tgt := 97) hx hb dX8_ask_90 (by decide) (fun c_63 => ?_) (fun c_63 => ?_)
                · skip
                  have f64 : p0.toInt ≠ 0 := qi_ne c_63 rfl zc_0
                  have f65 : (1 : Int) ≤ p0.toInt := (ox_382 f3 f6 f64)
                  refine lv_iload hx hb dX8_ask_97 (lv_at hl 4 rfl) ?_
                  rw [hQ]
                  exact W.iret (v := y46_4) hx hb hr (fun t ht hW => ⟨⟨y46_4, y46_4, rfl, rfl, ⟨z13, m46_J, by rw [ht]; exact hP, hD, hI16⟩⟩, hS.F ht⟩) hS.2.2 dX8_ask_99
                · skip
                  have f66 : p0.toInt = 0 := qi_eq c_63 rfl zc_0
                  refine lv_iload_n hx hb dX8_ask_93 rfl (lv_at hl 3 rfl) ?_
                  refine lv_goto (tgt := 99) hx hb dX8_ask_94 (by decide) ?_
                  rw [hQ]
                  exact W.iret (v := y46_3) hx hb hr (fun t ht hW => ⟨⟨y46_3, y46_3, rfl, rfl, ⟨z13, m46_J, by rw [ht]; exact hP, hD, hI16⟩⟩, hS.F ht⟩) hS.2.2 dX8_ask_99
              · skip
                have f67 : y46_5.toInt < i_A_tunes.toInt := qi_nle c_61 rfl rfl
                refine lv_aload_n hx hb dX8_ask_58 rfl (lv_at hl 0 rfl) ?_
                refine gX_X8_55_0 hx hb hG hown hK hP dX8_ask_59 ?_
                refine lv_iload hx hb dX8_ask_62 (lv_at hl 5 rfl) ?_
                have hFc := frA hD hS hA
                refine va_calli (va_runV (As := [.int y46_5]) (rest := []) ⟨hx, hb, hml, hown, hG⟩ (kX3_mostAlike l dC dI r ct i_tapeLength i_time i_lyingCount i_rd_fault i_rd_token i_rd_kind i_sc_count i_sc_at i_A_tunes i_A_houses i_fA_length i_B_tunes i_B_houses i_fB_length i_acts_done i_acts_undone i_kn_count f_boxes f_boxKept f_trial f_offers f_A_noteCounts f_A_notes f_B_noteCounts f_B_notes f_now_where f_now_worn f_ahead_where f_ahead_worn f_acts_rows f_kn_tunes z13 m46_J L y46_5 H46.size hI16 (ox_6 g46_3) (ox_97 ie13 f67)) (cwV 1 hG (goodV gw1126 gw1127 gw1128 gw136 gw1129) rfl rfl rfl hd_X3_mostAlike ⟨(Nat.le_of_ble_eq_true rfl), (Nat.le_of_ble_eq_true rfl)⟩) ⟨fbW, va_recv hK hP (ci := 2) (q0 := 10) rfl rfl, pW_in hP hK hD⟩ rfl rfl hl.1 rfl (lv_room (Nat.le_of_ble_eq_true rfl)) dX8_ask_64 ⟨(Nat.le_of_ble_eq_true rfl), (Nat.le_of_ble_eq_true rfl)⟩) hS (fun q _ h => hFc q h) hFc (fun r_69 u_ t_ H68 locs ht hvm hw hB hz1 hk1 hS => ?_)
                subst hw
                obtain ⟨J70, hP1, hD1, hI71⟩ := hB
                rw [ht] at hP1
                have hP := hP1
                have hD := dW hFc hD1
                obtain ⟨im72, im73, im74, im75, im76, im77, im78, im79, im80, im81, im82, im83, im84, im85, im86, im87, im88, im89, im90, im91, im92, im93, im94, im95, im96, im97, im98, im99, im100, im101, im102, im103, im104, im105, im106, im107, im108, im109, im110, im111⟩ := id hI71
                refine lv_istore (lv' := [(6, .int r_69), (0, .ref (r 0)), (1, .int p0), (2, .int p1), (3, .int y46_3), (4, .int y46_4), (5, .int y46_5)]) hx hb dX8_ask_67 hl (by decide) rfl (fun ls hl => ?_)
                refine lv_iload hx hb dX8_ask_69 (lv_at hl 0 rfl) ?_
                refine lv_iload hx hb dX8_ask_71 (lv_at hl 5 rfl) ?_
                refine lv_icmp_ge (tgt := 83) hx hb dX8_ask_73 (by decide) (fun c_112 => ?_) (fun c_112 => ?_)
                · skip
                  have f113 : y46_4.toInt ≤ r_69.toInt := qi_le c_112 rfl rfl
                  obtain ⟨x114, ex114⟩ : ∃ y : Int32, y = y46_5 + Int32.ofInt 1 := ⟨_, rfl⟩
                  have f115 : x114.toInt = y46_5.toInt + 1 := (ox_13 (qi_add ex114 rfl (by decide) (ox_11 g46_3) (ox_87 g46_4)))
                  refine lv_iinc (v := x114) (lv' := [(5, .int x114), (6, .int r_69), (0, .ref (r 0)), (1, .int p0), (2, .int p1), (3, .int y46_3), (4, .int y46_4)]) hx hb dX8_ask_83 hl (k := 6) rfl ex114.symm (by decide) rfl (fun ls hl => ?_)
                  refine lv_goto (tgt := 46) hx hb dX8_ask_86 (by decide) ?_
                  exact ih46 y46_3 y46_4 x114 J70 H68 _ _ (ox_510 g46_0 g46_1) (ox_511 g46_0 g46_1) (ox_717 g46_2 f113) (ox_14 g46_3 f115) (ox_98 ie13 f67 f115) hP hD hS (lv_sub hl [2, 3, 4, 5, 6, 0] rfl) (ox_89 hM46 f115)
                · skip
                  have f116 : r_69.toInt < y46_4.toInt := qi_nle c_112 rfl rfl
                  refine lv_iload hx hb dX8_ask_76 (lv_at hl 0 rfl) ?_
                  refine lv_istore (lv' := [(4, .int r_69), (6, .int r_69), (0, .ref (r 0)), (1, .int p0), (2, .int p1), (3, .int y46_3), (5, .int y46_5)]) hx hb dX8_ask_78 hl (by decide) rfl (fun ls hl => ?_)
                  refine lv_iload hx hb dX8_ask_80 (lv_at hl 6 rfl) ?_
                  refine lv_istore_n (lv' := [(3, .int y46_5), (4, .int r_69), (6, .int r_69), (0, .ref (r 0)), (1, .int p0), (2, .int p1), (5, .int y46_5)]) hx hb dX8_ask_82 rfl hl (by decide) rfl (fun ls hl => ?_)
                  obtain ⟨x117, ex117⟩ : ∃ y : Int32, y = y46_5 + Int32.ofInt 1 := ⟨_, rfl⟩
                  have f118 : x117.toInt = y46_5.toInt + 1 := (ox_13 (qi_add ex117 rfl (by decide) (ox_11 g46_3) (ox_87 g46_4)))
                  refine lv_iinc (v := x117) (lv' := [(5, .int x117), (3, .int y46_5), (4, .int r_69), (6, .int r_69), (0, .ref (r 0)), (1, .int p0), (2, .int p1)]) hx hb dX8_ask_83 hl (k := 6) rfl ex117.symm (by decide) rfl (fun ls hl => ?_)
                  refine lv_goto (tgt := 46) hx hb dX8_ask_86 (by decide) ?_
                  exact ih46 y46_5 r_69 x117 J70 H68 _ _ (ox_93 g46_3) (ox_532 g46_4) (ox_718 g46_2 f116) (ox_14 g46_3 f118) (ox_98 ie13 f67 f118) hP hD hS (lv_sub hl [4, 5, 6, 1, 2, 0] rfl) (ox_89 hM46 f118)
          exact L46 (-1 * (0 : Int32).toInt + 5 + 1).toNat (-1) 344 0 J14 H11 _ _ (ox_83 zc_m1) (ox_517 zc_m1) (ox_719 zc_344) (ox_27 zc_0) (ox_95 zc_0) hP hD hS (lv_sub hl [3, 4, 5, 2, 1, 0] rfl) (mlt (ox_96 zc_0))
        · skip
          have f119 : r_12.toInt = 0 := qi_eq c_57 rfl zc_0
          refine lv_iconst (v := (-1)) hx hb dX8_ask_34 (by decide) ?_
          rw [hQ]
          exact W.iret (v := (-1)) hx hb hr (fun t ht hW => ⟨⟨(-1), (-1), rfl, rfl, ⟨z13, J14, by rw [ht]; exact hP, hD, hI16⟩⟩, hS.F ht⟩) hS.2.2 dX8_ask_35
set_option maxHeartbeats 4000000 in
set_option maxRecDepth 100000 in
theorem kX7_writeTo_v1 (l : Launch) (dC : Nat → ClassId) (dI : Nat → Nat → Nat) (r : Nat → Nat) (ct : Nat → ClassId) (i_tapeLength i_time i_lyingCount i_rd_fault i_rd_token i_rd_kind i_sc_count i_sc_at i_A_tunes i_A_houses i_fA_length i_B_tunes i_B_houses i_fB_length i_acts_done i_acts_undone i_kn_count : Int32) (f_boxes f_boxKept f_trial f_offers f_A_noteCounts f_A_notes f_B_noteCounts f_B_notes f_now_where f_now_worn f_ahead_where f_ahead_worn f_acts_rows f_kn_tunes f_kn_noteTimes : Nat → Int32) (J : Nat → Nat → Int32) (L : Nat → Nat → Int64) (p1 : Int32) (sz : Nat) (hI : (IX i_tapeLength i_time i_lyingCount i_rd_token i_sc_count i_sc_at i_A_tunes i_A_houses i_fA_length i_B_tunes i_B_houses i_fB_length i_acts_done i_acts_undone i_kn_count f_boxes f_A_noteCounts f_A_notes f_B_noteCounts f_B_notes f_now_worn f_ahead_worn f_acts_rows f_kn_tunes)) (hp0 : (0 : Int) ≤ p1.toInt) (hp1 : p1.toInt ≤ (2 : Int)) (hp2 : WB i_A_tunes f_now_where) : Met l yX7_writeTo (.code yX7_writeTo cX7_writeTo 4 none :: GW) { frames := 4, cells := 0, slots := 0, locals := 160 } (va_Pc [.ref (r 7), .ref (r 12), .int p1] (pW (dC, dI) (WX r ct i_tapeLength i_time i_lyingCount i_rd_fault i_rd_token i_rd_kind i_sc_count i_sc_at i_A_tunes i_A_houses i_fA_length i_B_tunes i_B_houses i_fB_length i_acts_done i_acts_undone i_kn_count f_boxes f_boxKept f_trial f_offers f_A_noteCounts f_A_notes f_B_noteCounts f_B_notes f_now_where f_now_worn f_ahead_where f_ahead_worn f_acts_rows f_kn_tunes f_kn_noteTimes J L) (TX ct) sz)) (va_Qv (fun _ : Unit => True) (fun (_ : Unit) (t : State) => ∃ (n_f_boxes : Nat → Int32), va_P (dC, dI) vwCl (WX r ct i_tapeLength i_time i_lyingCount i_rd_fault i_rd_token i_rd_kind i_sc_count i_sc_at i_A_tunes i_A_houses i_fA_length i_B_tunes i_B_houses i_fB_length i_acts_done i_acts_undone i_kn_count n_f_boxes f_boxKept f_trial f_offers f_A_noteCounts f_A_notes f_B_noteCounts f_B_notes f_now_where f_now_worn f_ahead_where f_ahead_worn f_acts_rows f_kn_tunes f_kn_noteTimes J L) t.heap ∧ va_D (va_A (WX r ct i_tapeLength i_time i_lyingCount i_rd_fault i_rd_token i_rd_kind i_sc_count i_sc_at i_A_tunes i_A_houses i_fA_length i_B_tunes i_B_houses i_fB_length i_acts_done i_acts_undone i_kn_count f_boxes f_boxKept f_trial f_offers f_A_noteCounts f_A_notes f_B_noteCounts f_B_notes f_now_where f_now_worn f_ahead_where f_ahead_worn f_acts_rows f_kn_tunes f_kn_noteTimes J L) sz) (WX r ct i_tapeLength i_time i_lyingCount i_rd_fault i_rd_token i_rd_kind i_sc_count i_sc_at i_A_tunes i_A_houses i_fA_length i_B_tunes i_B_houses i_fB_length i_acts_done i_acts_undone i_kn_count n_f_boxes f_boxKept f_trial f_offers f_A_noteCounts f_A_notes f_B_noteCounts f_B_notes f_now_where f_now_worn f_ahead_where f_ahead_worn f_acts_rows f_kn_tunes f_kn_noteTimes J L) ∧ (IX i_tapeLength i_time i_lyingCount i_rd_token i_sc_count i_sc_at i_A_tunes i_A_houses i_fA_length i_B_tunes i_B_houses i_fB_length i_acts_done i_acts_undone i_kn_count n_f_boxes f_A_noteCounts f_A_notes f_B_noteCounts f_B_notes f_now_worn f_ahead_worn f_acts_rows f_kn_tunes) ∧ (WR i_A_tunes p1.toInt f_boxes n_f_boxes)) (va_A (WX r ct i_tapeLength i_time i_lyingCount i_rd_fault i_rd_token i_rd_kind i_sc_count i_sc_at i_A_tunes i_A_houses i_fA_length i_B_tunes i_B_houses i_fB_length i_acts_done i_acts_undone i_kn_count f_boxes f_boxKept f_trial f_offers f_A_noteCounts f_A_notes f_B_noteCounts f_B_notes f_now_where f_now_worn f_ahead_where f_ahead_worn f_acts_rows f_kn_tunes f_kn_noteTimes J L) sz)) 0 0 (va_A (WX r ct i_tapeLength i_time i_lyingCount i_rd_fault i_rd_token i_rd_kind i_sc_count i_sc_at i_A_tunes i_A_houses i_fA_length i_B_tunes i_B_houses i_fB_length i_acts_done i_acts_undone i_kn_count f_boxes f_boxKept f_trial f_offers f_A_noteCounts f_A_notes f_B_noteCounts f_B_notes f_now_where f_now_worn f_ahead_where f_ahead_worn f_acts_rows f_kn_tunes f_kn_noteTimes J L) sz) := by
  refine Met.ofW (cc := cX7_writeTo) (maxL := 4) (ret := none) (by decide) rfl ?_
  intro p e s m args below meth c0 s₁ B hml hv
  obtain ⟨rfl, hsz, hP, hK, hD0⟩ := hv
  have hx := B.exec
  have hb := B.bytes
  have hr := B.returns
  have hts := atoms_spec (ws := .code yX7_writeTo cX7_writeTo 4 none :: GW) B.pre
  have hG : ∀ w ∈ GW, w.before _ s = true := fun w h => hts w (List.mem_cons_of_mem _ h)
  have hown : s.vm.findClass RX7 = some m.cls := findClass_of_methodNamed B.named
  subst hsz
  have hD := hD0.self (sz := s.heap.size)
  generalize hAe : va_A (WX r ct i_tapeLength i_time i_lyingCount i_rd_fault i_rd_token i_rd_kind i_sc_count i_sc_at i_A_tunes i_A_houses i_fA_length i_B_tunes i_B_houses i_fB_length i_acts_done i_acts_undone i_kn_count f_boxes f_boxKept f_trial f_offers f_A_noteCounts f_A_notes f_B_noteCounts f_B_notes f_now_where f_now_worn f_ahead_where f_ahead_worn f_acts_rows f_kn_tunes f_kn_noteTimes J L) s.heap.size = A at hD ⊢
  have hA : ∀ q : Nat, s.heap.size ≤ q → A q := fun q h => by rw [← hAe]; exact Or.inr h
  have hS : va_S A s.heap s.heap [] := va_S.rf
  have hP : va_P (dC, dI) vwCl (WX r ct i_tapeLength i_time i_lyingCount i_rd_fault i_rd_token i_rd_kind i_sc_count i_sc_at i_A_tunes i_A_houses i_fA_length i_B_tunes i_B_houses i_fB_length i_acts_done i_acts_undone i_kn_count f_boxes f_boxKept f_trial f_offers f_A_noteCounts f_A_notes f_B_noteCounts f_B_notes f_now_where f_now_worn f_ahead_where f_ahead_worn f_acts_rows f_kn_tunes f_kn_noteTimes J L) s.heap := hP
  have hl := lv_entry ([.ref (r 7), .ref (r 12), .int p1]) (n := 4) (Nat.le_of_ble_eq_true rfl)
  rw [lg_entry_eq]
  generalize (lg_sl ([.ref (r 7), .ref (r 12), .int p1]) ++ List.replicate (4 - (lg_sl ([.ref (r 7), .ref (r 12), .int p1])).length) Slot.unset).toArray = ls at hl ⊢
  have hl : lv_has ls 4 [(0, .ref (r 7)), (1, .ref (r 12)), (2, .int p1)] := hl
  refine nameQ (fun Q hQ => ?_)
  obtain ⟨ie0, ie1, ie2, ie3, ie4, ie5, ie6, ie7, ie8, ie9, ie10, ie11, ie12, ie13, ie14, ie15, ie16, ie17, ie18, ie19, ie20, ie21, ie22, ie23, ie24, ie25, ie26, ie27, ie28, ie29, ie30, ie31, ie32, ie33, ie34, ie35, ie36, ie37, ie38, ie39⟩ := id hI
  refine lv_iload_n hx hb dX7_writeTo_0 rfl (lv_at hl 2 rfl) ?_
  refine lv_bipush (v := 26) hx hb dX7_writeTo_1 (by decide) ?_
  refine lv_imul hx hb dX7_writeTo_3 ?_
  refine lv_topi (fun x1 ex1 => ?_)
  have f2 : x1.toInt = 26 * p1.toInt := (ox_228 (qi_mul ex1 rfl zc_26 (ox_720 hp0 hp1) (ox_721 hp0 hp1)))
  refine lv_istore_n (lv' := [(3, .int x1), (0, .ref (r 7)), (1, .ref (r 12)), (2, .int p1)]) hx hb dX7_writeTo_4 rfl hl (by decide) rfl (fun ls hl => ?_)
  refine lv_iload_n hx hb dX7_writeTo_5 rfl (lv_at hl 0 rfl) ?_
  refine lv_if_lt (tgt := 18) hx hb dX7_writeTo_6 (by decide) (fun c_3 => ((ox_722 (qi_lt c_3 rfl zc_0) hp0 hp1 f2)).elim) (fun c_3 => ?_)
  have f4 : 0 ≤ x1.toInt := qi_nlt c_3 rfl zc_0
  refine lv_iload_n hx hb dX7_writeTo_9 rfl (lv_at hl 0 rfl) ?_
  refine lv_bipush (v := 26) hx hb dX7_writeTo_10 (by decide) ?_
  refine lv_iadd hx hb dX7_writeTo_12 ?_
  refine lv_topi (fun x5 ex5 => ?_)
  have f6 : x5.toInt = 26 * p1.toInt + 26 := (ox_232 (qi_add ex5 rfl zc_26 (ox_723 hp0 hp1 f4 f2) (ox_724 hp0 hp1 f4 f2)) f2)
  refine lv_aload_n hx hb dX7_writeTo_13 rfl (lv_at hl 2 rfl) ?_
  refine va_alen (v := 78) hx hb hK hP 12 1 rfl rfl (show Int32.ofNat 78 = 78 by decide) dX7_writeTo_14 ?_
  refine lv_icmp_le (tgt := 19) hx hb dX7_writeTo_15 (by decide) (fun c_7 => ?_) (fun c_7 => ((ox_725 (qi_nle c_7 rfl zc_78) hp0 hp1 f4 f2 f6)).elim)
  have f8 : x5.toInt ≤ 78 := qi_le c_7 rfl zc_78
  refine lv_aload_n hx hb dX7_writeTo_19 rfl (lv_at hl 1 rfl) ?_
  refine gX_X7_9_7 hx hb hG hown hK hP dX7_writeTo_20 ?_
  refine lv_iconst (v := 0) hx hb dX7_writeTo_23 (by decide) ?_
  refine lv_aload_n hx hb dX7_writeTo_24 rfl (lv_at hl 2 rfl) ?_
  refine lv_iload_n hx hb dX7_writeTo_25 rfl (lv_at hl 0 rfl) ?_
  refine lv_iconst (v := 5) hx hb dX7_writeTo_26 (by decide) ?_
  refine cpX_41_12 (a := (0 : Int)) (b := 26 * p1.toInt) (d := (5 : Int)) hx hb (hml.trans hl.1.symm) hown (hG _ gw465) (hG _ gw467) (hG _ gw466) (hG _ gw137) hK hP hD hS zc_0 f2 zc_5 (ox_143) (ox_234 hp0) (ox_186) (ox_235) (ox_726 hp1) (Nat.le_of_ble_eq_true rfl) (Nat.le_of_ble_eq_true rfl) dX7_writeTo_27 (fun z10 H9 locs ez10 hP hD hS => ?_)
  have g11 : EW z10 := EW_cpy ez10 ie29 (ox_143) (ox_234 hp0) (ox_186) (fun k k0 k1 k2 k3 => by have := (ox_727 hp0 hp1 f4 f8 f6 f2); omega)
  refine lv_aload_n hx hb dX7_writeTo_30 rfl (lv_at hl 1 rfl) ?_
  refine gX_X7_15_7 hx hb hG hown hK hP dX7_writeTo_31 ?_
  refine lv_iconst (v := 0) hx hb dX7_writeTo_34 (by decide) ?_
  refine lv_aload_n hx hb dX7_writeTo_35 rfl (lv_at hl 2 rfl) ?_
  refine lv_iload_n hx hb dX7_writeTo_36 rfl (lv_at hl 0 rfl) ?_
  refine lv_iconst (v := 5) hx hb dX7_writeTo_37 (by decide) ?_
  refine lv_iadd hx hb dX7_writeTo_38 ?_
  refine lv_topi (fun x12 ex12 => ?_)
  have f13 : x12.toInt = 26 * p1.toInt + 5 := (ox_240 (qi_add ex12 rfl zc_5 (ox_238 hp0 f2) (ox_728 hp1 f2)) f2)
  refine lv_iconst (v := 5) hx hb dX7_writeTo_39 (by decide) ?_
  refine cpX_42_12 (a := (0 : Int)) (b := 26 * p1.toInt + 5) (d := (5 : Int)) hx hb (hml.trans hl.1.symm) hown (hG _ gw465) (hG _ gw467) (hG _ gw466) (hG _ gw137) hK hP hD hS zc_0 f13 zc_5 (ox_143) (ox_241 hp0) (ox_186) (ox_235) (ox_729 hp1) (Nat.le_of_ble_eq_true rfl) (Nat.le_of_ble_eq_true rfl) dX7_writeTo_40 (fun z15 H14 locs ez15 hP hD hS => ?_)
  have g16 : EW z15 := EW_cpy ez15 g11 (ox_143) (ox_241 hp0) (ox_186) (fun k k0 k1 k2 k3 => by have := (ox_730 hp0 hp1 f4 f8 f6 f2); omega)
  refine lv_aload_n hx hb dX7_writeTo_43 rfl (lv_at hl 1 rfl) ?_
  refine gX_X7_18_7 hx hb hG hown hK hP dX7_writeTo_44 ?_
  refine lv_iconst (v := 0) hx hb dX7_writeTo_47 (by decide) ?_
  refine lv_aload_n hx hb dX7_writeTo_48 rfl (lv_at hl 2 rfl) ?_
  refine lv_iload_n hx hb dX7_writeTo_49 rfl (lv_at hl 0 rfl) ?_
  refine lv_bipush (v := 10) hx hb dX7_writeTo_50 (by decide) ?_
  refine lv_iadd hx hb dX7_writeTo_52 ?_
  refine lv_topi (fun x17 ex17 => ?_)
  have f18 : x17.toInt = 26 * p1.toInt + 10 := (ox_246 (qi_add ex17 rfl zc_10 (ox_244 hp0 f2) (ox_731 hp1 f2)) f2)
  refine lv_iconst (v := 5) hx hb dX7_writeTo_53 (by decide) ?_
  refine cpX_43_12 (a := (0 : Int)) (b := 26 * p1.toInt + 10) (d := (5 : Int)) hx hb (hml.trans hl.1.symm) hown (hG _ gw465) (hG _ gw467) (hG _ gw466) (hG _ gw137) hK hP hD hS zc_0 f18 zc_5 (ox_143) (ox_247 hp0) (ox_186) (ox_235) (ox_732 hp1) (Nat.le_of_ble_eq_true rfl) (Nat.le_of_ble_eq_true rfl) dX7_writeTo_54 (fun z20 H19 locs ez20 hP hD hS => ?_)
  have g21 : EW z20 := EW_cpy ez20 g16 (ox_143) (ox_247 hp0) (ox_186) (fun k _ _ _ _ => ie36 ((0 : Int) + k))
  refine lv_aload_n hx hb dX7_writeTo_57 rfl (lv_at hl 1 rfl) ?_
  refine gX_X7_21_7 hx hb hG hown hK hP dX7_writeTo_58 ?_
  refine lv_iconst (v := 0) hx hb dX7_writeTo_61 (by decide) ?_
  refine lv_aload_n hx hb dX7_writeTo_62 rfl (lv_at hl 2 rfl) ?_
  refine lv_iload_n hx hb dX7_writeTo_63 rfl (lv_at hl 0 rfl) ?_
  refine lv_bipush (v := 15) hx hb dX7_writeTo_64 (by decide) ?_
  refine lv_iadd hx hb dX7_writeTo_66 ?_
  refine lv_topi (fun x22 ex22 => ?_)
  have f23 : x22.toInt = 26 * p1.toInt + 15 := (ox_251 (qi_add ex22 rfl zc_15 (ox_249 hp0 f2) (ox_733 hp1 f2)) f2)
  refine lv_iconst (v := 5) hx hb dX7_writeTo_67 (by decide) ?_
  refine cpX_44_12 (a := (0 : Int)) (b := 26 * p1.toInt + 15) (d := (5 : Int)) hx hb (hml.trans hl.1.symm) hown (hG _ gw465) (hG _ gw467) (hG _ gw466) (hG _ gw137) hK hP hD hS zc_0 f23 zc_5 (ox_143) (ox_252 hp0) (ox_186) (ox_235) (ox_734 hp1) (Nat.le_of_ble_eq_true rfl) (Nat.le_of_ble_eq_true rfl) dX7_writeTo_68 (fun z25 H24 locs ez25 hP hD hS => ?_)
  have g26 : EW z25 := EW_cpy ez25 g21 (ox_143) (ox_252 hp0) (ox_186) (fun k k0 k1 k2 k3 => by have := (ox_735 hp0 hp1 f4 f8 f6 f2); omega)
  refine lv_aload_n hx hb dX7_writeTo_71 rfl (lv_at hl 1 rfl) ?_
  refine gX_X7_24_7 hx hb hG hown hK hP dX7_writeTo_72 ?_
  refine lv_iconst (v := 0) hx hb dX7_writeTo_75 (by decide) ?_
  refine lv_aload_n hx hb dX7_writeTo_76 rfl (lv_at hl 2 rfl) ?_
  refine lv_iload_n hx hb dX7_writeTo_77 rfl (lv_at hl 0 rfl) ?_
  refine lv_bipush (v := 20) hx hb dX7_writeTo_78 (by decide) ?_
  refine lv_iadd hx hb dX7_writeTo_80 ?_
  refine lv_topi (fun x27 ex27 => ?_)
  have f28 : x27.toInt = 26 * p1.toInt + 20 := (ox_257 (qi_add ex27 rfl zc_20 (ox_255 hp0 f2) (ox_736 hp1 f2)) f2)
  refine lv_iconst (v := 4) hx hb dX7_writeTo_81 (by decide) ?_
  refine cpX_45_12 (a := (0 : Int)) (b := 26 * p1.toInt + 20) (d := (4 : Int)) hx hb (hml.trans hl.1.symm) hown (hG _ gw465) (hG _ gw467) (hG _ gw466) (hG _ gw137) hK hP hD hS zc_0 f28 zc_4 (ox_143) (ox_258 hp0) (ox_184) (ox_259) (ox_737 hp1) (Nat.le_of_ble_eq_true rfl) (Nat.le_of_ble_eq_true rfl) dX7_writeTo_82 (fun z30 H29 locs ez30 hP hD hS => ?_)
  have g31 : EW z30 := EW_cpy ez30 g26 (ox_143) (ox_258 hp0) (ox_184) (fun k k0 k1 k2 k3 => by have := (ox_738 hp0 hp1 f4 f8 f6 f2); omega)
  refine lv_aload_n hx hb dX7_writeTo_85 rfl (lv_at hl 2 rfl) ?_
  refine lv_iload_n hx hb dX7_writeTo_86 rfl (lv_at hl 0 rfl) ?_
  refine lv_bipush (v := 26) hx hb dX7_writeTo_87 (by decide) ?_
  refine lv_iadd hx hb dX7_writeTo_89 ?_
  refine lv_topi (fun x32 ex32 => ?_)
  have f33 : x32.toInt = 26 * p1.toInt + 26 := (ox_232 (qi_add ex32 rfl zc_26 (ox_262 hp0 f2) (ox_739 hp1 f2)) f2)
  refine lv_iconst (v := 2) hx hb dX7_writeTo_90 (by decide) ?_
  refine lv_isub hx hb dX7_writeTo_91 ?_
  refine lv_topi (fun x34 ex34 => ?_)
  have f35 : x34.toInt = 26 * p1.toInt + 24 := (ox_266 (qi_sub ex34 rfl zc_2 (ox_264 hp0 f33) (ox_740 hp1 f33)) f33)
  refine lv_aload_n hx hb dX7_writeTo_92 rfl (lv_at hl 1 rfl) ?_
  refine gX_X7_38_7 hx hb hG hown hK hP dX7_writeTo_93 (fun x36 => ?_)
  refine stX_12 (mm := 26 * p1.toInt + 24) hx hb hK hP hD hS f35 (ox_267 hp0) (ox_741 hp1) dX7_writeTo_96 (fun z38 H37 locs ez38 hP hD hS => ?_)
  have g39 : EW z38 := ez38 ▸ EW.updo g31 (ox_267 hp0) (ox_742 hp0 hp1 f4 f8 f6 f2)
  refine lv_aload_n hx hb dX7_writeTo_97 rfl (lv_at hl 2 rfl) ?_
  refine lv_iload_n hx hb dX7_writeTo_98 rfl (lv_at hl 0 rfl) ?_
  refine lv_bipush (v := 26) hx hb dX7_writeTo_99 (by decide) ?_
  refine lv_iadd hx hb dX7_writeTo_101 ?_
  refine lv_topi (fun x40 ex40 => ?_)
  have f41 : x40.toInt = 26 * p1.toInt + 26 := (ox_232 (qi_add ex40 rfl zc_26 (ox_262 hp0 f2) (ox_739 hp1 f2)) f2)
  refine lv_iconst (v := 1) hx hb dX7_writeTo_102 (by decide) ?_
  refine lv_isub hx hb dX7_writeTo_103 ?_
  refine lv_topi (fun x42 ex42 => ?_)
  have f43 : x42.toInt = 26 * p1.toInt + 25 := (ox_272 (qi_sub ex42 rfl zc_1 (ox_270 hp0 f41) (ox_743 hp1 f41)) f41)
  refine lv_aload_n hx hb dX7_writeTo_104 rfl (lv_at hl 1 rfl) ?_
  refine gX_X7_44_7 hx hb hG hown hK hP dX7_writeTo_105 (fun x44 => ?_)
  refine stX_12 (mm := 26 * p1.toInt + 25) hx hb hK hP hD hS f43 (ox_273 hp0) (ox_744 hp1) dX7_writeTo_108 (fun z46 H45 locs ez46 hP hD hS => ?_)
  have g47 : EW z46 := ez46 ▸ EW.updo g39 (ox_273 hp0) (ox_745 hp0 hp1 f4 f8 f6 f2)
  rw [hQ]
  exact W.vret hx hb hr (fun t ht hW => ⟨⟨(), rfl, trivial, ⟨z46, by rw [ht]; exact hP, hD, ⟨ie0, ie1, ie2, ie3, ie4, ie5, ie6, ie7, ie8, ie9, ie10, ie11, ie12, ie13, ie14, ie15, ie16, ie17, ie18, ie19, ie20, ie21, ie22, ie23, ie24, ie25, ie26, ie27, ie28, g47, ie30, ie31, ie32, ie33, ie34, ie35, ie36, ie37, ie38, ie39⟩, (WR_u (WR_u (WR_c (WR_c (WR_c (WR_c (WR_1 hp2 (ox_276 ie12 ie13) (ox_9 hp0) (ox_283) ez10) (ox_276 ie12 ie13) (ox_9 hp0) (ox_282) ez15) (ox_276 ie12 ie13) (ox_9 hp0) (ox_281) ez20) (ox_276 ie12 ie13) (ox_9 hp0) (ox_280) ez25) (ox_276 ie12 ie13) (ox_9 hp0) (ox_279) ez30) (ox_276 ie12 ie13) (ox_9 hp0) (ox_278) ez38) (ox_276 ie12 ie13) (ox_9 hp0) (ox_277) ez46)⟩⟩, hS.F ht⟩) hS.2.2 dX7_writeTo_109
set_option maxHeartbeats 4000000 in
set_option maxRecDepth 100000 in
theorem kX8_image (l : Launch) (dC : Nat → ClassId) (dI : Nat → Nat → Nat) (r : Nat → Nat) (ct : Nat → ClassId) (i_tapeLength i_time i_lyingCount i_rd_fault i_rd_token i_rd_kind i_sc_count i_sc_at i_A_tunes i_A_houses i_fA_length i_B_tunes i_B_houses i_fB_length i_acts_done i_acts_undone i_kn_count : Int32) (f_boxes f_boxKept f_trial f_offers f_A_noteCounts f_A_notes f_B_noteCounts f_B_notes f_now_where f_now_worn f_ahead_where f_ahead_worn f_acts_rows f_kn_tunes f_kn_noteTimes : Nat → Int32) (J : Nat → Nat → Int32) (L : Nat → Nat → Int64) (p0 : Int32) (sz : Nat) (hI : (IX i_tapeLength i_time i_lyingCount i_rd_token i_sc_count i_sc_at i_A_tunes i_A_houses i_fA_length i_B_tunes i_B_houses i_fB_length i_acts_done i_acts_undone i_kn_count f_boxes f_A_noteCounts f_A_notes f_B_noteCounts f_B_notes f_now_worn f_ahead_worn f_acts_rows f_kn_tunes)) (hp0 : WB i_A_tunes f_now_where) (hp1 : BB i_A_tunes f_boxKept f_boxes) : Met l yX8_image (.code yX8_image cX8_image 2 (some .int) :: GW) { frames := 6, cells := 0, slots := 0, locals := 223 } (va_Pc [.ref (r 0), .int p0] (pW (dC, dI) (WX r ct i_tapeLength i_time i_lyingCount i_rd_fault i_rd_token i_rd_kind i_sc_count i_sc_at i_A_tunes i_A_houses i_fA_length i_B_tunes i_B_houses i_fB_length i_acts_done i_acts_undone i_kn_count f_boxes f_boxKept f_trial f_offers f_A_noteCounts f_A_notes f_B_noteCounts f_B_notes f_now_where f_now_worn f_ahead_where f_ahead_worn f_acts_rows f_kn_tunes f_kn_noteTimes J L) (TX ct) sz)) (va_Qi (fun (r0 : Int32) (u : Int32) => r0 = u) (fun (u : Int32) (t : State) => ∃ (n_f_boxes n_f_boxKept : Nat → Int32), va_P (dC, dI) vwCl (WX r ct i_tapeLength i_time i_lyingCount i_rd_fault i_rd_token i_rd_kind i_sc_count i_sc_at i_A_tunes i_A_houses i_fA_length i_B_tunes i_B_houses i_fB_length i_acts_done i_acts_undone i_kn_count n_f_boxes n_f_boxKept f_trial f_offers f_A_noteCounts f_A_notes f_B_noteCounts f_B_notes f_now_where f_now_worn f_ahead_where f_ahead_worn f_acts_rows f_kn_tunes f_kn_noteTimes J L) t.heap ∧ va_D (va_A (WX r ct i_tapeLength i_time i_lyingCount i_rd_fault i_rd_token i_rd_kind i_sc_count i_sc_at i_A_tunes i_A_houses i_fA_length i_B_tunes i_B_houses i_fB_length i_acts_done i_acts_undone i_kn_count f_boxes f_boxKept f_trial f_offers f_A_noteCounts f_A_notes f_B_noteCounts f_B_notes f_now_where f_now_worn f_ahead_where f_ahead_worn f_acts_rows f_kn_tunes f_kn_noteTimes J L) sz) (WX r ct i_tapeLength i_time i_lyingCount i_rd_fault i_rd_token i_rd_kind i_sc_count i_sc_at i_A_tunes i_A_houses i_fA_length i_B_tunes i_B_houses i_fB_length i_acts_done i_acts_undone i_kn_count n_f_boxes n_f_boxKept f_trial f_offers f_A_noteCounts f_A_notes f_B_noteCounts f_B_notes f_now_where f_now_worn f_ahead_where f_ahead_worn f_acts_rows f_kn_tunes f_kn_noteTimes J L) ∧ (IX i_tapeLength i_time i_lyingCount i_rd_token i_sc_count i_sc_at i_A_tunes i_A_houses i_fA_length i_B_tunes i_B_houses i_fB_length i_acts_done i_acts_undone i_kn_count n_f_boxes f_A_noteCounts f_A_notes f_B_noteCounts f_B_notes f_now_worn f_ahead_worn f_acts_rows f_kn_tunes) ∧ (BB i_A_tunes n_f_boxKept n_f_boxes)) (va_A (WX r ct i_tapeLength i_time i_lyingCount i_rd_fault i_rd_token i_rd_kind i_sc_count i_sc_at i_A_tunes i_A_houses i_fA_length i_B_tunes i_B_houses i_fB_length i_acts_done i_acts_undone i_kn_count f_boxes f_boxKept f_trial f_offers f_A_noteCounts f_A_notes f_B_noteCounts f_B_notes f_now_where f_now_worn f_ahead_where f_ahead_worn f_acts_rows f_kn_tunes f_kn_noteTimes J L) sz)) 0 0 (va_A (WX r ct i_tapeLength i_time i_lyingCount i_rd_fault i_rd_token i_rd_kind i_sc_count i_sc_at i_A_tunes i_A_houses i_fA_length i_B_tunes i_B_houses i_fB_length i_acts_done i_acts_undone i_kn_count f_boxes f_boxKept f_trial f_offers f_A_noteCounts f_A_notes f_B_noteCounts f_B_notes f_now_where f_now_worn f_ahead_where f_ahead_worn f_acts_rows f_kn_tunes f_kn_noteTimes J L) sz) := by
  refine Met.ofW (cc := cX8_image) (maxL := 2) (ret := (some .int)) (by decide) rfl ?_
  intro p e s m args below meth c0 s₁ B hml hv
  obtain ⟨rfl, hsz, hP, hK, hD0⟩ := hv
  have hx := B.exec
  have hb := B.bytes
  have hr := B.returns
  have hts := atoms_spec (ws := .code yX8_image cX8_image 2 (some .int) :: GW) B.pre
  have hG : ∀ w ∈ GW, w.before _ s = true := fun w h => hts w (List.mem_cons_of_mem _ h)
  have hown : s.vm.findClass RX8 = some m.cls := findClass_of_methodNamed B.named
  subst hsz
  have hD := hD0.self (sz := s.heap.size)
  generalize hAe : va_A (WX r ct i_tapeLength i_time i_lyingCount i_rd_fault i_rd_token i_rd_kind i_sc_count i_sc_at i_A_tunes i_A_houses i_fA_length i_B_tunes i_B_houses i_fB_length i_acts_done i_acts_undone i_kn_count f_boxes f_boxKept f_trial f_offers f_A_noteCounts f_A_notes f_B_noteCounts f_B_notes f_now_where f_now_worn f_ahead_where f_ahead_worn f_acts_rows f_kn_tunes f_kn_noteTimes J L) s.heap.size = A at hD ⊢
  have hA : ∀ q : Nat, s.heap.size ≤ q → A q := fun q h => by rw [← hAe]; exact Or.inr h
  have hS : va_S A s.heap s.heap [] := va_S.rf
  have hP : va_P (dC, dI) vwCl (WX r ct i_tapeLength i_time i_lyingCount i_rd_fault i_rd_token i_rd_kind i_sc_count i_sc_at i_A_tunes i_A_houses i_fA_length i_B_tunes i_B_houses i_fB_length i_acts_done i_acts_undone i_kn_count f_boxes f_boxKept f_trial f_offers f_A_noteCounts f_A_notes f_B_noteCounts f_B_notes f_now_where f_now_worn f_ahead_where f_ahead_worn f_acts_rows f_kn_tunes f_kn_noteTimes J L) s.heap := hP
  have hl := lv_entry ([.ref (r 0), .int p0]) (n := 2) (Nat.le_of_ble_eq_true rfl)
  rw [lg_entry_eq]
  generalize (lg_sl ([.ref (r 0), .int p0]) ++ List.replicate (2 - (lg_sl ([.ref (r 0), .int p0])).length) Slot.unset).toArray = ls at hl ⊢
  have hl : lv_has ls 2 [(0, .ref (r 0)), (1, .int p0)] := hl
  refine nameQ (fun Q hQ => ?_)
  obtain ⟨ie0, ie1, ie2, ie3, ie4, ie5, ie6, ie7, ie8, ie9, ie10, ie11, ie12, ie13, ie14, ie15, ie16, ie17, ie18, ie19, ie20, ie21, ie22, ie23, ie24, ie25, ie26, ie27, ie28, ie29, ie30, ie31, ie32, ie33, ie34, ie35, ie36, ie37, ie38, ie39⟩ := id hI
  refine lv_iload_n hx hb dX8_image_0 rfl (lv_at hl 1 rfl) ?_
  refine lv_if_lt (tgt := 9) hx hb dX8_image_1 (by decide) (fun c_1 => ?_) (fun c_1 => ?_)
  · skip
    have f2 : p0.toInt < 0 := qi_lt c_1 rfl zc_0
    refine lv_iconst (v := (-1)) hx hb dX8_image_9 (by decide) ?_
    rw [hQ]
    exact W.iret (v := (-1)) hx hb hr (fun t ht hW => ⟨⟨(-1), (-1), rfl, rfl, ⟨f_boxes, f_boxKept, by rw [ht]; exact hP, hD, hI, hp1⟩⟩, hS.F ht⟩) hS.2.2 dX8_image_10
  · skip
    have f3 : 0 ≤ p0.toInt := qi_nlt c_1 rfl zc_0
    refine lv_iload_n hx hb dX8_image_4 rfl (lv_at hl 1 rfl) ?_
    refine lv_iconst (v := 3) hx hb dX8_image_5 (by decide) ?_
    refine lv_icmp_lt (tgt := 11) hx hb dX8_image_6 (by decide) (fun c_4 => ?_) (fun c_4 => ?_)
    · skip
      have f5 : p0.toInt < 3 := qi_lt c_4 rfl zc_3
      refine lv_aload_n hx hb dX8_image_11 rfl (lv_at hl 0 rfl) ?_
      refine gX_X8_30_0 hx hb hG hown hK hP dX8_image_12 ?_
      refine lv_aload_n hx hb dX8_image_15 rfl (lv_at hl 0 rfl) ?_
      refine gX_X8_44_0 hx hb hG hown hK hP dX8_image_16 ?_
      refine lv_iload_n hx hb dX8_image_19 rfl (lv_at hl 1 rfl) ?_
      have hFc := frA hD hS hA
      refine va_callv (va_runV (As := [.ref (r 12), .int p0]) (rest := []) ⟨hx, hb, hml, hown, hG⟩ (kX7_writeTo_v1 l dC dI r ct i_tapeLength i_time i_lyingCount i_rd_fault i_rd_token i_rd_kind i_sc_count i_sc_at i_A_tunes i_A_houses i_fA_length i_B_tunes i_B_houses i_fB_length i_acts_done i_acts_undone i_kn_count f_boxes f_boxKept f_trial f_offers f_A_noteCounts f_A_notes f_B_noteCounts f_B_notes f_now_where f_now_worn f_ahead_where f_ahead_worn f_acts_rows f_kn_tunes f_kn_noteTimes J L p0 s.heap.size hI (ox_746 f3 f5) (ox_747 f3 f5) hp0) (cwV 2 hG (goodV gw1139 gw462 gw463 gw134 gw464) rfl rfl rfl hd_X7_writeTo ⟨(Nat.le_of_ble_eq_true rfl), (Nat.le_of_ble_eq_true rfl)⟩) ⟨fbW, va_recv hK hP (ci := 6) (q0 := 7) rfl rfl, pW_in hP hK hD⟩ rfl rfl hl.1 rfl (lv_room (Nat.le_of_ble_eq_true rfl)) dX8_image_20 ⟨(Nat.le_of_ble_eq_true rfl), (Nat.le_of_ble_eq_true rfl)⟩) hS (fun q _ h => hFc q h) hFc (fun _ t_ H6 locs ht hvm hw hB hz1 hk1 hS => ?_)
      obtain ⟨z8, hP1, hD1, hI10, f9⟩ := hB
      rw [ht] at hP1
      have hP := hP1
      have hD := dW hFc hD1
      obtain ⟨im11, im12, im13, im14, im15, im16, im17, im18, im19, im20, im21, im22, im23, im24, im25, im26, im27, im28, im29, im30, im31, im32, im33, im34, im35, im36, im37, im38, im39, im40, im41, im42, im43, im44, im45, im46, im47, im48, im49, im50⟩ := id hI10
      refine lv_aload_n hx hb dX8_image_23 rfl (lv_at hl 0 rfl) ?_
      refine gX_X8_48_0 hx hb hG hown hK hP dX8_image_24 ?_
      refine lv_iload_n hx hb dX8_image_27 rfl (lv_at hl 1 rfl) ?_
      refine lv_iconst (v := 1) hx hb dX8_image_28 (by decide) ?_
      refine stX_13 (mm := p0.toInt) hx hb hK hP hD hS rfl (ox_748 f3 f5) (ox_749 f3 f5) dX8_image_29 (fun z52 H51 locs ez52 hP hD hS => ?_)
      refine lv_aload_n hx hb dX8_image_30 rfl (lv_at hl 0 rfl) ?_
      refine gX_X8_30_0 hx hb hG hown hK hP dX8_image_31 ?_
      refine gX_X8_168_7 hx hb hG hown hK hP dX8_image_34 (fun x53 => ?_)
      rw [hQ]
      exact W.iret (v := x53) hx hb hr (fun t ht hW => ⟨⟨x53, x53, rfl, rfl, ⟨z8, z52, by rw [ht]; exact hP, hD, hI10, (BB_im hp1 f9 (ox_748 f3 f5) ez52)⟩⟩, hS.F ht⟩) hS.2.2 dX8_image_37
    · skip
      have f54 : 3 ≤ p0.toInt := qi_nlt c_4 rfl zc_3
      refine lv_iconst (v := (-1)) hx hb dX8_image_9 (by decide) ?_
      rw [hQ]
      exact W.iret (v := (-1)) hx hb hr (fun t ht hW => ⟨⟨(-1), (-1), rfl, rfl, ⟨f_boxes, f_boxKept, by rw [ht]; exact hP, hD, hI, hp1⟩⟩, hS.F ht⟩) hS.2.2 dX8_image_10
set_option maxHeartbeats 4000000 in
set_option maxRecDepth 100000 in
theorem kX7_readFrom_v1 (l : Launch) (dC : Nat → ClassId) (dI : Nat → Nat → Nat) (r : Nat → Nat) (ct : Nat → ClassId) (i_tapeLength i_time i_lyingCount i_rd_fault i_rd_token i_rd_kind i_sc_count i_sc_at i_A_tunes i_A_houses i_fA_length i_B_tunes i_B_houses i_fB_length i_acts_done i_acts_undone i_kn_count : Int32) (f_boxes f_boxKept f_trial f_offers f_A_noteCounts f_A_notes f_B_noteCounts f_B_notes f_now_where f_now_worn f_ahead_where f_ahead_worn f_acts_rows f_kn_tunes f_kn_noteTimes : Nat → Int32) (J : Nat → Nat → Int32) (L : Nat → Nat → Int64) (p1 : Int32) (sz : Nat) (hI : (IX i_tapeLength i_time i_lyingCount i_rd_token i_sc_count i_sc_at i_A_tunes i_A_houses i_fA_length i_B_tunes i_B_houses i_fB_length i_acts_done i_acts_undone i_kn_count f_boxes f_A_noteCounts f_A_notes f_B_noteCounts f_B_notes f_now_worn f_ahead_worn f_acts_rows f_kn_tunes)) (hp0 : (0 : Int) ≤ p1.toInt) (hp1 : p1.toInt ≤ (2 : Int)) (hp2 : RR i_A_tunes p1.toInt f_boxes) : Met l yX7_readFrom (.code yX7_readFrom cX7_readFrom 4 none :: GW) { frames := 4, cells := 0, slots := 0, locals := 160 } (va_Pc [.ref (r 7), .ref (r 12), .int p1] (pW (dC, dI) (WX r ct i_tapeLength i_time i_lyingCount i_rd_fault i_rd_token i_rd_kind i_sc_count i_sc_at i_A_tunes i_A_houses i_fA_length i_B_tunes i_B_houses i_fB_length i_acts_done i_acts_undone i_kn_count f_boxes f_boxKept f_trial f_offers f_A_noteCounts f_A_notes f_B_noteCounts f_B_notes f_now_where f_now_worn f_ahead_where f_ahead_worn f_acts_rows f_kn_tunes f_kn_noteTimes J L) (TX ct) sz)) (va_Qv (fun _ : Unit => True) (fun (_ : Unit) (t : State) => ∃ (n_f_now_where n_f_now_worn : Nat → Int32) (n_J : Nat → Nat → Int32), va_P (dC, dI) vwCl (WX r ct i_tapeLength i_time i_lyingCount i_rd_fault i_rd_token i_rd_kind i_sc_count i_sc_at i_A_tunes i_A_houses i_fA_length i_B_tunes i_B_houses i_fB_length i_acts_done i_acts_undone i_kn_count f_boxes f_boxKept f_trial f_offers f_A_noteCounts f_A_notes f_B_noteCounts f_B_notes n_f_now_where n_f_now_worn f_ahead_where f_ahead_worn f_acts_rows f_kn_tunes f_kn_noteTimes n_J L) t.heap ∧ va_D (va_A (WX r ct i_tapeLength i_time i_lyingCount i_rd_fault i_rd_token i_rd_kind i_sc_count i_sc_at i_A_tunes i_A_houses i_fA_length i_B_tunes i_B_houses i_fB_length i_acts_done i_acts_undone i_kn_count f_boxes f_boxKept f_trial f_offers f_A_noteCounts f_A_notes f_B_noteCounts f_B_notes f_now_where f_now_worn f_ahead_where f_ahead_worn f_acts_rows f_kn_tunes f_kn_noteTimes J L) sz) (WX r ct i_tapeLength i_time i_lyingCount i_rd_fault i_rd_token i_rd_kind i_sc_count i_sc_at i_A_tunes i_A_houses i_fA_length i_B_tunes i_B_houses i_fB_length i_acts_done i_acts_undone i_kn_count f_boxes f_boxKept f_trial f_offers f_A_noteCounts f_A_notes f_B_noteCounts f_B_notes n_f_now_where n_f_now_worn f_ahead_where f_ahead_worn f_acts_rows f_kn_tunes f_kn_noteTimes n_J L) ∧ (IX i_tapeLength i_time i_lyingCount i_rd_token i_sc_count i_sc_at i_A_tunes i_A_houses i_fA_length i_B_tunes i_B_houses i_fB_length i_acts_done i_acts_undone i_kn_count f_boxes f_A_noteCounts f_A_notes f_B_noteCounts f_B_notes n_f_now_worn f_ahead_worn f_acts_rows f_kn_tunes) ∧ (WB i_A_tunes n_f_now_where)) (va_A (WX r ct i_tapeLength i_time i_lyingCount i_rd_fault i_rd_token i_rd_kind i_sc_count i_sc_at i_A_tunes i_A_houses i_fA_length i_B_tunes i_B_houses i_fB_length i_acts_done i_acts_undone i_kn_count f_boxes f_boxKept f_trial f_offers f_A_noteCounts f_A_notes f_B_noteCounts f_B_notes f_now_where f_now_worn f_ahead_where f_ahead_worn f_acts_rows f_kn_tunes f_kn_noteTimes J L) sz)) 0 0 (va_A (WX r ct i_tapeLength i_time i_lyingCount i_rd_fault i_rd_token i_rd_kind i_sc_count i_sc_at i_A_tunes i_A_houses i_fA_length i_B_tunes i_B_houses i_fB_length i_acts_done i_acts_undone i_kn_count f_boxes f_boxKept f_trial f_offers f_A_noteCounts f_A_notes f_B_noteCounts f_B_notes f_now_where f_now_worn f_ahead_where f_ahead_worn f_acts_rows f_kn_tunes f_kn_noteTimes J L) sz) := by
  refine Met.ofW (cc := cX7_readFrom) (maxL := 4) (ret := none) (by decide) rfl ?_
  intro p e s m args below meth c0 s₁ B hml hv
  obtain ⟨rfl, hsz, hP, hK, hD0⟩ := hv
  have hx := B.exec
  have hb := B.bytes
  have hr := B.returns
  have hts := atoms_spec (ws := .code yX7_readFrom cX7_readFrom 4 none :: GW) B.pre
  have hG : ∀ w ∈ GW, w.before _ s = true := fun w h => hts w (List.mem_cons_of_mem _ h)
  have hown : s.vm.findClass RX7 = some m.cls := findClass_of_methodNamed B.named
  subst hsz
  have hD := hD0.self (sz := s.heap.size)
  generalize hAe : va_A (WX r ct i_tapeLength i_time i_lyingCount i_rd_fault i_rd_token i_rd_kind i_sc_count i_sc_at i_A_tunes i_A_houses i_fA_length i_B_tunes i_B_houses i_fB_length i_acts_done i_acts_undone i_kn_count f_boxes f_boxKept f_trial f_offers f_A_noteCounts f_A_notes f_B_noteCounts f_B_notes f_now_where f_now_worn f_ahead_where f_ahead_worn f_acts_rows f_kn_tunes f_kn_noteTimes J L) s.heap.size = A at hD ⊢
  have hA : ∀ q : Nat, s.heap.size ≤ q → A q := fun q h => by rw [← hAe]; exact Or.inr h
  have hS : va_S A s.heap s.heap [] := va_S.rf
  have hP : va_P (dC, dI) vwCl (WX r ct i_tapeLength i_time i_lyingCount i_rd_fault i_rd_token i_rd_kind i_sc_count i_sc_at i_A_tunes i_A_houses i_fA_length i_B_tunes i_B_houses i_fB_length i_acts_done i_acts_undone i_kn_count f_boxes f_boxKept f_trial f_offers f_A_noteCounts f_A_notes f_B_noteCounts f_B_notes f_now_where f_now_worn f_ahead_where f_ahead_worn f_acts_rows f_kn_tunes f_kn_noteTimes J L) s.heap := hP
  have hl := lv_entry ([.ref (r 7), .ref (r 12), .int p1]) (n := 4) (Nat.le_of_ble_eq_true rfl)
  rw [lg_entry_eq]
  generalize (lg_sl ([.ref (r 7), .ref (r 12), .int p1]) ++ List.replicate (4 - (lg_sl ([.ref (r 7), .ref (r 12), .int p1])).length) Slot.unset).toArray = ls at hl ⊢
  have hl : lv_has ls 4 [(0, .ref (r 7)), (1, .ref (r 12)), (2, .int p1)] := hl
  refine nameQ (fun Q hQ => ?_)
  obtain ⟨ie0, ie1, ie2, ie3, ie4, ie5, ie6, ie7, ie8, ie9, ie10, ie11, ie12, ie13, ie14, ie15, ie16, ie17, ie18, ie19, ie20, ie21, ie22, ie23, ie24, ie25, ie26, ie27, ie28, ie29, ie30, ie31, ie32, ie33, ie34, ie35, ie36, ie37, ie38, ie39⟩ := id hI
  refine lv_iload_n hx hb dX7_readFrom_0 rfl (lv_at hl 2 rfl) ?_
  refine lv_bipush (v := 26) hx hb dX7_readFrom_1 (by decide) ?_
  refine lv_imul hx hb dX7_readFrom_3 ?_
  refine lv_topi (fun x1 ex1 => ?_)
  have f2 : x1.toInt = 26 * p1.toInt := (ox_228 (qi_mul ex1 rfl zc_26 (ox_720 hp0 hp1) (ox_721 hp0 hp1)))
  refine lv_istore_n (lv' := [(3, .int x1), (0, .ref (r 7)), (1, .ref (r 12)), (2, .int p1)]) hx hb dX7_readFrom_4 rfl hl (by decide) rfl (fun ls hl => ?_)
  refine lv_iload_n hx hb dX7_readFrom_5 rfl (lv_at hl 0 rfl) ?_
  refine lv_if_lt (tgt := 18) hx hb dX7_readFrom_6 (by decide) (fun c_3 => ((ox_722 (qi_lt c_3 rfl zc_0) hp0 hp1 f2)).elim) (fun c_3 => ?_)
  have f4 : 0 ≤ x1.toInt := qi_nlt c_3 rfl zc_0
  refine lv_iload_n hx hb dX7_readFrom_9 rfl (lv_at hl 0 rfl) ?_
  refine lv_bipush (v := 26) hx hb dX7_readFrom_10 (by decide) ?_
  refine lv_iadd hx hb dX7_readFrom_12 ?_
  refine lv_topi (fun x5 ex5 => ?_)
  have f6 : x5.toInt = 26 * p1.toInt + 26 := (ox_232 (qi_add ex5 rfl zc_26 (ox_723 hp0 hp1 f4 f2) (ox_724 hp0 hp1 f4 f2)) f2)
  refine lv_aload_n hx hb dX7_readFrom_13 rfl (lv_at hl 2 rfl) ?_
  refine va_alen (v := 78) hx hb hK hP 12 1 rfl rfl (show Int32.ofNat 78 = 78 by decide) dX7_readFrom_14 ?_
  refine lv_icmp_le (tgt := 19) hx hb dX7_readFrom_15 (by decide) (fun c_7 => ?_) (fun c_7 => ((ox_725 (qi_nle c_7 rfl zc_78) hp0 hp1 f4 f2 f6)).elim)
  have f8 : x5.toInt ≤ 78 := qi_le c_7 rfl zc_78
  refine lv_aload_n hx hb dX7_readFrom_19 rfl (lv_at hl 2 rfl) ?_
  refine lv_iload_n hx hb dX7_readFrom_20 rfl (lv_at hl 0 rfl) ?_
  refine lv_aload_n hx hb dX7_readFrom_21 rfl (lv_at hl 1 rfl) ?_
  refine gX_X7_9_7 hx hb hG hown hK hP dX7_readFrom_22 ?_
  refine lv_iconst (v := 0) hx hb dX7_readFrom_25 (by decide) ?_
  refine lv_iconst (v := 5) hx hb dX7_readFrom_26 (by decide) ?_
  refine cpX_12_41 (a := 26 * p1.toInt) (b := (0 : Int)) (d := (5 : Int)) hx hb (hml.trans hl.1.symm) hown (hG _ gw465) (hG _ gw467) (hG _ gw466) (hG _ gw137) hK hP hD hS f2 zc_0 zc_5 (ox_234 hp0) (ox_143) (ox_186) (ox_726 hp1) (ox_235) (Nat.le_of_ble_eq_true rfl) (Nat.le_of_ble_eq_true rfl) dX7_readFrom_27 (fun z10 H9 locs ez10 hP hD hS => ?_)
  refine lv_aload_n hx hb dX7_readFrom_30 rfl (lv_at hl 2 rfl) ?_
  refine lv_iload_n hx hb dX7_readFrom_31 rfl (lv_at hl 0 rfl) ?_
  refine lv_iconst (v := 5) hx hb dX7_readFrom_32 (by decide) ?_
  refine lv_iadd hx hb dX7_readFrom_33 ?_
  refine lv_topi (fun x11 ex11 => ?_)
  have f12 : x11.toInt = 26 * p1.toInt + 5 := (ox_240 (qi_add ex11 rfl zc_5 (ox_238 hp0 f2) (ox_728 hp1 f2)) f2)
  refine lv_aload_n hx hb dX7_readFrom_34 rfl (lv_at hl 1 rfl) ?_
  refine gX_X7_15_7 hx hb hG hown hK hP dX7_readFrom_35 ?_
  refine lv_iconst (v := 0) hx hb dX7_readFrom_38 (by decide) ?_
  refine lv_iconst (v := 5) hx hb dX7_readFrom_39 (by decide) ?_
  refine cpX_12_42 (a := 26 * p1.toInt + 5) (b := (0 : Int)) (d := (5 : Int)) hx hb (hml.trans hl.1.symm) hown (hG _ gw465) (hG _ gw467) (hG _ gw466) (hG _ gw137) hK hP hD hS f12 zc_0 zc_5 (ox_241 hp0) (ox_143) (ox_186) (ox_729 hp1) (ox_235) (Nat.le_of_ble_eq_true rfl) (Nat.le_of_ble_eq_true rfl) dX7_readFrom_40 (fun J14 H13 locs hP hD hS => ?_)
  refine lv_aload_n hx hb dX7_readFrom_43 rfl (lv_at hl 2 rfl) ?_
  refine lv_iload_n hx hb dX7_readFrom_44 rfl (lv_at hl 0 rfl) ?_
  refine lv_bipush (v := 10) hx hb dX7_readFrom_45 (by decide) ?_
  refine lv_iadd hx hb dX7_readFrom_47 ?_
  refine lv_topi (fun x15 ex15 => ?_)
  have f16 : x15.toInt = 26 * p1.toInt + 10 := (ox_246 (qi_add ex15 rfl zc_10 (ox_244 hp0 f2) (ox_731 hp1 f2)) f2)
  refine lv_aload_n hx hb dX7_readFrom_48 rfl (lv_at hl 1 rfl) ?_
  refine gX_X7_18_7 hx hb hG hown hK hP dX7_readFrom_49 ?_
  refine lv_iconst (v := 0) hx hb dX7_readFrom_52 (by decide) ?_
  refine lv_iconst (v := 5) hx hb dX7_readFrom_53 (by decide) ?_
  refine cpX_12_43 (a := 26 * p1.toInt + 10) (b := (0 : Int)) (d := (5 : Int)) hx hb (hml.trans hl.1.symm) hown (hG _ gw465) (hG _ gw467) (hG _ gw466) (hG _ gw137) hK hP hD hS f16 zc_0 zc_5 (ox_247 hp0) (ox_143) (ox_186) (ox_732 hp1) (ox_235) (Nat.le_of_ble_eq_true rfl) (Nat.le_of_ble_eq_true rfl) dX7_readFrom_54 (fun z18 H17 locs ez18 hP hD hS => ?_)
  have g19 : EB 0 99 z18 := EB_cpy ez18 ie36 (ox_247 hp0) (ox_143) (ox_186) (fun k k0 k1 => ie29 (26 * p1.toInt + 10 + k) (by have := (ox_247 hp0); omega) (by have := (ox_750 hp0 hp1 f4 f8 f6 f2); omega) (by have := (ox_750 hp0 hp1 f4 f8 f6 f2); omega))
  refine lv_aload_n hx hb dX7_readFrom_57 rfl (lv_at hl 2 rfl) ?_
  refine lv_iload_n hx hb dX7_readFrom_58 rfl (lv_at hl 0 rfl) ?_
  refine lv_bipush (v := 15) hx hb dX7_readFrom_59 (by decide) ?_
  refine lv_iadd hx hb dX7_readFrom_61 ?_
  refine lv_topi (fun x20 ex20 => ?_)
  have f21 : x20.toInt = 26 * p1.toInt + 15 := (ox_251 (qi_add ex20 rfl zc_15 (ox_249 hp0 f2) (ox_733 hp1 f2)) f2)
  refine lv_aload_n hx hb dX7_readFrom_62 rfl (lv_at hl 1 rfl) ?_
  refine gX_X7_21_7 hx hb hG hown hK hP dX7_readFrom_63 ?_
  refine lv_iconst (v := 0) hx hb dX7_readFrom_66 (by decide) ?_
  refine lv_iconst (v := 5) hx hb dX7_readFrom_67 (by decide) ?_
  refine cpX_12_44 (a := 26 * p1.toInt + 15) (b := (0 : Int)) (d := (5 : Int)) hx hb (hml.trans hl.1.symm) hown (hG _ gw465) (hG _ gw467) (hG _ gw466) (hG _ gw137) hK hP hD hS f21 zc_0 zc_5 (ox_252 hp0) (ox_143) (ox_186) (ox_734 hp1) (ox_235) (Nat.le_of_ble_eq_true rfl) (Nat.le_of_ble_eq_true rfl) dX7_readFrom_68 (fun J23 H22 locs hP hD hS => ?_)
  refine lv_aload_n hx hb dX7_readFrom_71 rfl (lv_at hl 2 rfl) ?_
  refine lv_iload_n hx hb dX7_readFrom_72 rfl (lv_at hl 0 rfl) ?_
  refine lv_bipush (v := 20) hx hb dX7_readFrom_73 (by decide) ?_
  refine lv_iadd hx hb dX7_readFrom_75 ?_
  refine lv_topi (fun x24 ex24 => ?_)
  have f25 : x24.toInt = 26 * p1.toInt + 20 := (ox_257 (qi_add ex24 rfl zc_20 (ox_255 hp0 f2) (ox_736 hp1 f2)) f2)
  refine lv_aload_n hx hb dX7_readFrom_76 rfl (lv_at hl 1 rfl) ?_
  refine gX_X7_24_7 hx hb hG hown hK hP dX7_readFrom_77 ?_
  refine lv_iconst (v := 0) hx hb dX7_readFrom_80 (by decide) ?_
  refine lv_iconst (v := 4) hx hb dX7_readFrom_81 (by decide) ?_
  refine cpX_12_45 (a := 26 * p1.toInt + 20) (b := (0 : Int)) (d := (4 : Int)) hx hb (hml.trans hl.1.symm) hown (hG _ gw465) (hG _ gw467) (hG _ gw466) (hG _ gw137) hK hP hD hS f25 zc_0 zc_4 (ox_258 hp0) (ox_143) (ox_184) (ox_737 hp1) (ox_259) (Nat.le_of_ble_eq_true rfl) (Nat.le_of_ble_eq_true rfl) dX7_readFrom_82 (fun J27 H26 locs hP hD hS => ?_)
  refine lv_aload_n hx hb dX7_readFrom_85 rfl (lv_at hl 1 rfl) ?_
  refine lv_aload_n hx hb dX7_readFrom_86 rfl (lv_at hl 2 rfl) ?_
  refine lv_iload_n hx hb dX7_readFrom_87 rfl (lv_at hl 0 rfl) ?_
  refine lv_bipush (v := 26) hx hb dX7_readFrom_88 (by decide) ?_
  refine lv_iadd hx hb dX7_readFrom_90 ?_
  refine lv_topi (fun x28 ex28 => ?_)
  have f29 : x28.toInt = 26 * p1.toInt + 26 := (ox_232 (qi_add ex28 rfl zc_26 (ox_262 hp0 f2) (ox_739 hp1 f2)) f2)
  refine lv_iconst (v := 2) hx hb dX7_readFrom_91 (by decide) ?_
  refine lv_isub hx hb dX7_readFrom_92 ?_
  refine lv_topi (fun x30 ex30 => ?_)
  have f31 : x30.toInt = 26 * p1.toInt + 24 := (ox_266 (qi_sub ex30 rfl zc_2 (ox_264 hp0 f29) (ox_740 hp1 f29)) f29)
  refine ldX_12 (mm := 26 * p1.toInt + 24) hx hb hK hP f31 (ox_267 hp0) (ox_741 hp1) dX7_readFrom_93 ?_
  refine pX_X7_38_7 hx hb hG hown hK hP hD hS dX7_readFrom_94 (fun J33 H32 locs hP hD hS => ?_)
  refine lv_aload_n hx hb dX7_readFrom_97 rfl (lv_at hl 1 rfl) ?_
  refine lv_aload_n hx hb dX7_readFrom_98 rfl (lv_at hl 2 rfl) ?_
  refine lv_iload_n hx hb dX7_readFrom_99 rfl (lv_at hl 0 rfl) ?_
  refine lv_bipush (v := 26) hx hb dX7_readFrom_100 (by decide) ?_
  refine lv_iadd hx hb dX7_readFrom_102 ?_
  refine lv_topi (fun x34 ex34 => ?_)
  have f35 : x34.toInt = 26 * p1.toInt + 26 := (ox_232 (qi_add ex34 rfl zc_26 (ox_262 hp0 f2) (ox_739 hp1 f2)) f2)
  refine lv_iconst (v := 1) hx hb dX7_readFrom_103 (by decide) ?_
  refine lv_isub hx hb dX7_readFrom_104 ?_
  refine lv_topi (fun x36 ex36 => ?_)
  have f37 : x36.toInt = 26 * p1.toInt + 25 := (ox_272 (qi_sub ex36 rfl zc_1 (ox_270 hp0 f35) (ox_743 hp1 f35)) f35)
  refine ldX_12 (mm := 26 * p1.toInt + 25) hx hb hK hP f37 (ox_273 hp0) (ox_744 hp1) dX7_readFrom_105 ?_
  refine pX_X7_44_7 hx hb hG hown hK hP hD hS dX7_readFrom_106 (fun J39 H38 locs hP hD hS => ?_)
  rw [hQ]
  exact W.vret hx hb hr (fun t ht hW => ⟨⟨(), rfl, trivial, ⟨z10, z18, J39, by rw [ht]; exact hP, hD, ⟨ie0, ie1, ie2, ie3, ie4, ie5, ie6, ie7, ie8, ie9, ie10, ie11, ie12, ie13, ie14, ie15, ie16, ie17, ie18, ie19, ie20, ie21, ie22, ie23, ie24, ie25, ie26, ie27, ie28, ie29, ie30, ie31, ie32, ie33, ie34, ie35, g19, ie37, ie38, ie39⟩, (WB_rr hp2 (ox_276 ie12 ie13) (ox_9 hp0) (ox_283) ez10)⟩⟩, hS.F ht⟩) hS.2.2 dX7_readFrom_109
set_option maxHeartbeats 4000000 in
set_option maxRecDepth 100000 in
theorem kX0_begin (l : Launch) (dC : Nat → ClassId) (dI : Nat → Nat → Nat) (r : Nat → Nat) (ct : Nat → ClassId) (i_tapeLength i_time i_lyingCount i_rd_fault i_rd_token i_rd_kind i_sc_count i_sc_at i_A_tunes i_A_houses i_fA_length i_B_tunes i_B_houses i_fB_length i_acts_done i_acts_undone i_kn_count : Int32) (f_boxes f_boxKept f_trial f_offers f_A_noteCounts f_A_notes f_B_noteCounts f_B_notes f_now_where f_now_worn f_ahead_where f_ahead_worn f_acts_rows f_kn_tunes f_kn_noteTimes : Nat → Int32) (J : Nat → Nat → Int32) (L : Nat → Nat → Int64) (sz : Nat) (hI : (IX i_tapeLength i_time i_lyingCount i_rd_token i_sc_count i_sc_at i_A_tunes i_A_houses i_fA_length i_B_tunes i_B_houses i_fB_length i_acts_done i_acts_undone i_kn_count f_boxes f_A_noteCounts f_A_notes f_B_noteCounts f_B_notes f_now_worn f_ahead_worn f_acts_rows f_kn_tunes)) (hp0 : WB i_A_tunes f_now_where) : Met l yX0_begin (.code yX0_begin cX0_begin 2 none :: GW) { frames := 6, cells := 0, slots := 0, locals := 223 } (va_Pc [.ref (r 9), .ref (r 7)] (pW (dC, dI) (WX r ct i_tapeLength i_time i_lyingCount i_rd_fault i_rd_token i_rd_kind i_sc_count i_sc_at i_A_tunes i_A_houses i_fA_length i_B_tunes i_B_houses i_fB_length i_acts_done i_acts_undone i_kn_count f_boxes f_boxKept f_trial f_offers f_A_noteCounts f_A_notes f_B_noteCounts f_B_notes f_now_where f_now_worn f_ahead_where f_ahead_worn f_acts_rows f_kn_tunes f_kn_noteTimes J L) (TX ct) sz)) (va_Qv (fun _ : Unit => True) (fun (_ : Unit) (t : State) => ∃ (n_i_acts_done n_i_acts_undone : Int32) (n_f_acts_rows : Nat → Int32), va_P (dC, dI) vwCl (WX r ct i_tapeLength i_time i_lyingCount i_rd_fault i_rd_token i_rd_kind i_sc_count i_sc_at i_A_tunes i_A_houses i_fA_length i_B_tunes i_B_houses i_fB_length n_i_acts_done n_i_acts_undone i_kn_count f_boxes f_boxKept f_trial f_offers f_A_noteCounts f_A_notes f_B_noteCounts f_B_notes f_now_where f_now_worn f_ahead_where f_ahead_worn n_f_acts_rows f_kn_tunes f_kn_noteTimes J L) t.heap ∧ va_D (va_A (WX r ct i_tapeLength i_time i_lyingCount i_rd_fault i_rd_token i_rd_kind i_sc_count i_sc_at i_A_tunes i_A_houses i_fA_length i_B_tunes i_B_houses i_fB_length i_acts_done i_acts_undone i_kn_count f_boxes f_boxKept f_trial f_offers f_A_noteCounts f_A_notes f_B_noteCounts f_B_notes f_now_where f_now_worn f_ahead_where f_ahead_worn f_acts_rows f_kn_tunes f_kn_noteTimes J L) sz) (WX r ct i_tapeLength i_time i_lyingCount i_rd_fault i_rd_token i_rd_kind i_sc_count i_sc_at i_A_tunes i_A_houses i_fA_length i_B_tunes i_B_houses i_fB_length n_i_acts_done n_i_acts_undone i_kn_count f_boxes f_boxKept f_trial f_offers f_A_noteCounts f_A_notes f_B_noteCounts f_B_notes f_now_where f_now_worn f_ahead_where f_ahead_worn n_f_acts_rows f_kn_tunes f_kn_noteTimes J L) ∧ (IX i_tapeLength i_time i_lyingCount i_rd_token i_sc_count i_sc_at i_A_tunes i_A_houses i_fA_length i_B_tunes i_B_houses i_fB_length n_i_acts_done n_i_acts_undone i_kn_count f_boxes f_A_noteCounts f_A_notes f_B_noteCounts f_B_notes f_now_worn f_ahead_worn n_f_acts_rows f_kn_tunes) ∧ (RB i_A_tunes n_i_acts_done n_i_acts_undone n_f_acts_rows)) (va_A (WX r ct i_tapeLength i_time i_lyingCount i_rd_fault i_rd_token i_rd_kind i_sc_count i_sc_at i_A_tunes i_A_houses i_fA_length i_B_tunes i_B_houses i_fB_length i_acts_done i_acts_undone i_kn_count f_boxes f_boxKept f_trial f_offers f_A_noteCounts f_A_notes f_B_noteCounts f_B_notes f_now_where f_now_worn f_ahead_where f_ahead_worn f_acts_rows f_kn_tunes f_kn_noteTimes J L) sz)) 0 0 (va_A (WX r ct i_tapeLength i_time i_lyingCount i_rd_fault i_rd_token i_rd_kind i_sc_count i_sc_at i_A_tunes i_A_houses i_fA_length i_B_tunes i_B_houses i_fB_length i_acts_done i_acts_undone i_kn_count f_boxes f_boxKept f_trial f_offers f_A_noteCounts f_A_notes f_B_noteCounts f_B_notes f_now_where f_now_worn f_ahead_where f_ahead_worn f_acts_rows f_kn_tunes f_kn_noteTimes J L) sz) := by
  refine Met.ofW (cc := cX0_begin) (maxL := 2) (ret := none) (by decide) rfl ?_
  intro p e s m args below meth c0 s₁ B hml hv
  obtain ⟨rfl, hsz, hP, hK, hD0⟩ := hv
  have hx := B.exec
  have hb := B.bytes
  have hr := B.returns
  have hts := atoms_spec (ws := .code yX0_begin cX0_begin 2 none :: GW) B.pre
  have hG : ∀ w ∈ GW, w.before _ s = true := fun w h => hts w (List.mem_cons_of_mem _ h)
  have hown : s.vm.findClass RX0 = some m.cls := findClass_of_methodNamed B.named
  subst hsz
  have hD := hD0.self (sz := s.heap.size)
  generalize hAe : va_A (WX r ct i_tapeLength i_time i_lyingCount i_rd_fault i_rd_token i_rd_kind i_sc_count i_sc_at i_A_tunes i_A_houses i_fA_length i_B_tunes i_B_houses i_fB_length i_acts_done i_acts_undone i_kn_count f_boxes f_boxKept f_trial f_offers f_A_noteCounts f_A_notes f_B_noteCounts f_B_notes f_now_where f_now_worn f_ahead_where f_ahead_worn f_acts_rows f_kn_tunes f_kn_noteTimes J L) s.heap.size = A at hD ⊢
  have hA : ∀ q : Nat, s.heap.size ≤ q → A q := fun q h => by rw [← hAe]; exact Or.inr h
  have hS : va_S A s.heap s.heap [] := va_S.rf
  have hP : va_P (dC, dI) vwCl (WX r ct i_tapeLength i_time i_lyingCount i_rd_fault i_rd_token i_rd_kind i_sc_count i_sc_at i_A_tunes i_A_houses i_fA_length i_B_tunes i_B_houses i_fB_length i_acts_done i_acts_undone i_kn_count f_boxes f_boxKept f_trial f_offers f_A_noteCounts f_A_notes f_B_noteCounts f_B_notes f_now_where f_now_worn f_ahead_where f_ahead_worn f_acts_rows f_kn_tunes f_kn_noteTimes J L) s.heap := hP
  have hl := lv_entry ([.ref (r 9), .ref (r 7)]) (n := 2) (Nat.le_of_ble_eq_true rfl)
  rw [lg_entry_eq]
  generalize (lg_sl ([.ref (r 9), .ref (r 7)]) ++ List.replicate (2 - (lg_sl ([.ref (r 9), .ref (r 7)])).length) Slot.unset).toArray = ls at hl ⊢
  have hl : lv_has ls 2 [(0, .ref (r 9)), (1, .ref (r 7))] := hl
  refine nameQ (fun Q hQ => ?_)
  obtain ⟨ie0, ie1, ie2, ie3, ie4, ie5, ie6, ie7, ie8, ie9, ie10, ie11, ie12, ie13, ie14, ie15, ie16, ie17, ie18, ie19, ie20, ie21, ie22, ie23, ie24, ie25, ie26, ie27, ie28, ie29, ie30, ie31, ie32, ie33, ie34, ie35, ie36, ie37, ie38, ie39⟩ := id hI
  refine lv_aload_n hx hb dX0_begin_0 rfl (lv_at hl 0 rfl) ?_
  refine lv_iconst (v := 0) hx hb dX0_begin_1 (by decide) ?_
  refine pX_X0_17_9 hx hb hG hown hK hP hD hS dX0_begin_2 (fun H1 locs hP hD hS => ?_)
  refine lv_aload_n hx hb dX0_begin_5 rfl (lv_at hl 0 rfl) ?_
  refine lv_iconst (v := 0) hx hb dX0_begin_6 (by decide) ?_
  refine pX_X0_21_9 hx hb hG hown hK hP hD hS dX0_begin_7 (fun H2 locs hP hD hS => ?_)
  refine lv_aload_n hx hb dX0_begin_10 rfl (lv_at hl 1 rfl) ?_
  refine lv_aload_n hx hb dX0_begin_11 rfl (lv_at hl 0 rfl) ?_
  refine gX_X0_11_9 hx hb hG hown hK hP dX0_begin_12 ?_
  refine lv_iconst (v := 0) hx hb dX0_begin_15 (by decide) ?_
  have hFc := frA hD hS hA
  refine va_callv (va_runV (As := [.ref (r 51), .int 0]) (rest := []) ⟨hx, hb, hml, hown, hG⟩ (kX7_writeTo l dC dI r ct i_tapeLength i_time i_lyingCount i_rd_fault i_rd_token i_rd_kind i_sc_count i_sc_at i_A_tunes i_A_houses i_fA_length i_B_tunes i_B_houses i_fB_length 0 0 i_kn_count f_boxes f_boxKept f_trial f_offers f_A_noteCounts f_A_notes f_B_noteCounts f_B_notes f_now_where f_now_worn f_ahead_where f_ahead_worn f_acts_rows f_kn_tunes f_kn_noteTimes J L 0 H2.size ⟨ie0, ie1, ie2, ie3, ie4, ie5, ie6, ie7, ie8, ie9, ie10, ie11, ie12, ie13, ie14, ie15, ie16, ie17, ie18, ie19, ie20, ie21, ie22, ie23, ie24, ie25, (ox_27 zc_0), (ox_27 zc_0), (ox_752 zc_0), ie29, ie30, ie31, ie32, ie33, ie34, ie35, ie36, ie37, ie38, ie39⟩ (ox_27 zc_0) (ox_751 zc_0) hp0) (cwV 2 hG (goodV gw461 gw462 gw463 gw134 gw464) rfl rfl rfl hd_X7_writeTo ⟨(Nat.le_of_ble_eq_true rfl), (Nat.le_of_ble_eq_true rfl)⟩) ⟨fbW, va_recv hK hP (ci := 6) (q0 := 7) rfl rfl, pW_in hP hK hD⟩ rfl rfl hl.1 rfl (lv_room (Nat.le_of_ble_eq_true rfl)) dX0_begin_16 ⟨(Nat.le_of_ble_eq_true rfl), (Nat.le_of_ble_eq_true rfl)⟩) hS (fun q _ h => hFc q h) hFc (fun _ t_ H3 locs ht hvm hw hB hz1 hk1 hS => ?_)
  obtain ⟨z5, hP1, hD1, hI7, f6⟩ := hB
  rw [ht] at hP1
  have hP := hP1
  have hD := dW hFc hD1
  obtain ⟨im8, im9, im10, im11, im12, im13, im14, im15, im16, im17, im18, im19, im20, im21, im22, im23, im24, im25, im26, im27, im28, im29, im30, im31, im32, im33, im34, im35, im36, im37, im38, im39, im40, im41, im42, im43, im44, im45, im46, im47⟩ := id hI7
  rw [hQ]
  exact W.vret hx hb hr (fun t ht hW => ⟨⟨(), rfl, trivial, ⟨0, 0, z5, by rw [ht]; exact hP, hD, hI7, (RB_begin f6 (ox_291 zc_0) (ox_291 zc_0) (ox_291 zc_0))⟩⟩, hS.F ht⟩) hS.2.2 dX0_begin_19
set_option maxHeartbeats 4000000 in
set_option maxRecDepth 100000 in
theorem kX8_restore (l : Launch) (dC : Nat → ClassId) (dI : Nat → Nat → Nat) (r : Nat → Nat) (ct : Nat → ClassId) (i_tapeLength i_time i_lyingCount i_rd_fault i_rd_token i_rd_kind i_sc_count i_sc_at i_A_tunes i_A_houses i_fA_length i_B_tunes i_B_houses i_fB_length i_acts_done i_acts_undone i_kn_count : Int32) (f_boxes f_boxKept f_trial f_offers f_A_noteCounts f_A_notes f_B_noteCounts f_B_notes f_now_where f_now_worn f_ahead_where f_ahead_worn f_acts_rows f_kn_tunes f_kn_noteTimes : Nat → Int32) (J : Nat → Nat → Int32) (L : Nat → Nat → Int64) (p0 : Int32) (sz : Nat) (hI : (IX i_tapeLength i_time i_lyingCount i_rd_token i_sc_count i_sc_at i_A_tunes i_A_houses i_fA_length i_B_tunes i_B_houses i_fB_length i_acts_done i_acts_undone i_kn_count f_boxes f_A_noteCounts f_A_notes f_B_noteCounts f_B_notes f_now_worn f_ahead_worn f_acts_rows f_kn_tunes)) (hp0 : WB i_A_tunes f_now_where) (hp1 : RB i_A_tunes i_acts_done i_acts_undone f_acts_rows) (hp2 : BB i_A_tunes f_boxKept f_boxes) : Met l yX8_restore (.code yX8_restore cX8_restore 2 (some .int) :: GW) { frames := 8, cells := 0, slots := 0, locals := 284 } (va_Pc [.ref (r 0), .int p0] (pW (dC, dI) (WX r ct i_tapeLength i_time i_lyingCount i_rd_fault i_rd_token i_rd_kind i_sc_count i_sc_at i_A_tunes i_A_houses i_fA_length i_B_tunes i_B_houses i_fB_length i_acts_done i_acts_undone i_kn_count f_boxes f_boxKept f_trial f_offers f_A_noteCounts f_A_notes f_B_noteCounts f_B_notes f_now_where f_now_worn f_ahead_where f_ahead_worn f_acts_rows f_kn_tunes f_kn_noteTimes J L) (TX ct) sz)) (va_Qi (fun (r0 : Int32) (u : Int32) => r0 = u) (fun (u : Int32) (t : State) => ∃ (n_i_acts_done n_i_acts_undone : Int32) (n_f_now_where n_f_now_worn n_f_acts_rows : Nat → Int32) (n_J : Nat → Nat → Int32), va_P (dC, dI) vwCl (WX r ct i_tapeLength i_time i_lyingCount i_rd_fault i_rd_token i_rd_kind i_sc_count i_sc_at i_A_tunes i_A_houses i_fA_length i_B_tunes i_B_houses i_fB_length n_i_acts_done n_i_acts_undone i_kn_count f_boxes f_boxKept f_trial f_offers f_A_noteCounts f_A_notes f_B_noteCounts f_B_notes n_f_now_where n_f_now_worn f_ahead_where f_ahead_worn n_f_acts_rows f_kn_tunes f_kn_noteTimes n_J L) t.heap ∧ va_D (va_A (WX r ct i_tapeLength i_time i_lyingCount i_rd_fault i_rd_token i_rd_kind i_sc_count i_sc_at i_A_tunes i_A_houses i_fA_length i_B_tunes i_B_houses i_fB_length i_acts_done i_acts_undone i_kn_count f_boxes f_boxKept f_trial f_offers f_A_noteCounts f_A_notes f_B_noteCounts f_B_notes f_now_where f_now_worn f_ahead_where f_ahead_worn f_acts_rows f_kn_tunes f_kn_noteTimes J L) sz) (WX r ct i_tapeLength i_time i_lyingCount i_rd_fault i_rd_token i_rd_kind i_sc_count i_sc_at i_A_tunes i_A_houses i_fA_length i_B_tunes i_B_houses i_fB_length n_i_acts_done n_i_acts_undone i_kn_count f_boxes f_boxKept f_trial f_offers f_A_noteCounts f_A_notes f_B_noteCounts f_B_notes n_f_now_where n_f_now_worn f_ahead_where f_ahead_worn n_f_acts_rows f_kn_tunes f_kn_noteTimes n_J L) ∧ (IX i_tapeLength i_time i_lyingCount i_rd_token i_sc_count i_sc_at i_A_tunes i_A_houses i_fA_length i_B_tunes i_B_houses i_fB_length n_i_acts_done n_i_acts_undone i_kn_count f_boxes f_A_noteCounts f_A_notes f_B_noteCounts f_B_notes n_f_now_worn f_ahead_worn n_f_acts_rows f_kn_tunes) ∧ (WB i_A_tunes n_f_now_where) ∧ (RB i_A_tunes n_i_acts_done n_i_acts_undone n_f_acts_rows)) (va_A (WX r ct i_tapeLength i_time i_lyingCount i_rd_fault i_rd_token i_rd_kind i_sc_count i_sc_at i_A_tunes i_A_houses i_fA_length i_B_tunes i_B_houses i_fB_length i_acts_done i_acts_undone i_kn_count f_boxes f_boxKept f_trial f_offers f_A_noteCounts f_A_notes f_B_noteCounts f_B_notes f_now_where f_now_worn f_ahead_where f_ahead_worn f_acts_rows f_kn_tunes f_kn_noteTimes J L) sz)) 0 0 (va_A (WX r ct i_tapeLength i_time i_lyingCount i_rd_fault i_rd_token i_rd_kind i_sc_count i_sc_at i_A_tunes i_A_houses i_fA_length i_B_tunes i_B_houses i_fB_length i_acts_done i_acts_undone i_kn_count f_boxes f_boxKept f_trial f_offers f_A_noteCounts f_A_notes f_B_noteCounts f_B_notes f_now_where f_now_worn f_ahead_where f_ahead_worn f_acts_rows f_kn_tunes f_kn_noteTimes J L) sz) := by
  refine Met.ofW (cc := cX8_restore) (maxL := 2) (ret := (some .int)) (by decide) rfl ?_
  intro p e s m args below meth c0 s₁ B hml hv
  obtain ⟨rfl, hsz, hP, hK, hD0⟩ := hv
  have hx := B.exec
  have hb := B.bytes
  have hr := B.returns
  have hts := atoms_spec (ws := .code yX8_restore cX8_restore 2 (some .int) :: GW) B.pre
  have hG : ∀ w ∈ GW, w.before _ s = true := fun w h => hts w (List.mem_cons_of_mem _ h)
  have hown : s.vm.findClass RX8 = some m.cls := findClass_of_methodNamed B.named
  subst hsz
  have hD := hD0.self (sz := s.heap.size)
  generalize hAe : va_A (WX r ct i_tapeLength i_time i_lyingCount i_rd_fault i_rd_token i_rd_kind i_sc_count i_sc_at i_A_tunes i_A_houses i_fA_length i_B_tunes i_B_houses i_fB_length i_acts_done i_acts_undone i_kn_count f_boxes f_boxKept f_trial f_offers f_A_noteCounts f_A_notes f_B_noteCounts f_B_notes f_now_where f_now_worn f_ahead_where f_ahead_worn f_acts_rows f_kn_tunes f_kn_noteTimes J L) s.heap.size = A at hD ⊢
  have hA : ∀ q : Nat, s.heap.size ≤ q → A q := fun q h => by rw [← hAe]; exact Or.inr h
  have hS : va_S A s.heap s.heap [] := va_S.rf
  have hP : va_P (dC, dI) vwCl (WX r ct i_tapeLength i_time i_lyingCount i_rd_fault i_rd_token i_rd_kind i_sc_count i_sc_at i_A_tunes i_A_houses i_fA_length i_B_tunes i_B_houses i_fB_length i_acts_done i_acts_undone i_kn_count f_boxes f_boxKept f_trial f_offers f_A_noteCounts f_A_notes f_B_noteCounts f_B_notes f_now_where f_now_worn f_ahead_where f_ahead_worn f_acts_rows f_kn_tunes f_kn_noteTimes J L) s.heap := hP
  have hl := lv_entry ([.ref (r 0), .int p0]) (n := 2) (Nat.le_of_ble_eq_true rfl)
  rw [lg_entry_eq]
  generalize (lg_sl ([.ref (r 0), .int p0]) ++ List.replicate (2 - (lg_sl ([.ref (r 0), .int p0])).length) Slot.unset).toArray = ls at hl ⊢
  have hl : lv_has ls 2 [(0, .ref (r 0)), (1, .int p0)] := hl
  refine nameQ (fun Q hQ => ?_)
  obtain ⟨ie0, ie1, ie2, ie3, ie4, ie5, ie6, ie7, ie8, ie9, ie10, ie11, ie12, ie13, ie14, ie15, ie16, ie17, ie18, ie19, ie20, ie21, ie22, ie23, ie24, ie25, ie26, ie27, ie28, ie29, ie30, ie31, ie32, ie33, ie34, ie35, ie36, ie37, ie38, ie39⟩ := id hI
  refine lv_iload_n hx hb dX8_restore_0 rfl (lv_at hl 1 rfl) ?_
  refine lv_if_lt (tgt := 18) hx hb dX8_restore_1 (by decide) (fun c_1 => ?_) (fun c_1 => ?_)
  · skip
    have f2 : p0.toInt < 0 := qi_lt c_1 rfl zc_0
    refine lv_iconst (v := (-1)) hx hb dX8_restore_18 (by decide) ?_
    rw [hQ]
    exact W.iret (v := (-1)) hx hb hr (fun t ht hW => ⟨⟨(-1), (-1), rfl, rfl, ⟨i_acts_done, i_acts_undone, f_now_where, f_now_worn, f_acts_rows, J, by rw [ht]; exact hP, hD, hI, hp0, hp1⟩⟩, hS.F ht⟩) hS.2.2 dX8_restore_19
  · skip
    have f3 : 0 ≤ p0.toInt := qi_nlt c_1 rfl zc_0
    refine lv_iload_n hx hb dX8_restore_4 rfl (lv_at hl 1 rfl) ?_
    refine lv_iconst (v := 3) hx hb dX8_restore_5 (by decide) ?_
    refine lv_icmp_ge (tgt := 18) hx hb dX8_restore_6 (by decide) (fun c_4 => ?_) (fun c_4 => ?_)
    · skip
      have f5 : 3 ≤ p0.toInt := qi_le c_4 zc_3 rfl
      refine lv_iconst (v := (-1)) hx hb dX8_restore_18 (by decide) ?_
      rw [hQ]
      exact W.iret (v := (-1)) hx hb hr (fun t ht hW => ⟨⟨(-1), (-1), rfl, rfl, ⟨i_acts_done, i_acts_undone, f_now_where, f_now_worn, f_acts_rows, J, by rw [ht]; exact hP, hD, hI, hp0, hp1⟩⟩, hS.F ht⟩) hS.2.2 dX8_restore_19
    · skip
      have f6 : p0.toInt < 3 := qi_nle c_4 zc_3 rfl
      refine lv_aload_n hx hb dX8_restore_9 rfl (lv_at hl 0 rfl) ?_
      refine gX_X8_48_0 hx hb hG hown hK hP dX8_restore_10 ?_
      refine lv_iload_n hx hb dX8_restore_13 rfl (lv_at hl 1 rfl) ?_
      refine ldX_13 (mm := p0.toInt) hx hb hK hP rfl (ox_748 f3 f6) (ox_749 f3 f6) dX8_restore_14 ?_
      refine lv_if_ne (tgt := 20) hx hb dX8_restore_15 (by decide) (fun c_7 => ?_) (fun c_7 => ?_)
      · skip
        have f8 : (f_boxKept (p0.toInt).toNat).toInt ≠ 0 := qi_ne c_7 rfl zc_0
        refine lv_aload_n hx hb dX8_restore_20 rfl (lv_at hl 0 rfl) ?_
        refine gX_X8_30_0 hx hb hG hown hK hP dX8_restore_21 ?_
        refine lv_aload_n hx hb dX8_restore_24 rfl (lv_at hl 0 rfl) ?_
        refine gX_X8_44_0 hx hb hG hown hK hP dX8_restore_25 ?_
        refine lv_iload_n hx hb dX8_restore_28 rfl (lv_at hl 1 rfl) ?_
        have hFc := frA hD hS hA
        refine va_callv (va_runV (As := [.ref (r 12), .int p0]) (rest := []) ⟨hx, hb, hml, hown, hG⟩ (kX7_readFrom_v1 l dC dI r ct i_tapeLength i_time i_lyingCount i_rd_fault i_rd_token i_rd_kind i_sc_count i_sc_at i_A_tunes i_A_houses i_fA_length i_B_tunes i_B_houses i_fB_length i_acts_done i_acts_undone i_kn_count f_boxes f_boxKept f_trial f_offers f_A_noteCounts f_A_notes f_B_noteCounts f_B_notes f_now_where f_now_worn f_ahead_where f_ahead_worn f_acts_rows f_kn_tunes f_kn_noteTimes J L p0 s.heap.size hI (ox_746 f3 f6) (ox_747 f3 f6) (hp2 p0.toInt (ox_748 f3 f6) (ox_753 f3 f6) (ox_141 f8))) (cwV 2 hG (goodV gw1144 gw827 gw828 gw134 gw829) rfl rfl rfl hd_X7_readFrom ⟨(Nat.le_of_ble_eq_true rfl), (Nat.le_of_ble_eq_true rfl)⟩) ⟨fbW, va_recv hK hP (ci := 6) (q0 := 7) rfl rfl, pW_in hP hK hD⟩ rfl rfl hl.1 rfl (lv_room (Nat.le_of_ble_eq_true rfl)) dX8_restore_29 ⟨(Nat.le_of_ble_eq_true rfl), (Nat.le_of_ble_eq_true rfl)⟩) hS (fun q _ h => hFc q h) hFc (fun _ t_ H9 locs ht hvm hw hB hz1 hk1 hS => ?_)
        obtain ⟨z11, z12, J13, hP1, hD1, hI15, f14⟩ := hB
        rw [ht] at hP1
        have hP := hP1
        have hD := dW hFc hD1
        obtain ⟨im16, im17, im18, im19, im20, im21, im22, im23, im24, im25, im26, im27, im28, im29, im30, im31, im32, im33, im34, im35, im36, im37, im38, im39, im40, im41, im42, im43, im44, im45, im46, im47, im48, im49, im50, im51, im52, im53, im54, im55⟩ := id hI15
        refine lv_aload_n hx hb dX8_restore_32 rfl (lv_at hl 0 rfl) ?_
        refine gX_X8_40_0 hx hb hG hown hK hP dX8_restore_33 ?_
        refine lv_aload_n hx hb dX8_restore_36 rfl (lv_at hl 0 rfl) ?_
        refine gX_X8_30_0 hx hb hG hown hK hP dX8_restore_37 ?_
        have hFc := frA hD hS hA
        refine va_callv (va_runV (As := [.ref (r 7)]) (rest := []) ⟨hx, hb, hml, hown, hG⟩ (kX0_begin l dC dI r ct i_tapeLength i_time i_lyingCount i_rd_fault i_rd_token i_rd_kind i_sc_count i_sc_at i_A_tunes i_A_houses i_fA_length i_B_tunes i_B_houses i_fB_length i_acts_done i_acts_undone i_kn_count f_boxes f_boxKept f_trial f_offers f_A_noteCounts f_A_notes f_B_noteCounts f_B_notes z11 z12 f_ahead_where f_ahead_worn f_acts_rows f_kn_tunes f_kn_noteTimes J13 L H9.size hI15 f14) (cwV 1 hG (goodV gw457 gw458 gw459 gw135 gw460) rfl rfl rfl hd_X0_begin ⟨(Nat.le_of_ble_eq_true rfl), (Nat.le_of_ble_eq_true rfl)⟩) ⟨fbW, va_recv hK hP (ci := 0) (q0 := 9) rfl rfl, pW_in hP hK hD⟩ rfl rfl hl.1 rfl (lv_room (Nat.le_of_ble_eq_true rfl)) dX8_restore_40 ⟨(Nat.le_of_ble_eq_true rfl), (Nat.le_of_ble_eq_true rfl)⟩) hS (fun q _ h => hFc q h) hFc (fun _ t_ H56 locs ht hvm hw hB hz1 hk1 hS => ?_)
        obtain ⟨x58, x59, z60, hP1, hD1, hI62, f61⟩ := hB
        rw [ht] at hP1
        have hP := hP1
        have hD := dW hFc hD1
        obtain ⟨im63, im64, im65, im66, im67, im68, im69, im70, im71, im72, im73, im74, im75, im76, im77, im78, im79, im80, im81, im82, im83, im84, im85, im86, im87, im88, im89, im90, im91, im92, im93, im94, im95, im96, im97, im98, im99, im100, im101, im102⟩ := id hI62
        refine lv_aload_n hx hb dX8_restore_43 rfl (lv_at hl 0 rfl) ?_
        refine gX_X8_30_0 hx hb hG hown hK hP dX8_restore_44 ?_
        refine gX_X8_168_7 hx hb hG hown hK hP dX8_restore_47 (fun x103 => ?_)
        rw [hQ]
        exact W.iret (v := x103) hx hb hr (fun t ht hW => ⟨⟨x103, x103, rfl, rfl, ⟨x58, x59, z11, z12, z60, J13, by rw [ht]; exact hP, hD, hI62, f14, f61⟩⟩, hS.F ht⟩) hS.2.2 dX8_restore_50
      · skip
        have f104 : (f_boxKept (p0.toInt).toNat).toInt = 0 := qi_eq c_7 rfl zc_0
        refine lv_iconst (v := (-1)) hx hb dX8_restore_18 (by decide) ?_
        rw [hQ]
        exact W.iret (v := (-1)) hx hb hr (fun t ht hW => ⟨⟨(-1), (-1), rfl, rfl, ⟨i_acts_done, i_acts_undone, f_now_where, f_now_worn, f_acts_rows, J, by rw [ht]; exact hP, hD, hI, hp0, hp1⟩⟩, hS.F ht⟩) hS.2.2 dX8_restore_19
set_option maxHeartbeats 4000000 in
set_option maxRecDepth 100000 in
theorem kX8_about (l : Launch) (dC : Nat → ClassId) (dI : Nat → Nat → Nat) (r : Nat → Nat) (ct : Nat → ClassId) (i_tapeLength i_time i_lyingCount i_rd_fault i_rd_token i_rd_kind i_sc_count i_sc_at i_A_tunes i_A_houses i_fA_length i_B_tunes i_B_houses i_fB_length i_acts_done i_acts_undone i_kn_count : Int32) (f_boxes f_boxKept f_trial f_offers f_A_noteCounts f_A_notes f_B_noteCounts f_B_notes f_now_where f_now_worn f_ahead_where f_ahead_worn f_acts_rows f_kn_tunes f_kn_noteTimes : Nat → Int32) (J : Nat → Nat → Int32) (L : Nat → Nat → Int64) (p0 : Int32) (sz : Nat) (hI : (IX i_tapeLength i_time i_lyingCount i_rd_token i_sc_count i_sc_at i_A_tunes i_A_houses i_fA_length i_B_tunes i_B_houses i_fB_length i_acts_done i_acts_undone i_kn_count f_boxes f_A_noteCounts f_A_notes f_B_noteCounts f_B_notes f_now_worn f_ahead_worn f_acts_rows f_kn_tunes)) : Met l yX8_about (.code yX8_about cX8_about 2 (some .int) :: GW) { frames := 8, cells := 0, slots := 0, locals := 286 } (va_Pc [.ref (r 0), .int p0] (pR (dC, dI) (WX r ct i_tapeLength i_time i_lyingCount i_rd_fault i_rd_token i_rd_kind i_sc_count i_sc_at i_A_tunes i_A_houses i_fA_length i_B_tunes i_B_houses i_fB_length i_acts_done i_acts_undone i_kn_count f_boxes f_boxKept f_trial f_offers f_A_noteCounts f_A_notes f_B_noteCounts f_B_notes f_now_where f_now_worn f_ahead_where f_ahead_worn f_acts_rows f_kn_tunes f_kn_noteTimes J L) (TX ct) sz)) (va_Qi (fun (r0 : Int32) (u : Int32) => r0 = u) (fun (u : Int32) (t : State) => True) (fun q => sz ≤ q)) 0 0 (fun q => sz ≤ q) := by
  refine Met.ofW (cc := cX8_about) (maxL := 2) (ret := (some .int)) (by decide) rfl ?_
  intro p e s m args below meth c0 s₁ B hml hv
  obtain ⟨rfl, hsz, hP, hK⟩ := hv
  have hx := B.exec
  have hb := B.bytes
  have hr := B.returns
  have hts := atoms_spec (ws := .code yX8_about cX8_about 2 (some .int) :: GW) B.pre
  have hG : ∀ w ∈ GW, w.before _ s = true := fun w h => hts w (List.mem_cons_of_mem _ h)
  have hown : s.vm.findClass RX8 = some m.cls := findClass_of_methodNamed B.named
  subst hsz
  have hS : va_S (fun q => s.heap.size ≤ q) s.heap s.heap [] := va_S.rf
  have hP : va_P (dC, dI) vwCl (WX r ct i_tapeLength i_time i_lyingCount i_rd_fault i_rd_token i_rd_kind i_sc_count i_sc_at i_A_tunes i_A_houses i_fA_length i_B_tunes i_B_houses i_fB_length i_acts_done i_acts_undone i_kn_count f_boxes f_boxKept f_trial f_offers f_A_noteCounts f_A_notes f_B_noteCounts f_B_notes f_now_where f_now_worn f_ahead_where f_ahead_worn f_acts_rows f_kn_tunes f_kn_noteTimes J L) s.heap := hP
  have hl := lv_entry ([.ref (r 0), .int p0]) (n := 2) (Nat.le_of_ble_eq_true rfl)
  rw [lg_entry_eq]
  generalize (lg_sl ([.ref (r 0), .int p0]) ++ List.replicate (2 - (lg_sl ([.ref (r 0), .int p0])).length) Slot.unset).toArray = ls at hl ⊢
  have hl : lv_has ls 2 [(0, .ref (r 0)), (1, .int p0)] := hl
  refine nameQ (fun Q hQ => ?_)
  obtain ⟨ie0, ie1, ie2, ie3, ie4, ie5, ie6, ie7, ie8, ie9, ie10, ie11, ie12, ie13, ie14, ie15, ie16, ie17, ie18, ie19, ie20, ie21, ie22, ie23, ie24, ie25, ie26, ie27, ie28, ie29, ie30, ie31, ie32, ie33, ie34, ie35, ie36, ie37, ie38, ie39⟩ := id hI
  refine lv_iload_n hx hb dX8_about_0 rfl (lv_at hl 1 rfl) ?_
  rcases ts_0_14 p0 with hs1 | hs1 | hs1 | hs1 | hs1 | hs1 | hs1 | hs1 | hs1 | hs1 | hs1 | hs1 | hs1 | hs1 | hs1 | hs1
  · skip
    refine lv_tableOut (tgt := 181) hx hb dX8_about_1 hs1 (by decide) ?_
    refine lv_iconst (v := (-1)) hx hb dX8_about_181 (by decide) ?_
    rw [hQ]
    exact W.iret (v := (-1)) hx hb hr (fun t ht hW => ⟨⟨(-1), (-1), rfl, rfl, trivial⟩, hS.F ht⟩) hS.2.2 dX8_about_182
  · skip
    refine lv_tableIn (off := 75) (tgt := 76) hx hb dX8_about_1 (by rw [hs1]; decide) (by rw [hs1]; decide) (by rw [hs1]; decide) (by decide) ?_
    have f2 : p0.toInt = 0 := qi_eq hs1 rfl zc_0
    refine lv_aload_n hx hb dX8_about_76 rfl (lv_at hl 0 rfl) ?_
    refine gX_X8_23_0 hx hb hG hown hK hP dX8_about_77 ?_
    refine gX_X8_99_3 hx hb hG hown hK hP dX8_about_80 ?_
    rw [hQ]
    exact W.iret (v := i_A_houses) hx hb hr (fun t ht hW => ⟨⟨i_A_houses, i_A_houses, rfl, rfl, trivial⟩, hS.F ht⟩) hS.2.2 dX8_about_83
  · skip
    refine lv_tableIn (off := 83) (tgt := 84) hx hb dX8_about_1 (by rw [hs1]; decide) (by rw [hs1]; decide) (by rw [hs1]; decide) (by decide) ?_
    have f3 : p0.toInt = 1 := qi_eq hs1 rfl zc_1
    refine lv_aload_n hx hb dX8_about_84 rfl (lv_at hl 0 rfl) ?_
    refine gX_X8_23_0 hx hb hG hown hK hP dX8_about_85 ?_
    refine gX_X8_108_3 hx hb hG hown hK hP dX8_about_88 ?_
    rw [hQ]
    exact W.iret (v := i_A_tunes) hx hb hr (fun t ht hW => ⟨⟨i_A_tunes, i_A_tunes, rfl, rfl, trivial⟩, hS.F ht⟩) hS.2.2 dX8_about_91
  · skip
    refine lv_tableIn (off := 91) (tgt := 92) hx hb dX8_about_1 (by rw [hs1]; decide) (by rw [hs1]; decide) (by rw [hs1]; decide) (by decide) ?_
    have f4 : p0.toInt = 2 := qi_eq hs1 rfl zc_2
    refine lv_aload_n hx hb dX8_about_92 rfl (lv_at hl 0 rfl) ?_
    refine gX_X8_23_0 hx hb hG hown hK hP dX8_about_93 ?_
    refine gX_X8_188_3 hx hb hG hown hK hP dX8_about_96 (fun x5 => ?_)
    rw [hQ]
    exact W.iret (v := x5) hx hb hr (fun t ht hW => ⟨⟨x5, x5, rfl, rfl, trivial⟩, hS.F ht⟩) hS.2.2 dX8_about_99
  · skip
    refine lv_tableIn (off := 99) (tgt := 100) hx hb dX8_about_1 (by rw [hs1]; decide) (by rw [hs1]; decide) (by rw [hs1]; decide) (by decide) ?_
    have f6 : p0.toInt = 3 := qi_eq hs1 rfl zc_3
    refine lv_aload_n hx hb dX8_about_100 rfl (lv_at hl 0 rfl) ?_
    refine va_calli (va_runV (As := []) (rest := []) ⟨hx, hb, hml, hown, hG⟩ (kX8_onCart l dC dI r ct i_tapeLength i_time i_lyingCount i_rd_fault i_rd_token i_rd_kind i_sc_count i_sc_at i_A_tunes i_A_houses i_fA_length i_B_tunes i_B_houses i_fB_length i_acts_done i_acts_undone i_kn_count f_boxes f_boxKept f_trial f_offers f_A_noteCounts f_A_notes f_B_noteCounts f_B_notes f_now_where f_now_worn f_ahead_where f_ahead_worn f_acts_rows f_kn_tunes f_kn_noteTimes J L s.heap.size hI) (cwV 0 hG (goodV gw895 gw897 gw30 gw129 gw898) rfl rfl rfl hd_X8_onCart ⟨(Nat.le_of_ble_eq_true rfl), (Nat.le_of_ble_eq_true rfl)⟩) ⟨fbR, va_recv hK hP (ci := 7) (q0 := 0) rfl rfl, pR_in hP hK⟩ rfl rfl hl.1 rfl (lv_room (Nat.le_of_ble_eq_true rfl)) dX8_about_101 ⟨(Nat.le_of_ble_eq_true rfl), (Nat.le_of_ble_eq_true rfl)⟩) hS (fun q hq h => absurd hq (Nat.not_lt.mpr h)) (fun q h => Nat.le_trans hS.1 h) (fun r_8 u_ t_ H7 locs ht hvm hw hB hz1 hk1 hS => ?_)
    subst hw
    have hP := wk hP hk1
    rw [hQ]
    exact W.iret (v := r_8) hx hb hr (fun t ht hW => ⟨⟨r_8, r_8, rfl, rfl, trivial⟩, hS.F ht⟩) hS.2.2 dX8_about_104
  · skip
    refine lv_tableIn (off := 104) (tgt := 105) hx hb dX8_about_1 (by rw [hs1]; decide) (by rw [hs1]; decide) (by rw [hs1]; decide) (by decide) ?_
    have f9 : p0.toInt = 4 := qi_eq hs1 rfl zc_4
    refine lv_aload_n hx hb dX8_about_105 rfl (lv_at hl 0 rfl) ?_
    refine va_calli (va_runV (As := []) (rest := []) ⟨hx, hb, hml, hown, hG⟩ (kX8_paidFor l dC dI r ct i_tapeLength i_time i_lyingCount i_rd_fault i_rd_token i_rd_kind i_sc_count i_sc_at i_A_tunes i_A_houses i_fA_length i_B_tunes i_B_houses i_fB_length i_acts_done i_acts_undone i_kn_count f_boxes f_boxKept f_trial f_offers f_A_noteCounts f_A_notes f_B_noteCounts f_B_notes f_now_where f_now_worn f_ahead_where f_ahead_worn f_acts_rows f_kn_tunes f_kn_noteTimes J L s.heap.size hI) (cwV 0 hG (goodV gw993 gw995 gw46 gw129 gw996) rfl rfl rfl hd_X8_paidFor ⟨(Nat.le_of_ble_eq_true rfl), (Nat.le_of_ble_eq_true rfl)⟩) ⟨fbR, va_recv hK hP (ci := 7) (q0 := 0) rfl rfl, pR_in hP hK⟩ rfl rfl hl.1 rfl (lv_room (Nat.le_of_ble_eq_true rfl)) dX8_about_106 ⟨(Nat.le_of_ble_eq_true rfl), (Nat.le_of_ble_eq_true rfl)⟩) hS (fun q hq h => absurd hq (Nat.not_lt.mpr h)) (fun q h => Nat.le_trans hS.1 h) (fun r_11 u_ t_ H10 locs ht hvm hw hB hz1 hk1 hS => ?_)
    subst hw
    have hP := wk hP hk1
    rw [hQ]
    exact W.iret (v := r_11) hx hb hr (fun t ht hW => ⟨⟨r_11, r_11, rfl, rfl, trivial⟩, hS.F ht⟩) hS.2.2 dX8_about_109
  · skip
    refine lv_tableIn (off := 109) (tgt := 110) hx hb dX8_about_1 (by rw [hs1]; decide) (by rw [hs1]; decide) (by rw [hs1]; decide) (by decide) ?_
    have f12 : p0.toInt = 5 := qi_eq hs1 rfl zc_5
    refine lv_aload_n hx hb dX8_about_110 rfl (lv_at hl 0 rfl) ?_
    refine gX_X8_30_0 hx hb hG hown hK hP dX8_about_111 ?_
    refine gX_X8_168_7 hx hb hG hown hK hP dX8_about_114 (fun x13 => ?_)
    rw [hQ]
    exact W.iret (v := x13) hx hb hr (fun t ht hW => ⟨⟨x13, x13, rfl, rfl, trivial⟩, hS.F ht⟩) hS.2.2 dX8_about_117
  · skip
    refine lv_tableIn (off := 117) (tgt := 118) hx hb dX8_about_1 (by rw [hs1]; decide) (by rw [hs1]; decide) (by rw [hs1]; decide) (by decide) ?_
    have f14 : p0.toInt = 6 := qi_eq hs1 rfl zc_6
    refine lv_aload_n hx hb dX8_about_118 rfl (lv_at hl 0 rfl) ?_
    refine gX_X8_30_0 hx hb hG hown hK hP dX8_about_119 ?_
    refine gX_X8_185_7 hx hb hG hown hK hP dX8_about_122 (fun x15 => ?_)
    rw [hQ]
    exact W.iret (v := x15) hx hb hr (fun t ht hW => ⟨⟨x15, x15, rfl, rfl, trivial⟩, hS.F ht⟩) hS.2.2 dX8_about_125
  · skip
    refine lv_tableIn (off := 125) (tgt := 126) hx hb dX8_about_1 (by rw [hs1]; decide) (by rw [hs1]; decide) (by rw [hs1]; decide) (by decide) ?_
    have f16 : p0.toInt = 7 := qi_eq hs1 rfl zc_7
    refine lv_aload_n hx hb dX8_about_126 rfl (lv_at hl 0 rfl) ?_
    refine gX_X8_40_0 hx hb hG hown hK hP dX8_about_127 ?_
    refine gX_X8_349_9 hx hb hG hown hK hP dX8_about_130 ?_
    rw [hQ]
    exact W.iret (v := i_acts_done) hx hb hr (fun t ht hW => ⟨⟨i_acts_done, i_acts_done, rfl, rfl, trivial⟩, hS.F ht⟩) hS.2.2 dX8_about_133
  · skip
    refine lv_tableIn (off := 133) (tgt := 134) hx hb dX8_about_1 (by rw [hs1]; decide) (by rw [hs1]; decide) (by rw [hs1]; decide) (by decide) ?_
    have f17 : p0.toInt = 8 := qi_eq hs1 rfl zc_8
    refine lv_aload_n hx hb dX8_about_134 rfl (lv_at hl 0 rfl) ?_
    refine gX_X8_40_0 hx hb hG hown hK hP dX8_about_135 ?_
    refine gX_X8_352_9 hx hb hG hown hK hP dX8_about_138 ?_
    rw [hQ]
    exact W.iret (v := i_acts_undone) hx hb hr (fun t ht hW => ⟨⟨i_acts_undone, i_acts_undone, rfl, rfl, trivial⟩, hS.F ht⟩) hS.2.2 dX8_about_141
  · skip
    refine lv_tableIn (off := 141) (tgt := 142) hx hb dX8_about_1 (by rw [hs1]; decide) (by rw [hs1]; decide) (by rw [hs1]; decide) (by decide) ?_
    have f18 : p0.toInt = 9 := qi_eq hs1 rfl zc_9
    refine lv_aload_n hx hb dX8_about_142 rfl (lv_at hl 0 rfl) ?_
    refine gX_X8_55_0 hx hb hG hown hK hP dX8_about_143 ?_
    refine gX_X8_355_10 hx hb hG hown hK hP dX8_about_146 ?_
    rw [hQ]
    exact W.iret (v := i_kn_count) hx hb hr (fun t ht hW => ⟨⟨i_kn_count, i_kn_count, rfl, rfl, trivial⟩, hS.F ht⟩) hS.2.2 dX8_about_149
  · skip
    refine lv_tableIn (off := 149) (tgt := 150) hx hb dX8_about_1 (by rw [hs1]; decide) (by rw [hs1]; decide) (by rw [hs1]; decide) (by decide) ?_
    have f19 : p0.toInt = 10 := qi_eq hs1 rfl zc_10
    refine lv_aload_n hx hb dX8_about_150 rfl (lv_at hl 0 rfl) ?_
    refine gX_X8_321_0 hx hb hG hown hK hP dX8_about_151 ?_
    rw [hQ]
    exact W.iret (v := i_time) hx hb hr (fun t ht hW => ⟨⟨i_time, i_time, rfl, rfl, trivial⟩, hS.F ht⟩) hS.2.2 dX8_about_154
  · skip
    refine lv_tableIn (off := 154) (tgt := 155) hx hb dX8_about_1 (by rw [hs1]; decide) (by rw [hs1]; decide) (by rw [hs1]; decide) (by decide) ?_
    have f20 : p0.toInt = 11 := qi_eq hs1 rfl zc_11
    refine lv_aload_n hx hb dX8_about_155 rfl (lv_at hl 0 rfl) ?_
    refine gX_X8_78_0 hx hb hG hown hK hP dX8_about_156 ?_
    rw [hQ]
    exact W.iret (v := i_tapeLength) hx hb hr (fun t ht hW => ⟨⟨i_tapeLength, i_tapeLength, rfl, rfl, trivial⟩, hS.F ht⟩) hS.2.2 dX8_about_159
  · skip
    refine lv_tableIn (off := 159) (tgt := 160) hx hb dX8_about_1 (by rw [hs1]; decide) (by rw [hs1]; decide) (by rw [hs1]; decide) (by decide) ?_
    have f21 : p0.toInt = 12 := qi_eq hs1 rfl zc_12
    refine lv_aload_n hx hb dX8_about_160 rfl (lv_at hl 0 rfl) ?_
    refine gX_X8_23_0 hx hb hG hown hK hP dX8_about_161 ?_
    refine gX_X8_358_3 hx hb hG hown hK hP dX8_about_164 (fun x22 => ?_)
    rw [hQ]
    exact W.iret (v := x22) hx hb hr (fun t ht hW => ⟨⟨x22, x22, rfl, rfl, trivial⟩, hS.F ht⟩) hS.2.2 dX8_about_167
  · skip
    refine lv_tableIn (off := 167) (tgt := 168) hx hb dX8_about_1 (by rw [hs1]; decide) (by rw [hs1]; decide) (by rw [hs1]; decide) (by decide) ?_
    have f23 : p0.toInt = 13 := qi_eq hs1 rfl zc_13
    refine lv_aload_n hx hb dX8_about_168 rfl (lv_at hl 0 rfl) ?_
    refine gX_X8_96_0 hx hb hG hown hK hP dX8_about_169 ?_
    rw [hQ]
    exact W.iret (v := i_lyingCount) hx hb hr (fun t ht hW => ⟨⟨i_lyingCount, i_lyingCount, rfl, rfl, trivial⟩, hS.F ht⟩) hS.2.2 dX8_about_172
  · skip
    refine lv_tableIn (off := 172) (tgt := 173) hx hb dX8_about_1 (by rw [hs1]; decide) (by rw [hs1]; decide) (by rw [hs1]; decide) (by decide) ?_
    have f24 : p0.toInt = 14 := qi_eq hs1 rfl zc_14
    refine lv_aload_n hx hb dX8_about_173 rfl (lv_at hl 0 rfl) ?_
    refine gX_X8_23_0 hx hb hG hown hK hP dX8_about_174 ?_
    refine gX_X8_171_3 hx hb hG hown hK hP dX8_about_177 (fun x25 => ?_)
    rw [hQ]
    exact W.iret (v := x25) hx hb hr (fun t ht hW => ⟨⟨x25, x25, rfl, rfl, trivial⟩, hS.F ht⟩) hS.2.2 dX8_about_180
set_option maxHeartbeats 4000000 in
set_option maxRecDepth 100000 in
theorem kX8_later (l : Launch) (dC : Nat → ClassId) (dI : Nat → Nat → Nat) (r : Nat → Nat) (ct : Nat → ClassId) (i_tapeLength i_time i_lyingCount i_rd_fault i_rd_token i_rd_kind i_sc_count i_sc_at i_A_tunes i_A_houses i_fA_length i_B_tunes i_B_houses i_fB_length i_acts_done i_acts_undone i_kn_count : Int32) (f_boxes f_boxKept f_trial f_offers f_A_noteCounts f_A_notes f_B_noteCounts f_B_notes f_now_where f_now_worn f_ahead_where f_ahead_worn f_acts_rows f_kn_tunes f_kn_noteTimes : Nat → Int32) (J : Nat → Nat → Int32) (L : Nat → Nat → Int64) (p0 : Int32) (sz : Nat) (hI : (IX i_tapeLength i_time i_lyingCount i_rd_token i_sc_count i_sc_at i_A_tunes i_A_houses i_fA_length i_B_tunes i_B_houses i_fB_length i_acts_done i_acts_undone i_kn_count f_boxes f_A_noteCounts f_A_notes f_B_noteCounts f_B_notes f_now_worn f_ahead_worn f_acts_rows f_kn_tunes)) : Met l yX8_later (.code yX8_later cX8_later 2 (some .int) :: GW) { frames := 2, cells := 0, slots := 0, locals := 100 } (va_Pc [.ref (r 0), .int p0] (pW (dC, dI) (WX r ct i_tapeLength i_time i_lyingCount i_rd_fault i_rd_token i_rd_kind i_sc_count i_sc_at i_A_tunes i_A_houses i_fA_length i_B_tunes i_B_houses i_fB_length i_acts_done i_acts_undone i_kn_count f_boxes f_boxKept f_trial f_offers f_A_noteCounts f_A_notes f_B_noteCounts f_B_notes f_now_where f_now_worn f_ahead_where f_ahead_worn f_acts_rows f_kn_tunes f_kn_noteTimes J L) (TX ct) sz)) (va_Qi (fun (r0 : Int32) (u : Int32) => r0 = u) (fun (u : Int32) (t : State) => ∃ (n_i_time : Int32), va_P (dC, dI) vwCl (WX r ct i_tapeLength n_i_time i_lyingCount i_rd_fault i_rd_token i_rd_kind i_sc_count i_sc_at i_A_tunes i_A_houses i_fA_length i_B_tunes i_B_houses i_fB_length i_acts_done i_acts_undone i_kn_count f_boxes f_boxKept f_trial f_offers f_A_noteCounts f_A_notes f_B_noteCounts f_B_notes f_now_where f_now_worn f_ahead_where f_ahead_worn f_acts_rows f_kn_tunes f_kn_noteTimes J L) t.heap ∧ va_D (va_A (WX r ct i_tapeLength i_time i_lyingCount i_rd_fault i_rd_token i_rd_kind i_sc_count i_sc_at i_A_tunes i_A_houses i_fA_length i_B_tunes i_B_houses i_fB_length i_acts_done i_acts_undone i_kn_count f_boxes f_boxKept f_trial f_offers f_A_noteCounts f_A_notes f_B_noteCounts f_B_notes f_now_where f_now_worn f_ahead_where f_ahead_worn f_acts_rows f_kn_tunes f_kn_noteTimes J L) sz) (WX r ct i_tapeLength n_i_time i_lyingCount i_rd_fault i_rd_token i_rd_kind i_sc_count i_sc_at i_A_tunes i_A_houses i_fA_length i_B_tunes i_B_houses i_fB_length i_acts_done i_acts_undone i_kn_count f_boxes f_boxKept f_trial f_offers f_A_noteCounts f_A_notes f_B_noteCounts f_B_notes f_now_where f_now_worn f_ahead_where f_ahead_worn f_acts_rows f_kn_tunes f_kn_noteTimes J L) ∧ (IX i_tapeLength n_i_time i_lyingCount i_rd_token i_sc_count i_sc_at i_A_tunes i_A_houses i_fA_length i_B_tunes i_B_houses i_fB_length i_acts_done i_acts_undone i_kn_count f_boxes f_A_noteCounts f_A_notes f_B_noteCounts f_B_notes f_now_worn f_ahead_worn f_acts_rows f_kn_tunes) ∧ ((((0 : Int) ≤ p0.toInt) ∧ (p0.toInt ≤ (1000 : Int)) ∧ (i_time.toInt + p0.toInt ≤ (100000 : Int)) ∧ (u.toInt = i_time.toInt + p0.toInt) ∧ (n_i_time.toInt = i_time.toInt + p0.toInt)) ∨ (((p0.toInt + 1 ≤ (0 : Int)) ∨ ((1001 : Int) ≤ p0.toInt) ∨ ((100001 : Int) ≤ i_time.toInt + p0.toInt)) ∧ (u.toInt + 1 = (0 : Int)) ∧ (n_i_time.toInt = i_time.toInt)))) (va_A (WX r ct i_tapeLength i_time i_lyingCount i_rd_fault i_rd_token i_rd_kind i_sc_count i_sc_at i_A_tunes i_A_houses i_fA_length i_B_tunes i_B_houses i_fB_length i_acts_done i_acts_undone i_kn_count f_boxes f_boxKept f_trial f_offers f_A_noteCounts f_A_notes f_B_noteCounts f_B_notes f_now_where f_now_worn f_ahead_where f_ahead_worn f_acts_rows f_kn_tunes f_kn_noteTimes J L) sz)) 0 0 (va_A (WX r ct i_tapeLength i_time i_lyingCount i_rd_fault i_rd_token i_rd_kind i_sc_count i_sc_at i_A_tunes i_A_houses i_fA_length i_B_tunes i_B_houses i_fB_length i_acts_done i_acts_undone i_kn_count f_boxes f_boxKept f_trial f_offers f_A_noteCounts f_A_notes f_B_noteCounts f_B_notes f_now_where f_now_worn f_ahead_where f_ahead_worn f_acts_rows f_kn_tunes f_kn_noteTimes J L) sz) := by
  refine Met.ofW (cc := cX8_later) (maxL := 2) (ret := (some .int)) (by decide) rfl ?_
  intro p e s m args below meth c0 s₁ B hml hv
  obtain ⟨rfl, hsz, hP, hK, hD0⟩ := hv
  have hx := B.exec
  have hb := B.bytes
  have hr := B.returns
  have hts := atoms_spec (ws := .code yX8_later cX8_later 2 (some .int) :: GW) B.pre
  have hG : ∀ w ∈ GW, w.before _ s = true := fun w h => hts w (List.mem_cons_of_mem _ h)
  have hown : s.vm.findClass RX8 = some m.cls := findClass_of_methodNamed B.named
  subst hsz
  have hD := hD0.self (sz := s.heap.size)
  generalize hAe : va_A (WX r ct i_tapeLength i_time i_lyingCount i_rd_fault i_rd_token i_rd_kind i_sc_count i_sc_at i_A_tunes i_A_houses i_fA_length i_B_tunes i_B_houses i_fB_length i_acts_done i_acts_undone i_kn_count f_boxes f_boxKept f_trial f_offers f_A_noteCounts f_A_notes f_B_noteCounts f_B_notes f_now_where f_now_worn f_ahead_where f_ahead_worn f_acts_rows f_kn_tunes f_kn_noteTimes J L) s.heap.size = A at hD ⊢
  have hA : ∀ q : Nat, s.heap.size ≤ q → A q := fun q h => by rw [← hAe]; exact Or.inr h
  have hS : va_S A s.heap s.heap [] := va_S.rf
  have hP : va_P (dC, dI) vwCl (WX r ct i_tapeLength i_time i_lyingCount i_rd_fault i_rd_token i_rd_kind i_sc_count i_sc_at i_A_tunes i_A_houses i_fA_length i_B_tunes i_B_houses i_fB_length i_acts_done i_acts_undone i_kn_count f_boxes f_boxKept f_trial f_offers f_A_noteCounts f_A_notes f_B_noteCounts f_B_notes f_now_where f_now_worn f_ahead_where f_ahead_worn f_acts_rows f_kn_tunes f_kn_noteTimes J L) s.heap := hP
  have hl := lv_entry ([.ref (r 0), .int p0]) (n := 2) (Nat.le_of_ble_eq_true rfl)
  rw [lg_entry_eq]
  generalize (lg_sl ([.ref (r 0), .int p0]) ++ List.replicate (2 - (lg_sl ([.ref (r 0), .int p0])).length) Slot.unset).toArray = ls at hl ⊢
  have hl : lv_has ls 2 [(0, .ref (r 0)), (1, .int p0)] := hl
  refine nameQ (fun Q hQ => ?_)
  obtain ⟨ie0, ie1, ie2, ie3, ie4, ie5, ie6, ie7, ie8, ie9, ie10, ie11, ie12, ie13, ie14, ie15, ie16, ie17, ie18, ie19, ie20, ie21, ie22, ie23, ie24, ie25, ie26, ie27, ie28, ie29, ie30, ie31, ie32, ie33, ie34, ie35, ie36, ie37, ie38, ie39⟩ := id hI
  refine lv_iload_n hx hb dX8_later_0 rfl (lv_at hl 1 rfl) ?_
  refine lv_if_lt (tgt := 23) hx hb dX8_later_1 (by decide) (fun c_1 => ?_) (fun c_1 => ?_)
  · skip
    have f2 : p0.toInt < 0 := qi_lt c_1 rfl zc_0
    refine lv_iconst (v := (-1)) hx hb dX8_later_23 (by decide) ?_
    rw [hQ]
    exact W.iret (v := (-1)) hx hb hr (fun t ht hW => ⟨⟨(-1), (-1), rfl, rfl, ⟨i_time, by rw [ht]; exact hP, hD, hI, (ox_754 ie2 ie3 f2 zc_m1)⟩⟩, hS.F ht⟩) hS.2.2 dX8_later_24
  · skip
    have f3 : 0 ≤ p0.toInt := qi_nlt c_1 rfl zc_0
    refine lv_iload_n hx hb dX8_later_4 rfl (lv_at hl 1 rfl) ?_
    refine lv_sipush (v := 1000) hx hb dX8_later_5 (by decide) ?_
    refine lv_icmp_gt (tgt := 23) hx hb dX8_later_8 (by decide) (fun c_4 => ?_) (fun c_4 => ?_)
    · skip
      have f5 : 1000 < p0.toInt := qi_lt c_4 zc_1000 rfl
      refine lv_iconst (v := (-1)) hx hb dX8_later_23 (by decide) ?_
      rw [hQ]
      exact W.iret (v := (-1)) hx hb hr (fun t ht hW => ⟨⟨(-1), (-1), rfl, rfl, ⟨i_time, by rw [ht]; exact hP, hD, hI, (ox_755 f5 zc_m1)⟩⟩, hS.F ht⟩) hS.2.2 dX8_later_24
    · skip
      have f6 : p0.toInt ≤ 1000 := qi_nlt c_4 zc_1000 rfl
      refine lv_aload_n hx hb dX8_later_11 rfl (lv_at hl 0 rfl) ?_
      refine gX_X8_321_0 hx hb hG hown hK hP dX8_later_12 ?_
      refine lv_iload_n hx hb dX8_later_15 rfl (lv_at hl 1 rfl) ?_
      refine lv_iadd hx hb dX8_later_16 ?_
      refine lv_topi (fun x7 ex7 => ?_)
      have f8 : x7.toInt = i_time.toInt + p0.toInt := (ox_608 (qi_add ex7 rfl rfl (ox_756 ie2 f3) (ox_757 ie3 f6)))
      refine lv_ldcw (v := 100000) hx hb hown (hG _ gw1073) dX8_later_17 ?_
      refine lv_icmp_le (tgt := 25) hx hb dX8_later_20 (by decide) (fun c_9 => ?_) (fun c_9 => ?_)
      · skip
        have f10 : x7.toInt ≤ 100000 := qi_le c_9 rfl zc_100000
        refine lv_aload_n hx hb dX8_later_25 rfl (lv_at hl 0 rfl) ?_
        refine lv_dup hx hb dX8_later_26 rfl ?_
        refine gX_X8_321_0 hx hb hG hown hK hP dX8_later_27 ?_
        refine lv_iload_n hx hb dX8_later_30 rfl (lv_at hl 1 rfl) ?_
        refine lv_iadd hx hb dX8_later_31 ?_
        refine lv_topi (fun x11 ex11 => ?_)
        have f12 : x11.toInt = i_time.toInt + p0.toInt := (ox_608 (qi_add ex11 rfl rfl (ox_756 ie2 f3) (ox_757 ie3 f6)))
        refine pX_X8_321_0 hx hb hG hown hK hP hD hS dX8_later_32 (fun H13 locs hP hD hS => ?_)
        refine lv_aload_n hx hb dX8_later_35 rfl (lv_at hl 0 rfl) ?_
        refine gX_X8_321_0 hx hb hG hown hK hP dX8_later_36 ?_
        rw [hQ]
        exact W.iret (v := x11) hx hb hr (fun t ht hW => ⟨⟨x11, x11, rfl, rfl, ⟨x11, by rw [ht]; exact hP, hD, ⟨ie0, ie1, (ox_759 ie2 f3 f12), (ox_760 f10 f8 f12), ie4, ie5, ie6, ie7, ie8, ie9, ie10, ie11, ie12, ie13, ie14, ie15, ie16, ie17, ie18, ie19, ie20, ie21, ie22, ie23, ie24, ie25, ie26, ie27, ie28, ie29, ie30, ie31, ie32, ie33, ie34, ie35, ie36, ie37, ie38, ie39⟩, (ox_758 f3 f6 f10 f8 f12)⟩⟩, hS.F ht⟩) hS.2.2 dX8_later_39
      · skip
        have f14 : 100000 < x7.toInt := qi_nle c_9 rfl zc_100000
        refine lv_iconst (v := (-1)) hx hb dX8_later_23 (by decide) ?_
        rw [hQ]
        exact W.iret (v := (-1)) hx hb hr (fun t ht hW => ⟨⟨(-1), (-1), rfl, rfl, ⟨i_time, by rw [ht]; exact hP, hD, hI, (ox_761 f14 f8 zc_m1)⟩⟩, hS.F ht⟩) hS.2.2 dX8_later_24
set_option maxHeartbeats 4000000 in
set_option maxRecDepth 100000 in
theorem kX9_later2 (l : Launch) (dC : Nat → ClassId) (dI : Nat → Nat → Nat) (r : Nat → Nat) (ct : Nat → ClassId) (i_taped i_size i_faultKind i_at i_end i_token i_number i_bank i_rb i_codes i_within i_piled i_unitsInRule i_askHouse i_askTune i_acts i_undone i_laid i_knowns i_time : Int32) (f_text f_tunes f_houses f_hums f_told f_many f_ruleFrom f_ruleTo f_code f_eWhat f_eSign f_all f_kept f_was f_sTune f_boxAll : Nat → Int32) (J : Nat → Nat → Int32) (L : Nat → Nat → Int64) (p0 : Int32) (sz : Nat) (hI : (IM i_taped i_size i_faultKind i_at i_end i_bank i_rb i_acts i_undone i_laid i_knowns i_time f_tunes f_houses f_hums f_told f_many f_ruleFrom f_ruleTo f_code f_all f_kept f_was f_sTune f_boxAll)) : Met l yX9_later (.code yX9_later cX9_later 2 (some .int) :: GW) { frames := 4, cells := 0, slots := 0, locals := 162 } (va_Pc [.ref (r 0), .int p0] (pW (dC, dI) (WM r ct i_taped i_size i_faultKind i_at i_end i_token i_number i_bank i_rb i_codes i_within i_piled i_unitsInRule i_askHouse i_askTune i_acts i_undone i_laid i_knowns i_time f_text f_tunes f_houses f_hums f_told f_many f_ruleFrom f_ruleTo f_code f_eWhat f_eSign f_all f_kept f_was f_sTune f_boxAll J L) (TM ct) sz)) (va_Qi (fun (r0 : Int32) (u : Int32) => r0 = u) (fun (u : Int32) (t : State) => ∃ (n_i_time : Int32), va_P (dC, dI) vwCl (WM r ct i_taped i_size i_faultKind i_at i_end i_token i_number i_bank i_rb i_codes i_within i_piled i_unitsInRule i_askHouse i_askTune i_acts i_undone i_laid i_knowns n_i_time f_text f_tunes f_houses f_hums f_told f_many f_ruleFrom f_ruleTo f_code f_eWhat f_eSign f_all f_kept f_was f_sTune f_boxAll J L) t.heap ∧ va_D (va_A (WM r ct i_taped i_size i_faultKind i_at i_end i_token i_number i_bank i_rb i_codes i_within i_piled i_unitsInRule i_askHouse i_askTune i_acts i_undone i_laid i_knowns i_time f_text f_tunes f_houses f_hums f_told f_many f_ruleFrom f_ruleTo f_code f_eWhat f_eSign f_all f_kept f_was f_sTune f_boxAll J L) sz) (WM r ct i_taped i_size i_faultKind i_at i_end i_token i_number i_bank i_rb i_codes i_within i_piled i_unitsInRule i_askHouse i_askTune i_acts i_undone i_laid i_knowns n_i_time f_text f_tunes f_houses f_hums f_told f_many f_ruleFrom f_ruleTo f_code f_eWhat f_eSign f_all f_kept f_was f_sTune f_boxAll J L) ∧ (IM i_taped i_size i_faultKind i_at i_end i_bank i_rb i_acts i_undone i_laid i_knowns n_i_time f_tunes f_houses f_hums f_told f_many f_ruleFrom f_ruleTo f_code f_all f_kept f_was f_sTune f_boxAll) ∧ ((((0 : Int) ≤ p0.toInt) ∧ (p0.toInt ≤ (1000 : Int)) ∧ (i_time.toInt + p0.toInt ≤ (100000 : Int)) ∧ (u.toInt = i_time.toInt + p0.toInt) ∧ (n_i_time.toInt = i_time.toInt + p0.toInt)) ∨ (((p0.toInt + 1 ≤ (0 : Int)) ∨ ((1001 : Int) ≤ p0.toInt) ∨ ((100001 : Int) ≤ i_time.toInt + p0.toInt)) ∧ (u.toInt + 1 = (0 : Int)) ∧ (n_i_time.toInt = i_time.toInt)))) (va_A (WM r ct i_taped i_size i_faultKind i_at i_end i_token i_number i_bank i_rb i_codes i_within i_piled i_unitsInRule i_askHouse i_askTune i_acts i_undone i_laid i_knowns i_time f_text f_tunes f_houses f_hums f_told f_many f_ruleFrom f_ruleTo f_code f_eWhat f_eSign f_all f_kept f_was f_sTune f_boxAll J L) sz)) 0 0 (va_A (WM r ct i_taped i_size i_faultKind i_at i_end i_token i_number i_bank i_rb i_codes i_within i_piled i_unitsInRule i_askHouse i_askTune i_acts i_undone i_laid i_knowns i_time f_text f_tunes f_houses f_hums f_told f_many f_ruleFrom f_ruleTo f_code f_eWhat f_eSign f_all f_kept f_was f_sTune f_boxAll J L) sz) := by
  refine Met.ofW (cc := cX9_later) (maxL := 2) (ret := (some .int)) (by decide) rfl ?_
  intro p e s m args below meth c0 s₁ B hml hv
  obtain ⟨rfl, hsz, hP, hK, hD0⟩ := hv
  have hx := B.exec
  have hb := B.bytes
  have hr := B.returns
  have hts := atoms_spec (ws := .code yX9_later cX9_later 2 (some .int) :: GW) B.pre
  have hG : ∀ w ∈ GW, w.before _ s = true := fun w h => hts w (List.mem_cons_of_mem _ h)
  have hown : s.vm.findClass RX9 = some m.cls := findClass_of_methodNamed B.named
  subst hsz
  have hD := hD0.self (sz := s.heap.size)
  generalize hAe : va_A (WM r ct i_taped i_size i_faultKind i_at i_end i_token i_number i_bank i_rb i_codes i_within i_piled i_unitsInRule i_askHouse i_askTune i_acts i_undone i_laid i_knowns i_time f_text f_tunes f_houses f_hums f_told f_many f_ruleFrom f_ruleTo f_code f_eWhat f_eSign f_all f_kept f_was f_sTune f_boxAll J L) s.heap.size = A at hD ⊢
  have hA : ∀ q : Nat, s.heap.size ≤ q → A q := fun q h => by rw [← hAe]; exact Or.inr h
  have hS : va_S A s.heap s.heap [] := va_S.rf
  have hP : va_P (dC, dI) vwCl (WM r ct i_taped i_size i_faultKind i_at i_end i_token i_number i_bank i_rb i_codes i_within i_piled i_unitsInRule i_askHouse i_askTune i_acts i_undone i_laid i_knowns i_time f_text f_tunes f_houses f_hums f_told f_many f_ruleFrom f_ruleTo f_code f_eWhat f_eSign f_all f_kept f_was f_sTune f_boxAll J L) s.heap := hP
  have hl := lv_entry ([.ref (r 0), .int p0]) (n := 2) (Nat.le_of_ble_eq_true rfl)
  rw [lg_entry_eq]
  generalize (lg_sl ([.ref (r 0), .int p0]) ++ List.replicate (2 - (lg_sl ([.ref (r 0), .int p0])).length) Slot.unset).toArray = ls at hl ⊢
  have hl : lv_has ls 2 [(0, .ref (r 0)), (1, .int p0)] := hl
  refine nameQ (fun Q hQ => ?_)
  obtain ⟨ie0, ie1, ie2, ie3, ie4, ie5, ie6, ie7, ie8, ie9, ie10, ie11, ie12, ie13, ie14, ie15, ie16, ie17, ie18, ie19, ie20, ie21, ie22, ie23, ie24, ie25, ie26, ie27, ie28, ie29, ie30, ie31, ie32⟩ := id hI
  have f1 : 0 ≤ (f_tunes (i_bank.toInt).toNat).toInt ∧ (f_tunes (i_bank.toInt).toNat).toInt ≤ 5 := ie21 (i_bank.toInt)
  have f2 : 0 ≤ (f_houses (i_bank.toInt).toNat).toInt ∧ (f_houses (i_bank.toInt).toNat).toInt ≤ 4 := ie22 (i_bank.toInt)
  refine lv_iload_n hx hb dX9_later_0 rfl (lv_at hl 1 rfl) ?_
  refine lv_iconst (v := 0) hx hb dX9_later_1 (by decide) ?_
  refine lv_sipush (v := 1000) hx hb dX9_later_2 (by decide) ?_
  refine va_calli (va_runS (As := [.int p0, .int 0, .int 1000]) (rest := []) ⟨hx, hb, hml, hown, hG⟩ (kX9_isIn l dC dI p0 0 1000 s.heap.size) (va_cwS 3 hG (goodS gw1516 gw1517 gw138 gw1518) rfl rfl rfl hd_X9_isIn ⟨(Nat.le_of_ble_eq_true rfl), (Nat.le_of_ble_eq_true rfl)⟩) ⟨fbR, pR_in emptyP (emptyK hK)⟩ rfl rfl hl.1 rfl (lv_room (Nat.le_of_ble_eq_true rfl)) dX9_later_5 ⟨(Nat.le_of_ble_eq_true rfl), (Nat.le_of_ble_eq_true rfl)⟩) hS (fun q hq h => absurd hq (Nat.not_lt.mpr h)) (fun q h => hA q (Nat.le_trans hS.1 h)) (fun r_4 u_ t_ H3 locs ht hvm hw hB hz1 hk1 hS => ?_)
  subst hw
  have hP := wk hP hk1
  obtain ⟨f5, f6, f7⟩ := hB
  refine lv_if_eq (tgt := 23) hx hb dX9_later_8 (by decide) (fun c_8 => ?_) (fun c_8 => ?_)
  · skip
    have f9 : r_4.toInt = 0 := qi_eq c_8 rfl zc_0
    refine lv_iconst (v := (-1)) hx hb dX9_later_23 (by decide) ?_
    rw [hQ]
    exact W.iret (v := (-1)) hx hb hr (fun t ht hW => ⟨⟨(-1), (-1), rfl, rfl, ⟨i_time, by rw [ht]; exact hP, hD, hI, (ox_765 f5 f9 zc_1000 zc_0 zc_m1)⟩⟩, hS.F ht⟩) hS.2.2 dX9_later_24
  · skip
    have f10 : r_4.toInt ≠ 0 := qi_ne c_8 rfl zc_0
    have f11 : (0 : Int) ≤ p0.toInt := (ox_766 f5 f10 zc_1000 zc_0)
    have f12 : p0.toInt ≤ (1000 : Int) := (ox_767 f5 f10 zc_1000 zc_0)
    have f13 : r_4.toInt = (1 : Int) := (ox_768 f5 f10 zc_1000 zc_0)
    have f14 : (1 : Int) ≤ r_4.toInt := (ox_53 f6 f7 f13)
    refine lv_aload_n hx hb dX9_later_11 rfl (lv_at hl 0 rfl) ?_
    refine gM_X9_492_0 hx hb hG hown hK hP dX9_later_12 ?_
    refine lv_iload_n hx hb dX9_later_15 rfl (lv_at hl 1 rfl) ?_
    refine lv_iadd hx hb dX9_later_16 ?_
    refine lv_topi (fun x15 ex15 => ?_)
    have f16 : x15.toInt = i_time.toInt + p0.toInt := (ox_608 (qi_add ex15 rfl rfl (ox_769 ie12 f11) (ox_770 ie13 f12)))
    refine lv_ldcw (v := 100000) hx hb hown (hG _ gw1829) dX9_later_17 ?_
    refine lv_icmp_le (tgt := 25) hx hb dX9_later_20 (by decide) (fun c_17 => ?_) (fun c_17 => ?_)
    · skip
      have f18 : x15.toInt ≤ 100000 := qi_le c_17 rfl zc_100000
      refine lv_aload_n hx hb dX9_later_25 rfl (lv_at hl 0 rfl) ?_
      refine lv_dup hx hb dX9_later_26 rfl ?_
      refine gM_X9_492_0 hx hb hG hown hK hP dX9_later_27 ?_
      refine lv_iload_n hx hb dX9_later_30 rfl (lv_at hl 1 rfl) ?_
      refine lv_iadd hx hb dX9_later_31 ?_
      refine lv_topi (fun x19 ex19 => ?_)
      have f20 : x19.toInt = i_time.toInt + p0.toInt := (ox_608 (qi_add ex19 rfl rfl (ox_769 ie12 f11) (ox_770 ie13 f12)))
      refine pM_X9_492_0 hx hb hG hown hK hP hD hS dX9_later_32 (fun H21 locs hP hD hS => ?_)
      refine lv_aload_n hx hb dX9_later_35 rfl (lv_at hl 0 rfl) ?_
      refine gM_X9_492_0 hx hb hG hown hK hP dX9_later_36 ?_
      rw [hQ]
      exact W.iret (v := x19) hx hb hr (fun t ht hW => ⟨⟨x19, x19, rfl, rfl, ⟨x19, by rw [ht]; exact hP, hD, ⟨ie0, ie1, ie2, ie3, ie4, ie5, ie6, ie7, ie8, ie9, ie10, ie11, (ox_772 ie12 f11 f20), (ox_760 f18 f16 f20), ie14, ie15, ie16, ie17, ie18, ie19, ie20, ie21, ie22, ie23, ie24, ie25, ie26, ie27, ie28, ie29, ie30, ie31, ie32⟩, (ox_771 f11 f12 f18 f16 f20)⟩⟩, hS.F ht⟩) hS.2.2 dX9_later_39
    · skip
      have f22 : 100000 < x15.toInt := qi_nle c_17 rfl zc_100000
      refine lv_iconst (v := (-1)) hx hb dX9_later_23 (by decide) ?_
      rw [hQ]
      exact W.iret (v := (-1)) hx hb hr (fun t ht hW => ⟨⟨(-1), (-1), rfl, rfl, ⟨i_time, by rw [ht]; exact hP, hD, hI, (ox_761 f22 f16 zc_m1)⟩⟩, hS.F ht⟩) hS.2.2 dX9_later_24
