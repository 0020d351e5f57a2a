set_option maxHeartbeats 4000000 in
set_option maxRecDepth 100000 in
theorem kX4_hasTurn (l : Launch) (dC : Nat → ClassId) (dI : Nat → Nat → Nat) (r : Nat → Nat) (ct : Nat → ClassId) (i_tapeLength i_time i_lyingCount i_rd_fault i_rd_token i_rd_kind i_sc_count i_sc_at i_A_tunes i_A_houses i_fA_length i_B_tunes i_B_houses i_fB_length i_acts_done i_acts_undone i_kn_count : Int32) (f_boxes f_boxKept f_trial f_offers f_A_noteCounts f_A_notes f_B_noteCounts f_B_notes f_now_where f_now_worn f_ahead_where f_ahead_worn f_acts_rows f_kn_tunes f_kn_noteTimes : Nat → Int32) (J : Nat → Nat → Int32) (L : Nat → Nat → Int64) (p0 p1 p2 p3 p4 p5 : Int32) (sz : Nat) (hI : (IX i_tapeLength i_time i_lyingCount i_rd_token i_sc_count i_sc_at i_A_tunes i_A_houses i_fA_length i_B_tunes i_B_houses i_fB_length i_acts_done i_acts_undone i_kn_count f_boxes f_A_noteCounts f_A_notes f_B_noteCounts f_B_notes f_now_worn f_ahead_worn f_acts_rows f_kn_tunes)) (hp0 : (0 : Int) ≤ p0.toInt) (hp1 : p0.toInt + 1 ≤ i_A_tunes.toInt) (hp2 : (0 : Int) ≤ p1.toInt) (hp3 : p1.toInt ≤ (99 : Int)) (hp4 : (0 : Int) ≤ p2.toInt) (hp5 : p2.toInt ≤ (8 : Int)) : Met l yX4_hasTurn (.code yX4_hasTurn cX4_hasTurn 9 (some .boolean) :: GW) { frames := 6, cells := 0, slots := 0, locals := 227 } (va_Pc [.ref (r 3), .int p0, .int p1, .int p2, .int p3, .int p4, .int p5] (pR (dC, dI) (WX r ct i_tapeLength i_time i_lyingCount i_rd_fault i_rd_token i_rd_kind i_sc_count i_sc_at i_A_tunes i_A_houses i_fA_length i_B_tunes i_B_houses i_fB_length i_acts_done i_acts_undone i_kn_count f_boxes f_boxKept f_trial f_offers f_A_noteCounts f_A_notes f_B_noteCounts f_B_notes f_now_where f_now_worn f_ahead_where f_ahead_worn f_acts_rows f_kn_tunes f_kn_noteTimes J L) (TX ct) sz)) (va_Qi (fun (r0 : Int32) (u : Int32) => r0 = u) (fun (u : Int32) (t : State) => (((u.toInt = (0 : Int))) ∨ ((u.toInt = (1 : Int)))) ∧ ((0 : Int) ≤ u.toInt) ∧ (u.toInt ≤ (1 : Int))) (fun q => sz ≤ q)) 0 0 (fun q => sz ≤ q) := by
  refine Met.ofW (cc := cX4_hasTurn) (maxL := 9) (ret := (some .boolean)) (by decide) rfl ?_
  intro p e s m args below meth c0 s₁ B hml hv
  obtain ⟨rfl, hsz, hP, hK⟩ := hv
  have hx := B.exec
  have hb := B.bytes
  have hr := B.returns
  have hts := atoms_spec (ws := .code yX4_hasTurn cX4_hasTurn 9 (some .boolean) :: GW) B.pre
  have hG : ∀ w ∈ GW, w.before _ s = true := fun w h => hts w (List.mem_cons_of_mem _ h)
  have hown : s.vm.findClass RX4 = some m.cls := findClass_of_methodNamed B.named
  subst hsz
  have hS : va_S (fun q => s.heap.size ≤ q) s.heap s.heap [] := va_S.rf
  have hP : va_P (dC, dI) vwCl (WX r ct i_tapeLength i_time i_lyingCount i_rd_fault i_rd_token i_rd_kind i_sc_count i_sc_at i_A_tunes i_A_houses i_fA_length i_B_tunes i_B_houses i_fB_length i_acts_done i_acts_undone i_kn_count f_boxes f_boxKept f_trial f_offers f_A_noteCounts f_A_notes f_B_noteCounts f_B_notes f_now_where f_now_worn f_ahead_where f_ahead_worn f_acts_rows f_kn_tunes f_kn_noteTimes J L) s.heap := hP
  have hl := lv_entry ([.ref (r 3), .int p0, .int p1, .int p2, .int p3, .int p4, .int p5]) (n := 9) (Nat.le_of_ble_eq_true rfl)
  rw [lg_entry_eq]
  generalize (lg_sl ([.ref (r 3), .int p0, .int p1, .int p2, .int p3, .int p4, .int p5]) ++ List.replicate (9 - (lg_sl ([.ref (r 3), .int p0, .int p1, .int p2, .int p3, .int p4, .int p5])).length) Slot.unset).toArray = ls at hl ⊢
  have hl : lv_has ls 9 [(0, .ref (r 3)), (1, .int p0), (2, .int p1), (3, .int p2), (4, .int p3), (5, .int p4), (6, .int p5)] := hl
  refine nameQ (fun Q hQ => ?_)
  obtain ⟨ie0, ie1, ie2, ie3, ie4, ie5, ie6, ie7, ie8, ie9, ie10, ie11, ie12, ie13, ie14, ie15, ie16, ie17, ie18, ie19, ie20, ie21, ie22, ie23, ie24, ie25, ie26, ie27, ie28, ie29, ie30, ie31, ie32, ie33, ie34, ie35, ie36, ie37, ie38, ie39⟩ := id hI
  refine lv_aload_n hx hb dX4_hasTurn_0 rfl (lv_at hl 0 rfl) ?_
  refine lv_iload_n hx hb dX4_hasTurn_1 rfl (lv_at hl 1 rfl) ?_
  refine lv_iload_n hx hb dX4_hasTurn_2 rfl (lv_at hl 2 rfl) ?_
  refine va_calli (va_runV (As := [.int p0, .int p1]) (rest := []) ⟨hx, hb, hml, hown, hG⟩ (kX4_left l dC dI r ct i_tapeLength i_time i_lyingCount i_rd_fault i_rd_token i_rd_kind i_sc_count i_sc_at i_A_tunes i_A_houses i_fA_length i_B_tunes i_B_houses i_fB_length i_acts_done i_acts_undone i_kn_count f_boxes f_boxKept f_trial f_offers f_A_noteCounts f_A_notes f_B_noteCounts f_B_notes f_now_where f_now_worn f_ahead_where f_ahead_worn f_acts_rows f_kn_tunes f_kn_noteTimes J L p0 p1 s.heap.size hI (ox_54 hp0 hp1) (ox_55 hp1) (ox_58 hp2 hp3) (ox_59 hp2 hp3)) (cwV 2 hG (goodV gw711 gw700 gw701 gw132 gw702) rfl rfl rfl hd_X4_left ⟨(Nat.le_of_ble_eq_true rfl), (Nat.le_of_ble_eq_true rfl)⟩) ⟨fbR, va_recv hK hP (ci := 3) (q0 := 3) rfl rfl, pR_in hP hK⟩ rfl rfl hl.1 rfl (lv_room (Nat.le_of_ble_eq_true rfl)) dX4_hasTurn_3 ⟨(Nat.le_of_ble_eq_true rfl), (Nat.le_of_ble_eq_true rfl)⟩) hS (fun q hq h => absurd hq (Nat.not_lt.mpr h)) (fun q h => Nat.le_trans hS.1 h) (fun r_2 u_ t_ H1 locs ht hvm hw hB hz1 hk1 hS => ?_)
  subst hw
  have hP := wk hP hk1
  obtain ⟨f3, f4, f5, f6, f7⟩ := hB
  refine lv_istore (lv' := [(7, .int r_2), (0, .ref (r 3)), (1, .int p0), (2, .int p1), (3, .int p2), (4, .int p3), (5, .int p4), (6, .int p5)]) hx hb dX4_hasTurn_6 hl (by decide) rfl (fun ls hl => ?_)
  refine lv_iload_n hx hb dX4_hasTurn_8 rfl (lv_at hl 4 rfl) ?_
  refine lv_istore (lv' := [(8, .int p2), (7, .int r_2), (0, .ref (r 3)), (1, .int p0), (2, .int p1), (3, .int p2), (4, .int p3), (5, .int p4), (6, .int p5)]) hx hb dX4_hasTurn_9 hl (by decide) rfl (fun ls hl => ?_)
  have L11 : ∀ (N11 : Nat) (y11_8 : Int32) (H11 : Heap) (locs : List Loc) (ls : Array Slot) (g11_0 : (0 : Int) ≤ y11_8.toInt) (g11_1 : y11_8.toInt ≤ (8 : Int)) (hP : va_P (dC, dI) vwCl (WX r ct i_tapeLength i_time i_lyingCount i_rd_fault i_rd_token i_rd_kind i_sc_count i_sc_at i_A_tunes i_A_houses i_fA_length i_B_tunes i_B_houses i_fB_length i_acts_done i_acts_undone i_kn_count f_boxes f_boxKept f_trial f_offers f_A_noteCounts f_A_notes f_B_noteCounts f_B_notes f_now_where f_now_worn f_ahead_where f_ahead_worn f_acts_rows f_kn_tunes f_kn_noteTimes J L) H11) (hS : va_S (fun q => s.heap.size ≤ q) s.heap H11 locs) (hl : lv_has ls 9 [(0, .ref (r 3)), (1, .int p0), (2, .int p1), (3, .int p2), (4, .int p3), (5, .int p4), (6, .int p5), (7, .int r_2), (8, .int y11_8)]) (hM : -1 * y11_8.toInt + 8 < (N11 : Int)), W p l e { frames := 6, cells := 0, slots := 0, locals := 227 } s m ([.ref (r 3), .int p0, .int p1, .int p2, .int p3, .int p4, .int p5] : List Value).toArray below meth c0 H11 locs 0 0 Q (F0 m 11 ls []) := by
    intro N11
    induction N11 with
    | zero =>
      intro y11_8 H11 locs ls g11_0 g11_1 hP hS hl hM
      exact ((ox_125 hM g11_0 g11_1)).elim
    | succ N11 ih11 =>
      intro y11_8 H11 locs ls g11_0 g11_1 hP hS hl hM
      have hM11 := msucc hM
      refine lv_iload hx hb dX4_hasTurn_11 (lv_at hl 8 rfl) ?_
      refine lv_iconst (v := 2) hx hb dX4_hasTurn_13 (by decide) ?_
      refine lv_iadd hx hb dX4_hasTurn_14 ?_
      refine lv_topi (fun x8 ex8 => ?_)
      have f9 : x8.toInt = y11_8.toInt + 2 := (ox_128 (qi_add ex8 rfl zc_2 (ox_126 g11_0 g11_1 hM11) (ox_127 g11_0 g11_1 hM11)))
      refine lv_iload hx hb dX4_hasTurn_15 (lv_at hl 7 rfl) ?_
      refine lv_icmp_ge (tgt := 71) hx hb dX4_hasTurn_17 (by decide) (fun c_10 => ?_) (fun c_10 => ?_)
      · skip
        have f11 : r_2.toInt ≤ x8.toInt := qi_le c_10 rfl rfl
        refine lv_iconst (v := 0) hx hb dX4_hasTurn_71 (by decide) ?_
        rw [hQ]
        exact W.zret (v := 0) hx hb hr (by decide) (fun t ht hW => ⟨⟨0, 0, rfl, rfl, ⟨(ox_80 zc_0), (ox_27 zc_0), (ox_28 zc_0)⟩⟩, hS.F ht⟩) hS.2.2 dX4_hasTurn_72
      · skip
        have f12 : x8.toInt < r_2.toInt := qi_nle c_10 rfl rfl
        refine lv_aload_n hx hb dX4_hasTurn_20 rfl (lv_at hl 0 rfl) ?_
        refine lv_iload_n hx hb dX4_hasTurn_21 rfl (lv_at hl 1 rfl) ?_
        refine lv_iload_n hx hb dX4_hasTurn_22 rfl (lv_at hl 2 rfl) ?_
        refine lv_iload hx hb dX4_hasTurn_23 (lv_at hl 8 rfl) ?_
        refine va_calli (va_runV (As := [.int p0, .int p1, .int y11_8]) (rest := []) ⟨hx, hb, hml, hown, hG⟩ (kX4_noteLeft l dC dI r ct i_tapeLength i_time i_lyingCount i_rd_fault i_rd_token i_rd_kind i_sc_count i_sc_at i_A_tunes i_A_houses i_fA_length i_B_tunes i_B_houses i_fB_length i_acts_done i_acts_undone i_kn_count f_boxes f_boxKept f_trial f_offers f_A_noteCounts f_A_notes f_B_noteCounts f_B_notes f_now_where f_now_worn f_ahead_where f_ahead_worn f_acts_rows f_kn_tunes f_kn_noteTimes J L p0 p1 y11_8 H11.size hI (ox_54 hp0 hp1) (ox_55 hp1) (ox_58 hp2 hp3) (ox_59 hp2 hp3) (ox_6 g11_0) (ox_129 f7 f12 f9)) (cwV 3 hG (goodV gw753 gw708 gw709 gw132 gw710) rfl rfl rfl hd_X4_noteLeft ⟨(Nat.le_of_ble_eq_true rfl), (Nat.le_of_ble_eq_true rfl)⟩) ⟨fbR, va_recv hK hP (ci := 3) (q0 := 3) rfl rfl, pR_in hP hK⟩ rfl rfl hl.1 rfl (lv_room (Nat.le_of_ble_eq_true rfl)) dX4_hasTurn_25 ⟨(Nat.le_of_ble_eq_true rfl), (Nat.le_of_ble_eq_true rfl)⟩) hS (fun q hq h => absurd hq (Nat.not_lt.mpr h)) (fun q h => Nat.le_trans hS.1 h) (fun r_14 u_ t_ H13 locs ht hvm hw hB hz1 hk1 hS => ?_)
        subst hw
        have hP := wk hP hk1
        obtain ⟨f15, f16⟩ := hB
        refine lv_iload hx hb dX4_hasTurn_28 (lv_at hl 4 rfl) ?_
        refine lv_icmp_ne (tgt := 65) hx hb dX4_hasTurn_30 (by decide) (fun c_17 => ?_) (fun c_17 => ?_)
        · skip
          have f18 : r_14.toInt ≠ p3.toInt := qi_ne c_17 rfl rfl
          obtain ⟨x19, ex19⟩ : ∃ y : Int32, y = y11_8 + Int32.ofInt 1 := ⟨_, rfl⟩
          have f20 : x19.toInt = y11_8.toInt + 1 := (ox_13 (qi_add ex19 rfl (by decide) (ox_11 g11_0) (ox_130 g11_1)))
          refine lv_iinc (v := x19) (lv' := [(8, .int x19), (0, .ref (r 3)), (1, .int p0), (2, .int p1), (3, .int p2), (4, .int p3), (5, .int p4), (6, .int p5), (7, .int r_2)]) hx hb dX4_hasTurn_65 hl (k := 8) rfl ex19.symm (by decide) rfl (fun ls hl => ?_)
          refine lv_goto (tgt := 11) hx hb dX4_hasTurn_68 (by decide) ?_
          exact ih11 x19 H13 _ _ (ox_14 g11_0 f20) (ox_131 f4 f12 f9 f20) hP hS (lv_sub hl [1, 2, 3, 4, 5, 6, 7, 8, 0] rfl) (ox_132 hM11 f20)
        · skip
          have f21 : r_14.toInt = p3.toInt := qi_eq c_17 rfl rfl
          refine lv_aload_n hx hb dX4_hasTurn_33 rfl (lv_at hl 0 rfl) ?_
          refine lv_iload_n hx hb dX4_hasTurn_34 rfl (lv_at hl 1 rfl) ?_
          refine lv_iload_n hx hb dX4_hasTurn_35 rfl (lv_at hl 2 rfl) ?_
          refine lv_iload hx hb dX4_hasTurn_36 (lv_at hl 8 rfl) ?_
          refine lv_iconst (v := 1) hx hb dX4_hasTurn_38 (by decide) ?_
          refine lv_iadd hx hb dX4_hasTurn_39 ?_
          refine lv_topi (fun x22 ex22 => ?_)
          have f23 : x22.toInt = y11_8.toInt + 1 := (ox_13 (qi_add ex22 rfl zc_1 (ox_11 g11_0) (ox_130 g11_1)))
          refine va_calli (va_runV (As := [.int p0, .int p1, .int x22]) (rest := []) ⟨hx, hb, hml, hown, hG⟩ (kX4_noteLeft l dC dI r ct i_tapeLength i_time i_lyingCount i_rd_fault i_rd_token i_rd_kind i_sc_count i_sc_at i_A_tunes i_A_houses i_fA_length i_B_tunes i_B_houses i_fB_length i_acts_done i_acts_undone i_kn_count f_boxes f_boxKept f_trial f_offers f_A_noteCounts f_A_notes f_B_noteCounts f_B_notes f_now_where f_now_worn f_ahead_where f_ahead_worn f_acts_rows f_kn_tunes f_kn_noteTimes J L p0 p1 x22 H13.size hI (ox_54 hp0 hp1) (ox_55 hp1) (ox_58 hp2 hp3) (ox_59 hp2 hp3) (ox_14 g11_0 f23) (ox_133 f7 f12 f9 f23)) (cwV 3 hG (goodV gw753 gw708 gw709 gw132 gw710) rfl rfl rfl hd_X4_noteLeft ⟨(Nat.le_of_ble_eq_true rfl), (Nat.le_of_ble_eq_true rfl)⟩) ⟨fbR, va_recv hK hP (ci := 3) (q0 := 3) rfl rfl, pR_in hP hK⟩ rfl rfl hl.1 rfl (lv_room (Nat.le_of_ble_eq_true rfl)) dX4_hasTurn_40 ⟨(Nat.le_of_ble_eq_true rfl), (Nat.le_of_ble_eq_true rfl)⟩) hS (fun q hq h => absurd hq (Nat.not_lt.mpr h)) (fun q h => Nat.le_trans hS.1 h) (fun r_25 u_ t_ H24 locs ht hvm hw hB hz1 hk1 hS => ?_)
          subst hw
          have hP := wk hP hk1
          obtain ⟨f26, f27⟩ := hB
          refine lv_iload hx hb dX4_hasTurn_43 (lv_at hl 5 rfl) ?_
          refine lv_icmp_ne (tgt := 65) hx hb dX4_hasTurn_45 (by decide) (fun c_28 => ?_) (fun c_28 => ?_)
          · skip
            have f29 : r_25.toInt ≠ p4.toInt := qi_ne c_28 rfl rfl
            obtain ⟨x30, ex30⟩ : ∃ y : Int32, y = y11_8 + Int32.ofInt 1 := ⟨_, rfl⟩
            have f31 : x30.toInt = y11_8.toInt + 1 := (ox_13 (qi_add ex30 rfl (by decide) (ox_11 g11_0) (ox_130 g11_1)))
            refine lv_iinc (v := x30) (lv' := [(8, .int x30), (0, .ref (r 3)), (1, .int p0), (2, .int p1), (3, .int p2), (4, .int p3), (5, .int p4), (6, .int p5), (7, .int r_2)]) hx hb dX4_hasTurn_65 hl (k := 8) rfl ex30.symm (by decide) rfl (fun ls hl => ?_)
            refine lv_goto (tgt := 11) hx hb dX4_hasTurn_68 (by decide) ?_
            exact ih11 x30 H24 _ _ (ox_14 g11_0 f31) (ox_131 f4 f12 f9 f31) hP hS (lv_sub hl [1, 2, 3, 4, 5, 6, 7, 8, 0] rfl) (ox_132 hM11 f31)
          · skip
            have f32 : r_25.toInt = p4.toInt := qi_eq c_28 rfl rfl
            refine lv_aload_n hx hb dX4_hasTurn_48 rfl (lv_at hl 0 rfl) ?_
            refine lv_iload_n hx hb dX4_hasTurn_49 rfl (lv_at hl 1 rfl) ?_
            refine lv_iload_n hx hb dX4_hasTurn_50 rfl (lv_at hl 2 rfl) ?_
            refine lv_iload hx hb dX4_hasTurn_51 (lv_at hl 8 rfl) ?_
            refine lv_iconst (v := 2) hx hb dX4_hasTurn_53 (by decide) ?_
            refine lv_iadd hx hb dX4_hasTurn_54 ?_
            refine lv_topi (fun x33 ex33 => ?_)
            have f34 : x33.toInt = y11_8.toInt + 2 := (ox_128 (qi_add ex33 rfl zc_2 (ox_134 g11_0) (ox_135 g11_1)))
            refine va_calli (va_runV (As := [.int p0, .int p1, .int x33]) (rest := []) ⟨hx, hb, hml, hown, hG⟩ (kX4_noteLeft l dC dI r ct i_tapeLength i_time i_lyingCount i_rd_fault i_rd_token i_rd_kind i_sc_count i_sc_at i_A_tunes i_A_houses i_fA_length i_B_tunes i_B_houses i_fB_length i_acts_done i_acts_undone i_kn_count f_boxes f_boxKept f_trial f_offers f_A_noteCounts f_A_notes f_B_noteCounts f_B_notes f_now_where f_now_worn f_ahead_where f_ahead_worn f_acts_rows f_kn_tunes f_kn_noteTimes J L p0 p1 x33 H24.size hI (ox_54 hp0 hp1) (ox_55 hp1) (ox_58 hp2 hp3) (ox_59 hp2 hp3) (ox_136 g11_0 f34) (ox_137 f7 f12 f9 f34)) (cwV 3 hG (goodV gw753 gw708 gw709 gw132 gw710) rfl rfl rfl hd_X4_noteLeft ⟨(Nat.le_of_ble_eq_true rfl), (Nat.le_of_ble_eq_true rfl)⟩) ⟨fbR, va_recv hK hP (ci := 3) (q0 := 3) rfl rfl, pR_in hP hK⟩ rfl rfl hl.1 rfl (lv_room (Nat.le_of_ble_eq_true rfl)) dX4_hasTurn_55 ⟨(Nat.le_of_ble_eq_true rfl), (Nat.le_of_ble_eq_true rfl)⟩) hS (fun q hq h => absurd hq (Nat.not_lt.mpr h)) (fun q h => Nat.le_trans hS.1 h) (fun r_36 u_ t_ H35 locs ht hvm hw hB hz1 hk1 hS => ?_)
            subst hw
            have hP := wk hP hk1
            obtain ⟨f37, f38⟩ := hB
            refine lv_iload hx hb dX4_hasTurn_58 (lv_at hl 6 rfl) ?_
            refine lv_icmp_ne (tgt := 65) hx hb dX4_hasTurn_60 (by decide) (fun c_39 => ?_) (fun c_39 => ?_)
            · skip
              have f40 : r_36.toInt ≠ p5.toInt := qi_ne c_39 rfl rfl
              obtain ⟨x41, ex41⟩ : ∃ y : Int32, y = y11_8 + Int32.ofInt 1 := ⟨_, rfl⟩
              have f42 : x41.toInt = y11_8.toInt + 1 := (ox_13 (qi_add ex41 rfl (by decide) (ox_11 g11_0) (ox_130 g11_1)))
              refine lv_iinc (v := x41) (lv' := [(8, .int x41), (0, .ref (r 3)), (1, .int p0), (2, .int p1), (3, .int p2), (4, .int p3), (5, .int p4), (6, .int p5), (7, .int r_2)]) hx hb dX4_hasTurn_65 hl (k := 8) rfl ex41.symm (by decide) rfl (fun ls hl => ?_)
              refine lv_goto (tgt := 11) hx hb dX4_hasTurn_68 (by decide) ?_
              exact ih11 x41 H35 _ _ (ox_14 g11_0 f42) (ox_131 f4 f12 f9 f42) hP hS (lv_sub hl [1, 2, 3, 4, 5, 6, 7, 8, 0] rfl) (ox_132 hM11 f42)
            · skip
              have f43 : r_36.toInt = p5.toInt := qi_eq c_39 rfl rfl
              refine lv_iconst (v := 1) hx hb dX4_hasTurn_63 (by decide) ?_
              rw [hQ]
              exact W.zret (v := 1) hx hb hr (by decide) (fun t ht hW => ⟨⟨1, 1, rfl, rfl, ⟨(ox_81 zc_1), (ox_31 zc_1), (ox_32 zc_1)⟩⟩, hS.F ht⟩) hS.2.2 dX4_hasTurn_64
  exact L11 (-1 * p2.toInt + 8 + 1).toNat p2 H1 _ _ (ox_138 hp4 hp5) (ox_139 hp4 hp5) hP hS (lv_sub hl [2, 3, 4, 5, 6, 7, 8, 1, 0] rfl) (mlt (ox_140 hp4 hp5))
set_option maxHeartbeats 4000000 in
set_option maxRecDepth 100000 in
theorem kX1_joined (l : Launch) (dC : Nat → ClassId) (dI : Nat → Nat → Nat) (p0 p1 p2 : Int32) (sz : Nat) : Met l yX1_joined (.code yX1_joined cX1_joined 3 (some .int) :: GW) { frames := 2, cells := 0, slots := 0, locals := 100 } (va_Pc [.int p0, .int p1, .int p2] (pR (dC, dI) [] [] sz)) (va_Qi (fun (r0 : Int32) (u : Int32) => r0 = u) (fun (u : Int32) (t : State) => True) (fun q => sz ≤ q)) 0 0 (fun q => sz ≤ q) := by
  refine Met.ofW (cc := cX1_joined) (maxL := 3) (ret := (some .int)) (by decide) rfl ?_
  intro p e s m args below meth c0 s₁ B hml hv
  obtain ⟨rfl, hsz, hP, hK⟩ := hv
  have hx := B.exec
  have hb := B.bytes
  have hr := B.returns
  have hts := atoms_spec (ws := .code yX1_joined cX1_joined 3 (some .int) :: GW) B.pre
  have hG : ∀ w ∈ GW, w.before _ s = true := fun w h => hts w (List.mem_cons_of_mem _ h)
  have hown : s.vm.findClass RX1 = some m.cls := findClass_of_methodNamed B.named
  subst hsz
  have hS : va_S (fun q => s.heap.size ≤ q) s.heap s.heap [] := va_S.rf
  have hP : va_P (dC, dI) vwCl [] s.heap := hP
  have hl := lv_entry ([.int p0, .int p1, .int p2]) (n := 3) (Nat.le_of_ble_eq_true rfl)
  rw [lg_entry_eq]
  generalize (lg_sl ([.int p0, .int p1, .int p2]) ++ List.replicate (3 - (lg_sl ([.int p0, .int p1, .int p2])).length) Slot.unset).toArray = ls at hl ⊢
  have hl : lv_has ls 3 [(0, .int p0), (1, .int p1), (2, .int p2)] := hl
  refine nameQ (fun Q hQ => ?_)
  refine lv_iload_n hx hb dX1_joined_0 rfl (lv_at hl 0 rfl) ?_
  rcases ls_37_42_43_45_47_60_61_62_109_110 p0 with hs1 | hs1 | hs1 | hs1 | hs1 | hs1 | hs1 | hs1 | hs1 | hs1 | hs1
  · skip
    refine lv_lookup (off := 176) (tgt := 177) hx hb dX1_joined_1 (by decide) (by rw [hs1]; decide) (by decide) ?_
    have f2 : p0.toInt = 37 := qi_eq hs1 rfl zc_37
    refine lv_iload_n hx hb dX1_joined_177 rfl (lv_at hl 2 rfl) ?_
    refine lv_if_ne (tgt := 185) hx hb dX1_joined_178 (by decide) (fun c_3 => ?_) (fun c_3 => ?_)
    · skip
      have f4 : p2.toInt ≠ 0 := qi_ne c_3 rfl zc_0
      refine lv_iload_n hx hb dX1_joined_185 rfl (lv_at hl 1 rfl) ?_
      refine lv_iload_n hx hb dX1_joined_186 rfl (lv_at hl 2 rfl) ?_
      refine lv_irem hx hb dX1_joined_187 (qi_nz0 (ox_141 f4)) ?_
      refine lv_topi (fun x5 ex5 => ?_)
      rw [hQ]
      exact W.iret (v := x5) hx hb hr (fun t ht hW => ⟨⟨x5, x5, rfl, rfl, trivial⟩, hS.F ht⟩) hS.2.2 dX1_joined_188
    · skip
      have f6 : p2.toInt = 0 := qi_eq c_3 rfl zc_0
      refine lv_iconst (v := 0) hx hb dX1_joined_181 (by decide) ?_
      refine lv_goto (tgt := 188) hx hb dX1_joined_182 (by decide) ?_
      rw [hQ]
      exact W.iret (v := 0) hx hb hr (fun t ht hW => ⟨⟨0, 0, rfl, rfl, trivial⟩, hS.F ht⟩) hS.2.2 dX1_joined_188
  · skip
    refine lv_lookup (off := 160) (tgt := 161) hx hb dX1_joined_1 (by decide) (by rw [hs1]; decide) (by decide) ?_
    have f7 : p0.toInt = 42 := qi_eq hs1 rfl zc_42
    refine lv_iload_n hx hb dX1_joined_161 rfl (lv_at hl 1 rfl) ?_
    refine lv_iload_n hx hb dX1_joined_162 rfl (lv_at hl 2 rfl) ?_
    refine lv_imul hx hb dX1_joined_163 ?_
    refine lv_topi (fun x8 ex8 => ?_)
    rw [hQ]
    exact W.iret (v := x8) hx hb hr (fun t ht hW => ⟨⟨x8, x8, rfl, rfl, trivial⟩, hS.F ht⟩) hS.2.2 dX1_joined_164
  · skip
    refine lv_lookup (off := 152) (tgt := 153) hx hb dX1_joined_1 (by decide) (by rw [hs1]; decide) (by decide) ?_
    have f9 : p0.toInt = 43 := qi_eq hs1 rfl zc_43
    refine lv_iload_n hx hb dX1_joined_153 rfl (lv_at hl 1 rfl) ?_
    refine lv_iload_n hx hb dX1_joined_154 rfl (lv_at hl 2 rfl) ?_
    refine lv_iadd hx hb dX1_joined_155 ?_
    refine lv_topi (fun x10 ex10 => ?_)
    rw [hQ]
    exact W.iret (v := x10) hx hb hr (fun t ht hW => ⟨⟨x10, x10, rfl, rfl, trivial⟩, hS.F ht⟩) hS.2.2 dX1_joined_156
  · skip
    refine lv_lookup (off := 156) (tgt := 157) hx hb dX1_joined_1 (by decide) (by rw [hs1]; decide) (by decide) ?_
    have f11 : p0.toInt = 45 := qi_eq hs1 rfl zc_45
    refine lv_iload_n hx hb dX1_joined_157 rfl (lv_at hl 1 rfl) ?_
    refine lv_iload_n hx hb dX1_joined_158 rfl (lv_at hl 2 rfl) ?_
    refine lv_isub hx hb dX1_joined_159 ?_
    refine lv_topi (fun x12 ex12 => ?_)
    rw [hQ]
    exact W.iret (v := x12) hx hb hr (fun t ht hW => ⟨⟨x12, x12, rfl, rfl, trivial⟩, hS.F ht⟩) hS.2.2 dX1_joined_160
  · skip
    refine lv_lookup (off := 164) (tgt := 165) hx hb dX1_joined_1 (by decide) (by rw [hs1]; decide) (by decide) ?_
    have f13 : p0.toInt = 47 := qi_eq hs1 rfl zc_47
    refine lv_iload_n hx hb dX1_joined_165 rfl (lv_at hl 2 rfl) ?_
    refine lv_if_ne (tgt := 173) hx hb dX1_joined_166 (by decide) (fun c_14 => ?_) (fun c_14 => ?_)
    · skip
      have f15 : p2.toInt ≠ 0 := qi_ne c_14 rfl zc_0
      refine lv_iload_n hx hb dX1_joined_173 rfl (lv_at hl 1 rfl) ?_
      refine lv_iload_n hx hb dX1_joined_174 rfl (lv_at hl 2 rfl) ?_
      refine lv_idiv hx hb dX1_joined_175 (qi_nz0 (ox_141 f15)) ?_
      refine lv_topi (fun x16 ex16 => ?_)
      rw [hQ]
      exact W.iret (v := x16) hx hb hr (fun t ht hW => ⟨⟨x16, x16, rfl, rfl, trivial⟩, hS.F ht⟩) hS.2.2 dX1_joined_176
    · skip
      have f17 : p2.toInt = 0 := qi_eq c_14 rfl zc_0
      refine lv_iconst (v := 0) hx hb dX1_joined_169 (by decide) ?_
      refine lv_goto (tgt := 176) hx hb dX1_joined_170 (by decide) ?_
      rw [hQ]
      exact W.iret (v := 0) hx hb hr (fun t ht hW => ⟨⟨0, 0, rfl, rfl, trivial⟩, hS.F ht⟩) hS.2.2 dX1_joined_176
  · skip
    refine lv_lookup (off := 119) (tgt := 120) hx hb dX1_joined_1 (by decide) (by rw [hs1]; decide) (by decide) ?_
    have f18 : p0.toInt = 60 := qi_eq hs1 rfl zc_60
    refine lv_iload_n hx hb dX1_joined_120 rfl (lv_at hl 1 rfl) ?_
    refine lv_iload_n hx hb dX1_joined_121 rfl (lv_at hl 2 rfl) ?_
    refine lv_icmp_ge (tgt := 129) hx hb dX1_joined_122 (by decide) (fun c_19 => ?_) (fun c_19 => ?_)
    · skip
      have f20 : p2.toInt ≤ p1.toInt := qi_le c_19 rfl rfl
      refine lv_iconst (v := 0) hx hb dX1_joined_129 (by decide) ?_
      rw [hQ]
      exact W.iret (v := 0) hx hb hr (fun t ht hW => ⟨⟨0, 0, rfl, rfl, trivial⟩, hS.F ht⟩) hS.2.2 dX1_joined_130
    · skip
      have f21 : p1.toInt < p2.toInt := qi_nle c_19 rfl rfl
      refine lv_iconst (v := 1) hx hb dX1_joined_125 (by decide) ?_
      refine lv_goto (tgt := 130) hx hb dX1_joined_126 (by decide) ?_
      rw [hQ]
      exact W.iret (v := 1) hx hb hr (fun t ht hW => ⟨⟨1, 1, rfl, rfl, trivial⟩, hS.F ht⟩) hS.2.2 dX1_joined_130
  · skip
    refine lv_lookup (off := 141) (tgt := 142) hx hb dX1_joined_1 (by decide) (by rw [hs1]; decide) (by decide) ?_
    have f22 : p0.toInt = 61 := qi_eq hs1 rfl zc_61
    refine lv_iload_n hx hb dX1_joined_142 rfl (lv_at hl 1 rfl) ?_
    refine lv_iload_n hx hb dX1_joined_143 rfl (lv_at hl 2 rfl) ?_
    refine lv_icmp_ne (tgt := 151) hx hb dX1_joined_144 (by decide) (fun c_23 => ?_) (fun c_23 => ?_)
    · skip
      have f24 : p1.toInt ≠ p2.toInt := qi_ne c_23 rfl rfl
      refine lv_iconst (v := 0) hx hb dX1_joined_151 (by decide) ?_
      rw [hQ]
      exact W.iret (v := 0) hx hb hr (fun t ht hW => ⟨⟨0, 0, rfl, rfl, trivial⟩, hS.F ht⟩) hS.2.2 dX1_joined_152
    · skip
      have f25 : p1.toInt = p2.toInt := qi_eq c_23 rfl rfl
      refine lv_iconst (v := 1) hx hb dX1_joined_147 (by decide) ?_
      refine lv_goto (tgt := 152) hx hb dX1_joined_148 (by decide) ?_
      rw [hQ]
      exact W.iret (v := 1) hx hb hr (fun t ht hW => ⟨⟨1, 1, rfl, rfl, trivial⟩, hS.F ht⟩) hS.2.2 dX1_joined_152
  · skip
    refine lv_lookup (off := 130) (tgt := 131) hx hb dX1_joined_1 (by decide) (by rw [hs1]; decide) (by decide) ?_
    have f26 : p0.toInt = 62 := qi_eq hs1 rfl zc_62
    refine lv_iload_n hx hb dX1_joined_131 rfl (lv_at hl 1 rfl) ?_
    refine lv_iload_n hx hb dX1_joined_132 rfl (lv_at hl 2 rfl) ?_
    refine lv_icmp_le (tgt := 140) hx hb dX1_joined_133 (by decide) (fun c_27 => ?_) (fun c_27 => ?_)
    · skip
      have f28 : p1.toInt ≤ p2.toInt := qi_le c_27 rfl rfl
      refine lv_iconst (v := 0) hx hb dX1_joined_140 (by decide) ?_
      rw [hQ]
      exact W.iret (v := 0) hx hb hr (fun t ht hW => ⟨⟨0, 0, rfl, rfl, trivial⟩, hS.F ht⟩) hS.2.2 dX1_joined_141
    · skip
      have f29 : p2.toInt < p1.toInt := qi_nle c_27 rfl rfl
      refine lv_iconst (v := 1) hx hb dX1_joined_136 (by decide) ?_
      refine lv_goto (tgt := 141) hx hb dX1_joined_137 (by decide) ?_
      rw [hQ]
      exact W.iret (v := 1) hx hb hr (fun t ht hW => ⟨⟨1, 1, rfl, rfl, trivial⟩, hS.F ht⟩) hS.2.2 dX1_joined_141
  · skip
    refine lv_lookup (off := 91) (tgt := 92) hx hb dX1_joined_1 (by decide) (by rw [hs1]; decide) (by decide) ?_
    have f30 : p0.toInt = 109 := qi_eq hs1 rfl zc_109
    refine lv_iload_n hx hb dX1_joined_92 rfl (lv_at hl 1 rfl) ?_
    refine lv_if_ne (tgt := 100) hx hb dX1_joined_93 (by decide) (fun c_31 => ?_) (fun c_31 => ?_)
    · skip
      have f32 : p1.toInt ≠ 0 := qi_ne c_31 rfl zc_0
      refine lv_iconst (v := 1) hx hb dX1_joined_100 (by decide) ?_
      refine lv_goto (tgt := 105) hx hb dX1_joined_101 (by decide) ?_
      rw [hQ]
      exact W.iret (v := 1) hx hb hr (fun t ht hW => ⟨⟨1, 1, rfl, rfl, trivial⟩, hS.F ht⟩) hS.2.2 dX1_joined_105
    · skip
      have f33 : p1.toInt = 0 := qi_eq c_31 rfl zc_0
      refine lv_iload_n hx hb dX1_joined_96 rfl (lv_at hl 2 rfl) ?_
      refine lv_if_eq (tgt := 104) hx hb dX1_joined_97 (by decide) (fun c_34 => ?_) (fun c_34 => ?_)
      · skip
        have f35 : p2.toInt = 0 := qi_eq c_34 rfl zc_0
        refine lv_iconst (v := 0) hx hb dX1_joined_104 (by decide) ?_
        rw [hQ]
        exact W.iret (v := 0) hx hb hr (fun t ht hW => ⟨⟨0, 0, rfl, rfl, trivial⟩, hS.F ht⟩) hS.2.2 dX1_joined_105
      · skip
        have f36 : p2.toInt ≠ 0 := qi_ne c_34 rfl zc_0
        refine lv_iconst (v := 1) hx hb dX1_joined_100 (by decide) ?_
        refine lv_goto (tgt := 105) hx hb dX1_joined_101 (by decide) ?_
        rw [hQ]
        exact W.iret (v := 1) hx hb hr (fun t ht hW => ⟨⟨1, 1, rfl, rfl, trivial⟩, hS.F ht⟩) hS.2.2 dX1_joined_105
  · skip
    refine lv_lookup (off := 105) (tgt := 106) hx hb dX1_joined_1 (by decide) (by rw [hs1]; decide) (by decide) ?_
    have f37 : p0.toInt = 110 := qi_eq hs1 rfl zc_110
    refine lv_iload_n hx hb dX1_joined_106 rfl (lv_at hl 1 rfl) ?_
    refine lv_if_eq (tgt := 118) hx hb dX1_joined_107 (by decide) (fun c_38 => ?_) (fun c_38 => ?_)
    · skip
      have f39 : p1.toInt = 0 := qi_eq c_38 rfl zc_0
      refine lv_iconst (v := 0) hx hb dX1_joined_118 (by decide) ?_
      rw [hQ]
      exact W.iret (v := 0) hx hb hr (fun t ht hW => ⟨⟨0, 0, rfl, rfl, trivial⟩, hS.F ht⟩) hS.2.2 dX1_joined_119
    · skip
      have f40 : p1.toInt ≠ 0 := qi_ne c_38 rfl zc_0
      refine lv_iload_n hx hb dX1_joined_110 rfl (lv_at hl 2 rfl) ?_
      refine lv_if_eq (tgt := 118) hx hb dX1_joined_111 (by decide) (fun c_41 => ?_) (fun c_41 => ?_)
      · skip
        have f42 : p2.toInt = 0 := qi_eq c_41 rfl zc_0
        refine lv_iconst (v := 0) hx hb dX1_joined_118 (by decide) ?_
        rw [hQ]
        exact W.iret (v := 0) hx hb hr (fun t ht hW => ⟨⟨0, 0, rfl, rfl, trivial⟩, hS.F ht⟩) hS.2.2 dX1_joined_119
      · skip
        have f43 : p2.toInt ≠ 0 := qi_ne c_41 rfl zc_0
        refine lv_iconst (v := 1) hx hb dX1_joined_114 (by decide) ?_
        refine lv_goto (tgt := 119) hx hb dX1_joined_115 (by decide) ?_
        rw [hQ]
        exact W.iret (v := 1) hx hb hr (fun t ht hW => ⟨⟨1, 1, rfl, rfl, trivial⟩, hS.F ht⟩) hS.2.2 dX1_joined_119
  · skip
    refine lv_lookup (off := 188) (tgt := 189) hx hb dX1_joined_1 (by decide) (show Op.lookupswitch.offset [(37, 176), (42, 160), (43, 152), (45, 156), (47, 164), (60, 119), (61, 141), (62, 130), (109, 91), (110, 105)] 188 _ = 188 from ((lv_osw hs1.1 (by decide)).trans ((lv_osw hs1.2.1 (by decide)).trans ((lv_osw hs1.2.2.1 (by decide)).trans ((lv_osw hs1.2.2.2.1 (by decide)).trans ((lv_osw hs1.2.2.2.2.1 (by decide)).trans ((lv_osw hs1.2.2.2.2.2.1 (by decide)).trans ((lv_osw hs1.2.2.2.2.2.2.1 (by decide)).trans ((lv_osw hs1.2.2.2.2.2.2.2.1 (by decide)).trans ((lv_osw hs1.2.2.2.2.2.2.2.2.1 (by decide)).trans ((lv_osw hs1.2.2.2.2.2.2.2.2.2 (by decide)).trans rfl))))))))))) (by decide) ?_
    have f44 : p0.toInt ≠ 37 := qi_ne hs1.1 rfl zc_37
    have f45 : p0.toInt ≠ 42 := qi_ne hs1.2.1 rfl zc_42
    have f46 : p0.toInt ≠ 43 := qi_ne hs1.2.2.1 rfl zc_43
    have f47 : p0.toInt ≠ 45 := qi_ne hs1.2.2.2.1 rfl zc_45
    have f48 : p0.toInt ≠ 47 := qi_ne hs1.2.2.2.2.1 rfl zc_47
    have f49 : p0.toInt ≠ 60 := qi_ne hs1.2.2.2.2.2.1 rfl zc_60
    have f50 : p0.toInt ≠ 61 := qi_ne hs1.2.2.2.2.2.2.1 rfl zc_61
    have f51 : p0.toInt ≠ 62 := qi_ne hs1.2.2.2.2.2.2.2.1 rfl zc_62
    have f52 : p0.toInt ≠ 109 := qi_ne hs1.2.2.2.2.2.2.2.2.1 rfl zc_109
    have f53 : p0.toInt ≠ 110 := qi_ne hs1.2.2.2.2.2.2.2.2.2 rfl zc_110
    refine lv_iconst (v := 0) hx hb dX1_joined_189 (by decide) ?_
    rw [hQ]
    exact W.iret (v := 0) hx hb hr (fun t ht hW => ⟨⟨0, 0, rfl, rfl, trivial⟩, hS.F ht⟩) hS.2.2 dX1_joined_190
set_option maxHeartbeats 4000000 in
set_option maxRecDepth 100000 in
theorem kX1_valueBy (l : Launch) (dC : Nat → ClassId) (dI : Nat → Nat → Nat) (r : Nat → Nat) (ct : Nat → ClassId) (i_tapeLength i_time i_lyingCount i_rd_fault i_rd_token i_rd_kind i_sc_count i_sc_at i_A_tunes i_A_houses i_fA_length i_B_tunes i_B_houses i_fB_length i_acts_done i_acts_undone i_kn_count : Int32) (f_boxes f_boxKept f_trial f_offers f_A_noteCounts f_A_notes f_B_noteCounts f_B_notes f_now_where f_now_worn f_ahead_where f_ahead_worn f_acts_rows f_kn_tunes f_kn_noteTimes : Nat → Int32) (J : Nat → Nat → Int32) (L : Nat → Nat → Int64) (sz : Nat) (hI : (IX i_tapeLength i_time i_lyingCount i_rd_token i_sc_count i_sc_at i_A_tunes i_A_houses i_fA_length i_B_tunes i_B_houses i_fB_length i_acts_done i_acts_undone i_kn_count f_boxes f_A_noteCounts f_A_notes f_B_noteCounts f_B_notes f_now_worn f_ahead_worn f_acts_rows f_kn_tunes)) : Met l yX1_valueBy (.code yX1_valueBy cX1_valueBy 7 (some .int) :: GW) { frames := 4, cells := 0, slots := 0, locals := 162 } (va_Pc [.ref (r 4), .ref (r 29)] (pW (dC, dI) (WX r ct i_tapeLength i_time i_lyingCount i_rd_fault i_rd_token i_rd_kind i_sc_count i_sc_at i_A_tunes i_A_houses i_fA_length i_B_tunes i_B_houses i_fB_length i_acts_done i_acts_undone i_kn_count f_boxes f_boxKept f_trial f_offers f_A_noteCounts f_A_notes f_B_noteCounts f_B_notes f_now_where f_now_worn f_ahead_where f_ahead_worn f_acts_rows f_kn_tunes f_kn_noteTimes J L) (TX ct) sz)) (va_Qi (fun (r0 : Int32) (u : Int32) => r0 = u) (fun (u : Int32) (t : State) => ∃ (n_J : Nat → Nat → Int32), va_P (dC, dI) vwCl (WX r ct i_tapeLength i_time i_lyingCount i_rd_fault i_rd_token i_rd_kind i_sc_count i_sc_at i_A_tunes i_A_houses i_fA_length i_B_tunes i_B_houses i_fB_length i_acts_done i_acts_undone i_kn_count f_boxes f_boxKept f_trial f_offers f_A_noteCounts f_A_notes f_B_noteCounts f_B_notes f_now_where f_now_worn f_ahead_where f_ahead_worn f_acts_rows f_kn_tunes f_kn_noteTimes n_J L) t.heap ∧ va_D (va_A (WX r ct i_tapeLength i_time i_lyingCount i_rd_fault i_rd_token i_rd_kind i_sc_count i_sc_at i_A_tunes i_A_houses i_fA_length i_B_tunes i_B_houses i_fB_length i_acts_done i_acts_undone i_kn_count f_boxes f_boxKept f_trial f_offers f_A_noteCounts f_A_notes f_B_noteCounts f_B_notes f_now_where f_now_worn f_ahead_where f_ahead_worn f_acts_rows f_kn_tunes f_kn_noteTimes J L) sz) (WX r ct i_tapeLength i_time i_lyingCount i_rd_fault i_rd_token i_rd_kind i_sc_count i_sc_at i_A_tunes i_A_houses i_fA_length i_B_tunes i_B_houses i_fB_length i_acts_done i_acts_undone i_kn_count f_boxes f_boxKept f_trial f_offers f_A_noteCounts f_A_notes f_B_noteCounts f_B_notes f_now_where f_now_worn f_ahead_where f_ahead_worn f_acts_rows f_kn_tunes f_kn_noteTimes n_J L) ∧ (IX i_tapeLength i_time i_lyingCount i_rd_token i_sc_count i_sc_at i_A_tunes i_A_houses i_fA_length i_B_tunes i_B_houses i_fB_length i_acts_done i_acts_undone i_kn_count f_boxes f_A_noteCounts f_A_notes f_B_noteCounts f_B_notes f_now_worn f_ahead_worn f_acts_rows f_kn_tunes)) (va_A (WX r ct i_tapeLength i_time i_lyingCount i_rd_fault i_rd_token i_rd_kind i_sc_count i_sc_at i_A_tunes i_A_houses i_fA_length i_B_tunes i_B_houses i_fB_length i_acts_done i_acts_undone i_kn_count f_boxes f_boxKept f_trial f_offers f_A_noteCounts f_A_notes f_B_noteCounts f_B_notes f_now_where f_now_worn f_ahead_where f_ahead_worn f_acts_rows f_kn_tunes f_kn_noteTimes J L) sz)) 0 0 (va_A (WX r ct i_tapeLength i_time i_lyingCount i_rd_fault i_rd_token i_rd_kind i_sc_count i_sc_at i_A_tunes i_A_houses i_fA_length i_B_tunes i_B_houses i_fB_length i_acts_done i_acts_undone i_kn_count f_boxes f_boxKept f_trial f_offers f_A_noteCounts f_A_notes f_B_noteCounts f_B_notes f_now_where f_now_worn f_ahead_where f_ahead_worn f_acts_rows f_kn_tunes f_kn_noteTimes J L) sz) := by
  refine Met.ofW (cc := cX1_valueBy) (maxL := 7) (ret := (some .int)) (by decide) rfl ?_
  intro p e s m args below meth c0 s₁ B hml hv
  obtain ⟨rfl, hsz, hP, hK, hD0⟩ := hv
  have hx := B.exec
  have hb := B.bytes
  have hr := B.returns
  have hts := atoms_spec (ws := .code yX1_valueBy cX1_valueBy 7 (some .int) :: GW) B.pre
  have hG : ∀ w ∈ GW, w.before _ s = true := fun w h => hts w (List.mem_cons_of_mem _ h)
  have hown : s.vm.findClass RX1 = some m.cls := findClass_of_methodNamed B.named
  subst hsz
  have hD := hD0.self (sz := s.heap.size)
  generalize hAe : va_A (WX r ct i_tapeLength i_time i_lyingCount i_rd_fault i_rd_token i_rd_kind i_sc_count i_sc_at i_A_tunes i_A_houses i_fA_length i_B_tunes i_B_houses i_fB_length i_acts_done i_acts_undone i_kn_count f_boxes f_boxKept f_trial f_offers f_A_noteCounts f_A_notes f_B_noteCounts f_B_notes f_now_where f_now_worn f_ahead_where f_ahead_worn f_acts_rows f_kn_tunes f_kn_noteTimes J L) s.heap.size = A at hD ⊢
  have hA : ∀ q : Nat, s.heap.size ≤ q → A q := fun q h => by rw [← hAe]; exact Or.inr h
  have hS : va_S A s.heap s.heap [] := va_S.rf
  have hP : va_P (dC, dI) vwCl (WX r ct i_tapeLength i_time i_lyingCount i_rd_fault i_rd_token i_rd_kind i_sc_count i_sc_at i_A_tunes i_A_houses i_fA_length i_B_tunes i_B_houses i_fB_length i_acts_done i_acts_undone i_kn_count f_boxes f_boxKept f_trial f_offers f_A_noteCounts f_A_notes f_B_noteCounts f_B_notes f_now_where f_now_worn f_ahead_where f_ahead_worn f_acts_rows f_kn_tunes f_kn_noteTimes J L) s.heap := hP
  have hl := lv_entry ([.ref (r 4), .ref (r 29)]) (n := 7) (Nat.le_of_ble_eq_true rfl)
  rw [lg_entry_eq]
  generalize (lg_sl ([.ref (r 4), .ref (r 29)]) ++ List.replicate (7 - (lg_sl ([.ref (r 4), .ref (r 29)])).length) Slot.unset).toArray = ls at hl ⊢
  have hl : lv_has ls 7 [(0, .ref (r 4)), (1, .ref (r 29))] := hl
  refine nameQ (fun Q hQ => ?_)
  obtain ⟨ie0, ie1, ie2, ie3, ie4, ie5, ie6, ie7, ie8, ie9, ie10, ie11, ie12, ie13, ie14, ie15, ie16, ie17, ie18, ie19, ie20, ie21, ie22, ie23, ie24, ie25, ie26, ie27, ie28, ie29, ie30, ie31, ie32, ie33, ie34, ie35, ie36, ie37, ie38, ie39⟩ := id hI
  refine lv_iconst (v := 0) hx hb dX1_valueBy_0 (by decide) ?_
  refine lv_istore_n (lv' := [(2, .int 0), (0, .ref (r 4)), (1, .ref (r 29))]) hx hb dX1_valueBy_1 rfl hl (by decide) rfl (fun ls hl => ?_)
  refine lv_iconst (v := 0) hx hb dX1_valueBy_2 (by decide) ?_
  refine lv_istore_n (lv' := [(3, .int 0), (2, .int 0), (0, .ref (r 4)), (1, .ref (r 29))]) hx hb dX1_valueBy_3 rfl hl (by decide) rfl (fun ls hl => ?_)
  have L4 : ∀ (N4 : Nat) (y4_2 y4_3 : Int32) (m4_J : Nat → Nat → Int32) (H4 : Heap) (locs : List Loc) (ls : Array Slot) (g4_0 : (0 : Int) ≤ y4_2.toInt) (g4_1 : y4_2.toInt ≤ (30 : Int)) (g4_2 : (0 : Int) ≤ y4_3.toInt) (g4_3 : y4_3.toInt ≤ (300 : Int)) (g4_4 : y4_2.toInt ≤ (30 : Int)) (g4_5 : (0 : Int) ≤ y4_2.toInt) (hP : va_P (dC, dI) vwCl (WX r ct i_tapeLength i_time i_lyingCount i_rd_fault i_rd_token i_rd_kind i_sc_count i_sc_at i_A_tunes i_A_houses i_fA_length i_B_tunes i_B_houses i_fB_length i_acts_done i_acts_undone i_kn_count f_boxes f_boxKept f_trial f_offers f_A_noteCounts f_A_notes f_B_noteCounts f_B_notes f_now_where f_now_worn f_ahead_where f_ahead_worn f_acts_rows f_kn_tunes f_kn_noteTimes m4_J L) H4) (hD : va_D A (WX r ct i_tapeLength i_time i_lyingCount i_rd_fault i_rd_token i_rd_kind i_sc_count i_sc_at i_A_tunes i_A_houses i_fA_length i_B_tunes i_B_houses i_fB_length i_acts_done i_acts_undone i_kn_count f_boxes f_boxKept f_trial f_offers f_A_noteCounts f_A_notes f_B_noteCounts f_B_notes f_now_where f_now_worn f_ahead_where f_ahead_worn f_acts_rows f_kn_tunes f_kn_noteTimes m4_J L)) (hS : va_S A s.heap H4 locs) (hl : lv_has ls 7 [(0, .ref (r 4)), (1, .ref (r 29)), (2, .int y4_2), (3, .int y4_3)]) (hM : -1 * y4_3.toInt + 300 < (N4 : Int)), W p l e { frames := 4, cells := 0, slots := 0, locals := 162 } s m ([.ref (r 4), .ref (r 29)] : List Value).toArray below meth c0 H4 locs 0 0 Q (F0 m 4 ls []) := by
    intro N4
    induction N4 with
    | zero =>
      intro y4_2 y4_3 m4_J H4 locs ls g4_0 g4_1 g4_2 g4_3 g4_4 g4_5 hP hD hS hl hM
      exact ((ox_142 hM g4_2 g4_3)).elim
    | succ N4 ih4 =>
      intro y4_2 y4_3 m4_J H4 locs ls g4_0 g4_1 g4_2 g4_3 g4_4 g4_5 hP hD hS hl hM
      have hM4 := msucc hM
      refine lv_iload_n hx hb dX1_valueBy_4 rfl (lv_at hl 3 rfl) ?_
      refine lv_aload_n hx hb dX1_valueBy_5 rfl (lv_at hl 0 rfl) ?_
      refine gX_X1_18_4 hx hb hG hown hK hP dX1_valueBy_6 ?_
      refine lv_icmp_ge (tgt := 171) hx hb dX1_valueBy_9 (by decide) (fun c_1 => ?_) (fun c_1 => ?_)
      · skip
        have f2 : i_fA_length.toInt ≤ y4_3.toInt := qi_le c_1 rfl rfl
        refine lv_iload_n hx hb dX1_valueBy_171 rfl (lv_at hl 2 rfl) ?_
        refine lv_if_le (tgt := 184) hx hb dX1_valueBy_172 (by decide) (fun c_3 => ?_) (fun c_3 => ?_)
        · skip
          have f4 : y4_2.toInt ≤ 0 := qi_le c_3 rfl zc_0
          refine lv_iconst (v := 0) hx hb dX1_valueBy_184 (by decide) ?_
          rw [hQ]
          exact W.iret (v := 0) hx hb hr (fun t ht hW => ⟨⟨0, 0, rfl, rfl, ⟨m4_J, by rw [ht]; exact hP, hD, hI⟩⟩, hS.F ht⟩) hS.2.2 dX1_valueBy_185
        · skip
          have f5 : 0 < y4_2.toInt := qi_nle c_3 rfl zc_0
          refine lv_aload_n hx hb dX1_valueBy_175 rfl (lv_at hl 0 rfl) ?_
          refine gX_X1_15_4 hx hb hG hown hK hP dX1_valueBy_176 ?_
          refine lv_iconst (v := 0) hx hb dX1_valueBy_179 (by decide) ?_
          refine ldX_31 (mm := (0 : Int)) hx hb hK hP zc_0 (ox_143) (ox_144) dX1_valueBy_180 (fun x6 => ?_)
          refine lv_goto (tgt := 185) hx hb dX1_valueBy_181 (by decide) ?_
          rw [hQ]
          exact W.iret (v := x6) hx hb hr (fun t ht hW => ⟨⟨x6, x6, rfl, rfl, ⟨m4_J, by rw [ht]; exact hP, hD, hI⟩⟩, hS.F ht⟩) hS.2.2 dX1_valueBy_185
      · skip
        have f7 : y4_3.toInt < i_fA_length.toInt := qi_nle c_1 rfl rfl
        refine lv_aload_n hx hb dX1_valueBy_12 rfl (lv_at hl 0 rfl) ?_
        refine gX_X1_11_4 hx hb hG hown hK hP dX1_valueBy_13 ?_
        refine lv_iload_n hx hb dX1_valueBy_16 rfl (lv_at hl 3 rfl) ?_
        refine ldX_30 (mm := y4_3.toInt) hx hb hK hP rfl (ox_9 g4_2) (ox_145 ie21 f7) dX1_valueBy_17 (fun x8 => ?_)
        refine lv_istore (lv' := [(4, .int x8), (0, .ref (r 4)), (1, .ref (r 29)), (2, .int y4_2), (3, .int y4_3)]) hx hb dX1_valueBy_18 hl (by decide) rfl (fun ls hl => ?_)
        refine lv_iload hx hb dX1_valueBy_20 (lv_at hl 0 rfl) ?_
        refine lv_sipush (v := 20000) hx hb dX1_valueBy_22 (by decide) ?_
        refine lv_icmp_ge (tgt := 87) hx hb dX1_valueBy_25 (by decide) (fun c_9 => ?_) (fun c_9 => ?_)
        · skip
          have f10 : 20000 ≤ x8.toInt := qi_le c_9 zc_20000 rfl
          refine lv_iload hx hb dX1_valueBy_87 (lv_at hl 0 rfl) ?_
          refine lv_sipush (v := 20111) hx hb dX1_valueBy_89 (by decide) ?_
          refine lv_icmp_ne (tgt := 126) hx hb dX1_valueBy_92 (by decide) (fun c_11 => ?_) (fun c_11 => ?_)
          · skip
            have f12 : x8.toInt ≠ 20111 := qi_ne c_11 rfl zc_20111
            refine lv_iload_n hx hb dX1_valueBy_126 rfl (lv_at hl 3 rfl) ?_
            refine lv_iconst (v := 1) hx hb dX1_valueBy_127 (by decide) ?_
            refine lv_icmp_le (tgt := 165) hx hb dX1_valueBy_128 (by decide) (fun c_13 => ?_) (fun c_13 => ?_)
            · skip
              have f14 : y4_2.toInt ≤ 1 := qi_le c_13 rfl zc_1
              obtain ⟨x15, ex15⟩ : ∃ y : Int32, y = y4_3 + Int32.ofInt 1 := ⟨_, rfl⟩
              have f16 : x15.toInt = y4_3.toInt + 1 := (ox_13 (qi_add ex15 rfl (by decide) (ox_11 g4_2) (ox_146 g4_3)))
              refine lv_iinc (v := x15) (lv' := [(3, .int x15), (4, .int x8), (0, .ref (r 4)), (1, .ref (r 29)), (2, .int y4_2)]) hx hb dX1_valueBy_165 hl (k := 4) rfl ex15.symm (by decide) rfl (fun ls hl => ?_)
              refine lv_goto (tgt := 4) hx hb dX1_valueBy_168 (by decide) ?_
              exact ih4 y4_2 x15 m4_J H4 _ _ (ox_6 g4_0) (ox_147 g4_1) (ox_14 g4_2 f16) (ox_148 ie21 f7 f16) (ox_147 g4_1) (ox_6 g4_0) hP hD hS (lv_sub hl [2, 3, 4, 0] rfl) (ox_149 hM4 f16)
            · skip
              have f17 : 1 < y4_2.toInt := qi_nle c_13 rfl zc_1
              obtain ⟨x18, ex18⟩ : ∃ y : Int32, y = y4_2 + Int32.ofInt (-1) := ⟨_, rfl⟩
              have f19 : x18.toInt = y4_2.toInt + (-1) := (ox_152 (qi_add ex18 rfl (by decide) (ox_150 g4_0) (ox_151 g4_1)))
              refine lv_iinc (v := x18) (lv' := [(2, .int x18), (4, .int x8), (0, .ref (r 4)), (1, .ref (r 29)), (3, .int y4_3)]) hx hb dX1_valueBy_131 hl (k := 3) rfl ex18.symm (by decide) rfl (fun ls hl => ?_)
              refine lv_aload_n hx hb dX1_valueBy_134 rfl (lv_at hl 2 rfl) ?_
              refine gX_X1_15_4 hx hb hG hown hK hP dX1_valueBy_135 ?_
              refine lv_iload_n hx hb dX1_valueBy_138 rfl (lv_at hl 0 rfl) ?_
              refine lv_iconst (v := 1) hx hb dX1_valueBy_139 (by decide) ?_
              refine lv_isub hx hb dX1_valueBy_140 ?_
              refine lv_topi (fun x20 ex20 => ?_)
              have f21 : x20.toInt = y4_2.toInt + (-2) := (ox_155 (qi_sub ex20 rfl zc_1 (ox_153 g4_0 f19) (ox_154 g4_1 f19)) f19)
              refine lv_iload hx hb dX1_valueBy_141 (lv_at hl 1 rfl) ?_
              refine lv_sipush (v := 20000) hx hb dX1_valueBy_143 (by decide) ?_
              refine lv_isub hx hb dX1_valueBy_146 ?_
              have f22 : (-2147483648) ≤ x8.toInt ∧ x8.toInt ≤ 2147483647 := i32_rg _
              refine lv_topi (fun x23 ex23 => ?_)
              have f24 : x23.toInt = x8.toInt + (-20000) := (ox_158 (qi_sub ex23 rfl zc_20000 (ox_156 f10 f22) (ox_157 f10 f22)))
              refine lv_aload_n hx hb dX1_valueBy_147 rfl (lv_at hl 2 rfl) ?_
              refine gX_X1_15_4 hx hb hG hown hK hP dX1_valueBy_148 ?_
              refine lv_iload_n hx hb dX1_valueBy_151 rfl (lv_at hl 0 rfl) ?_
              refine lv_iconst (v := 1) hx hb dX1_valueBy_152 (by decide) ?_
              refine lv_isub hx hb dX1_valueBy_153 ?_
              refine lv_topi (fun x25 ex25 => ?_)
              have f26 : x25.toInt = y4_2.toInt + (-2) := (ox_155 (qi_sub ex25 rfl zc_1 (ox_153 g4_0 f19) (ox_154 g4_1 f19)) f19)
              refine ldX_31 (mm := y4_2.toInt + (-2)) hx hb hK hP f26 (ox_159 f17) (ox_160 g4_1) dX1_valueBy_154 (fun x27 => ?_)
              refine lv_aload_n hx hb dX1_valueBy_155 rfl (lv_at hl 2 rfl) ?_
              refine gX_X1_15_4 hx hb hG hown hK hP dX1_valueBy_156 ?_
              refine lv_iload_n hx hb dX1_valueBy_159 rfl (lv_at hl 0 rfl) ?_
              refine ldX_31 (mm := y4_2.toInt + (-1)) hx hb hK hP f19 (ox_161 f17) (ox_162 g4_1) dX1_valueBy_160 (fun x28 => ?_)
              refine va_calli (va_runS (As := [.int x23, .int x27, .int x28]) (rest := [.int x20, .ref (r 31)]) ⟨hx, hb, hml, hown, hG⟩ (kX1_joined l dC dI x23 x27 x28 H4.size) (va_cwS 3 hG (goodS gw770 gw771 gw133 gw772) rfl rfl rfl hd_X1_joined ⟨(Nat.le_of_ble_eq_true rfl), (Nat.le_of_ble_eq_true rfl)⟩) ⟨fbR, pR_in emptyP (emptyK hK)⟩ rfl rfl hl.1 rfl (lv_room (Nat.le_of_ble_eq_true rfl)) dX1_valueBy_161 ⟨(Nat.le_of_ble_eq_true rfl), (Nat.le_of_ble_eq_true rfl)⟩) hS (fun q hq h => absurd hq (Nat.not_lt.mpr h)) (fun q h => hA q (Nat.le_trans hS.1 h)) (fun r_30 u_ t_ H29 locs ht hvm hw hB hz1 hk1 hS => ?_)
              subst hw
              have hP := wk hP hk1
              refine stX_31 (mm := y4_2.toInt + (-2)) hx hb hK hP hD hS f21 (ox_159 f17) (ox_160 g4_1) dX1_valueBy_164 (fun J32 H31 locs hP hD hS => ?_)
              obtain ⟨x33, ex33⟩ : ∃ y : Int32, y = y4_3 + Int32.ofInt 1 := ⟨_, rfl⟩
              have f34 : x33.toInt = y4_3.toInt + 1 := (ox_13 (qi_add ex33 rfl (by decide) (ox_11 g4_2) (ox_146 g4_3)))
              refine lv_iinc (v := x33) (lv' := [(3, .int x33), (2, .int x18), (4, .int x8), (0, .ref (r 4)), (1, .ref (r 29))]) hx hb dX1_valueBy_165 hl (k := 4) rfl ex33.symm (by decide) rfl (fun ls hl => ?_)
              refine lv_goto (tgt := 4) hx hb dX1_valueBy_168 (by decide) ?_
              exact ih4 x18 x33 J32 H31 _ _ (ox_163 f17 f19) (ox_164 g4_1 f19) (ox_14 g4_2 f34) (ox_148 ie21 f7 f34) (ox_164 g4_1 f19) (ox_163 f17 f19) hP hD hS (lv_sub hl [3, 4, 1, 0] rfl) (ox_149 hM4 f34)
          · skip
            have f35 : x8.toInt = 20111 := qi_eq c_11 rfl zc_20111
            refine lv_iload_n hx hb dX1_valueBy_95 rfl (lv_at hl 3 rfl) ?_
            refine lv_if_le (tgt := 165) hx hb dX1_valueBy_96 (by decide) (fun c_36 => ?_) (fun c_36 => ?_)
            · skip
              have f37 : y4_2.toInt ≤ 0 := qi_le c_36 rfl zc_0
              obtain ⟨x38, ex38⟩ : ∃ y : Int32, y = y4_3 + Int32.ofInt 1 := ⟨_, rfl⟩
              have f39 : x38.toInt = y4_3.toInt + 1 := (ox_13 (qi_add ex38 rfl (by decide) (ox_11 g4_2) (ox_146 g4_3)))
              refine lv_iinc (v := x38) (lv' := [(3, .int x38), (4, .int x8), (0, .ref (r 4)), (1, .ref (r 29)), (2, .int y4_2)]) hx hb dX1_valueBy_165 hl (k := 4) rfl ex38.symm (by decide) rfl (fun ls hl => ?_)
              refine lv_goto (tgt := 4) hx hb dX1_valueBy_168 (by decide) ?_
              exact ih4 y4_2 x38 m4_J H4 _ _ (ox_6 g4_0) (ox_147 g4_1) (ox_14 g4_2 f39) (ox_148 ie21 f7 f39) (ox_147 g4_1) (ox_6 g4_0) hP hD hS (lv_sub hl [2, 3, 4, 0] rfl) (ox_149 hM4 f39)
            · skip
              have f40 : 0 < y4_2.toInt := qi_nle c_36 rfl zc_0
              refine lv_aload_n hx hb dX1_valueBy_99 rfl (lv_at hl 1 rfl) ?_
              refine gX_X1_15_4 hx hb hG hown hK hP dX1_valueBy_100 ?_
              refine lv_iload_n hx hb dX1_valueBy_103 rfl (lv_at hl 3 rfl) ?_
              refine lv_iconst (v := 1) hx hb dX1_valueBy_104 (by decide) ?_
              refine lv_isub hx hb dX1_valueBy_105 ?_
              refine lv_topi (fun x41 ex41 => ?_)
              have f42 : x41.toInt = y4_2.toInt + (-1) := (ox_167 (qi_sub ex41 rfl zc_1 (ox_165 g4_0) (ox_166 g4_1)))
              refine lv_aload_n hx hb dX1_valueBy_106 rfl (lv_at hl 1 rfl) ?_
              refine gX_X1_15_4 hx hb hG hown hK hP dX1_valueBy_107 ?_
              refine lv_iload_n hx hb dX1_valueBy_110 rfl (lv_at hl 3 rfl) ?_
              refine lv_iconst (v := 1) hx hb dX1_valueBy_111 (by decide) ?_
              refine lv_isub hx hb dX1_valueBy_112 ?_
              refine lv_topi (fun x43 ex43 => ?_)
              have f44 : x43.toInt = y4_2.toInt + (-1) := (ox_167 (qi_sub ex43 rfl zc_1 (ox_165 g4_0) (ox_166 g4_1)))
              refine ldX_31 (mm := y4_2.toInt + (-1)) hx hb hK hP f44 (ox_168 f40) (ox_162 g4_1) dX1_valueBy_113 (fun x45 => ?_)
              refine lv_if_ne (tgt := 121) hx hb dX1_valueBy_114 (by decide) (fun c_46 => ?_) (fun c_46 => ?_)
              · skip
                have f47 : x45.toInt ≠ 0 := qi_ne c_46 rfl zc_0
                refine lv_iconst (v := 0) hx hb dX1_valueBy_121 (by decide) ?_
                refine stX_31 (mm := y4_2.toInt + (-1)) hx hb hK hP hD hS f42 (ox_168 f40) (ox_162 g4_1) dX1_valueBy_122 (fun J49 H48 locs hP hD hS => ?_)
                refine lv_goto (tgt := 165) hx hb dX1_valueBy_123 (by decide) ?_
                obtain ⟨x50, ex50⟩ : ∃ y : Int32, y = y4_3 + Int32.ofInt 1 := ⟨_, rfl⟩
                have f51 : x50.toInt = y4_3.toInt + 1 := (ox_13 (qi_add ex50 rfl (by decide) (ox_11 g4_2) (ox_146 g4_3)))
                refine lv_iinc (v := x50) (lv' := [(3, .int x50), (4, .int x8), (0, .ref (r 4)), (1, .ref (r 29)), (2, .int y4_2)]) hx hb dX1_valueBy_165 hl (k := 4) rfl ex50.symm (by decide) rfl (fun ls hl => ?_)
                refine lv_goto (tgt := 4) hx hb dX1_valueBy_168 (by decide) ?_
                exact ih4 y4_2 x50 J49 H48 _ _ (ox_6 g4_0) (ox_147 g4_1) (ox_14 g4_2 f51) (ox_148 ie21 f7 f51) (ox_147 g4_1) (ox_6 g4_0) hP hD hS (lv_sub hl [2, 3, 4, 0] rfl) (ox_149 hM4 f51)
              · skip
                have f52 : x45.toInt = 0 := qi_eq c_46 rfl zc_0
                refine lv_iconst (v := 1) hx hb dX1_valueBy_117 (by decide) ?_
                refine lv_goto (tgt := 122) hx hb dX1_valueBy_118 (by decide) ?_
                refine stX_31 (mm := y4_2.toInt + (-1)) hx hb hK hP hD hS f42 (ox_168 f40) (ox_162 g4_1) dX1_valueBy_122 (fun J54 H53 locs hP hD hS => ?_)
                refine lv_goto (tgt := 165) hx hb dX1_valueBy_123 (by decide) ?_
                obtain ⟨x55, ex55⟩ : ∃ y : Int32, y = y4_3 + Int32.ofInt 1 := ⟨_, rfl⟩
                have f56 : x55.toInt = y4_3.toInt + 1 := (ox_13 (qi_add ex55 rfl (by decide) (ox_11 g4_2) (ox_146 g4_3)))
                refine lv_iinc (v := x55) (lv' := [(3, .int x55), (4, .int x8), (0, .ref (r 4)), (1, .ref (r 29)), (2, .int y4_2)]) hx hb dX1_valueBy_165 hl (k := 4) rfl ex55.symm (by decide) rfl (fun ls hl => ?_)
                refine lv_goto (tgt := 4) hx hb dX1_valueBy_168 (by decide) ?_
                exact ih4 y4_2 x55 J54 H53 _ _ (ox_6 g4_0) (ox_147 g4_1) (ox_14 g4_2 f56) (ox_148 ie21 f7 f56) (ox_147 g4_1) (ox_6 g4_0) hP hD hS (lv_sub hl [2, 3, 4, 0] rfl) (ox_149 hM4 f56)
        · skip
          have f57 : x8.toInt < 20000 := qi_nle c_9 zc_20000 rfl
          refine lv_iload hx hb dX1_valueBy_28 (lv_at hl 0 rfl) ?_
          refine lv_sipush (v := 10000) hx hb dX1_valueBy_30 (by decide) ?_
          refine lv_isub hx hb dX1_valueBy_33 ?_
          refine lv_topi (fun x58 ex58 => ?_)
          refine lv_istore (lv' := [(5, .int x58), (4, .int x8), (0, .ref (r 4)), (1, .ref (r 29)), (2, .int y4_2), (3, .int y4_3)]) hx hb dX1_valueBy_34 hl (by decide) rfl (fun ls hl => ?_)
          refine lv_iload hx hb dX1_valueBy_36 (lv_at hl 0 rfl) ?_
          refine lv_if_lt (tgt := 52) hx hb dX1_valueBy_38 (by decide) (fun c_59 => ?_) (fun c_59 => ?_)
          · skip
            have f60 : x58.toInt < 0 := qi_lt c_59 rfl zc_0
            refine lv_iconst (v := 0) hx hb dX1_valueBy_52 (by decide) ?_
            refine lv_istore (lv' := [(6, .int 0), (5, .int x58), (4, .int x8), (0, .ref (r 4)), (1, .ref (r 29)), (2, .int y4_2), (3, .int y4_3)]) hx hb dX1_valueBy_53 hl (by decide) rfl (fun ls hl => ?_)
            refine lv_iload_n hx hb dX1_valueBy_55 rfl (lv_at hl 5 rfl) ?_
            refine lv_bipush (v := 30) hx hb dX1_valueBy_56 (by decide) ?_
            refine lv_icmp_ge (tgt := 84) hx hb dX1_valueBy_58 (by decide) (fun c_61 => ?_) (fun c_61 => ?_)
            · skip
              have f62 : 30 ≤ y4_2.toInt := qi_le c_61 zc_30 rfl
              refine lv_goto (tgt := 165) hx hb dX1_valueBy_84 (by decide) ?_
              obtain ⟨x63, ex63⟩ : ∃ y : Int32, y = y4_3 + Int32.ofInt 1 := ⟨_, rfl⟩
              have f64 : x63.toInt = y4_3.toInt + 1 := (ox_13 (qi_add ex63 rfl (by decide) (ox_11 g4_2) (ox_146 g4_3)))
              refine lv_iinc (v := x63) (lv' := [(3, .int x63), (6, .int 0), (5, .int x58), (4, .int x8), (0, .ref (r 4)), (1, .ref (r 29)), (2, .int y4_2)]) hx hb dX1_valueBy_165 hl (k := 6) rfl ex63.symm (by decide) rfl (fun ls hl => ?_)
              refine lv_goto (tgt := 4) hx hb dX1_valueBy_168 (by decide) ?_
              exact ih4 y4_2 x63 m4_J H4 _ _ (ox_6 g4_0) (ox_147 g4_1) (ox_14 g4_2 f64) (ox_148 ie21 f7 f64) (ox_147 g4_1) (ox_6 g4_0) hP hD hS (lv_sub hl [4, 5, 6, 0] rfl) (ox_149 hM4 f64)
            · skip
              have f65 : y4_2.toInt < 30 := qi_nle c_61 zc_30 rfl
              refine lv_aload_n hx hb dX1_valueBy_61 rfl (lv_at hl 3 rfl) ?_
              refine gX_X1_15_4 hx hb hG hown hK hP dX1_valueBy_62 ?_
              refine lv_iload_n hx hb dX1_valueBy_65 rfl (lv_at hl 5 rfl) ?_
              refine lv_iload hx hb dX1_valueBy_66 (lv_at hl 0 rfl) ?_
              refine lv_if_eq (tgt := 78) hx hb dX1_valueBy_68 (by decide) (fun c_66 => ?_) (fun c_66 => absurd (by decide) c_66)
              refine lv_iload hx hb dX1_valueBy_78 (lv_at hl 2 rfl) ?_
              refine stX_31 (mm := y4_2.toInt) hx hb hK hP hD hS rfl (ox_9 g4_0) (ox_169 f65) dX1_valueBy_80 (fun J68 H67 locs hP hD hS => ?_)
              obtain ⟨x69, ex69⟩ : ∃ y : Int32, y = y4_2 + Int32.ofInt 1 := ⟨_, rfl⟩
              have f70 : x69.toInt = y4_2.toInt + 1 := (ox_13 (qi_add ex69 rfl (by decide) (ox_11 g4_0) (ox_170 g4_1)))
              refine lv_iinc (v := x69) (lv' := [(2, .int x69), (6, .int 0), (5, .int x58), (4, .int x8), (0, .ref (r 4)), (1, .ref (r 29)), (3, .int y4_3)]) hx hb dX1_valueBy_81 hl (k := 5) rfl ex69.symm (by decide) rfl (fun ls hl => ?_)
              refine lv_goto (tgt := 165) hx hb dX1_valueBy_84 (by decide) ?_
              obtain ⟨x71, ex71⟩ : ∃ y : Int32, y = y4_3 + Int32.ofInt 1 := ⟨_, rfl⟩
              have f72 : x71.toInt = y4_3.toInt + 1 := (ox_13 (qi_add ex71 rfl (by decide) (ox_11 g4_2) (ox_146 g4_3)))
              refine lv_iinc (v := x71) (lv' := [(3, .int x71), (2, .int x69), (6, .int 0), (5, .int x58), (4, .int x8), (0, .ref (r 4)), (1, .ref (r 29))]) hx hb dX1_valueBy_165 hl (k := 6) rfl ex71.symm (by decide) rfl (fun ls hl => ?_)
              refine lv_goto (tgt := 4) hx hb dX1_valueBy_168 (by decide) ?_
              exact ih4 x69 x71 J68 H67 _ _ (ox_14 g4_0 f70) (ox_171 f65 f70) (ox_14 g4_2 f72) (ox_148 ie21 f7 f72) (ox_171 f65 f70) (ox_14 g4_0 f70) hP hD hS (lv_sub hl [5, 6, 1, 0] rfl) (ox_149 hM4 f72)
          · skip
            have f73 : 0 ≤ x58.toInt := qi_nlt c_59 rfl zc_0
            refine lv_iload hx hb dX1_valueBy_41 (lv_at hl 0 rfl) ?_
            refine lv_aload_n hx hb dX1_valueBy_43 rfl (lv_at hl 3 rfl) ?_
            refine va_alen (v := 7) hx hb hK hP 29 18 rfl rfl (show Int32.ofNat 7 = 7 by decide) dX1_valueBy_44 ?_
            refine lv_icmp_ge (tgt := 52) hx hb dX1_valueBy_45 (by decide) (fun c_74 => ?_) (fun c_74 => ?_)
            · skip
              have f75 : 7 ≤ x58.toInt := qi_le c_74 zc_7 rfl
              refine lv_iconst (v := 0) hx hb dX1_valueBy_52 (by decide) ?_
              refine lv_istore (lv' := [(6, .int 0), (5, .int x58), (4, .int x8), (0, .ref (r 4)), (1, .ref (r 29)), (2, .int y4_2), (3, .int y4_3)]) hx hb dX1_valueBy_53 hl (by decide) rfl (fun ls hl => ?_)
              refine lv_iload_n hx hb dX1_valueBy_55 rfl (lv_at hl 5 rfl) ?_
              refine lv_bipush (v := 30) hx hb dX1_valueBy_56 (by decide) ?_
              refine lv_icmp_ge (tgt := 84) hx hb dX1_valueBy_58 (by decide) (fun c_76 => ?_) (fun c_76 => ?_)
              · skip
                have f77 : 30 ≤ y4_2.toInt := qi_le c_76 zc_30 rfl
                refine lv_goto (tgt := 165) hx hb dX1_valueBy_84 (by decide) ?_
                obtain ⟨x78, ex78⟩ : ∃ y : Int32, y = y4_3 + Int32.ofInt 1 := ⟨_, rfl⟩
                have f79 : x78.toInt = y4_3.toInt + 1 := (ox_13 (qi_add ex78 rfl (by decide) (ox_11 g4_2) (ox_146 g4_3)))
                refine lv_iinc (v := x78) (lv' := [(3, .int x78), (6, .int 0), (5, .int x58), (4, .int x8), (0, .ref (r 4)), (1, .ref (r 29)), (2, .int y4_2)]) hx hb dX1_valueBy_165 hl (k := 6) rfl ex78.symm (by decide) rfl (fun ls hl => ?_)
                refine lv_goto (tgt := 4) hx hb dX1_valueBy_168 (by decide) ?_
                exact ih4 y4_2 x78 m4_J H4 _ _ (ox_6 g4_0) (ox_147 g4_1) (ox_14 g4_2 f79) (ox_148 ie21 f7 f79) (ox_147 g4_1) (ox_6 g4_0) hP hD hS (lv_sub hl [4, 5, 6, 0] rfl) (ox_149 hM4 f79)
              · skip
                have f80 : y4_2.toInt < 30 := qi_nle c_76 zc_30 rfl
                refine lv_aload_n hx hb dX1_valueBy_61 rfl (lv_at hl 3 rfl) ?_
                refine gX_X1_15_4 hx hb hG hown hK hP dX1_valueBy_62 ?_
                refine lv_iload_n hx hb dX1_valueBy_65 rfl (lv_at hl 5 rfl) ?_
                refine lv_iload hx hb dX1_valueBy_66 (lv_at hl 0 rfl) ?_
                refine lv_if_eq (tgt := 78) hx hb dX1_valueBy_68 (by decide) (fun c_81 => ?_) (fun c_81 => absurd (by decide) c_81)
                refine lv_iload hx hb dX1_valueBy_78 (lv_at hl 2 rfl) ?_
                refine stX_31 (mm := y4_2.toInt) hx hb hK hP hD hS rfl (ox_9 g4_0) (ox_169 f80) dX1_valueBy_80 (fun J83 H82 locs hP hD hS => ?_)
                obtain ⟨x84, ex84⟩ : ∃ y : Int32, y = y4_2 + Int32.ofInt 1 := ⟨_, rfl⟩
                have f85 : x84.toInt = y4_2.toInt + 1 := (ox_13 (qi_add ex84 rfl (by decide) (ox_11 g4_0) (ox_170 g4_1)))
                refine lv_iinc (v := x84) (lv' := [(2, .int x84), (6, .int 0), (5, .int x58), (4, .int x8), (0, .ref (r 4)), (1, .ref (r 29)), (3, .int y4_3)]) hx hb dX1_valueBy_81 hl (k := 5) rfl ex84.symm (by decide) rfl (fun ls hl => ?_)
                refine lv_goto (tgt := 165) hx hb dX1_valueBy_84 (by decide) ?_
                obtain ⟨x86, ex86⟩ : ∃ y : Int32, y = y4_3 + Int32.ofInt 1 := ⟨_, rfl⟩
                have f87 : x86.toInt = y4_3.toInt + 1 := (ox_13 (qi_add ex86 rfl (by decide) (ox_11 g4_2) (ox_146 g4_3)))
                refine lv_iinc (v := x86) (lv' := [(3, .int x86), (2, .int x84), (6, .int 0), (5, .int x58), (4, .int x8), (0, .ref (r 4)), (1, .ref (r 29))]) hx hb dX1_valueBy_165 hl (k := 6) rfl ex86.symm (by decide) rfl (fun ls hl => ?_)
                refine lv_goto (tgt := 4) hx hb dX1_valueBy_168 (by decide) ?_
                exact ih4 x84 x86 J83 H82 _ _ (ox_14 g4_0 f85) (ox_171 f80 f85) (ox_14 g4_2 f87) (ox_148 ie21 f7 f87) (ox_171 f80 f85) (ox_14 g4_0 f85) hP hD hS (lv_sub hl [5, 6, 1, 0] rfl) (ox_149 hM4 f87)
            · skip
              have f88 : x58.toInt < 7 := qi_nle c_74 zc_7 rfl
              refine lv_iconst (v := 1) hx hb dX1_valueBy_48 (by decide) ?_
              refine lv_goto (tgt := 53) hx hb dX1_valueBy_49 (by decide) ?_
              refine lv_istore (lv' := [(6, .int 1), (5, .int x58), (4, .int x8), (0, .ref (r 4)), (1, .ref (r 29)), (2, .int y4_2), (3, .int y4_3)]) hx hb dX1_valueBy_53 hl (by decide) rfl (fun ls hl => ?_)
              refine lv_iload_n hx hb dX1_valueBy_55 rfl (lv_at hl 5 rfl) ?_
              refine lv_bipush (v := 30) hx hb dX1_valueBy_56 (by decide) ?_
              refine lv_icmp_ge (tgt := 84) hx hb dX1_valueBy_58 (by decide) (fun c_89 => ?_) (fun c_89 => ?_)
              · skip
                have f90 : 30 ≤ y4_2.toInt := qi_le c_89 zc_30 rfl
                refine lv_goto (tgt := 165) hx hb dX1_valueBy_84 (by decide) ?_
                obtain ⟨x91, ex91⟩ : ∃ y : Int32, y = y4_3 + Int32.ofInt 1 := ⟨_, rfl⟩
                have f92 : x91.toInt = y4_3.toInt + 1 := (ox_13 (qi_add ex91 rfl (by decide) (ox_11 g4_2) (ox_146 g4_3)))
                refine lv_iinc (v := x91) (lv' := [(3, .int x91), (6, .int 1), (5, .int x58), (4, .int x8), (0, .ref (r 4)), (1, .ref (r 29)), (2, .int y4_2)]) hx hb dX1_valueBy_165 hl (k := 6) rfl ex91.symm (by decide) rfl (fun ls hl => ?_)
                refine lv_goto (tgt := 4) hx hb dX1_valueBy_168 (by decide) ?_
                exact ih4 y4_2 x91 m4_J H4 _ _ (ox_6 g4_0) (ox_147 g4_1) (ox_14 g4_2 f92) (ox_148 ie21 f7 f92) (ox_147 g4_1) (ox_6 g4_0) hP hD hS (lv_sub hl [4, 5, 6, 0] rfl) (ox_149 hM4 f92)
              · skip
                have f93 : y4_2.toInt < 30 := qi_nle c_89 zc_30 rfl
                refine lv_aload_n hx hb dX1_valueBy_61 rfl (lv_at hl 3 rfl) ?_
                refine gX_X1_15_4 hx hb hG hown hK hP dX1_valueBy_62 ?_
                refine lv_iload_n hx hb dX1_valueBy_65 rfl (lv_at hl 5 rfl) ?_
                refine lv_iload hx hb dX1_valueBy_66 (lv_at hl 0 rfl) ?_
                refine lv_if_eq (tgt := 78) hx hb dX1_valueBy_68 (by decide) (fun c_94 => absurd c_94 (by decide)) (fun c_94 => ?_)
                refine lv_aload_n hx hb dX1_valueBy_71 rfl (lv_at hl 4 rfl) ?_
                refine lv_iload hx hb dX1_valueBy_72 (lv_at hl 1 rfl) ?_
                refine ldX_29 (mm := x58.toInt) hx hb hK hP rfl (ox_172 f73 f88) (ox_173 f73 f88) dX1_valueBy_74 (fun x95 => ?_)
                refine lv_goto (tgt := 80) hx hb dX1_valueBy_75 (by decide) ?_
                refine stX_31 (mm := y4_2.toInt) hx hb hK hP hD hS rfl (ox_9 g4_0) (ox_169 f93) dX1_valueBy_80 (fun J97 H96 locs hP hD hS => ?_)
                obtain ⟨x98, ex98⟩ : ∃ y : Int32, y = y4_2 + Int32.ofInt 1 := ⟨_, rfl⟩
                have f99 : x98.toInt = y4_2.toInt + 1 := (ox_13 (qi_add ex98 rfl (by decide) (ox_11 g4_0) (ox_170 g4_1)))
                refine lv_iinc (v := x98) (lv' := [(2, .int x98), (6, .int 1), (5, .int x58), (4, .int x8), (0, .ref (r 4)), (1, .ref (r 29)), (3, .int y4_3)]) hx hb dX1_valueBy_81 hl (k := 5) rfl ex98.symm (by decide) rfl (fun ls hl => ?_)
                refine lv_goto (tgt := 165) hx hb dX1_valueBy_84 (by decide) ?_
                obtain ⟨x100, ex100⟩ : ∃ y : Int32, y = y4_3 + Int32.ofInt 1 := ⟨_, rfl⟩
                have f101 : x100.toInt = y4_3.toInt + 1 := (ox_13 (qi_add ex100 rfl (by decide) (ox_11 g4_2) (ox_146 g4_3)))
                refine lv_iinc (v := x100) (lv' := [(3, .int x100), (2, .int x98), (6, .int 1), (5, .int x58), (4, .int x8), (0, .ref (r 4)), (1, .ref (r 29))]) hx hb dX1_valueBy_165 hl (k := 6) rfl ex100.symm (by decide) rfl (fun ls hl => ?_)
                refine lv_goto (tgt := 4) hx hb dX1_valueBy_168 (by decide) ?_
                exact ih4 x98 x100 J97 H96 _ _ (ox_14 g4_0 f99) (ox_171 f93 f99) (ox_14 g4_2 f101) (ox_148 ie21 f7 f101) (ox_171 f93 f99) (ox_14 g4_0 f99) hP hD hS (lv_sub hl [5, 6, 1, 0] rfl) (ox_149 hM4 f101)
  exact L4 (-1 * (0 : Int32).toInt + 300 + 1).toNat 0 0 J s.heap _ _ (ox_27 zc_0) (ox_174 zc_0) (ox_27 zc_0) (ox_175 zc_0) (ox_174 zc_0) (ox_27 zc_0) hP hD hS (lv_sub hl [2, 3, 1, 0] rfl) (mlt (ox_176 zc_0))
set_option maxHeartbeats 4000000 in
set_option maxRecDepth 100000 in
theorem kX4_gladnessBy (l : Launch) (dC : Nat → ClassId) (dI : Nat → Nat → Nat) (r : Nat → Nat) (ct : Nat → ClassId) (i_tapeLength i_time i_lyingCount i_rd_fault i_rd_token i_rd_kind i_sc_count i_sc_at i_A_tunes i_A_houses i_fA_length i_B_tunes i_B_houses i_fB_length i_acts_done i_acts_undone i_kn_count : Int32) (f_boxes f_boxKept f_trial f_offers f_A_noteCounts f_A_notes f_B_noteCounts f_B_notes f_now_where f_now_worn f_ahead_where f_ahead_worn f_acts_rows f_kn_tunes f_kn_noteTimes : Nat → Int32) (J : Nat → Nat → Int32) (L : Nat → Nat → Int64) (p0 p1 p2 p3 p4 p5 : Int32) (sz : Nat) (hI : (IX i_tapeLength i_time i_lyingCount i_rd_token i_sc_count i_sc_at i_A_tunes i_A_houses i_fA_length i_B_tunes i_B_houses i_fB_length i_acts_done i_acts_undone i_kn_count f_boxes f_A_noteCounts f_A_notes f_B_noteCounts f_B_notes f_now_worn f_ahead_worn f_acts_rows f_kn_tunes)) (hp0 : (0 : Int) ≤ p2.toInt) (hp1 : p2.toInt + 1 ≤ i_A_tunes.toInt) (hp2 : (0 : Int) ≤ p3.toInt) (hp3 : p3.toInt ≤ (99 : Int)) (hz_p1 : 0 ≤ p1.toInt ∧ p1.toInt ≤ 1) : Met l yX4_gladnessBy (.code yX4_gladnessBy cX4_gladnessBy 7 (some .int) :: GW) { frames := 6, cells := 0, slots := 0, locals := 228 } (va_Pc [.ref (r 3), .int p0, .int p1, .int p2, .int p3, .int p4, .int p5] (pW (dC, dI) (WX r ct i_tapeLength i_time i_lyingCount i_rd_fault i_rd_token i_rd_kind i_sc_count i_sc_at i_A_tunes i_A_houses i_fA_length i_B_tunes i_B_houses i_fB_length i_acts_done i_acts_undone i_kn_count f_boxes f_boxKept f_trial f_offers f_A_noteCounts f_A_notes f_B_noteCounts f_B_notes f_now_where f_now_worn f_ahead_where f_ahead_worn f_acts_rows f_kn_tunes f_kn_noteTimes J L) (TX ct) sz)) (va_Qi (fun (r0 : Int32) (u : Int32) => r0 = u) (fun (u : Int32) (t : State) => ∃ (n_J : Nat → Nat → Int32), va_P (dC, dI) vwCl (WX r ct i_tapeLength i_time i_lyingCount i_rd_fault i_rd_token i_rd_kind i_sc_count i_sc_at i_A_tunes i_A_houses i_fA_length i_B_tunes i_B_houses i_fB_length i_acts_done i_acts_undone i_kn_count f_boxes f_boxKept f_trial f_offers f_A_noteCounts f_A_notes f_B_noteCounts f_B_notes f_now_where f_now_worn f_ahead_where f_ahead_worn f_acts_rows f_kn_tunes f_kn_noteTimes n_J L) t.heap ∧ va_D (va_A (WX r ct i_tapeLength i_time i_lyingCount i_rd_fault i_rd_token i_rd_kind i_sc_count i_sc_at i_A_tunes i_A_houses i_fA_length i_B_tunes i_B_houses i_fB_length i_acts_done i_acts_undone i_kn_count f_boxes f_boxKept f_trial f_offers f_A_noteCounts f_A_notes f_B_noteCounts f_B_notes f_now_where f_now_worn f_ahead_where f_ahead_worn f_acts_rows f_kn_tunes f_kn_noteTimes J L) sz) (WX r ct i_tapeLength i_time i_lyingCount i_rd_fault i_rd_token i_rd_kind i_sc_count i_sc_at i_A_tunes i_A_houses i_fA_length i_B_tunes i_B_houses i_fB_length i_acts_done i_acts_undone i_kn_count f_boxes f_boxKept f_trial f_offers f_A_noteCounts f_A_notes f_B_noteCounts f_B_notes f_now_where f_now_worn f_ahead_where f_ahead_worn f_acts_rows f_kn_tunes f_kn_noteTimes n_J L) ∧ (IX i_tapeLength i_time i_lyingCount i_rd_token i_sc_count i_sc_at i_A_tunes i_A_houses i_fA_length i_B_tunes i_B_houses i_fB_length i_acts_done i_acts_undone i_kn_count f_boxes f_A_noteCounts f_A_notes f_B_noteCounts f_B_notes f_now_worn f_ahead_worn f_acts_rows f_kn_tunes) ∧ (((p1.toInt = (0 : Int))) ∨ ((p1.toInt ≠ (0 : Int)) ∧ ((1 : Int) ≤ p1.toInt)))) (va_A (WX r ct i_tapeLength i_time i_lyingCount i_rd_fault i_rd_token i_rd_kind i_sc_count i_sc_at i_A_tunes i_A_houses i_fA_length i_B_tunes i_B_houses i_fB_length i_acts_done i_acts_undone i_kn_count f_boxes f_boxKept f_trial f_offers f_A_noteCounts f_A_notes f_B_noteCounts f_B_notes f_now_where f_now_worn f_ahead_where f_ahead_worn f_acts_rows f_kn_tunes f_kn_noteTimes J L) sz)) 0 0 (va_A (WX r ct i_tapeLength i_time i_lyingCount i_rd_fault i_rd_token i_rd_kind i_sc_count i_sc_at i_A_tunes i_A_houses i_fA_length i_B_tunes i_B_houses i_fB_length i_acts_done i_acts_undone i_kn_count f_boxes f_boxKept f_trial f_offers f_A_noteCounts f_A_notes f_B_noteCounts f_B_notes f_now_where f_now_worn f_ahead_where f_ahead_worn f_acts_rows f_kn_tunes f_kn_noteTimes J L) sz) := by
  refine Met.ofW (cc := cX4_gladnessBy) (maxL := 7) (ret := (some .int)) (by decide) rfl ?_
  intro p e s m args below meth c0 s₁ B hml hv
  obtain ⟨rfl, hsz, hP, hK, hD0⟩ := hv
  have hx := B.exec
  have hb := B.bytes
  have hr := B.returns
  have hts := atoms_spec (ws := .code yX4_gladnessBy cX4_gladnessBy 7 (some .int) :: GW) B.pre
  have hG : ∀ w ∈ GW, w.before _ s = true := fun w h => hts w (List.mem_cons_of_mem _ h)
  have hown : s.vm.findClass RX4 = some m.cls := findClass_of_methodNamed B.named
  subst hsz
  have hD := hD0.self (sz := s.heap.size)
  generalize hAe : va_A (WX r ct i_tapeLength i_time i_lyingCount i_rd_fault i_rd_token i_rd_kind i_sc_count i_sc_at i_A_tunes i_A_houses i_fA_length i_B_tunes i_B_houses i_fB_length i_acts_done i_acts_undone i_kn_count f_boxes f_boxKept f_trial f_offers f_A_noteCounts f_A_notes f_B_noteCounts f_B_notes f_now_where f_now_worn f_ahead_where f_ahead_worn f_acts_rows f_kn_tunes f_kn_noteTimes J L) s.heap.size = A at hD ⊢
  have hA : ∀ q : Nat, s.heap.size ≤ q → A q := fun q h => by rw [← hAe]; exact Or.inr h
  have hS : va_S A s.heap s.heap [] := va_S.rf
  have hP : va_P (dC, dI) vwCl (WX r ct i_tapeLength i_time i_lyingCount i_rd_fault i_rd_token i_rd_kind i_sc_count i_sc_at i_A_tunes i_A_houses i_fA_length i_B_tunes i_B_houses i_fB_length i_acts_done i_acts_undone i_kn_count f_boxes f_boxKept f_trial f_offers f_A_noteCounts f_A_notes f_B_noteCounts f_B_notes f_now_where f_now_worn f_ahead_where f_ahead_worn f_acts_rows f_kn_tunes f_kn_noteTimes J L) s.heap := hP
  have hl := lv_entry ([.ref (r 3), .int p0, .int p1, .int p2, .int p3, .int p4, .int p5]) (n := 7) (Nat.le_of_ble_eq_true rfl)
  rw [lg_entry_eq]
  generalize (lg_sl ([.ref (r 3), .int p0, .int p1, .int p2, .int p3, .int p4, .int p5]) ++ List.replicate (7 - (lg_sl ([.ref (r 3), .int p0, .int p1, .int p2, .int p3, .int p4, .int p5])).length) Slot.unset).toArray = ls at hl ⊢
  have hl : lv_has ls 7 [(0, .ref (r 3)), (1, .int p0), (2, .int p1), (3, .int p2), (4, .int p3), (5, .int p4), (6, .int p5)] := hl
  refine nameQ (fun Q hQ => ?_)
  obtain ⟨ie0, ie1, ie2, ie3, ie4, ie5, ie6, ie7, ie8, ie9, ie10, ie11, ie12, ie13, ie14, ie15, ie16, ie17, ie18, ie19, ie20, ie21, ie22, ie23, ie24, ie25, ie26, ie27, ie28, ie29, ie30, ie31, ie32, ie33, ie34, ie35, ie36, ie37, ie38, ie39⟩ := id hI
  refine lv_aload_n hx hb dX4_gladnessBy_0 rfl (lv_at hl 0 rfl) ?_
  refine gX_X4_43_3 hx hb hG hown hK hP dX4_gladnessBy_1 ?_
  refine lv_iconst (v := 0) hx hb dX4_gladnessBy_4 (by decide) ?_
  refine lv_iload_n hx hb dX4_gladnessBy_5 rfl (lv_at hl 1 rfl) ?_
  refine stX_29 (mm := (0 : Int)) hx hb hK hP hD hS zc_0 (ox_143) (ox_177) dX4_gladnessBy_6 (fun J2 H1 locs hP hD hS => ?_)
  refine lv_aload_n hx hb dX4_gladnessBy_7 rfl (lv_at hl 0 rfl) ?_
  refine gX_X4_43_3 hx hb hG hown hK hP dX4_gladnessBy_8 ?_
  refine lv_iconst (v := 1) hx hb dX4_gladnessBy_11 (by decide) ?_
  refine lv_iload_n hx hb dX4_gladnessBy_12 rfl (lv_at hl 2 rfl) ?_
  refine lv_if_eq (tgt := 20) hx hb dX4_gladnessBy_13 (by decide) (fun c_3 => ?_) (fun c_3 => ?_)
  · skip
    have f4 : p1.toInt = 0 := qi_eq c_3 rfl zc_0
    refine lv_iconst (v := 0) hx hb dX4_gladnessBy_20 (by decide) ?_
    refine stX_29 (mm := (1 : Int)) hx hb hK hP hD hS zc_1 (ox_178) (ox_179) dX4_gladnessBy_21 (fun J6 H5 locs hP hD hS => ?_)
    refine lv_aload_n hx hb dX4_gladnessBy_22 rfl (lv_at hl 0 rfl) ?_
    refine gX_X4_43_3 hx hb hG hown hK hP dX4_gladnessBy_23 ?_
    refine lv_iconst (v := 2) hx hb dX4_gladnessBy_26 (by decide) ?_
    refine lv_aload_n hx hb dX4_gladnessBy_27 rfl (lv_at hl 0 rfl) ?_
    refine lv_iload_n hx hb dX4_gladnessBy_28 rfl (lv_at hl 3 rfl) ?_
    refine lv_iload hx hb dX4_gladnessBy_29 (lv_at hl 4 rfl) ?_
    refine va_calli (va_runV (As := [.int p2, .int p3]) (rest := [.int 2, .ref (r 29)]) ⟨hx, hb, hml, hown, hG⟩ (kX4_left l dC dI r ct i_tapeLength i_time i_lyingCount i_rd_fault i_rd_token i_rd_kind i_sc_count i_sc_at i_A_tunes i_A_houses i_fA_length i_B_tunes i_B_houses i_fB_length i_acts_done i_acts_undone i_kn_count f_boxes f_boxKept f_trial f_offers f_A_noteCounts f_A_notes f_B_noteCounts f_B_notes f_now_where f_now_worn f_ahead_where f_ahead_worn f_acts_rows f_kn_tunes f_kn_noteTimes J6 L p2 p3 H5.size hI (ox_54 hp0 hp1) (ox_55 hp1) (ox_58 hp2 hp3) (ox_59 hp2 hp3)) (cwV 2 hG (goodV gw711 gw700 gw701 gw132 gw702) rfl rfl rfl hd_X4_left ⟨(Nat.le_of_ble_eq_true rfl), (Nat.le_of_ble_eq_true rfl)⟩) ⟨fbR, va_recv hK hP (ci := 3) (q0 := 3) rfl rfl, pR_in hP hK⟩ rfl rfl hl.1 rfl (lv_room (Nat.le_of_ble_eq_true rfl)) dX4_gladnessBy_31 ⟨(Nat.le_of_ble_eq_true rfl), (Nat.le_of_ble_eq_true rfl)⟩) hS (fun q hq h => absurd hq (Nat.not_lt.mpr h)) (fun q h => hA q (Nat.le_trans hS.1 h)) (fun r_8 u_ t_ H7 locs ht hvm hw hB hz1 hk1 hS => ?_)
    subst hw
    have hP := wk hP hk1
    obtain ⟨f9, f10, f11, f12, f13⟩ := hB
    refine stX_29 (mm := (2 : Int)) hx hb hK hP hD hS zc_2 (ox_180) (ox_181) dX4_gladnessBy_34 (fun J15 H14 locs hP hD hS => ?_)
    refine lv_aload_n hx hb dX4_gladnessBy_35 rfl (lv_at hl 0 rfl) ?_
    refine gX_X4_43_3 hx hb hG hown hK hP dX4_gladnessBy_36 ?_
    refine lv_iconst (v := 3) hx hb dX4_gladnessBy_39 (by decide) ?_
    refine lv_iload hx hb dX4_gladnessBy_40 (lv_at hl 4 rfl) ?_
    refine stX_29 (mm := (3 : Int)) hx hb hK hP hD hS zc_3 (ox_182) (ox_183) dX4_gladnessBy_42 (fun J17 H16 locs hP hD hS => ?_)
    refine lv_aload_n hx hb dX4_gladnessBy_43 rfl (lv_at hl 0 rfl) ?_
    refine gX_X4_43_3 hx hb hG hown hK hP dX4_gladnessBy_44 ?_
    refine lv_iconst (v := 4) hx hb dX4_gladnessBy_47 (by decide) ?_
    refine lv_iload hx hb dX4_gladnessBy_48 (lv_at hl 5 rfl) ?_
    refine stX_29 (mm := (4 : Int)) hx hb hK hP hD hS zc_4 (ox_184) (ox_185) dX4_gladnessBy_50 (fun J19 H18 locs hP hD hS => ?_)
    refine lv_aload_n hx hb dX4_gladnessBy_51 rfl (lv_at hl 0 rfl) ?_
    refine gX_X4_43_3 hx hb hG hown hK hP dX4_gladnessBy_52 ?_
    refine lv_iconst (v := 5) hx hb dX4_gladnessBy_55 (by decide) ?_
    refine lv_aload_n hx hb dX4_gladnessBy_56 rfl (lv_at hl 0 rfl) ?_
    refine gX_X4_15_3 hx hb hG hown hK hP dX4_gladnessBy_57 ?_
    refine lv_iload_n hx hb dX4_gladnessBy_60 rfl (lv_at hl 3 rfl) ?_
    refine ldX_23 (mm := p2.toInt) hx hb hK hP rfl (ox_33 hp0 hp1) (ox_34 ie13 hp1) dX4_gladnessBy_61 (fun x20 => ?_)
    refine stX_29 (mm := (5 : Int)) hx hb hK hP hD hS zc_5 (ox_186) (ox_187) dX4_gladnessBy_62 (fun J22 H21 locs hP hD hS => ?_)
    refine lv_aload_n hx hb dX4_gladnessBy_63 rfl (lv_at hl 0 rfl) ?_
    refine gX_X4_43_3 hx hb hG hown hK hP dX4_gladnessBy_64 ?_
    refine lv_bipush (v := 6) hx hb dX4_gladnessBy_67 (by decide) ?_
    refine lv_iload hx hb dX4_gladnessBy_69 (lv_at hl 6 rfl) ?_
    refine stX_29 (mm := (6 : Int)) hx hb hK hP hD hS zc_6 (ox_188) (ox_189) dX4_gladnessBy_71 (fun J24 H23 locs hP hD hS => ?_)
    refine lv_sipush (v := (-9999)) hx hb dX4_gladnessBy_72 (by decide) ?_
    refine lv_sipush (v := 9999) hx hb dX4_gladnessBy_75 (by decide) ?_
    refine lv_aload_n hx hb dX4_gladnessBy_78 rfl (lv_at hl 0 rfl) ?_
    refine gX_X4_37_3 hx hb hG hown hK hP dX4_gladnessBy_79 ?_
    refine lv_aload_n hx hb dX4_gladnessBy_82 rfl (lv_at hl 0 rfl) ?_
    refine gX_X4_43_3 hx hb hG hown hK hP dX4_gladnessBy_83 ?_
    have hFc := frA hD hS hA
    refine va_calli (va_runV (As := [.ref (r 29)]) (rest := [.int 9999, .int (-9999)]) ⟨hx, hb, hml, hown, hG⟩ (kX1_valueBy l dC dI r ct i_tapeLength i_time i_lyingCount i_rd_fault i_rd_token i_rd_kind i_sc_count i_sc_at i_A_tunes i_A_houses i_fA_length i_B_tunes i_B_houses i_fB_length i_acts_done i_acts_undone i_kn_count f_boxes f_boxKept f_trial f_offers f_A_noteCounts f_A_notes f_B_noteCounts f_B_notes f_now_where f_now_worn f_ahead_where f_ahead_worn f_acts_rows f_kn_tunes f_kn_noteTimes J24 L H23.size hI) (cwV 1 hG (goodV gw766 gw767 gw768 gw133 gw769) rfl rfl rfl hd_X1_valueBy ⟨(Nat.le_of_ble_eq_true rfl), (Nat.le_of_ble_eq_true rfl)⟩) ⟨fbW, va_recv hK hP (ci := 1) (q0 := 4) rfl rfl, pW_in hP hK hD⟩ rfl rfl hl.1 rfl (lv_room (Nat.le_of_ble_eq_true rfl)) dX4_gladnessBy_86 ⟨(Nat.le_of_ble_eq_true rfl), (Nat.le_of_ble_eq_true rfl)⟩) hS (fun q _ h => hFc q h) hFc (fun r_26 u_ t_ H25 locs ht hvm hw hB hz1 hk1 hS => ?_)
    subst hw
    obtain ⟨J27, hP1, hD1, hI28⟩ := hB
    rw [ht] at hP1
    have hP := hP1
    have hD := dW hFc hD1
    obtain ⟨im29, im30, im31, im32, im33, im34, im35, im36, im37, im38, im39, im40, im41, im42, im43, im44, im45, im46, im47, im48, im49, im50, im51, im52, im53, im54, im55, im56, im57, im58, im59, im60, im61, im62, im63, im64, im65, im66, im67, im68⟩ := id hI28
    refine va_mmin hx hb (hml.trans hl.1.symm) hown (hG _ gw773) (hG _ gw542) (hG _ gw139) (hG _ gw543) (Nat.le_of_ble_eq_true rfl) (Nat.le_of_ble_eq_true rfl) (Nat.le_of_ble_eq_true rfl) (Nat.le_of_ble_eq_true rfl) dX4_gladnessBy_89 ?_
    refine lv_topi (fun x69 ex69 => ?_)
    have f70 : (9999 ≤ r_26.toInt ∧ x69.toInt = 9999) ∨ (r_26.toInt ≤ 9999 ∧ x69.toInt = r_26.toInt) := mmin_or2 ex69 zc_9999 rfl
    refine va_mmax hx hb (hml.trans hl.1.symm) hown (hG _ gw774) (hG _ gw775) (hG _ gw139) (hG _ gw776) (Nat.le_of_ble_eq_true rfl) (Nat.le_of_ble_eq_true rfl) (Nat.le_of_ble_eq_true rfl) (Nat.le_of_ble_eq_true rfl) dX4_gladnessBy_92 ?_
    refine lv_topi (fun x71 ex71 => ?_)
    have f72 : (x69.toInt ≤ (-9999) ∧ x71.toInt = (-9999)) ∨ ((-9999) ≤ x69.toInt ∧ x71.toInt = x69.toInt) := mmax_or2 ex71 zc_m9999 rfl
    rw [hQ]
    exact W.iret (v := x71) hx hb hr (fun t ht hW => ⟨⟨x71, x71, rfl, rfl, ⟨J27, by rw [ht]; exact hP, hD, hI28, (ox_190 hz_p1 f4)⟩⟩, hS.F ht⟩) hS.2.2 dX4_gladnessBy_95
  · skip
    have f73 : p1.toInt ≠ 0 := qi_ne c_3 rfl zc_0
    have f74 : (1 : Int) ≤ p1.toInt := (ox_191 hz_p1 f73)
    refine lv_iconst (v := 1) hx hb dX4_gladnessBy_16 (by decide) ?_
    refine lv_goto (tgt := 21) hx hb dX4_gladnessBy_17 (by decide) ?_
    refine stX_29 (mm := (1 : Int)) hx hb hK hP hD hS zc_1 (ox_178) (ox_179) dX4_gladnessBy_21 (fun J76 H75 locs hP hD hS => ?_)
    refine lv_aload_n hx hb dX4_gladnessBy_22 rfl (lv_at hl 0 rfl) ?_
    refine gX_X4_43_3 hx hb hG hown hK hP dX4_gladnessBy_23 ?_
    refine lv_iconst (v := 2) hx hb dX4_gladnessBy_26 (by decide) ?_
    refine lv_aload_n hx hb dX4_gladnessBy_27 rfl (lv_at hl 0 rfl) ?_
    refine lv_iload_n hx hb dX4_gladnessBy_28 rfl (lv_at hl 3 rfl) ?_
    refine lv_iload hx hb dX4_gladnessBy_29 (lv_at hl 4 rfl) ?_
    refine va_calli (va_runV (As := [.int p2, .int p3]) (rest := [.int 2, .ref (r 29)]) ⟨hx, hb, hml, hown, hG⟩ (kX4_left l dC dI r ct i_tapeLength i_time i_lyingCount i_rd_fault i_rd_token i_rd_kind i_sc_count i_sc_at i_A_tunes i_A_houses i_fA_length i_B_tunes i_B_houses i_fB_length i_acts_done i_acts_undone i_kn_count f_boxes f_boxKept f_trial f_offers f_A_noteCounts f_A_notes f_B_noteCounts f_B_notes f_now_where f_now_worn f_ahead_where f_ahead_worn f_acts_rows f_kn_tunes f_kn_noteTimes J76 L p2 p3 H75.size hI (ox_54 hp0 hp1) (ox_55 hp1) (ox_58 hp2 hp3) (ox_59 hp2 hp3)) (cwV 2 hG (goodV gw711 gw700 gw701 gw132 gw702) rfl rfl rfl hd_X4_left ⟨(Nat.le_of_ble_eq_true rfl), (Nat.le_of_ble_eq_true rfl)⟩) ⟨fbR, va_recv hK hP (ci := 3) (q0 := 3) rfl rfl, pR_in hP hK⟩ rfl rfl hl.1 rfl (lv_room (Nat.le_of_ble_eq_true rfl)) dX4_gladnessBy_31 ⟨(Nat.le_of_ble_eq_true rfl), (Nat.le_of_ble_eq_true rfl)⟩) hS (fun q hq h => absurd hq (Nat.not_lt.mpr h)) (fun q h => hA q (Nat.le_trans hS.1 h)) (fun r_78 u_ t_ H77 locs ht hvm hw hB hz1 hk1 hS => ?_)
    subst hw
    have hP := wk hP hk1
    obtain ⟨f79, f80, f81, f82, f83⟩ := hB
    refine stX_29 (mm := (2 : Int)) hx hb hK hP hD hS zc_2 (ox_180) (ox_181) dX4_gladnessBy_34 (fun J85 H84 locs hP hD hS => ?_)
    refine lv_aload_n hx hb dX4_gladnessBy_35 rfl (lv_at hl 0 rfl) ?_
    refine gX_X4_43_3 hx hb hG hown hK hP dX4_gladnessBy_36 ?_
    refine lv_iconst (v := 3) hx hb dX4_gladnessBy_39 (by decide) ?_
    refine lv_iload hx hb dX4_gladnessBy_40 (lv_at hl 4 rfl) ?_
    refine stX_29 (mm := (3 : Int)) hx hb hK hP hD hS zc_3 (ox_182) (ox_183) dX4_gladnessBy_42 (fun J87 H86 locs hP hD hS => ?_)
    refine lv_aload_n hx hb dX4_gladnessBy_43 rfl (lv_at hl 0 rfl) ?_
    refine gX_X4_43_3 hx hb hG hown hK hP dX4_gladnessBy_44 ?_
    refine lv_iconst (v := 4) hx hb dX4_gladnessBy_47 (by decide) ?_
    refine lv_iload hx hb dX4_gladnessBy_48 (lv_at hl 5 rfl) ?_
    refine stX_29 (mm := (4 : Int)) hx hb hK hP hD hS zc_4 (ox_184) (ox_185) dX4_gladnessBy_50 (fun J89 H88 locs hP hD hS => ?_)
    refine lv_aload_n hx hb dX4_gladnessBy_51 rfl (lv_at hl 0 rfl) ?_
    refine gX_X4_43_3 hx hb hG hown hK hP dX4_gladnessBy_52 ?_
    refine lv_iconst (v := 5) hx hb dX4_gladnessBy_55 (by decide) ?_
    refine lv_aload_n hx hb dX4_gladnessBy_56 rfl (lv_at hl 0 rfl) ?_
    refine gX_X4_15_3 hx hb hG hown hK hP dX4_gladnessBy_57 ?_
    refine lv_iload_n hx hb dX4_gladnessBy_60 rfl (lv_at hl 3 rfl) ?_
    refine ldX_23 (mm := p2.toInt) hx hb hK hP rfl (ox_33 hp0 hp1) (ox_34 ie13 hp1) dX4_gladnessBy_61 (fun x90 => ?_)
    refine stX_29 (mm := (5 : Int)) hx hb hK hP hD hS zc_5 (ox_186) (ox_187) dX4_gladnessBy_62 (fun J92 H91 locs hP hD hS => ?_)
    refine lv_aload_n hx hb dX4_gladnessBy_63 rfl (lv_at hl 0 rfl) ?_
    refine gX_X4_43_3 hx hb hG hown hK hP dX4_gladnessBy_64 ?_
    refine lv_bipush (v := 6) hx hb dX4_gladnessBy_67 (by decide) ?_
    refine lv_iload hx hb dX4_gladnessBy_69 (lv_at hl 6 rfl) ?_
    refine stX_29 (mm := (6 : Int)) hx hb hK hP hD hS zc_6 (ox_188) (ox_189) dX4_gladnessBy_71 (fun J94 H93 locs hP hD hS => ?_)
    refine lv_sipush (v := (-9999)) hx hb dX4_gladnessBy_72 (by decide) ?_
    refine lv_sipush (v := 9999) hx hb dX4_gladnessBy_75 (by decide) ?_
    refine lv_aload_n hx hb dX4_gladnessBy_78 rfl (lv_at hl 0 rfl) ?_
    refine gX_X4_37_3 hx hb hG hown hK hP dX4_gladnessBy_79 ?_
    refine lv_aload_n hx hb dX4_gladnessBy_82 rfl (lv_at hl 0 rfl) ?_
    refine gX_X4_43_3 hx hb hG hown hK hP dX4_gladnessBy_83 ?_
    have hFc := frA hD hS hA
    refine va_calli (va_runV (As := [.ref (r 29)]) (rest := [.int 9999, .int (-9999)]) ⟨hx, hb, hml, hown, hG⟩ (kX1_valueBy l dC dI r ct i_tapeLength i_time i_lyingCount i_rd_fault i_rd_token i_rd_kind i_sc_count i_sc_at i_A_tunes i_A_houses i_fA_length i_B_tunes i_B_houses i_fB_length i_acts_done i_acts_undone i_kn_count f_boxes f_boxKept f_trial f_offers f_A_noteCounts f_A_notes f_B_noteCounts f_B_notes f_now_where f_now_worn f_ahead_where f_ahead_worn f_acts_rows f_kn_tunes f_kn_noteTimes J94 L H93.size hI) (cwV 1 hG (goodV gw766 gw767 gw768 gw133 gw769) rfl rfl rfl hd_X1_valueBy ⟨(Nat.le_of_ble_eq_true rfl), (Nat.le_of_ble_eq_true rfl)⟩) ⟨fbW, va_recv hK hP (ci := 1) (q0 := 4) rfl rfl, pW_in hP hK hD⟩ rfl rfl hl.1 rfl (lv_room (Nat.le_of_ble_eq_true rfl)) dX4_gladnessBy_86 ⟨(Nat.le_of_ble_eq_true rfl), (Nat.le_of_ble_eq_true rfl)⟩) hS (fun q _ h => hFc q h) hFc (fun r_96 u_ t_ H95 locs ht hvm hw hB hz1 hk1 hS => ?_)
    subst hw
    obtain ⟨J97, hP1, hD1, hI98⟩ := hB
    rw [ht] at hP1
    have hP := hP1
    have hD := dW hFc hD1
    obtain ⟨im99, im100, im101, im102, im103, im104, im105, im106, im107, im108, im109, im110, im111, im112, im113, im114, im115, im116, im117, im118, im119, im120, im121, im122, im123, im124, im125, im126, im127, im128, im129, im130, im131, im132, im133, im134, im135, im136, im137, im138⟩ := id hI98
    refine va_mmin hx hb (hml.trans hl.1.symm) hown (hG _ gw773) (hG _ gw542) (hG _ gw139) (hG _ gw543) (Nat.le_of_ble_eq_true rfl) (Nat.le_of_ble_eq_true rfl) (Nat.le_of_ble_eq_true rfl) (Nat.le_of_ble_eq_true rfl) dX4_gladnessBy_89 ?_
    refine lv_topi (fun x139 ex139 => ?_)
    have f140 : (9999 ≤ r_96.toInt ∧ x139.toInt = 9999) ∨ (r_96.toInt ≤ 9999 ∧ x139.toInt = r_96.toInt) := mmin_or2 ex139 zc_9999 rfl
    refine va_mmax hx hb (hml.trans hl.1.symm) hown (hG _ gw774) (hG _ gw775) (hG _ gw139) (hG _ gw776) (Nat.le_of_ble_eq_true rfl) (Nat.le_of_ble_eq_true rfl) (Nat.le_of_ble_eq_true rfl) (Nat.le_of_ble_eq_true rfl) dX4_gladnessBy_92 ?_
    refine lv_topi (fun x141 ex141 => ?_)
    have f142 : (x139.toInt ≤ (-9999) ∧ x141.toInt = (-9999)) ∨ ((-9999) ≤ x139.toInt ∧ x141.toInt = x139.toInt) := mmax_or2 ex141 zc_m9999 rfl
    rw [hQ]
    exact W.iret (v := x141) hx hb hr (fun t ht hW => ⟨⟨x141, x141, rfl, rfl, ⟨J97, by rw [ht]; exact hP, hD, hI98, (ox_192 hz_p1 f74)⟩⟩, hS.F ht⟩) hS.2.2 dX4_gladnessBy_95
set_option maxHeartbeats 4000000 in
set_option maxRecDepth 100000 in
theorem kX4_gladness (l : Launch) (dC : Nat → ClassId) (dI : Nat → Nat → Nat) (r : Nat → Nat) (ct : Nat → ClassId) (i_tapeLength i_time i_lyingCount i_rd_fault i_rd_token i_rd_kind i_sc_count i_sc_at i_A_tunes i_A_houses i_fA_length i_B_tunes i_B_houses i_fB_length i_acts_done i_acts_undone i_kn_count : Int32) (f_boxes f_boxKept f_trial f_offers f_A_noteCounts f_A_notes f_B_noteCounts f_B_notes f_now_where f_now_worn f_ahead_where f_ahead_worn f_acts_rows f_kn_tunes f_kn_noteTimes : Nat → Int32) (J : Nat → Nat → Int32) (L : Nat → Nat → Int64) (p0 p1 p2 p3 p4 : Int32) (sz : Nat) (hI : (IX i_tapeLength i_time i_lyingCount i_rd_token i_sc_count i_sc_at i_A_tunes i_A_houses i_fA_length i_B_tunes i_B_houses i_fB_length i_acts_done i_acts_undone i_kn_count f_boxes f_A_noteCounts f_A_notes f_B_noteCounts f_B_notes f_now_worn f_ahead_worn f_acts_rows f_kn_tunes)) (hp0 : (0 : Int) ≤ p0.toInt) (hp1 : p0.toInt + 1 ≤ i_A_houses.toInt) (hp2 : (0 : Int) ≤ p1.toInt) (hp3 : p1.toInt + 1 ≤ i_A_tunes.toInt) (hp4 : (0 : Int) ≤ p2.toInt) (hp5 : p2.toInt ≤ (99 : Int)) : Met l yX4_gladness (.code yX4_gladness cX4_gladness 10 (some .int) :: GW) { frames := 8, cells := 0, slots := 0, locals := 295 } (va_Pc [.ref (r 3), .int p0, .int p1, .int p2, .int p3, .int p4] (pW (dC, dI) (WX r ct i_tapeLength i_time i_lyingCount i_rd_fault i_rd_token i_rd_kind i_sc_count i_sc_at i_A_tunes i_A_houses i_fA_length i_B_tunes i_B_houses i_fB_length i_acts_done i_acts_undone i_kn_count f_boxes f_boxKept f_trial f_offers f_A_noteCounts f_A_notes f_B_noteCounts f_B_notes f_now_where f_now_worn f_ahead_where f_ahead_worn f_acts_rows f_kn_tunes f_kn_noteTimes J L) (TX ct) sz)) (va_Qi (fun (r0 : Int32) (u : Int32) => r0 = u) (fun (u : Int32) (t : State) => ∃ (n_J : Nat → Nat → Int32), va_P (dC, dI) vwCl (WX r ct i_tapeLength i_time i_lyingCount i_rd_fault i_rd_token i_rd_kind i_sc_count i_sc_at i_A_tunes i_A_houses i_fA_length i_B_tunes i_B_houses i_fB_length i_acts_done i_acts_undone i_kn_count f_boxes f_boxKept f_trial f_offers f_A_noteCounts f_A_notes f_B_noteCounts f_B_notes f_now_where f_now_worn f_ahead_where f_ahead_worn f_acts_rows f_kn_tunes f_kn_noteTimes n_J L) t.heap ∧ va_D (va_A (WX r ct i_tapeLength i_time i_lyingCount i_rd_fault i_rd_token i_rd_kind i_sc_count i_sc_at i_A_tunes i_A_houses i_fA_length i_B_tunes i_B_houses i_fB_length i_acts_done i_acts_undone i_kn_count f_boxes f_boxKept f_trial f_offers f_A_noteCounts f_A_notes f_B_noteCounts f_B_notes f_now_where f_now_worn f_ahead_where f_ahead_worn f_acts_rows f_kn_tunes f_kn_noteTimes J L) sz) (WX r ct i_tapeLength i_time i_lyingCount i_rd_fault i_rd_token i_rd_kind i_sc_count i_sc_at i_A_tunes i_A_houses i_fA_length i_B_tunes i_B_houses i_fB_length i_acts_done i_acts_undone i_kn_count f_boxes f_boxKept f_trial f_offers f_A_noteCounts f_A_notes f_B_noteCounts f_B_notes f_now_where f_now_worn f_ahead_where f_ahead_worn f_acts_rows f_kn_tunes f_kn_noteTimes n_J L) ∧ (IX i_tapeLength i_time i_lyingCount i_rd_token i_sc_count i_sc_at i_A_tunes i_A_houses i_fA_length i_B_tunes i_B_houses i_fB_length i_acts_done i_acts_undone i_kn_count f_boxes f_A_noteCounts f_A_notes f_B_noteCounts f_B_notes f_now_worn f_ahead_worn f_acts_rows f_kn_tunes)) (va_A (WX r ct i_tapeLength i_time i_lyingCount i_rd_fault i_rd_token i_rd_kind i_sc_count i_sc_at i_A_tunes i_A_houses i_fA_length i_B_tunes i_B_houses i_fB_length i_acts_done i_acts_undone i_kn_count f_boxes f_boxKept f_trial f_offers f_A_noteCounts f_A_notes f_B_noteCounts f_B_notes f_now_where f_now_worn f_ahead_where f_ahead_worn f_acts_rows f_kn_tunes f_kn_noteTimes J L) sz)) 0 0 (va_A (WX r ct i_tapeLength i_time i_lyingCount i_rd_fault i_rd_token i_rd_kind i_sc_count i_sc_at i_A_tunes i_A_houses i_fA_length i_B_tunes i_B_houses i_fB_length i_acts_done i_acts_undone i_kn_count f_boxes f_boxKept f_trial f_offers f_A_noteCounts f_A_notes f_B_noteCounts f_B_notes f_now_where f_now_worn f_ahead_where f_ahead_worn f_acts_rows f_kn_tunes f_kn_noteTimes J L) sz) := by
  refine Met.ofW (cc := cX4_gladness) (maxL := 10) (ret := (some .int)) (by decide) rfl ?_
  intro p e s m args below meth c0 s₁ B hml hv
  obtain ⟨rfl, hsz, hP, hK, hD0⟩ := hv
  have hx := B.exec
  have hb := B.bytes
  have hr := B.returns
  have hts := atoms_spec (ws := .code yX4_gladness cX4_gladness 10 (some .int) :: GW) B.pre
  have hG : ∀ w ∈ GW, w.before _ s = true := fun w h => hts w (List.mem_cons_of_mem _ h)
  have hown : s.vm.findClass RX4 = some m.cls := findClass_of_methodNamed B.named
  subst hsz
  have hD := hD0.self (sz := s.heap.size)
  generalize hAe : va_A (WX r ct i_tapeLength i_time i_lyingCount i_rd_fault i_rd_token i_rd_kind i_sc_count i_sc_at i_A_tunes i_A_houses i_fA_length i_B_tunes i_B_houses i_fB_length i_acts_done i_acts_undone i_kn_count f_boxes f_boxKept f_trial f_offers f_A_noteCounts f_A_notes f_B_noteCounts f_B_notes f_now_where f_now_worn f_ahead_where f_ahead_worn f_acts_rows f_kn_tunes f_kn_noteTimes J L) s.heap.size = A at hD ⊢
  have hA : ∀ q : Nat, s.heap.size ≤ q → A q := fun q h => by rw [← hAe]; exact Or.inr h
  have hS : va_S A s.heap s.heap [] := va_S.rf
  have hP : va_P (dC, dI) vwCl (WX r ct i_tapeLength i_time i_lyingCount i_rd_fault i_rd_token i_rd_kind i_sc_count i_sc_at i_A_tunes i_A_houses i_fA_length i_B_tunes i_B_houses i_fB_length i_acts_done i_acts_undone i_kn_count f_boxes f_boxKept f_trial f_offers f_A_noteCounts f_A_notes f_B_noteCounts f_B_notes f_now_where f_now_worn f_ahead_where f_ahead_worn f_acts_rows f_kn_tunes f_kn_noteTimes J L) s.heap := hP
  have hl := lv_entry ([.ref (r 3), .int p0, .int p1, .int p2, .int p3, .int p4]) (n := 10) (Nat.le_of_ble_eq_true rfl)
  rw [lg_entry_eq]
  generalize (lg_sl ([.ref (r 3), .int p0, .int p1, .int p2, .int p3, .int p4]) ++ List.replicate (10 - (lg_sl ([.ref (r 3), .int p0, .int p1, .int p2, .int p3, .int p4])).length) Slot.unset).toArray = ls at hl ⊢
  have hl : lv_has ls 10 [(0, .ref (r 3)), (1, .int p0), (2, .int p1), (3, .int p2), (4, .int p3), (5, .int p4)] := hl
  refine nameQ (fun Q hQ => ?_)
  obtain ⟨ie0, ie1, ie2, ie3, ie4, ie5, ie6, ie7, ie8, ie9, ie10, ie11, ie12, ie13, ie14, ie15, ie16, ie17, ie18, ie19, ie20, ie21, ie22, ie23, ie24, ie25, ie26, ie27, ie28, ie29, ie30, ie31, ie32, ie33, ie34, ie35, ie36, ie37, ie38, ie39⟩ := id hI
  refine lv_aload_n hx hb dX4_gladness_0 rfl (lv_at hl 0 rfl) ?_
  refine lv_iload_n hx hb dX4_gladness_1 rfl (lv_at hl 2 rfl) ?_
  refine lv_iload_n hx hb dX4_gladness_2 rfl (lv_at hl 3 rfl) ?_
  refine va_calli (va_runV (As := [.int p1, .int p2]) (rest := []) ⟨hx, hb, hml, hown, hG⟩ (kX4_left l dC dI r ct i_tapeLength i_time i_lyingCount i_rd_fault i_rd_token i_rd_kind i_sc_count i_sc_at i_A_tunes i_A_houses i_fA_length i_B_tunes i_B_houses i_fB_length i_acts_done i_acts_undone i_kn_count f_boxes f_boxKept f_trial f_offers f_A_noteCounts f_A_notes f_B_noteCounts f_B_notes f_now_where f_now_worn f_ahead_where f_ahead_worn f_acts_rows f_kn_tunes f_kn_noteTimes J L p1 p2 s.heap.size hI (ox_54 hp2 hp3) (ox_55 hp3) (ox_58 hp4 hp5) (ox_59 hp4 hp5)) (cwV 2 hG (goodV gw711 gw700 gw701 gw132 gw702) rfl rfl rfl hd_X4_left ⟨(Nat.le_of_ble_eq_true rfl), (Nat.le_of_ble_eq_true rfl)⟩) ⟨fbR, va_recv hK hP (ci := 3) (q0 := 3) rfl rfl, pR_in hP hK⟩ rfl rfl hl.1 rfl (lv_room (Nat.le_of_ble_eq_true rfl)) dX4_gladness_3 ⟨(Nat.le_of_ble_eq_true rfl), (Nat.le_of_ble_eq_true rfl)⟩) hS (fun q hq h => absurd hq (Nat.not_lt.mpr h)) (fun q h => hA q (Nat.le_trans hS.1 h)) (fun r_2 u_ t_ H1 locs ht hvm hw hB hz1 hk1 hS => ?_)
  subst hw
  have hP := wk hP hk1
  obtain ⟨f3, f4, f5, f6, f7⟩ := hB
  refine lv_istore (lv' := [(6, .int r_2), (0, .ref (r 3)), (1, .int p0), (2, .int p1), (3, .int p2), (4, .int p3), (5, .int p4)]) hx hb dX4_gladness_6 hl (by decide) rfl (fun ls hl => ?_)
  refine lv_iconst (v := 0) hx hb dX4_gladness_8 (by decide) ?_
  refine lv_istore (lv' := [(7, .int 0), (6, .int r_2), (0, .ref (r 3)), (1, .int p0), (2, .int p1), (3, .int p2), (4, .int p3), (5, .int p4)]) hx hb dX4_gladness_9 hl (by decide) rfl (fun ls hl => ?_)
  refine lv_iconst (v := 0) hx hb dX4_gladness_11 (by decide) ?_
  refine lv_istore (lv' := [(8, .int 0), (7, .int 0), (6, .int r_2), (0, .ref (r 3)), (1, .int p0), (2, .int p1), (3, .int p2), (4, .int p3), (5, .int p4)]) hx hb dX4_gladness_12 hl (by decide) rfl (fun ls hl => ?_)
  have L14 : ∀ (N14 : Nat) (y14_7 y14_8 : Int32) (H14 : Heap) (locs : List Loc) (ls : Array Slot) (g14_0 : (0 : Int) ≤ y14_8.toInt) (g14_1 : y14_8.toInt ≤ (8 : Int)) (hP : va_P (dC, dI) vwCl (WX r ct i_tapeLength i_time i_lyingCount i_rd_fault i_rd_token i_rd_kind i_sc_count i_sc_at i_A_tunes i_A_houses i_fA_length i_B_tunes i_B_houses i_fB_length i_acts_done i_acts_undone i_kn_count f_boxes f_boxKept f_trial f_offers f_A_noteCounts f_A_notes f_B_noteCounts f_B_notes f_now_where f_now_worn f_ahead_where f_ahead_worn f_acts_rows f_kn_tunes f_kn_noteTimes J L) H14) (hD : va_D A (WX r ct i_tapeLength i_time i_lyingCount i_rd_fault i_rd_token i_rd_kind i_sc_count i_sc_at i_A_tunes i_A_houses i_fA_length i_B_tunes i_B_houses i_fB_length i_acts_done i_acts_undone i_kn_count f_boxes f_boxKept f_trial f_offers f_A_noteCounts f_A_notes f_B_noteCounts f_B_notes f_now_where f_now_worn f_ahead_where f_ahead_worn f_acts_rows f_kn_tunes f_kn_noteTimes J L)) (hS : va_S A s.heap H14 locs) (hl : lv_has ls 10 [(0, .ref (r 3)), (1, .int p0), (2, .int p1), (3, .int p2), (4, .int p3), (5, .int p4), (6, .int r_2), (7, .int y14_7), (8, .int y14_8)]) (hM : -1 * y14_8.toInt + 8 < (N14 : Int)), W p l e { frames := 8, cells := 0, slots := 0, locals := 295 } s m ([.ref (r 3), .int p0, .int p1, .int p2, .int p3, .int p4] : List Value).toArray below meth c0 H14 locs 0 0 Q (F0 m 14 ls []) := by
    intro N14
    induction N14 with
    | zero =>
      intro y14_7 y14_8 H14 locs ls g14_0 g14_1 hP hD hS hl hM
      exact ((ox_125 hM g14_0 g14_1)).elim
    | succ N14 ih14 =>
      intro y14_7 y14_8 H14 locs ls g14_0 g14_1 hP hD hS hl hM
      have hM14 := msucc hM
      refine lv_iload hx hb dX4_gladness_14 (lv_at hl 8 rfl) ?_
      refine lv_iload hx hb dX4_gladness_16 (lv_at hl 6 rfl) ?_
      refine lv_icmp_ge (tgt := 46) hx hb dX4_gladness_18 (by decide) (fun c_8 => ?_) (fun c_8 => ?_)
      · skip
        have f9 : r_2.toInt ≤ y14_8.toInt := qi_le c_8 rfl rfl
        refine lv_iload_n hx hb dX4_gladness_46 rfl (lv_at hl 1 rfl) ?_
        refine lv_iconst (v := 3) hx hb dX4_gladness_47 (by decide) ?_
        refine lv_imul hx hb dX4_gladness_48 ?_
        refine lv_topi (fun x10 ex10 => ?_)
        have f11 : x10.toInt = 3 * p0.toInt := (ox_110 (qi_mul ex10 rfl zc_3 (ox_193 hp0 hp1) (ox_194 ie15 hp1)))
        refine lv_istore (lv' := [(8, .int x10), (0, .ref (r 3)), (1, .int p0), (2, .int p1), (3, .int p2), (4, .int p3), (5, .int p4), (6, .int r_2), (7, .int y14_7)]) hx hb dX4_gladness_49 hl (by decide) rfl (fun ls hl => ?_)
        refine lv_aload_n hx hb dX4_gladness_51 rfl (lv_at hl 1 rfl) ?_
        refine lv_iload_n hx hb dX4_gladness_52 rfl (lv_at hl 3 rfl) ?_
        refine lv_iload_n hx hb dX4_gladness_53 rfl (lv_at hl 4 rfl) ?_
        refine lv_iconst (v := 0) hx hb dX4_gladness_54 (by decide) ?_
        refine lv_aload_n hx hb dX4_gladness_55 rfl (lv_at hl 1 rfl) ?_
        refine gX_X4_31_3 hx hb hG hown hK hP dX4_gladness_56 ?_
        refine lv_iload hx hb dX4_gladness_59 (lv_at hl 0 rfl) ?_
        refine ldX_28 (mm := 3 * p0.toInt) hx hb hK hP f11 (ox_195 hp0 hp1) (ox_196 ie15 hp1) dX4_gladness_61 (fun x12 => ?_)
        refine lv_aload_n hx hb dX4_gladness_62 rfl (lv_at hl 1 rfl) ?_
        refine gX_X4_31_3 hx hb hG hown hK hP dX4_gladness_63 ?_
        refine lv_iload hx hb dX4_gladness_66 (lv_at hl 0 rfl) ?_
        refine lv_iconst (v := 1) hx hb dX4_gladness_68 (by decide) ?_
        refine lv_iadd hx hb dX4_gladness_69 ?_
        refine lv_topi (fun x13 ex13 => ?_)
        have f14 : x13.toInt = 3 * p0.toInt + 1 := (ox_116 (qi_add ex13 rfl zc_1 (ox_197 hp0 hp1 f11) (ox_198 ie15 hp1 f11)) f11)
        refine ldX_28 (mm := 3 * p0.toInt + 1) hx hb hK hP f14 (ox_199 hp0 hp1) (ox_200 ie15 hp1) dX4_gladness_70 (fun x15 => ?_)
        refine lv_aload_n hx hb dX4_gladness_71 rfl (lv_at hl 1 rfl) ?_
        refine gX_X4_31_3 hx hb hG hown hK hP dX4_gladness_72 ?_
        refine lv_iload hx hb dX4_gladness_75 (lv_at hl 0 rfl) ?_
        refine lv_iconst (v := 2) hx hb dX4_gladness_77 (by decide) ?_
        refine lv_iadd hx hb dX4_gladness_78 ?_
        refine lv_topi (fun x16 ex16 => ?_)
        have f17 : x16.toInt = 3 * p0.toInt + 2 := (ox_121 (qi_add ex16 rfl zc_2 (ox_201 hp0 hp1 f11) (ox_202 ie15 hp1 f11)) f11)
        refine ldX_28 (mm := 3 * p0.toInt + 2) hx hb hK hP f17 (ox_203 hp0 hp1) (ox_204 ie15 hp1) dX4_gladness_79 (fun x18 => ?_)
        refine va_calli (va_runV (As := [.int p1, .int p2, .int 0, .int x12, .int x15, .int x18]) (rest := []) ⟨hx, hb, hml, hown, hG⟩ (kX4_hasTurn l dC dI r ct i_tapeLength i_time i_lyingCount i_rd_fault i_rd_token i_rd_kind i_sc_count i_sc_at i_A_tunes i_A_houses i_fA_length i_B_tunes i_B_houses i_fB_length i_acts_done i_acts_undone i_kn_count f_boxes f_boxKept f_trial f_offers f_A_noteCounts f_A_notes f_B_noteCounts f_B_notes f_now_where f_now_worn f_ahead_where f_ahead_worn f_acts_rows f_kn_tunes f_kn_noteTimes J L p1 p2 0 x12 x15 x18 H14.size hI (ox_54 hp2 hp3) (ox_55 hp3) (ox_58 hp4 hp5) (ox_59 hp4 hp5) (ox_27 zc_0) (ox_205 zc_0)) (cwV 6 hG (goodV gw758 gw759 gw760 gw132 gw761) rfl rfl rfl hd_X4_hasTurn ⟨(Nat.le_of_ble_eq_true rfl), (Nat.le_of_ble_eq_true rfl)⟩) ⟨fbR, va_recv hK hP (ci := 3) (q0 := 3) rfl rfl, pR_in hP hK⟩ rfl rfl hl.1 rfl (lv_room (Nat.le_of_ble_eq_true rfl)) dX4_gladness_80 ⟨(Nat.le_of_ble_eq_true rfl), (Nat.le_of_ble_eq_true rfl)⟩) hS (fun q hq h => absurd hq (Nat.not_lt.mpr h)) (fun q h => hA q (Nat.le_trans hS.1 h)) (fun r_20 u_ t_ H19 locs ht hvm hw hB hz1 hk1 hS => ?_)
        subst hw
        have hP := wk hP hk1
        obtain ⟨f21, f22, f23⟩ := hB
        refine lv_istore (lv' := [(9, .int r_20), (8, .int x10), (0, .ref (r 3)), (1, .int p0), (2, .int p1), (3, .int p2), (4, .int p3), (5, .int p4), (6, .int r_2), (7, .int y14_7)]) hx hb dX4_gladness_83 hl (by decide) rfl (fun ls hl => ?_)
        refine lv_aload_n hx hb dX4_gladness_85 rfl (lv_at hl 2 rfl) ?_
        refine lv_iload hx hb dX4_gladness_86 (lv_at hl 9 rfl) ?_
        refine lv_iload hx hb dX4_gladness_88 (lv_at hl 0 rfl) ?_
        refine lv_iload_n hx hb dX4_gladness_90 rfl (lv_at hl 4 rfl) ?_
        refine lv_iload_n hx hb dX4_gladness_91 rfl (lv_at hl 5 rfl) ?_
        refine lv_iload hx hb dX4_gladness_92 (lv_at hl 6 rfl) ?_
        refine lv_iload hx hb dX4_gladness_94 (lv_at hl 7 rfl) ?_
        have hFc := frA hD hS hA
        refine va_calli (va_runV (As := [.int y14_7, .int r_20, .int p1, .int p2, .int p3, .int p4]) (rest := []) ⟨hx, hb, hml, hown, hG⟩ (kX4_gladnessBy l dC dI r ct i_tapeLength i_time i_lyingCount i_rd_fault i_rd_token i_rd_kind i_sc_count i_sc_at i_A_tunes i_A_houses i_fA_length i_B_tunes i_B_houses i_fB_length i_acts_done i_acts_undone i_kn_count f_boxes f_boxKept f_trial f_offers f_A_noteCounts f_A_notes f_B_noteCounts f_B_notes f_now_where f_now_worn f_ahead_where f_ahead_worn f_acts_rows f_kn_tunes f_kn_noteTimes J L y14_7 r_20 p1 p2 p3 p4 H19.size hI (ox_54 hp2 hp3) (ox_55 hp3) (ox_58 hp4 hp5) (ox_59 hp4 hp5) (ox_206 f22 f23)) (cwV 6 hG (goodV gw762 gw763 gw764 gw132 gw765) rfl rfl rfl hd_X4_gladnessBy ⟨(Nat.le_of_ble_eq_true rfl), (Nat.le_of_ble_eq_true rfl)⟩) ⟨fbW, va_recv hK hP (ci := 3) (q0 := 3) rfl rfl, pW_in hP hK hD⟩ rfl rfl hl.1 rfl (lv_room (Nat.le_of_ble_eq_true rfl)) dX4_gladness_96 ⟨(Nat.le_of_ble_eq_true rfl), (Nat.le_of_ble_eq_true rfl)⟩) hS (fun q _ h => hFc q h) hFc (fun r_25 u_ t_ H24 locs ht hvm hw hB hz1 hk1 hS => ?_)
        subst hw
        obtain ⟨J26, hP1, hD1, hI28, f27⟩ := hB
        rw [ht] at hP1
        have hP := hP1
        have hD := dW hFc hD1
        obtain ⟨im29, im30, im31, im32, im33, im34, im35, im36, im37, im38, im39, im40, im41, im42, im43, im44, im45, im46, im47, im48, im49, im50, im51, im52, im53, im54, im55, im56, im57, im58, im59, im60, im61, im62, im63, im64, im65, im66, im67, im68⟩ := id hI28
        rw [hQ]
        exact W.iret (v := r_25) hx hb hr (fun t ht hW => ⟨⟨r_25, r_25, rfl, rfl, ⟨J26, by rw [ht]; exact hP, hD, hI28⟩⟩, hS.F ht⟩) hS.2.2 dX4_gladness_99
      · skip
        have f69 : y14_8.toInt < r_2.toInt := qi_nle c_8 rfl rfl
        refine lv_aload_n hx hb dX4_gladness_21 rfl (lv_at hl 0 rfl) ?_
        refine lv_iload_n hx hb dX4_gladness_22 rfl (lv_at hl 1 rfl) ?_
        refine lv_aload_n hx hb dX4_gladness_23 rfl (lv_at hl 0 rfl) ?_
        refine lv_iload_n hx hb dX4_gladness_24 rfl (lv_at hl 2 rfl) ?_
        refine lv_iload_n hx hb dX4_gladness_25 rfl (lv_at hl 3 rfl) ?_
        refine lv_iload hx hb dX4_gladness_26 (lv_at hl 8 rfl) ?_
        refine va_calli (va_runV (As := [.int p1, .int p2, .int y14_8]) (rest := [.int p0, .ref (r 3)]) ⟨hx, hb, hml, hown, hG⟩ (kX4_noteLeft l dC dI r ct i_tapeLength i_time i_lyingCount i_rd_fault i_rd_token i_rd_kind i_sc_count i_sc_at i_A_tunes i_A_houses i_fA_length i_B_tunes i_B_houses i_fB_length i_acts_done i_acts_undone i_kn_count f_boxes f_boxKept f_trial f_offers f_A_noteCounts f_A_notes f_B_noteCounts f_B_notes f_now_where f_now_worn f_ahead_where f_ahead_worn f_acts_rows f_kn_tunes f_kn_noteTimes J L p1 p2 y14_8 H14.size hI (ox_54 hp2 hp3) (ox_55 hp3) (ox_58 hp4 hp5) (ox_59 hp4 hp5) (ox_6 g14_0) (ox_76 f7 f69)) (cwV 3 hG (goodV gw753 gw708 gw709 gw132 gw710) rfl rfl rfl hd_X4_noteLeft ⟨(Nat.le_of_ble_eq_true rfl), (Nat.le_of_ble_eq_true rfl)⟩) ⟨fbR, va_recv hK hP (ci := 3) (q0 := 3) rfl rfl, pR_in hP hK⟩ rfl rfl hl.1 rfl (lv_room (Nat.le_of_ble_eq_true rfl)) dX4_gladness_28 ⟨(Nat.le_of_ble_eq_true rfl), (Nat.le_of_ble_eq_true rfl)⟩) hS (fun q hq h => absurd hq (Nat.not_lt.mpr h)) (fun q h => hA q (Nat.le_trans hS.1 h)) (fun r_71 u_ t_ H70 locs ht hvm hw hB hz1 hk1 hS => ?_)
        subst hw
        have hP := wk hP hk1
        obtain ⟨f72, f73⟩ := hB
        refine va_calli (va_runV (As := [.int p0, .int r_71]) (rest := []) ⟨hx, hb, hml, hown, hG⟩ (kX4_doesLike l dC dI r ct i_tapeLength i_time i_lyingCount i_rd_fault i_rd_token i_rd_kind i_sc_count i_sc_at i_A_tunes i_A_houses i_fA_length i_B_tunes i_B_houses i_fB_length i_acts_done i_acts_undone i_kn_count f_boxes f_boxKept f_trial f_offers f_A_noteCounts f_A_notes f_B_noteCounts f_B_notes f_now_where f_now_worn f_ahead_where f_ahead_worn f_acts_rows f_kn_tunes f_kn_noteTimes J L p0 r_71 H70.size hI (ox_54 hp0 hp1) (ox_207 ie15 hp1)) (cwV 2 hG (goodV gw754 gw755 gw756 gw132 gw757) rfl rfl rfl hd_X4_doesLike ⟨(Nat.le_of_ble_eq_true rfl), (Nat.le_of_ble_eq_true rfl)⟩) ⟨fbR, va_recv hK hP (ci := 3) (q0 := 3) rfl rfl, pR_in hP hK⟩ rfl rfl hl.1 rfl (lv_room (Nat.le_of_ble_eq_true rfl)) dX4_gladness_31 ⟨(Nat.le_of_ble_eq_true rfl), (Nat.le_of_ble_eq_true rfl)⟩) hS (fun q hq h => absurd hq (Nat.not_lt.mpr h)) (fun q h => hA q (Nat.le_trans hS.1 h)) (fun r_75 u_ t_ H74 locs ht hvm hw hB hz1 hk1 hS => ?_)
        subst hw
        have hP := wk hP hk1
        obtain ⟨f76, f77, f78⟩ := hB
        refine lv_if_eq (tgt := 40) hx hb dX4_gladness_34 (by decide) (fun c_79 => ?_) (fun c_79 => ?_)
        · skip
          have f80 : r_75.toInt = 0 := qi_eq c_79 rfl zc_0
          have f81 : r_75.toInt = (0 : Int) := (ox_92 f77 f78 f80)
          obtain ⟨x82, ex82⟩ : ∃ y : Int32, y = y14_8 + Int32.ofInt 1 := ⟨_, rfl⟩
          have f83 : x82.toInt = y14_8.toInt + 1 := (ox_13 (qi_add ex82 rfl (by decide) (ox_11 g14_0) (ox_130 g14_1)))
          refine lv_iinc (v := x82) (lv' := [(8, .int x82), (0, .ref (r 3)), (1, .int p0), (2, .int p1), (3, .int p2), (4, .int p3), (5, .int p4), (6, .int r_2), (7, .int y14_7)]) hx hb dX4_gladness_40 hl (k := 8) rfl ex82.symm (by decide) rfl (fun ls hl => ?_)
          refine lv_goto (tgt := 14) hx hb dX4_gladness_43 (by decide) ?_
          exact ih14 y14_7 x82 H74 _ _ (ox_14 g14_0 f83) (ox_208 f4 f69 f83) hP hD hS (lv_sub hl [1, 2, 3, 4, 5, 6, 7, 8, 0] rfl) (ox_132 hM14 f83)
        · skip
          have f84 : r_75.toInt ≠ 0 := qi_ne c_79 rfl zc_0
          have f85 : r_75.toInt = (1 : Int) := (ox_209 f76 f84)
          have f86 : (1 : Int) ≤ r_75.toInt := (ox_53 f77 f78 f85)
          obtain ⟨x87, ex87⟩ : ∃ y : Int32, y = y14_7 + Int32.ofInt 1 := ⟨_, rfl⟩
          have f88 : (-2147483648) ≤ y14_7.toInt ∧ y14_7.toInt ≤ 2147483647 := i32_rg _
          refine lv_iinc (v := x87) (lv' := [(7, .int x87), (0, .ref (r 3)), (1, .int p0), (2, .int p1), (3, .int p2), (4, .int p3), (5, .int p4), (6, .int r_2), (8, .int y14_8)]) hx hb dX4_gladness_37 hl (k := 7) rfl ex87.symm (by decide) rfl (fun ls hl => ?_)
          obtain ⟨x89, ex89⟩ : ∃ y : Int32, y = y14_8 + Int32.ofInt 1 := ⟨_, rfl⟩
          have f90 : x89.toInt = y14_8.toInt + 1 := (ox_13 (qi_add ex89 rfl (by decide) (ox_11 g14_0) (ox_130 g14_1)))
          refine lv_iinc (v := x89) (lv' := [(8, .int x89), (7, .int x87), (0, .ref (r 3)), (1, .int p0), (2, .int p1), (3, .int p2), (4, .int p3), (5, .int p4), (6, .int r_2)]) hx hb dX4_gladness_40 hl (k := 8) rfl ex89.symm (by decide) rfl (fun ls hl => ?_)
          refine lv_goto (tgt := 14) hx hb dX4_gladness_43 (by decide) ?_
          exact ih14 x87 x89 H74 _ _ (ox_14 g14_0 f90) (ox_208 f4 f69 f90) hP hD hS (lv_sub hl [2, 3, 4, 5, 6, 7, 8, 1, 0] rfl) (ox_132 hM14 f90)
  exact L14 (-1 * (0 : Int32).toInt + 8 + 1).toNat 0 0 H1 _ _ (ox_27 zc_0) (ox_205 zc_0) hP hD hS (lv_sub hl [3, 4, 5, 6, 7, 8, 2, 1, 0] rfl) (mlt (ox_210 zc_0))
set_option maxHeartbeats 4000000 in
set_option maxRecDepth 100000 in
theorem kX8_gladNow (l : Launch) (dC : Nat → ClassId) (dI : Nat → Nat → Nat) (r : Nat → Nat) (ct : Nat → ClassId) (i_tapeLength i_time i_lyingCount i_rd_fault i_rd_token i_rd_kind i_sc_count i_sc_at i_A_tunes i_A_houses i_fA_length i_B_tunes i_B_houses i_fB_length i_acts_done i_acts_undone i_kn_count : Int32) (f_boxes f_boxKept f_trial f_offers f_A_noteCounts f_A_notes f_B_noteCounts f_B_notes f_now_where f_now_worn f_ahead_where f_ahead_worn f_acts_rows f_kn_tunes f_kn_noteTimes : Nat → Int32) (J : Nat → Nat → Int32) (L : Nat → Nat → Int64) (p0 p1 : Int32) (sz : Nat) (hI : (IX i_tapeLength i_time i_lyingCount i_rd_token i_sc_count i_sc_at i_A_tunes i_A_houses i_fA_length i_B_tunes i_B_houses i_fB_length i_acts_done i_acts_undone i_kn_count f_boxes f_A_noteCounts f_A_notes f_B_noteCounts f_B_notes f_now_worn f_ahead_worn f_acts_rows f_kn_tunes)) (hp0 : (0 : Int) ≤ p0.toInt) (hp1 : p0.toInt + 1 ≤ i_A_houses.toInt) (hp2 : (0 : Int) ≤ p1.toInt) (hp3 : p1.toInt + 1 ≤ i_A_tunes.toInt) : Met l yX8_gladNow (.code yX8_gladNow cX8_gladNow 5 (some .int) :: GW) { frames := 10, cells := 0, slots := 0, locals := 364 } (va_Pc [.ref (r 0), .int p0, .int p1] (pW (dC, dI) (WX r ct i_tapeLength i_time i_lyingCount i_rd_fault i_rd_token i_rd_kind i_sc_count i_sc_at i_A_tunes i_A_houses i_fA_length i_B_tunes i_B_houses i_fB_length i_acts_done i_acts_undone i_kn_count f_boxes f_boxKept f_trial f_offers f_A_noteCounts f_A_notes f_B_noteCounts f_B_notes f_now_where f_now_worn f_ahead_where f_ahead_worn f_acts_rows f_kn_tunes f_kn_noteTimes J L) (TX ct) sz)) (va_Qi (fun (r0 : Int32) (u : Int32) => r0 = u) (fun (u : Int32) (t : State) => ∃ (n_J : Nat → Nat → Int32), va_P (dC, dI) vwCl (WX r ct i_tapeLength i_time i_lyingCount i_rd_fault i_rd_token i_rd_kind i_sc_count i_sc_at i_A_tunes i_A_houses i_fA_length i_B_tunes i_B_houses i_fB_length i_acts_done i_acts_undone i_kn_count f_boxes f_boxKept f_trial f_offers f_A_noteCounts f_A_notes f_B_noteCounts f_B_notes f_now_where f_now_worn f_ahead_where f_ahead_worn f_acts_rows f_kn_tunes f_kn_noteTimes n_J L) t.heap ∧ va_D (va_A (WX r ct i_tapeLength i_time i_lyingCount i_rd_fault i_rd_token i_rd_kind i_sc_count i_sc_at i_A_tunes i_A_houses i_fA_length i_B_tunes i_B_houses i_fB_length i_acts_done i_acts_undone i_kn_count f_boxes f_boxKept f_trial f_offers f_A_noteCounts f_A_notes f_B_noteCounts f_B_notes f_now_where f_now_worn f_ahead_where f_ahead_worn f_acts_rows f_kn_tunes f_kn_noteTimes J L) sz) (WX r ct i_tapeLength i_time i_lyingCount i_rd_fault i_rd_token i_rd_kind i_sc_count i_sc_at i_A_tunes i_A_houses i_fA_length i_B_tunes i_B_houses i_fB_length i_acts_done i_acts_undone i_kn_count f_boxes f_boxKept f_trial f_offers f_A_noteCounts f_A_notes f_B_noteCounts f_B_notes f_now_where f_now_worn f_ahead_where f_ahead_worn f_acts_rows f_kn_tunes f_kn_noteTimes n_J L) ∧ (IX i_tapeLength i_time i_lyingCount i_rd_token i_sc_count i_sc_at i_A_tunes i_A_houses i_fA_length i_B_tunes i_B_houses i_fB_length i_acts_done i_acts_undone i_kn_count f_boxes f_A_noteCounts f_A_notes f_B_noteCounts f_B_notes f_now_worn f_ahead_worn f_acts_rows f_kn_tunes)) (va_A (WX r ct i_tapeLength i_time i_lyingCount i_rd_fault i_rd_token i_rd_kind i_sc_count i_sc_at i_A_tunes i_A_houses i_fA_length i_B_tunes i_B_houses i_fB_length i_acts_done i_acts_undone i_kn_count f_boxes f_boxKept f_trial f_offers f_A_noteCounts f_A_notes f_B_noteCounts f_B_notes f_now_where f_now_worn f_ahead_where f_ahead_worn f_acts_rows f_kn_tunes f_kn_noteTimes J L) sz)) 0 0 (va_A (WX r ct i_tapeLength i_time i_lyingCount i_rd_fault i_rd_token i_rd_kind i_sc_count i_sc_at i_A_tunes i_A_houses i_fA_length i_B_tunes i_B_houses i_fB_length i_acts_done i_acts_undone i_kn_count f_boxes f_boxKept f_trial f_offers f_A_noteCounts f_A_notes f_B_noteCounts f_B_notes f_now_where f_now_worn f_ahead_where f_ahead_worn f_acts_rows f_kn_tunes f_kn_noteTimes J L) sz) := by
  refine Met.ofW (cc := cX8_gladNow) (maxL := 5) (ret := (some .int)) (by decide) rfl ?_
  intro p e s m args below meth c0 s₁ B hml hv
  obtain ⟨rfl, hsz, hP, hK, hD0⟩ := hv
  have hx := B.exec
  have hb := B.bytes
  have hr := B.returns
  have hts := atoms_spec (ws := .code yX8_gladNow cX8_gladNow 5 (some .int) :: GW) B.pre
  have hG : ∀ w ∈ GW, w.before _ s = true := fun w h => hts w (List.mem_cons_of_mem _ h)
  have hown : s.vm.findClass RX8 = some m.cls := findClass_of_methodNamed B.named
  subst hsz
  have hD := hD0.self (sz := s.heap.size)
  generalize hAe : va_A (WX r ct i_tapeLength i_time i_lyingCount i_rd_fault i_rd_token i_rd_kind i_sc_count i_sc_at i_A_tunes i_A_houses i_fA_length i_B_tunes i_B_houses i_fB_length i_acts_done i_acts_undone i_kn_count f_boxes f_boxKept f_trial f_offers f_A_noteCounts f_A_notes f_B_noteCounts f_B_notes f_now_where f_now_worn f_ahead_where f_ahead_worn f_acts_rows f_kn_tunes f_kn_noteTimes J L) s.heap.size = A at hD ⊢
  have hA : ∀ q : Nat, s.heap.size ≤ q → A q := fun q h => by rw [← hAe]; exact Or.inr h
  have hS : va_S A s.heap s.heap [] := va_S.rf
  have hP : va_P (dC, dI) vwCl (WX r ct i_tapeLength i_time i_lyingCount i_rd_fault i_rd_token i_rd_kind i_sc_count i_sc_at i_A_tunes i_A_houses i_fA_length i_B_tunes i_B_houses i_fB_length i_acts_done i_acts_undone i_kn_count f_boxes f_boxKept f_trial f_offers f_A_noteCounts f_A_notes f_B_noteCounts f_B_notes f_now_where f_now_worn f_ahead_where f_ahead_worn f_acts_rows f_kn_tunes f_kn_noteTimes J L) s.heap := hP
  have hl := lv_entry ([.ref (r 0), .int p0, .int p1]) (n := 5) (Nat.le_of_ble_eq_true rfl)
  rw [lg_entry_eq]
  generalize (lg_sl ([.ref (r 0), .int p0, .int p1]) ++ List.replicate (5 - (lg_sl ([.ref (r 0), .int p0, .int p1])).length) Slot.unset).toArray = ls at hl ⊢
  have hl : lv_has ls 5 [(0, .ref (r 0)), (1, .int p0), (2, .int p1)] := hl
  refine nameQ (fun Q hQ => ?_)
  obtain ⟨ie0, ie1, ie2, ie3, ie4, ie5, ie6, ie7, ie8, ie9, ie10, ie11, ie12, ie13, ie14, ie15, ie16, ie17, ie18, ie19, ie20, ie21, ie22, ie23, ie24, ie25, ie26, ie27, ie28, ie29, ie30, ie31, ie32, ie33, ie34, ie35, ie36, ie37, ie38, ie39⟩ := id hI
  refine lv_aload_n hx hb dX8_gladNow_0 rfl (lv_at hl 0 rfl) ?_
  refine gX_X8_30_0 hx hb hG hown hK hP dX8_gladNow_1 ?_
  refine lv_iload_n hx hb dX8_gladNow_4 rfl (lv_at hl 2 rfl) ?_
  refine va_calli (va_runV (As := [.int p1]) (rest := []) ⟨hx, hb, hml, hown, hG⟩ (kX7_isOnApproval l dC dI r ct i_tapeLength i_time i_lyingCount i_rd_fault i_rd_token i_rd_kind i_sc_count i_sc_at i_A_tunes i_A_houses i_fA_length i_B_tunes i_B_houses i_fB_length i_acts_done i_acts_undone i_kn_count f_boxes f_boxKept f_trial f_offers f_A_noteCounts f_A_notes f_B_noteCounts f_B_notes f_now_where f_now_worn f_ahead_where f_ahead_worn f_acts_rows f_kn_tunes f_kn_noteTimes J L p1 s.heap.size hI (ox_54 hp2 hp3) (ox_211 ie13 hp3)) (cwV 1 hG (goodV gw741 gw742 gw743 gw134 gw744) rfl rfl rfl hd_X7_isOnApproval ⟨(Nat.le_of_ble_eq_true rfl), (Nat.le_of_ble_eq_true rfl)⟩) ⟨fbR, va_recv hK hP (ci := 6) (q0 := 7) rfl rfl, pR_in hP hK⟩ rfl rfl hl.1 rfl (lv_room (Nat.le_of_ble_eq_true rfl)) dX8_gladNow_5 ⟨(Nat.le_of_ble_eq_true rfl), (Nat.le_of_ble_eq_true rfl)⟩) hS (fun q hq h => absurd hq (Nat.not_lt.mpr h)) (fun q h => hA q (Nat.le_trans hS.1 h)) (fun r_2 u_ t_ H1 locs ht hvm hw hB hz1 hk1 hS => ?_)
  subst hw
  have hP := wk hP hk1
  obtain ⟨f3, f4, f5⟩ := hB
  refine lv_if_eq (tgt := 28) hx hb dX8_gladNow_8 (by decide) (fun c_6 => ?_) (fun c_6 => ?_)
  · skip
    have f7 : r_2.toInt = 0 := qi_eq c_6 rfl zc_0
    have f8 : r_2.toInt = (0 : Int) := (ox_92 f4 f5 f7)
    refine lv_iconst (v := 0) hx hb dX8_gladNow_28 (by decide) ?_
    refine lv_istore_n (lv' := [(3, .int 0), (0, .ref (r 0)), (1, .int p0), (2, .int p1)]) hx hb dX8_gladNow_29 rfl hl (by decide) rfl (fun ls hl => ?_)
    refine lv_iload_n hx hb dX8_gladNow_30 rfl (lv_at hl 0 rfl) ?_
    refine lv_if_eq (tgt := 46) hx hb dX8_gladNow_31 (by decide) (fun c_9 => ?_) (fun c_9 => absurd (by decide) c_9)
    refine lv_iconst (v := 0) hx hb dX8_gladNow_46 (by decide) ?_
    refine lv_istore (lv' := [(4, .int 0), (3, .int 0), (0, .ref (r 0)), (1, .int p0), (2, .int p1)]) hx hb dX8_gladNow_47 hl (by decide) rfl (fun ls hl => ?_)
    refine lv_aload_n hx hb dX8_gladNow_49 rfl (lv_at hl 2 rfl) ?_
    refine gX_X8_23_0 hx hb hG hown hK hP dX8_gladNow_50 ?_
    refine lv_iload_n hx hb dX8_gladNow_53 rfl (lv_at hl 3 rfl) ?_
    refine lv_iload_n hx hb dX8_gladNow_54 rfl (lv_at hl 4 rfl) ?_
    refine lv_aload_n hx hb dX8_gladNow_55 rfl (lv_at hl 2 rfl) ?_
    refine gX_X8_30_0 hx hb hG hown hK hP dX8_gladNow_56 ?_
    refine gX_X8_118_7 hx hb hG hown hK hP dX8_gladNow_59 ?_
    refine lv_iload_n hx hb dX8_gladNow_62 rfl (lv_at hl 4 rfl) ?_
    refine ldX_43 (mm := p1.toInt) hx hb hK hP rfl (ox_33 hp2 hp3) (ox_34 ie13 hp3) dX8_gladNow_63 ?_
    have f10 : 0 ≤ (f_now_worn (p1.toInt).toNat).toInt ∧ (f_now_worn (p1.toInt).toNat).toInt ≤ 99 := ie36 (p1.toInt)
    refine lv_iload hx hb dX8_gladNow_64 (lv_at hl 0 rfl) ?_
    refine lv_aload_n hx hb dX8_gladNow_66 rfl (lv_at hl 2 rfl) ?_
    refine gX_X8_30_0 hx hb hG hown hK hP dX8_gladNow_67 ?_
    refine gX_X8_144_7 hx hb hG hown hK hP dX8_gladNow_70 ?_
    refine lv_iload_n hx hb dX8_gladNow_73 rfl (lv_at hl 3 rfl) ?_
    refine ldX_45 (mm := p0.toInt) hx hb hK hP rfl (ox_33 hp0 hp1) (ox_100 ie15 hp1) dX8_gladNow_74 (fun x11 => ?_)
    have hFc := frA hD hS hA
    refine va_calli (va_runV (As := [.int p0, .int p1, .int (f_now_worn (p1.toInt).toNat), .int 0, .int x11]) (rest := []) ⟨hx, hb, hml, hown, hG⟩ (kX4_gladness l dC dI r ct i_tapeLength i_time i_lyingCount i_rd_fault i_rd_token i_rd_kind i_sc_count i_sc_at i_A_tunes i_A_houses i_fA_length i_B_tunes i_B_houses i_fB_length i_acts_done i_acts_undone i_kn_count f_boxes f_boxKept f_trial f_offers f_A_noteCounts f_A_notes f_B_noteCounts f_B_notes f_now_where f_now_worn f_ahead_where f_ahead_worn f_acts_rows f_kn_tunes f_kn_noteTimes J L p0 p1 (f_now_worn (p1.toInt).toNat) 0 x11 H1.size hI (ox_54 hp0 hp1) (ox_55 hp1) (ox_54 hp2 hp3) (ox_55 hp3) (ox_56 f10) (ox_57 f10)) (cwV 5 hG (goodV gw749 gw750 gw751 gw132 gw752) rfl rfl rfl hd_X4_gladness ⟨(Nat.le_of_ble_eq_true rfl), (Nat.le_of_ble_eq_true rfl)⟩) ⟨fbW, va_recv hK hP (ci := 3) (q0 := 3) rfl rfl, pW_in hP hK hD⟩ rfl rfl hl.1 rfl (lv_room (Nat.le_of_ble_eq_true rfl)) dX8_gladNow_75 ⟨(Nat.le_of_ble_eq_true rfl), (Nat.le_of_ble_eq_true rfl)⟩) hS (fun q _ h => hFc q h) hFc (fun r_13 u_ t_ H12 locs ht hvm hw hB hz1 hk1 hS => ?_)
    subst hw
    obtain ⟨J14, hP1, hD1, hI15⟩ := hB
    rw [ht] at hP1
    have hP := hP1
    have hD := dW hFc hD1
    obtain ⟨im16, im17, im18, im19, im20, im21, im22, im23, im24, im25, im26, im27, im28, im29, im30, im31, im32, im33, im34, im35, im36, im37, im38, im39, im40, im41, im42, im43, im44, im45, im46, im47, im48, im49, im50, im51, im52, im53, im54, im55⟩ := id hI15
    rw [hQ]
    exact W.iret (v := r_13) hx hb hr (fun t ht hW => ⟨⟨r_13, r_13, rfl, rfl, ⟨J14, by rw [ht]; exact hP, hD, hI15⟩⟩, hS.F ht⟩) hS.2.2 dX8_gladNow_78
  · skip
    have f56 : r_2.toInt ≠ 0 := qi_ne c_6 rfl zc_0
    have f57 : r_2.toInt = (1 : Int) := (ox_91 f3 f56)
    have f58 : (1 : Int) ≤ r_2.toInt := (ox_53 f4 f5 f57)
    refine lv_aload_n hx hb dX8_gladNow_11 rfl (lv_at hl 0 rfl) ?_
    refine gX_X8_30_0 hx hb hG hown hK hP dX8_gladNow_12 ?_
    refine gX_X8_125_7 hx hb hG hown hK hP dX8_gladNow_15 ?_
    refine lv_iload_n hx hb dX8_gladNow_18 rfl (lv_at hl 2 rfl) ?_
    refine ldX_41 (mm := p1.toInt) hx hb hK hP rfl (ox_33 hp2 hp3) (ox_34 ie13 hp3) dX8_gladNow_19 ?_
    refine lv_iload_n hx hb dX8_gladNow_20 rfl (lv_at hl 1 rfl) ?_
    refine lv_icmp_ne (tgt := 28) hx hb dX8_gladNow_21 (by decide) (fun c_59 => ?_) (fun c_59 => ?_)
    · skip
      have f60 : (f_now_where (p1.toInt).toNat).toInt ≠ p0.toInt := qi_ne c_59 rfl rfl
      refine lv_iconst (v := 0) hx hb dX8_gladNow_28 (by decide) ?_
      refine lv_istore_n (lv' := [(3, .int 0), (0, .ref (r 0)), (1, .int p0), (2, .int p1)]) hx hb dX8_gladNow_29 rfl hl (by decide) rfl (fun ls hl => ?_)
      refine lv_iload_n hx hb dX8_gladNow_30 rfl (lv_at hl 0 rfl) ?_
      refine lv_if_eq (tgt := 46) hx hb dX8_gladNow_31 (by decide) (fun c_61 => ?_) (fun c_61 => absurd (by decide) c_61)
      refine lv_iconst (v := 0) hx hb dX8_gladNow_46 (by decide) ?_
      refine lv_istore (lv' := [(4, .int 0), (3, .int 0), (0, .ref (r 0)), (1, .int p0), (2, .int p1)]) hx hb dX8_gladNow_47 hl (by decide) rfl (fun ls hl => ?_)
      refine lv_aload_n hx hb dX8_gladNow_49 rfl (lv_at hl 2 rfl) ?_
      refine gX_X8_23_0 hx hb hG hown hK hP dX8_gladNow_50 ?_
      refine lv_iload_n hx hb dX8_gladNow_53 rfl (lv_at hl 3 rfl) ?_
      refine lv_iload_n hx hb dX8_gladNow_54 rfl (lv_at hl 4 rfl) ?_
      refine lv_aload_n hx hb dX8_gladNow_55 rfl (lv_at hl 2 rfl) ?_
      refine gX_X8_30_0 hx hb hG hown hK hP dX8_gladNow_56 ?_
      refine gX_X8_118_7 hx hb hG hown hK hP dX8_gladNow_59 ?_
      refine lv_iload_n hx hb dX8_gladNow_62 rfl (lv_at hl 4 rfl) ?_
      refine ldX_43 (mm := p1.toInt) hx hb hK hP rfl (ox_33 hp2 hp3) (ox_34 ie13 hp3) dX8_gladNow_63 ?_
      have f62 : 0 ≤ (f_now_worn (p1.toInt).toNat).toInt ∧ (f_now_worn (p1.toInt).toNat).toInt ≤ 99 := ie36 (p1.toInt)
      refine lv_iload hx hb dX8_gladNow_64 (lv_at hl 0 rfl) ?_
      refine lv_aload_n hx hb dX8_gladNow_66 rfl (lv_at hl 2 rfl) ?_
      refine gX_X8_30_0 hx hb hG hown hK hP dX8_gladNow_67 ?_
      refine gX_X8_144_7 hx hb hG hown hK hP dX8_gladNow_70 ?_
      refine lv_iload_n hx hb dX8_gladNow_73 rfl (lv_at hl 3 rfl) ?_
      refine ldX_45 (mm := p0.toInt) hx hb hK hP rfl (ox_33 hp0 hp1) (ox_100 ie15 hp1) dX8_gladNow_74 (fun x63 => ?_)
      have hFc := frA hD hS hA
      refine va_calli (va_runV (As := [.int p0, .int p1, .int (f_now_worn (p1.toInt).toNat), .int 0, .int x63]) (rest := []) ⟨hx, hb, hml, hown, hG⟩ (kX4_gladness l dC dI r ct i_tapeLength i_time i_lyingCount i_rd_fault i_rd_token i_rd_kind i_sc_count i_sc_at i_A_tunes i_A_houses i_fA_length i_B_tunes i_B_houses i_fB_length i_acts_done i_acts_undone i_kn_count f_boxes f_boxKept f_trial f_offers f_A_noteCounts f_A_notes f_B_noteCounts f_B_notes f_now_where f_now_worn f_ahead_where f_ahead_worn f_acts_rows f_kn_tunes f_kn_noteTimes J L p0 p1 (f_now_worn (p1.toInt).toNat) 0 x63 H1.size hI (ox_54 hp0 hp1) (ox_55 hp1) (ox_54 hp2 hp3) (ox_55 hp3) (ox_56 f62) (ox_57 f62)) (cwV 5 hG (goodV gw749 gw750 gw751 gw132 gw752) rfl rfl rfl hd_X4_gladness ⟨(Nat.le_of_ble_eq_true rfl), (Nat.le_of_ble_eq_true rfl)⟩) ⟨fbW, va_recv hK hP (ci := 3) (q0 := 3) rfl rfl, pW_in hP hK hD⟩ rfl rfl hl.1 rfl (lv_room (Nat.le_of_ble_eq_true rfl)) dX8_gladNow_75 ⟨(Nat.le_of_ble_eq_true rfl), (Nat.le_of_ble_eq_true rfl)⟩) hS (fun q _ h => hFc q h) hFc (fun r_65 u_ t_ H64 locs ht hvm hw hB hz1 hk1 hS => ?_)
      subst hw
      obtain ⟨J66, hP1, hD1, hI67⟩ := hB
      rw [ht] at hP1
      have hP := hP1
      have hD := dW hFc hD1
      obtain ⟨im68, im69, im70, im71, im72, im73, im74, im75, im76, im77, im78, im79, im80, im81, im82, im83, im84, im85, im86, im87, im88, im89, im90, im91, im92, im93, im94, im95, im96, im97, im98, im99, im100, im101, im102, im103, im104, im105, im106, im107⟩ := id hI67
      rw [hQ]
      exact W.iret (v := r_65) hx hb hr (fun t ht hW => ⟨⟨r_65, r_65, rfl, rfl, ⟨J66, by rw [ht]; exact hP, hD, hI67⟩⟩, hS.F ht⟩) hS.2.2 dX8_gladNow_78
    · skip
      have f108 : (f_now_where (p1.toInt).toNat).toInt = p0.toInt := qi_eq c_59 rfl rfl
      refine lv_iconst (v := 1) hx hb dX8_gladNow_24 (by decide) ?_
      refine lv_goto (tgt := 29) hx hb dX8_gladNow_25 (by decide) ?_
      refine lv_istore_n (lv' := [(3, .int 1), (0, .ref (r 0)), (1, .int p0), (2, .int p1)]) hx hb dX8_gladNow_29 rfl hl (by decide) rfl (fun ls hl => ?_)
      refine lv_iload_n hx hb dX8_gladNow_30 rfl (lv_at hl 0 rfl) ?_
      refine lv_if_eq (tgt := 46) hx hb dX8_gladNow_31 (by decide) (fun c_109 => absurd c_109 (by decide)) (fun c_109 => ?_)
      refine lv_aload_n hx hb dX8_gladNow_34 rfl (lv_at hl 1 rfl) ?_
      refine gX_X8_30_0 hx hb hG hown hK hP dX8_gladNow_35 ?_
      refine gX_X8_131_7 hx hb hG hown hK hP dX8_gladNow_38 ?_
      refine lv_iload_n hx hb dX8_gladNow_41 rfl (lv_at hl 3 rfl) ?_
      refine ldX_44 (mm := p1.toInt) hx hb hK hP rfl (ox_33 hp2 hp3) (ox_34 ie13 hp3) dX8_gladNow_42 (fun x110 => ?_)
      refine lv_goto (tgt := 47) hx hb dX8_gladNow_43 (by decide) ?_
      refine lv_istore (lv' := [(4, .int x110), (3, .int 1), (0, .ref (r 0)), (1, .int p0), (2, .int p1)]) hx hb dX8_gladNow_47 hl (by decide) rfl (fun ls hl => ?_)
      refine lv_aload_n hx hb dX8_gladNow_49 rfl (lv_at hl 2 rfl) ?_
      refine gX_X8_23_0 hx hb hG hown hK hP dX8_gladNow_50 ?_
      refine lv_iload_n hx hb dX8_gladNow_53 rfl (lv_at hl 3 rfl) ?_
      refine lv_iload_n hx hb dX8_gladNow_54 rfl (lv_at hl 4 rfl) ?_
      refine lv_aload_n hx hb dX8_gladNow_55 rfl (lv_at hl 2 rfl) ?_
      refine gX_X8_30_0 hx hb hG hown hK hP dX8_gladNow_56 ?_
      refine gX_X8_118_7 hx hb hG hown hK hP dX8_gladNow_59 ?_
      refine lv_iload_n hx hb dX8_gladNow_62 rfl (lv_at hl 4 rfl) ?_
      refine ldX_43 (mm := p1.toInt) hx hb hK hP rfl (ox_33 hp2 hp3) (ox_34 ie13 hp3) dX8_gladNow_63 ?_
      have f111 : 0 ≤ (f_now_worn (p1.toInt).toNat).toInt ∧ (f_now_worn (p1.toInt).toNat).toInt ≤ 99 := ie36 (p1.toInt)
      refine lv_iload hx hb dX8_gladNow_64 (lv_at hl 0 rfl) ?_
      refine lv_aload_n hx hb dX8_gladNow_66 rfl (lv_at hl 2 rfl) ?_
      refine gX_X8_30_0 hx hb hG hown hK hP dX8_gladNow_67 ?_
      refine gX_X8_144_7 hx hb hG hown hK hP dX8_gladNow_70 ?_
      refine lv_iload_n hx hb dX8_gladNow_73 rfl (lv_at hl 3 rfl) ?_
      refine ldX_45 (mm := p0.toInt) hx hb hK hP rfl (ox_212 hp0 hp1 f108) (ox_100 ie15 hp1) dX8_gladNow_74 (fun x112 => ?_)
      have hFc := frA hD hS hA
      refine va_calli (va_runV (As := [.int p0, .int p1, .int (f_now_worn (p1.toInt).toNat), .int x110, .int x112]) (rest := []) ⟨hx, hb, hml, hown, hG⟩ (kX4_gladness l dC dI r ct i_tapeLength i_time i_lyingCount i_rd_fault i_rd_token i_rd_kind i_sc_count i_sc_at i_A_tunes i_A_houses i_fA_length i_B_tunes i_B_houses i_fB_length i_acts_done i_acts_undone i_kn_count f_boxes f_boxKept f_trial f_offers f_A_noteCounts f_A_notes f_B_noteCounts f_B_notes f_now_where f_now_worn f_ahead_where f_ahead_worn f_acts_rows f_kn_tunes f_kn_noteTimes J L p0 p1 (f_now_worn (p1.toInt).toNat) x110 x112 H1.size hI (ox_213 hp0 hp1 f108) (ox_55 hp1) (ox_54 hp2 hp3) (ox_55 hp3) (ox_56 f111) (ox_57 f111)) (cwV 5 hG (goodV gw749 gw750 gw751 gw132 gw752) rfl rfl rfl hd_X4_gladness ⟨(Nat.le_of_ble_eq_true rfl), (Nat.le_of_ble_eq_true rfl)⟩) ⟨fbW, va_recv hK hP (ci := 3) (q0 := 3) rfl rfl, pW_in hP hK hD⟩ rfl rfl hl.1 rfl (lv_room (Nat.le_of_ble_eq_true rfl)) dX8_gladNow_75 ⟨(Nat.le_of_ble_eq_true rfl), (Nat.le_of_ble_eq_true rfl)⟩) hS (fun q _ h => hFc q h) hFc (fun r_114 u_ t_ H113 locs ht hvm hw hB hz1 hk1 hS => ?_)
      subst hw
      obtain ⟨J115, hP1, hD1, hI116⟩ := hB
      rw [ht] at hP1
      have hP := hP1
      have hD := dW hFc hD1
      obtain ⟨im117, im118, im119, im120, im121, im122, im123, im124, im125, im126, im127, im128, im129, im130, im131, im132, im133, im134, im135, im136, im137, im138, im139, im140, im141, im142, im143, im144, im145, im146, im147, im148, im149, im150, im151, im152, im153, im154, im155, im156⟩ := id hI116
      rw [hQ]
      exact W.iret (v := r_114) hx hb hr (fun t ht hW => ⟨⟨r_114, r_114, rfl, rfl, ⟨J115, by rw [ht]; exact hP, hD, hI116⟩⟩, hS.F ht⟩) hS.2.2 dX8_gladNow_78
set_option maxHeartbeats 4000000 in
set_option maxRecDepth 100000 in
theorem kX8_glad (l : Launch) (dC : Nat → ClassId) (dI : Nat → Nat → Nat) (r : Nat → Nat) (ct : Nat → ClassId) (i_tapeLength i_time i_lyingCount i_rd_fault i_rd_token i_rd_kind i_sc_count i_sc_at i_A_tunes i_A_houses i_fA_length i_B_tunes i_B_houses i_fB_length i_acts_done i_acts_undone i_kn_count : Int32) (f_boxes f_boxKept f_trial f_offers f_A_noteCounts f_A_notes f_B_noteCounts f_B_notes f_now_where f_now_worn f_ahead_where f_ahead_worn f_acts_rows f_kn_tunes f_kn_noteTimes : Nat → Int32) (J : Nat → Nat → Int32) (L : Nat → Nat → Int64) (p0 p1 : Int32) (sz : Nat) (hI : (IX i_tapeLength i_time i_lyingCount i_rd_token i_sc_count i_sc_at i_A_tunes i_A_houses i_fA_length i_B_tunes i_B_houses i_fB_length i_acts_done i_acts_undone i_kn_count f_boxes f_A_noteCounts f_A_notes f_B_noteCounts f_B_notes f_now_worn f_ahead_worn f_acts_rows f_kn_tunes)) : Met l yX8_glad (.code yX8_glad cX8_glad 3 (some .int) :: GW) { frames := 12, cells := 0, slots := 0, locals := 428 } (va_Pc [.ref (r 0), .int p0, .int p1] (pW (dC, dI) (WX r ct i_tapeLength i_time i_lyingCount i_rd_fault i_rd_token i_rd_kind i_sc_count i_sc_at i_A_tunes i_A_houses i_fA_length i_B_tunes i_B_houses i_fB_length i_acts_done i_acts_undone i_kn_count f_boxes f_boxKept f_trial f_offers f_A_noteCounts f_A_notes f_B_noteCounts f_B_notes f_now_where f_now_worn f_ahead_where f_ahead_worn f_acts_rows f_kn_tunes f_kn_noteTimes J L) (TX ct) sz)) (va_Qi (fun (r0 : Int32) (u : Int32) => r0 = u) (fun (u : Int32) (t : State) => ∃ (n_J : Nat → Nat → Int32), va_P (dC, dI) vwCl (WX r ct i_tapeLength i_time i_lyingCount i_rd_fault i_rd_token i_rd_kind i_sc_count i_sc_at i_A_tunes i_A_houses i_fA_length i_B_tunes i_B_houses i_fB_length i_acts_done i_acts_undone i_kn_count f_boxes f_boxKept f_trial f_offers f_A_noteCounts f_A_notes f_B_noteCounts f_B_notes f_now_where f_now_worn f_ahead_where f_ahead_worn f_acts_rows f_kn_tunes f_kn_noteTimes n_J L) t.heap ∧ va_D (va_A (WX r ct i_tapeLength i_time i_lyingCount i_rd_fault i_rd_token i_rd_kind i_sc_count i_sc_at i_A_tunes i_A_houses i_fA_length i_B_tunes i_B_houses i_fB_length i_acts_done i_acts_undone i_kn_count f_boxes f_boxKept f_trial f_offers f_A_noteCounts f_A_notes f_B_noteCounts f_B_notes f_now_where f_now_worn f_ahead_where f_ahead_worn f_acts_rows f_kn_tunes f_kn_noteTimes J L) sz) (WX r ct i_tapeLength i_time i_lyingCount i_rd_fault i_rd_token i_rd_kind i_sc_count i_sc_at i_A_tunes i_A_houses i_fA_length i_B_tunes i_B_houses i_fB_length i_acts_done i_acts_undone i_kn_count f_boxes f_boxKept f_trial f_offers f_A_noteCounts f_A_notes f_B_noteCounts f_B_notes f_now_where f_now_worn f_ahead_where f_ahead_worn f_acts_rows f_kn_tunes f_kn_noteTimes n_J L) ∧ (IX i_tapeLength i_time i_lyingCount i_rd_token i_sc_count i_sc_at i_A_tunes i_A_houses i_fA_length i_B_tunes i_B_houses i_fB_length i_acts_done i_acts_undone i_kn_count f_boxes f_A_noteCounts f_A_notes f_B_noteCounts f_B_notes f_now_worn f_ahead_worn f_acts_rows f_kn_tunes)) (va_A (WX r ct i_tapeLength i_time i_lyingCount i_rd_fault i_rd_token i_rd_kind i_sc_count i_sc_at i_A_tunes i_A_houses i_fA_length i_B_tunes i_B_houses i_fB_length i_acts_done i_acts_undone i_kn_count f_boxes f_boxKept f_trial f_offers f_A_noteCounts f_A_notes f_B_noteCounts f_B_notes f_now_where f_now_worn f_ahead_where f_ahead_worn f_acts_rows f_kn_tunes f_kn_noteTimes J L) sz)) 0 0 (va_A (WX r ct i_tapeLength i_time i_lyingCount i_rd_fault i_rd_token i_rd_kind i_sc_count i_sc_at i_A_tunes i_A_houses i_fA_length i_B_tunes i_B_houses i_fB_length i_acts_done i_acts_undone i_kn_count f_boxes f_boxKept f_trial f_offers f_A_noteCounts f_A_notes f_B_noteCounts f_B_notes f_now_where f_now_worn f_ahead_where f_ahead_worn f_acts_rows f_kn_tunes f_kn_noteTimes J L) sz) := by
  refine Met.ofW (cc := cX8_glad) (maxL := 3) (ret := (some .int)) (by decide) rfl ?_
  intro p e s m args below meth c0 s₁ B hml hv
  obtain ⟨rfl, hsz, hP, hK, hD0⟩ := hv
  have hx := B.exec
  have hb := B.bytes
  have hr := B.returns
  have hts := atoms_spec (ws := .code yX8_glad cX8_glad 3 (some .int) :: GW) B.pre
  have hG : ∀ w ∈ GW, w.before _ s = true := fun w h => hts w (List.mem_cons_of_mem _ h)
  have hown : s.vm.findClass RX8 = some m.cls := findClass_of_methodNamed B.named
  subst hsz
  have hD := hD0.self (sz := s.heap.size)
  generalize hAe : va_A (WX r ct i_tapeLength i_time i_lyingCount i_rd_fault i_rd_token i_rd_kind i_sc_count i_sc_at i_A_tunes i_A_houses i_fA_length i_B_tunes i_B_houses i_fB_length i_acts_done i_acts_undone i_kn_count f_boxes f_boxKept f_trial f_offers f_A_noteCounts f_A_notes f_B_noteCounts f_B_notes f_now_where f_now_worn f_ahead_where f_ahead_worn f_acts_rows f_kn_tunes f_kn_noteTimes J L) s.heap.size = A at hD ⊢
  have hA : ∀ q : Nat, s.heap.size ≤ q → A q := fun q h => by rw [← hAe]; exact Or.inr h
  have hS : va_S A s.heap s.heap [] := va_S.rf
  have hP : va_P (dC, dI) vwCl (WX r ct i_tapeLength i_time i_lyingCount i_rd_fault i_rd_token i_rd_kind i_sc_count i_sc_at i_A_tunes i_A_houses i_fA_length i_B_tunes i_B_houses i_fB_length i_acts_done i_acts_undone i_kn_count f_boxes f_boxKept f_trial f_offers f_A_noteCounts f_A_notes f_B_noteCounts f_B_notes f_now_where f_now_worn f_ahead_where f_ahead_worn f_acts_rows f_kn_tunes f_kn_noteTimes J L) s.heap := hP
  have hl := lv_entry ([.ref (r 0), .int p0, .int p1]) (n := 3) (Nat.le_of_ble_eq_true rfl)
  rw [lg_entry_eq]
  generalize (lg_sl ([.ref (r 0), .int p0, .int p1]) ++ List.replicate (3 - (lg_sl ([.ref (r 0), .int p0, .int p1])).length) Slot.unset).toArray = ls at hl ⊢
  have hl : lv_has ls 3 [(0, .ref (r 0)), (1, .int p0), (2, .int p1)] := hl
  refine nameQ (fun Q hQ => ?_)
  obtain ⟨ie0, ie1, ie2, ie3, ie4, ie5, ie6, ie7, ie8, ie9, ie10, ie11, ie12, ie13, ie14, ie15, ie16, ie17, ie18, ie19, ie20, ie21, ie22, ie23, ie24, ie25, ie26, ie27, ie28, ie29, ie30, ie31, ie32, ie33, ie34, ie35, ie36, ie37, ie38, ie39⟩ := id hI
  refine lv_aload_n hx hb dX8_glad_0 rfl (lv_at hl 0 rfl) ?_
  refine lv_iload_n hx hb dX8_glad_1 rfl (lv_at hl 1 rfl) ?_
  refine va_calli (va_runV (As := [.int p0]) (rest := []) ⟨hx, hb, hml, hown, hG⟩ (kX8_isHouse l dC dI r ct i_tapeLength i_time i_lyingCount i_rd_fault i_rd_token i_rd_kind i_sc_count i_sc_at i_A_tunes i_A_houses i_fA_length i_B_tunes i_B_houses i_fB_length i_acts_done i_acts_undone i_kn_count f_boxes f_boxKept f_trial f_offers f_A_noteCounts f_A_notes f_B_noteCounts f_B_notes f_now_where f_now_worn f_ahead_where f_ahead_worn f_acts_rows f_kn_tunes f_kn_noteTimes J L p0 s.heap.size hI) (cwV 1 hG (goodV gw716 gw718 gw21 gw129 gw719) rfl rfl rfl hd_X8_isHouse ⟨(Nat.le_of_ble_eq_true rfl), (Nat.le_of_ble_eq_true rfl)⟩) ⟨fbR, va_recv hK hP (ci := 7) (q0 := 0) rfl rfl, pR_in hP hK⟩ rfl rfl hl.1 rfl (lv_room (Nat.le_of_ble_eq_true rfl)) dX8_glad_2 ⟨(Nat.le_of_ble_eq_true rfl), (Nat.le_of_ble_eq_true rfl)⟩) hS (fun q hq h => absurd hq (Nat.not_lt.mpr h)) (fun q h => hA q (Nat.le_trans hS.1 h)) (fun r_2 u_ t_ H1 locs ht hvm hw hB hz1 hk1 hS => ?_)
  subst hw
  have hP := wk hP hk1
  obtain ⟨f3, f4, f5⟩ := hB
  refine lv_if_eq (tgt := 25) hx hb dX8_glad_5 (by decide) (fun c_6 => ?_) (fun c_6 => ?_)
  · skip
    have f7 : r_2.toInt = 0 := qi_eq c_6 rfl zc_0
    refine lv_ldc (v := (-1000000000)) hx hb hown (hG _ gw777) dX8_glad_25 ?_
    rw [hQ]
    exact W.iret (v := (-1000000000)) hx hb hr (fun t ht hW => ⟨⟨(-1000000000), (-1000000000), rfl, rfl, ⟨J, by rw [ht]; exact hP, hD, hI⟩⟩, hS.F ht⟩) hS.2.2 dX8_glad_27
  · skip
    have f8 : r_2.toInt ≠ 0 := qi_ne c_6 rfl zc_0
    have f9 : (0 : Int) ≤ p0.toInt := (ox_50 f3 f8)
    have f10 : p0.toInt + 1 ≤ i_A_houses.toInt := (ox_51 f3 f8)
    have f11 : r_2.toInt = (1 : Int) := (ox_52 f3 f8)
    have f12 : (1 : Int) ≤ r_2.toInt := (ox_53 f4 f5 f11)
    refine lv_aload_n hx hb dX8_glad_8 rfl (lv_at hl 0 rfl) ?_
    refine lv_iload_n hx hb dX8_glad_9 rfl (lv_at hl 2 rfl) ?_
    refine va_calli (va_runV (As := [.int p1]) (rest := []) ⟨hx, hb, hml, hown, hG⟩ (kX8_isTune l dC dI r ct i_tapeLength i_time i_lyingCount i_rd_fault i_rd_token i_rd_kind i_sc_count i_sc_at i_A_tunes i_A_houses i_fA_length i_B_tunes i_B_houses i_fB_length i_acts_done i_acts_undone i_kn_count f_boxes f_boxKept f_trial f_offers f_A_noteCounts f_A_notes f_B_noteCounts f_B_notes f_now_where f_now_worn f_ahead_where f_ahead_worn f_acts_rows f_kn_tunes f_kn_noteTimes J L p1 H1.size hI) (cwV 1 hG (goodV gw695 gw697 gw20 gw129 gw698) rfl rfl rfl hd_X8_isTune ⟨(Nat.le_of_ble_eq_true rfl), (Nat.le_of_ble_eq_true rfl)⟩) ⟨fbR, va_recv hK hP (ci := 7) (q0 := 0) rfl rfl, pR_in hP hK⟩ rfl rfl hl.1 rfl (lv_room (Nat.le_of_ble_eq_true rfl)) dX8_glad_10 ⟨(Nat.le_of_ble_eq_true rfl), (Nat.le_of_ble_eq_true rfl)⟩) hS (fun q hq h => absurd hq (Nat.not_lt.mpr h)) (fun q h => hA q (Nat.le_trans hS.1 h)) (fun r_14 u_ t_ H13 locs ht hvm hw hB hz1 hk1 hS => ?_)
    subst hw
    have hP := wk hP hk1
    obtain ⟨f15, f16, f17⟩ := hB
    refine lv_if_eq (tgt := 25) hx hb dX8_glad_13 (by decide) (fun c_18 => ?_) (fun c_18 => ?_)
    · skip
      have f19 : r_14.toInt = 0 := qi_eq c_18 rfl zc_0
      refine lv_ldc (v := (-1000000000)) hx hb hown (hG _ gw777) dX8_glad_25 ?_
      rw [hQ]
      exact W.iret (v := (-1000000000)) hx hb hr (fun t ht hW => ⟨⟨(-1000000000), (-1000000000), rfl, rfl, ⟨J, by rw [ht]; exact hP, hD, hI⟩⟩, hS.F ht⟩) hS.2.2 dX8_glad_27
    · skip
      have f20 : r_14.toInt ≠ 0 := qi_ne c_18 rfl zc_0
      have f21 : (0 : Int) ≤ p1.toInt := (ox_50 f15 f20)
      have f22 : p1.toInt + 1 ≤ i_A_tunes.toInt := (ox_51 f15 f20)
      have f23 : r_14.toInt = (1 : Int) := (ox_52 f15 f20)
      have f24 : (1 : Int) ≤ r_14.toInt := (ox_53 f16 f17 f23)
      refine lv_aload_n hx hb dX8_glad_16 rfl (lv_at hl 0 rfl) ?_
      refine lv_iload_n hx hb dX8_glad_17 rfl (lv_at hl 1 rfl) ?_
      refine lv_iload_n hx hb dX8_glad_18 rfl (lv_at hl 2 rfl) ?_
      have hFc := frA hD hS hA
      refine va_calli (va_runV (As := [.int p0, .int p1]) (rest := []) ⟨hx, hb, hml, hown, hG⟩ (kX8_gladNow l dC dI r ct i_tapeLength i_time i_lyingCount i_rd_fault i_rd_token i_rd_kind i_sc_count i_sc_at i_A_tunes i_A_houses i_fA_length i_B_tunes i_B_houses i_fB_length i_acts_done i_acts_undone i_kn_count f_boxes f_boxKept f_trial f_offers f_A_noteCounts f_A_notes f_B_noteCounts f_B_notes f_now_where f_now_worn f_ahead_where f_ahead_worn f_acts_rows f_kn_tunes f_kn_noteTimes J L p0 p1 H13.size hI (ox_54 f9 f10) (ox_55 f10) (ox_54 f21 f22) (ox_55 f22)) (cwV 2 hG (goodV gw737 gw739 gw23 gw129 gw740) rfl rfl rfl hd_X8_gladNow ⟨(Nat.le_of_ble_eq_true rfl), (Nat.le_of_ble_eq_true rfl)⟩) ⟨fbW, va_recv hK hP (ci := 7) (q0 := 0) rfl rfl, pW_in hP hK hD⟩ rfl rfl hl.1 rfl (lv_room (Nat.le_of_ble_eq_true rfl)) dX8_glad_19 ⟨(Nat.le_of_ble_eq_true rfl), (Nat.le_of_ble_eq_true rfl)⟩) hS (fun q _ h => hFc q h) hFc (fun r_26 u_ t_ H25 locs ht hvm hw hB hz1 hk1 hS => ?_)
      subst hw
      obtain ⟨J27, hP1, hD1, hI28⟩ := hB
      rw [ht] at hP1
      have hP := hP1
      have hD := dW hFc hD1
      obtain ⟨im29, im30, im31, im32, im33, im34, im35, im36, im37, im38, im39, im40, im41, im42, im43, im44, im45, im46, im47, im48, im49, im50, im51, im52, im53, im54, im55, im56, im57, im58, im59, im60, im61, im62, im63, im64, im65, im66, im67, im68⟩ := id hI28
      refine lv_goto (tgt := 27) hx hb dX8_glad_22 (by decide) ?_
      rw [hQ]
      exact W.iret (v := r_26) hx hb hr (fun t ht hW => ⟨⟨r_26, r_26, rfl, rfl, ⟨J27, by rw [ht]; exact hP, hD, hI28⟩⟩, hS.F ht⟩) hS.2.2 dX8_glad_27
set_option maxHeartbeats 4000000 in
set_option maxRecDepth 100000 in
theorem kX7_backOnCart (l : Launch) (dC : Nat → ClassId) (dI : Nat → Nat → Nat) (r : Nat → Nat) (ct : Nat → ClassId) (i_tapeLength i_time i_lyingCount i_rd_fault i_rd_token i_rd_kind i_sc_count i_sc_at i_A_tunes i_A_houses i_fA_length i_B_tunes i_B_houses i_fB_length i_acts_done i_acts_undone i_kn_count : Int32) (f_boxes f_boxKept f_trial f_offers f_A_noteCounts f_A_notes f_B_noteCounts f_B_notes f_now_where f_now_worn f_ahead_where f_ahead_worn f_acts_rows f_kn_tunes f_kn_noteTimes : Nat → Int32) (J : Nat → Nat → Int32) (L : Nat → Nat → Int64) (p0 : Int32) (sz : Nat) (hI : (IX i_tapeLength i_time i_lyingCount i_rd_token i_sc_count i_sc_at i_A_tunes i_A_houses i_fA_length i_B_tunes i_B_houses i_fB_length i_acts_done i_acts_undone i_kn_count f_boxes f_A_noteCounts f_A_notes f_B_noteCounts f_B_notes f_now_worn f_ahead_worn f_acts_rows f_kn_tunes)) (hp0 : (0 : Int) ≤ p0.toInt) (hp1 : p0.toInt ≤ (4 : Int)) : Met l yX7_backOnCart (.code yX7_backOnCart cX7_backOnCart 2 none :: GW) { frames := 2, cells := 0, slots := 0, locals := 100 } (va_Pc [.ref (r 7), .int p0] (pW (dC, dI) (WX r ct i_tapeLength i_time i_lyingCount i_rd_fault i_rd_token i_rd_kind i_sc_count i_sc_at i_A_tunes i_A_houses i_fA_length i_B_tunes i_B_houses i_fB_length i_acts_done i_acts_undone i_kn_count f_boxes f_boxKept f_trial f_offers f_A_noteCounts f_A_notes f_B_noteCounts f_B_notes f_now_where f_now_worn f_ahead_where f_ahead_worn f_acts_rows f_kn_tunes f_kn_noteTimes J L) (TX ct) sz)) (va_Qv (fun _ : Unit => True) (fun (_ : Unit) (t : State) => ∃ (n_f_now_where : Nat → Int32) (n_J : Nat → Nat → Int32), va_P (dC, dI) vwCl (WX r ct i_tapeLength i_time i_lyingCount i_rd_fault i_rd_token i_rd_kind i_sc_count i_sc_at i_A_tunes i_A_houses i_fA_length i_B_tunes i_B_houses i_fB_length i_acts_done i_acts_undone i_kn_count f_boxes f_boxKept f_trial f_offers f_A_noteCounts f_A_notes f_B_noteCounts f_B_notes n_f_now_where f_now_worn f_ahead_where f_ahead_worn f_acts_rows f_kn_tunes f_kn_noteTimes n_J L) t.heap ∧ va_D (va_A (WX r ct i_tapeLength i_time i_lyingCount i_rd_fault i_rd_token i_rd_kind i_sc_count i_sc_at i_A_tunes i_A_houses i_fA_length i_B_tunes i_B_houses i_fB_length i_acts_done i_acts_undone i_kn_count f_boxes f_boxKept f_trial f_offers f_A_noteCounts f_A_notes f_B_noteCounts f_B_notes f_now_where f_now_worn f_ahead_where f_ahead_worn f_acts_rows f_kn_tunes f_kn_noteTimes J L) sz) (WX r ct i_tapeLength i_time i_lyingCount i_rd_fault i_rd_token i_rd_kind i_sc_count i_sc_at i_A_tunes i_A_houses i_fA_length i_B_tunes i_B_houses i_fB_length i_acts_done i_acts_undone i_kn_count f_boxes f_boxKept f_trial f_offers f_A_noteCounts f_A_notes f_B_noteCounts f_B_notes n_f_now_where f_now_worn f_ahead_where f_ahead_worn f_acts_rows f_kn_tunes f_kn_noteTimes n_J L) ∧ (IX i_tapeLength i_time i_lyingCount i_rd_token i_sc_count i_sc_at i_A_tunes i_A_houses i_fA_length i_B_tunes i_B_houses i_fB_length i_acts_done i_acts_undone i_kn_count f_boxes f_A_noteCounts f_A_notes f_B_noteCounts f_B_notes f_now_worn f_ahead_worn f_acts_rows f_kn_tunes) ∧ (n_f_now_where = upd f_now_where (p0.toInt).toNat (-1))) (va_A (WX r ct i_tapeLength i_time i_lyingCount i_rd_fault i_rd_token i_rd_kind i_sc_count i_sc_at i_A_tunes i_A_houses i_fA_length i_B_tunes i_B_houses i_fB_length i_acts_done i_acts_undone i_kn_count f_boxes f_boxKept f_trial f_offers f_A_noteCounts f_A_notes f_B_noteCounts f_B_notes f_now_where f_now_worn f_ahead_where f_ahead_worn f_acts_rows f_kn_tunes f_kn_noteTimes J L) sz)) 0 0 (va_A (WX r ct i_tapeLength i_time i_lyingCount i_rd_fault i_rd_token i_rd_kind i_sc_count i_sc_at i_A_tunes i_A_houses i_fA_length i_B_tunes i_B_houses i_fB_length i_acts_done i_acts_undone i_kn_count f_boxes f_boxKept f_trial f_offers f_A_noteCounts f_A_notes f_B_noteCounts f_B_notes f_now_where f_now_worn f_ahead_where f_ahead_worn f_acts_rows f_kn_tunes f_kn_noteTimes J L) sz) := by
  refine Met.ofW (cc := cX7_backOnCart) (maxL := 2) (ret := none) (by decide) rfl ?_
  intro p e s m args below meth c0 s₁ B hml hv
  obtain ⟨rfl, hsz, hP, hK, hD0⟩ := hv
  have hx := B.exec
  have hb := B.bytes
  have hr := B.returns
  have hts := atoms_spec (ws := .code yX7_backOnCart cX7_backOnCart 2 none :: GW) B.pre
  have hG : ∀ w ∈ GW, w.before _ s = true := fun w h => hts w (List.mem_cons_of_mem _ h)
  have hown : s.vm.findClass RX7 = some m.cls := findClass_of_methodNamed B.named
  subst hsz
  have hD := hD0.self (sz := s.heap.size)
  generalize hAe : va_A (WX r ct i_tapeLength i_time i_lyingCount i_rd_fault i_rd_token i_rd_kind i_sc_count i_sc_at i_A_tunes i_A_houses i_fA_length i_B_tunes i_B_houses i_fB_length i_acts_done i_acts_undone i_kn_count f_boxes f_boxKept f_trial f_offers f_A_noteCounts f_A_notes f_B_noteCounts f_B_notes f_now_where f_now_worn f_ahead_where f_ahead_worn f_acts_rows f_kn_tunes f_kn_noteTimes J L) s.heap.size = A at hD ⊢
  have hA : ∀ q : Nat, s.heap.size ≤ q → A q := fun q h => by rw [← hAe]; exact Or.inr h
  have hS : va_S A s.heap s.heap [] := va_S.rf
  have hP : va_P (dC, dI) vwCl (WX r ct i_tapeLength i_time i_lyingCount i_rd_fault i_rd_token i_rd_kind i_sc_count i_sc_at i_A_tunes i_A_houses i_fA_length i_B_tunes i_B_houses i_fB_length i_acts_done i_acts_undone i_kn_count f_boxes f_boxKept f_trial f_offers f_A_noteCounts f_A_notes f_B_noteCounts f_B_notes f_now_where f_now_worn f_ahead_where f_ahead_worn f_acts_rows f_kn_tunes f_kn_noteTimes J L) s.heap := hP
  have hl := lv_entry ([.ref (r 7), .int p0]) (n := 2) (Nat.le_of_ble_eq_true rfl)
  rw [lg_entry_eq]
  generalize (lg_sl ([.ref (r 7), .int p0]) ++ List.replicate (2 - (lg_sl ([.ref (r 7), .int p0])).length) Slot.unset).toArray = ls at hl ⊢
  have hl : lv_has ls 2 [(0, .ref (r 7)), (1, .int p0)] := hl
  refine nameQ (fun Q hQ => ?_)
  obtain ⟨ie0, ie1, ie2, ie3, ie4, ie5, ie6, ie7, ie8, ie9, ie10, ie11, ie12, ie13, ie14, ie15, ie16, ie17, ie18, ie19, ie20, ie21, ie22, ie23, ie24, ie25, ie26, ie27, ie28, ie29, ie30, ie31, ie32, ie33, ie34, ie35, ie36, ie37, ie38, ie39⟩ := id hI
  refine lv_aload_n hx hb dX7_backOnCart_0 rfl (lv_at hl 0 rfl) ?_
  refine gX_X7_9_7 hx hb hG hown hK hP dX7_backOnCart_1 ?_
  refine lv_iload_n hx hb dX7_backOnCart_4 rfl (lv_at hl 1 rfl) ?_
  refine lv_iconst (v := (-1)) hx hb dX7_backOnCart_5 (by decide) ?_
  refine stX_41 (mm := p0.toInt) hx hb hK hP hD hS rfl (ox_78 hp0 hp1) (ox_79 hp0 hp1) dX7_backOnCart_6 (fun z2 H1 locs ez2 hP hD hS => ?_)
  refine lv_aload_n hx hb dX7_backOnCart_7 rfl (lv_at hl 0 rfl) ?_
  refine gX_X7_15_7 hx hb hG hown hK hP dX7_backOnCart_8 ?_
  refine lv_iload_n hx hb dX7_backOnCart_11 rfl (lv_at hl 1 rfl) ?_
  refine lv_iconst (v := 0) hx hb dX7_backOnCart_12 (by decide) ?_
  refine stX_42 (mm := p0.toInt) hx hb hK hP hD hS rfl (ox_78 hp0 hp1) (ox_79 hp0 hp1) dX7_backOnCart_13 (fun J4 H3 locs hP hD hS => ?_)
  refine lv_aload_n hx hb dX7_backOnCart_14 rfl (lv_at hl 0 rfl) ?_
  refine gX_X7_21_7 hx hb hG hown hK hP dX7_backOnCart_15 ?_
  refine lv_iload_n hx hb dX7_backOnCart_18 rfl (lv_at hl 1 rfl) ?_
  refine lv_iconst (v := 0) hx hb dX7_backOnCart_19 (by decide) ?_
  refine stX_44 (mm := p0.toInt) hx hb hK hP hD hS rfl (ox_78 hp0 hp1) (ox_79 hp0 hp1) dX7_backOnCart_20 (fun J6 H5 locs hP hD hS => ?_)
  rw [hQ]
  exact W.vret hx hb hr (fun t ht hW => ⟨⟨(), rfl, trivial, ⟨z2, J6, by rw [ht]; exact hP, hD, hI, ez2⟩⟩, hS.F ht⟩) hS.2.2 dX7_backOnCart_21
set_option maxHeartbeats 4000000 in
set_option maxRecDepth 100000 in
theorem kX7_pay (l : Launch) (dC : Nat → ClassId) (dI : Nat → Nat → Nat) (r : Nat → Nat) (ct : Nat → ClassId) (i_tapeLength i_time i_lyingCount i_rd_fault i_rd_token i_rd_kind i_sc_count i_sc_at i_A_tunes i_A_houses i_fA_length i_B_tunes i_B_houses i_fB_length i_acts_done i_acts_undone i_kn_count : Int32) (f_boxes f_boxKept f_trial f_offers f_A_noteCounts f_A_notes f_B_noteCounts f_B_notes f_now_where f_now_worn f_ahead_where f_ahead_worn f_acts_rows f_kn_tunes f_kn_noteTimes : Nat → Int32) (J : Nat → Nat → Int32) (L : Nat → Nat → Int64) (p0 : Int32) (sz : Nat) (hI : (IX i_tapeLength i_time i_lyingCount i_rd_token i_sc_count i_sc_at i_A_tunes i_A_houses i_fA_length i_B_tunes i_B_houses i_fB_length i_acts_done i_acts_undone i_kn_count f_boxes f_A_noteCounts f_A_notes f_B_noteCounts f_B_notes f_now_worn f_ahead_worn f_acts_rows f_kn_tunes)) (hp0 : (0 : Int) ≤ p0.toInt) (hp1 : p0.toInt ≤ (4 : Int)) : Met l yX7_pay (.code yX7_pay cX7_pay 2 none :: GW) { frames := 2, cells := 0, slots := 0, locals := 100 } (va_Pc [.ref (r 7), .int p0] (pW (dC, dI) (WX r ct i_tapeLength i_time i_lyingCount i_rd_fault i_rd_token i_rd_kind i_sc_count i_sc_at i_A_tunes i_A_houses i_fA_length i_B_tunes i_B_houses i_fB_length i_acts_done i_acts_undone i_kn_count f_boxes f_boxKept f_trial f_offers f_A_noteCounts f_A_notes f_B_noteCounts f_B_notes f_now_where f_now_worn f_ahead_where f_ahead_worn f_acts_rows f_kn_tunes f_kn_noteTimes J L) (TX ct) sz)) (va_Qv (fun _ : Unit => True) (fun (_ : Unit) (t : State) => ∃ (n_J : Nat → Nat → Int32), va_P (dC, dI) vwCl (WX r ct i_tapeLength i_time i_lyingCount i_rd_fault i_rd_token i_rd_kind i_sc_count i_sc_at i_A_tunes i_A_houses i_fA_length i_B_tunes i_B_houses i_fB_length i_acts_done i_acts_undone i_kn_count f_boxes f_boxKept f_trial f_offers f_A_noteCounts f_A_notes f_B_noteCounts f_B_notes f_now_where f_now_worn f_ahead_where f_ahead_worn f_acts_rows f_kn_tunes f_kn_noteTimes n_J L) t.heap ∧ va_D (va_A (WX r ct i_tapeLength i_time i_lyingCount i_rd_fault i_rd_token i_rd_kind i_sc_count i_sc_at i_A_tunes i_A_houses i_fA_length i_B_tunes i_B_houses i_fB_length i_acts_done i_acts_undone i_kn_count f_boxes f_boxKept f_trial f_offers f_A_noteCounts f_A_notes f_B_noteCounts f_B_notes f_now_where f_now_worn f_ahead_where f_ahead_worn f_acts_rows f_kn_tunes f_kn_noteTimes J L) sz) (WX r ct i_tapeLength i_time i_lyingCount i_rd_fault i_rd_token i_rd_kind i_sc_count i_sc_at i_A_tunes i_A_houses i_fA_length i_B_tunes i_B_houses i_fB_length i_acts_done i_acts_undone i_kn_count f_boxes f_boxKept f_trial f_offers f_A_noteCounts f_A_notes f_B_noteCounts f_B_notes f_now_where f_now_worn f_ahead_where f_ahead_worn f_acts_rows f_kn_tunes f_kn_noteTimes n_J L) ∧ (IX i_tapeLength i_time i_lyingCount i_rd_token i_sc_count i_sc_at i_A_tunes i_A_houses i_fA_length i_B_tunes i_B_houses i_fB_length i_acts_done i_acts_undone i_kn_count f_boxes f_A_noteCounts f_A_notes f_B_noteCounts f_B_notes f_now_worn f_ahead_worn f_acts_rows f_kn_tunes)) (va_A (WX r ct i_tapeLength i_time i_lyingCount i_rd_fault i_rd_token i_rd_kind i_sc_count i_sc_at i_A_tunes i_A_houses i_fA_length i_B_tunes i_B_houses i_fB_length i_acts_done i_acts_undone i_kn_count f_boxes f_boxKept f_trial f_offers f_A_noteCounts f_A_notes f_B_noteCounts f_B_notes f_now_where f_now_worn f_ahead_where f_ahead_worn f_acts_rows f_kn_tunes f_kn_noteTimes J L) sz)) 0 0 (va_A (WX r ct i_tapeLength i_time i_lyingCount i_rd_fault i_rd_token i_rd_kind i_sc_count i_sc_at i_A_tunes i_A_houses i_fA_length i_B_tunes i_B_houses i_fB_length i_acts_done i_acts_undone i_kn_count f_boxes f_boxKept f_trial f_offers f_A_noteCounts f_A_notes f_B_noteCounts f_B_notes f_now_where f_now_worn f_ahead_where f_ahead_worn f_acts_rows f_kn_tunes f_kn_noteTimes J L) sz) := by
  refine Met.ofW (cc := cX7_pay) (maxL := 2) (ret := none) (by decide) rfl ?_
  intro p e s m args below meth c0 s₁ B hml hv
  obtain ⟨rfl, hsz, hP, hK, hD0⟩ := hv
  have hx := B.exec
  have hb := B.bytes
  have hr := B.returns
  have hts := atoms_spec (ws := .code yX7_pay cX7_pay 2 none :: GW) B.pre
  have hG : ∀ w ∈ GW, w.before _ s = true := fun w h => hts w (List.mem_cons_of_mem _ h)
  have hown : s.vm.findClass RX7 = some m.cls := findClass_of_methodNamed B.named
  subst hsz
  have hD := hD0.self (sz := s.heap.size)
  generalize hAe : va_A (WX r ct i_tapeLength i_time i_lyingCount i_rd_fault i_rd_token i_rd_kind i_sc_count i_sc_at i_A_tunes i_A_houses i_fA_length i_B_tunes i_B_houses i_fB_length i_acts_done i_acts_undone i_kn_count f_boxes f_boxKept f_trial f_offers f_A_noteCounts f_A_notes f_B_noteCounts f_B_notes f_now_where f_now_worn f_ahead_where f_ahead_worn f_acts_rows f_kn_tunes f_kn_noteTimes J L) s.heap.size = A at hD ⊢
  have hA : ∀ q : Nat, s.heap.size ≤ q → A q := fun q h => by rw [← hAe]; exact Or.inr h
  have hS : va_S A s.heap s.heap [] := va_S.rf
  have hP : va_P (dC, dI) vwCl (WX r ct i_tapeLength i_time i_lyingCount i_rd_fault i_rd_token i_rd_kind i_sc_count i_sc_at i_A_tunes i_A_houses i_fA_length i_B_tunes i_B_houses i_fB_length i_acts_done i_acts_undone i_kn_count f_boxes f_boxKept f_trial f_offers f_A_noteCounts f_A_notes f_B_noteCounts f_B_notes f_now_where f_now_worn f_ahead_where f_ahead_worn f_acts_rows f_kn_tunes f_kn_noteTimes J L) s.heap := hP
  have hl := lv_entry ([.ref (r 7), .int p0]) (n := 2) (Nat.le_of_ble_eq_true rfl)
  rw [lg_entry_eq]
  generalize (lg_sl ([.ref (r 7), .int p0]) ++ List.replicate (2 - (lg_sl ([.ref (r 7), .int p0])).length) Slot.unset).toArray = ls at hl ⊢
  have hl : lv_has ls 2 [(0, .ref (r 7)), (1, .int p0)] := hl
  refine nameQ (fun Q hQ => ?_)
  obtain ⟨ie0, ie1, ie2, ie3, ie4, ie5, ie6, ie7, ie8, ie9, ie10, ie11, ie12, ie13, ie14, ie15, ie16, ie17, ie18, ie19, ie20, ie21, ie22, ie23, ie24, ie25, ie26, ie27, ie28, ie29, ie30, ie31, ie32, ie33, ie34, ie35, ie36, ie37, ie38, ie39⟩ := id hI
  refine lv_aload_n hx hb dX7_pay_0 rfl (lv_at hl 0 rfl) ?_
  refine gX_X7_15_7 hx hb hG hown hK hP dX7_pay_1 ?_
  refine lv_iload_n hx hb dX7_pay_4 rfl (lv_at hl 1 rfl) ?_
  refine lv_iconst (v := 1) hx hb dX7_pay_5 (by decide) ?_
  refine stX_42 (mm := p0.toInt) hx hb hK hP hD hS rfl (ox_78 hp0 hp1) (ox_79 hp0 hp1) dX7_pay_6 (fun J2 H1 locs hP hD hS => ?_)
  refine lv_aload_n hx hb dX7_pay_7 rfl (lv_at hl 0 rfl) ?_
  refine gX_X7_21_7 hx hb hG hown hK hP dX7_pay_8 ?_
  refine lv_iload_n hx hb dX7_pay_11 rfl (lv_at hl 1 rfl) ?_
  refine lv_iconst (v := 0) hx hb dX7_pay_12 (by decide) ?_
  refine stX_44 (mm := p0.toInt) hx hb hK hP hD hS rfl (ox_78 hp0 hp1) (ox_79 hp0 hp1) dX7_pay_13 (fun J4 H3 locs hP hD hS => ?_)
  rw [hQ]
  exact W.vret hx hb hr (fun t ht hW => ⟨⟨(), rfl, trivial, ⟨J4, by rw [ht]; exact hP, hD, hI⟩⟩, hS.F ht⟩) hS.2.2 dX7_pay_14
