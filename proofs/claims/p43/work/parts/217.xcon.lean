set_option maxHeartbeats 4000000 in
set_option maxRecDepth 100000 in
theorem kX8_pair (l : Launch) (dC : Nat → ClassId) (dI : Nat → Nat → Nat) (r : Nat → Nat) (ct : Nat → ClassId) (i_tapeLength i_time i_lyingCount i_rd_fault i_rd_token i_rd_kind i_sc_count i_sc_at i_A_tunes i_A_houses i_fA_length i_B_tunes i_B_houses i_fB_length i_acts_done i_acts_undone i_kn_count : Int32) (f_boxes f_boxKept f_trial f_offers f_A_noteCounts f_A_notes f_B_noteCounts f_B_notes f_now_where f_now_worn f_ahead_where f_ahead_worn f_acts_rows f_kn_tunes f_kn_noteTimes : Nat → Int32) (J : Nat → Nat → Int32) (L : Nat → Nat → Int64) (p0 p1 : Int32) (sz : Nat) (hI : (IX i_tapeLength i_time i_lyingCount i_rd_token i_sc_count i_sc_at i_A_tunes i_A_houses i_fA_length i_B_tunes i_B_houses i_fB_length i_acts_done i_acts_undone i_kn_count f_boxes f_A_noteCounts f_A_notes f_B_noteCounts f_B_notes f_now_worn f_ahead_worn f_acts_rows f_kn_tunes)) : Met l yX8_pair (.code yX8_pair cX8_pair 7 (some .int) :: GW) { frames := 12, cells := 0, slots := 0, locals := 428 } (va_Pc [.ref (r 0), .int p0, .int p1] (pW (dC, dI) (WX r ct i_tapeLength i_time i_lyingCount i_rd_fault i_rd_token i_rd_kind i_sc_count i_sc_at i_A_tunes i_A_houses i_fA_length i_B_tunes i_B_houses i_fB_length i_acts_done i_acts_undone i_kn_count f_boxes f_boxKept f_trial f_offers f_A_noteCounts f_A_notes f_B_noteCounts f_B_notes f_now_where f_now_worn f_ahead_where f_ahead_worn f_acts_rows f_kn_tunes f_kn_noteTimes J L) (TX ct) sz)) (va_Qi (fun (r0 : Int32) (u : Int32) => r0 = u) (fun (u : Int32) (t : State) => ∃ (n_J : Nat → Nat → Int32), va_P (dC, dI) vwCl (WX r ct i_tapeLength i_time i_lyingCount i_rd_fault i_rd_token i_rd_kind i_sc_count i_sc_at i_A_tunes i_A_houses i_fA_length i_B_tunes i_B_houses i_fB_length i_acts_done i_acts_undone i_kn_count f_boxes f_boxKept f_trial f_offers f_A_noteCounts f_A_notes f_B_noteCounts f_B_notes f_now_where f_now_worn f_ahead_where f_ahead_worn f_acts_rows f_kn_tunes f_kn_noteTimes n_J L) t.heap ∧ va_D (va_A (WX r ct i_tapeLength i_time i_lyingCount i_rd_fault i_rd_token i_rd_kind i_sc_count i_sc_at i_A_tunes i_A_houses i_fA_length i_B_tunes i_B_houses i_fB_length i_acts_done i_acts_undone i_kn_count f_boxes f_boxKept f_trial f_offers f_A_noteCounts f_A_notes f_B_noteCounts f_B_notes f_now_where f_now_worn f_ahead_where f_ahead_worn f_acts_rows f_kn_tunes f_kn_noteTimes J L) sz) (WX r ct i_tapeLength i_time i_lyingCount i_rd_fault i_rd_token i_rd_kind i_sc_count i_sc_at i_A_tunes i_A_houses i_fA_length i_B_tunes i_B_houses i_fB_length i_acts_done i_acts_undone i_kn_count f_boxes f_boxKept f_trial f_offers f_A_noteCounts f_A_notes f_B_noteCounts f_B_notes f_now_where f_now_worn f_ahead_where f_ahead_worn f_acts_rows f_kn_tunes f_kn_noteTimes n_J L) ∧ (IX i_tapeLength i_time i_lyingCount i_rd_token i_sc_count i_sc_at i_A_tunes i_A_houses i_fA_length i_B_tunes i_B_houses i_fB_length i_acts_done i_acts_undone i_kn_count f_boxes f_A_noteCounts f_A_notes f_B_noteCounts f_B_notes f_now_worn f_ahead_worn f_acts_rows f_kn_tunes)) (va_A (WX r ct i_tapeLength i_time i_lyingCount i_rd_fault i_rd_token i_rd_kind i_sc_count i_sc_at i_A_tunes i_A_houses i_fA_length i_B_tunes i_B_houses i_fB_length i_acts_done i_acts_undone i_kn_count f_boxes f_boxKept f_trial f_offers f_A_noteCounts f_A_notes f_B_noteCounts f_B_notes f_now_where f_now_worn f_ahead_where f_ahead_worn f_acts_rows f_kn_tunes f_kn_noteTimes J L) sz)) 0 0 (va_A (WX r ct i_tapeLength i_time i_lyingCount i_rd_fault i_rd_token i_rd_kind i_sc_count i_sc_at i_A_tunes i_A_houses i_fA_length i_B_tunes i_B_houses i_fB_length i_acts_done i_acts_undone i_kn_count f_boxes f_boxKept f_trial f_offers f_A_noteCounts f_A_notes f_B_noteCounts f_B_notes f_now_where f_now_worn f_ahead_where f_ahead_worn f_acts_rows f_kn_tunes f_kn_noteTimes J L) sz) := by
  refine Met.ofW (cc := cX8_pair) (maxL := 7) (ret := (some .int)) (by decide) rfl ?_
  intro p e s m args below meth c0 s₁ B hml hv
  obtain ⟨rfl, hsz, hP, hK, hD0⟩ := hv
  have hx := B.exec
  have hb := B.bytes
  have hr := B.returns
  have hts := atoms_spec (ws := .code yX8_pair cX8_pair 7 (some .int) :: GW) B.pre
  have hG : ∀ w ∈ GW, w.before _ s = true := fun w h => hts w (List.mem_cons_of_mem _ h)
  have hown : s.vm.findClass RX8 = some m.cls := findClass_of_methodNamed B.named
  subst hsz
  have hD := hD0.self (sz := s.heap.size)
  generalize hAe : va_A (WX r ct i_tapeLength i_time i_lyingCount i_rd_fault i_rd_token i_rd_kind i_sc_count i_sc_at i_A_tunes i_A_houses i_fA_length i_B_tunes i_B_houses i_fB_length i_acts_done i_acts_undone i_kn_count f_boxes f_boxKept f_trial f_offers f_A_noteCounts f_A_notes f_B_noteCounts f_B_notes f_now_where f_now_worn f_ahead_where f_ahead_worn f_acts_rows f_kn_tunes f_kn_noteTimes J L) s.heap.size = A at hD ⊢
  have hA : ∀ q : Nat, s.heap.size ≤ q → A q := fun q h => by rw [← hAe]; exact Or.inr h
  have hS : va_S A s.heap s.heap [] := va_S.rf
  have hP : va_P (dC, dI) vwCl (WX r ct i_tapeLength i_time i_lyingCount i_rd_fault i_rd_token i_rd_kind i_sc_count i_sc_at i_A_tunes i_A_houses i_fA_length i_B_tunes i_B_houses i_fB_length i_acts_done i_acts_undone i_kn_count f_boxes f_boxKept f_trial f_offers f_A_noteCounts f_A_notes f_B_noteCounts f_B_notes f_now_where f_now_worn f_ahead_where f_ahead_worn f_acts_rows f_kn_tunes f_kn_noteTimes J L) s.heap := hP
  have hl := lv_entry ([.ref (r 0), .int p0, .int p1]) (n := 7) (Nat.le_of_ble_eq_true rfl)
  rw [lg_entry_eq]
  generalize (lg_sl ([.ref (r 0), .int p0, .int p1]) ++ List.replicate (7 - (lg_sl ([.ref (r 0), .int p0, .int p1])).length) Slot.unset).toArray = ls at hl ⊢
  have hl : lv_has ls 7 [(0, .ref (r 0)), (1, .int p0), (2, .int p1)] := hl
  refine nameQ (fun Q hQ => ?_)
  obtain ⟨ie0, ie1, ie2, ie3, ie4, ie5, ie6, ie7, ie8, ie9, ie10, ie11, ie12, ie13, ie14, ie15, ie16, ie17, ie18, ie19, ie20, ie21, ie22, ie23, ie24, ie25, ie26, ie27, ie28, ie29, ie30, ie31, ie32, ie33, ie34, ie35, ie36, ie37, ie38, ie39⟩ := id hI
  refine lv_aload_n hx hb dX8_pair_0 rfl (lv_at hl 0 rfl) ?_
  refine lv_iload_n hx hb dX8_pair_1 rfl (lv_at hl 1 rfl) ?_
  refine va_calli (va_runV (As := [.int p0]) (rest := []) ⟨hx, hb, hml, hown, hG⟩ (kX8_isTune l dC dI r ct i_tapeLength i_time i_lyingCount i_rd_fault i_rd_token i_rd_kind i_sc_count i_sc_at i_A_tunes i_A_houses i_fA_length i_B_tunes i_B_houses i_fB_length i_acts_done i_acts_undone i_kn_count f_boxes f_boxKept f_trial f_offers f_A_noteCounts f_A_notes f_B_noteCounts f_B_notes f_now_where f_now_worn f_ahead_where f_ahead_worn f_acts_rows f_kn_tunes f_kn_noteTimes J L p0 s.heap.size hI) (cwV 1 hG (goodV gw695 gw697 gw20 gw129 gw698) rfl rfl rfl hd_X8_isTune ⟨(Nat.le_of_ble_eq_true rfl), (Nat.le_of_ble_eq_true rfl)⟩) ⟨fbR, va_recv hK hP (ci := 7) (q0 := 0) rfl rfl, pR_in hP hK⟩ rfl rfl hl.1 rfl (lv_room (Nat.le_of_ble_eq_true rfl)) dX8_pair_2 ⟨(Nat.le_of_ble_eq_true rfl), (Nat.le_of_ble_eq_true rfl)⟩) hS (fun q hq h => absurd hq (Nat.not_lt.mpr h)) (fun q h => hA q (Nat.le_trans hS.1 h)) (fun r_2 u_ t_ H1 locs ht hvm hw hB hz1 hk1 hS => ?_)
  subst hw
  have hP := wk hP hk1
  obtain ⟨f3, f4, f5⟩ := hB
  refine lv_if_eq (tgt := 27) hx hb dX8_pair_5 (by decide) (fun c_6 => ?_) (fun c_6 => ?_)
  · skip
    have f7 : r_2.toInt = 0 := qi_eq c_6 rfl zc_0
    refine lv_ldc (v := (-1000000000)) hx hb hown (hG _ gw777) dX8_pair_27 ?_
    rw [hQ]
    exact W.iret (v := (-1000000000)) hx hb hr (fun t ht hW => ⟨⟨(-1000000000), (-1000000000), rfl, rfl, ⟨J, by rw [ht]; exact hP, hD, hI⟩⟩, hS.F ht⟩) hS.2.2 dX8_pair_29
  · skip
    have f8 : r_2.toInt ≠ 0 := qi_ne c_6 rfl zc_0
    have f9 : (0 : Int) ≤ p0.toInt := (ox_50 f3 f8)
    have f10 : p0.toInt + 1 ≤ i_A_tunes.toInt := (ox_51 f3 f8)
    have f11 : r_2.toInt = (1 : Int) := (ox_52 f3 f8)
    have f12 : (1 : Int) ≤ r_2.toInt := (ox_53 f4 f5 f11)
    refine lv_aload_n hx hb dX8_pair_8 rfl (lv_at hl 0 rfl) ?_
    refine gX_X8_23_0 hx hb hG hown hK hP dX8_pair_9 ?_
    refine gX_X8_99_3 hx hb hG hown hK hP dX8_pair_12 ?_
    refine lv_if_eq (tgt := 27) hx hb dX8_pair_15 (by decide) (fun c_13 => ?_) (fun c_13 => ?_)
    · skip
      have f14 : i_A_houses.toInt = 0 := qi_eq c_13 rfl zc_0
      refine lv_ldc (v := (-1000000000)) hx hb hown (hG _ gw777) dX8_pair_27 ?_
      rw [hQ]
      exact W.iret (v := (-1000000000)) hx hb hr (fun t ht hW => ⟨⟨(-1000000000), (-1000000000), rfl, rfl, ⟨J, by rw [ht]; exact hP, hD, hI⟩⟩, hS.F ht⟩) hS.2.2 dX8_pair_29
    · skip
      have f15 : i_A_houses.toInt ≠ 0 := qi_ne c_13 rfl zc_0
      have f16 : (1 : Int) ≤ i_A_houses.toInt := (ox_474 ie14 ie15 f15)
      refine lv_iload_n hx hb dX8_pair_18 rfl (lv_at hl 2 rfl) ?_
      refine lv_if_lt (tgt := 27) hx hb dX8_pair_19 (by decide) (fun c_17 => ?_) (fun c_17 => ?_)
      · skip
        have f18 : p1.toInt < 0 := qi_lt c_17 rfl zc_0
        refine lv_ldc (v := (-1000000000)) hx hb hown (hG _ gw777) dX8_pair_27 ?_
        rw [hQ]
        exact W.iret (v := (-1000000000)) hx hb hr (fun t ht hW => ⟨⟨(-1000000000), (-1000000000), rfl, rfl, ⟨J, by rw [ht]; exact hP, hD, hI⟩⟩, hS.F ht⟩) hS.2.2 dX8_pair_29
      · skip
        have f19 : 0 ≤ p1.toInt := qi_nlt c_17 rfl zc_0
        refine lv_iload_n hx hb dX8_pair_22 rfl (lv_at hl 2 rfl) ?_
        refine lv_iconst (v := 1) hx hb dX8_pair_23 (by decide) ?_
        refine lv_icmp_le (tgt := 30) hx hb dX8_pair_24 (by decide) (fun c_20 => ?_) (fun c_20 => ?_)
        · skip
          have f21 : p1.toInt ≤ 1 := qi_le c_20 rfl zc_1
          refine lv_iconst (v := 0) hx hb dX8_pair_30 (by decide) ?_
          refine lv_istore_n (lv' := [(3, .int 0), (0, .ref (r 0)), (1, .int p0), (2, .int p1)]) hx hb dX8_pair_31 rfl hl (by decide) rfl (fun ls hl => ?_)
          refine lv_aload_n hx hb dX8_pair_32 rfl (lv_at hl 1 rfl) ?_
          refine lv_iconst (v := 0) hx hb dX8_pair_33 (by decide) ?_
          refine lv_iload_n hx hb dX8_pair_34 rfl (lv_at hl 2 rfl) ?_
          have hFc := frA hD hS hA
          refine va_calli (va_runV (As := [.int 0, .int p0]) (rest := []) ⟨hx, hb, hml, hown, hG⟩ (kX8_gladNow l dC dI r ct i_tapeLength i_time i_lyingCount i_rd_fault i_rd_token i_rd_kind i_sc_count i_sc_at i_A_tunes i_A_houses i_fA_length i_B_tunes i_B_houses i_fB_length i_acts_done i_acts_undone i_kn_count f_boxes f_boxKept f_trial f_offers f_A_noteCounts f_A_notes f_B_noteCounts f_B_notes f_now_where f_now_worn f_ahead_where f_ahead_worn f_acts_rows f_kn_tunes f_kn_noteTimes J L 0 p0 H1.size hI (ox_27 zc_0) (ox_475 ie14 ie15 f16 zc_0) (ox_54 f9 f10) (ox_55 f10)) (cwV 2 hG (goodV gw737 gw739 gw23 gw129 gw740) rfl rfl rfl hd_X8_gladNow ⟨(Nat.le_of_ble_eq_true rfl), (Nat.le_of_ble_eq_true rfl)⟩) ⟨fbW, va_recv hK hP (ci := 7) (q0 := 0) rfl rfl, pW_in hP hK hD⟩ rfl rfl hl.1 rfl (lv_room (Nat.le_of_ble_eq_true rfl)) dX8_pair_35 ⟨(Nat.le_of_ble_eq_true rfl), (Nat.le_of_ble_eq_true rfl)⟩) hS (fun q _ h => hFc q h) hFc (fun r_23 u_ t_ H22 locs ht hvm hw hB hz1 hk1 hS => ?_)
          subst hw
          obtain ⟨J24, hP1, hD1, hI25⟩ := hB
          rw [ht] at hP1
          have hP := hP1
          have hD := dW hFc hD1
          obtain ⟨im26, im27, im28, im29, im30, im31, im32, im33, im34, im35, im36, im37, im38, im39, im40, im41, im42, im43, im44, im45, im46, im47, im48, im49, im50, im51, im52, im53, im54, im55, im56, im57, im58, im59, im60, im61, im62, im63, im64, im65⟩ := id hI25
          refine lv_istore (lv' := [(4, .int r_23), (3, .int 0), (0, .ref (r 0)), (1, .int p0), (2, .int p1)]) hx hb dX8_pair_38 hl (by decide) rfl (fun ls hl => ?_)
          refine lv_iconst (v := 1) hx hb dX8_pair_40 (by decide) ?_
          refine lv_istore (lv' := [(5, .int 1), (4, .int r_23), (3, .int 0), (0, .ref (r 0)), (1, .int p0), (2, .int p1)]) hx hb dX8_pair_41 hl (by decide) rfl (fun ls hl => ?_)
          have L43 : ∀ (N43 : Nat) (y43_3 y43_4 y43_5 : Int32) (m43_J : Nat → Nat → Int32) (H43 : Heap) (locs : List Loc) (ls : Array Slot) (g43_0 : (0 : Int) ≤ y43_3.toInt) (g43_1 : y43_3.toInt ≤ (1048576 : Int)) (g43_2 : (1 : Int) ≤ y43_5.toInt) (g43_3 : y43_5.toInt ≤ (4 : Int)) (hP : va_P (dC, dI) vwCl (WX r ct i_tapeLength i_time i_lyingCount i_rd_fault i_rd_token i_rd_kind i_sc_count i_sc_at i_A_tunes i_A_houses i_fA_length i_B_tunes i_B_houses i_fB_length i_acts_done i_acts_undone i_kn_count f_boxes f_boxKept f_trial f_offers f_A_noteCounts f_A_notes f_B_noteCounts f_B_notes f_now_where f_now_worn f_ahead_where f_ahead_worn f_acts_rows f_kn_tunes f_kn_noteTimes m43_J L) H43) (hD : va_D A (WX r ct i_tapeLength i_time i_lyingCount i_rd_fault i_rd_token i_rd_kind i_sc_count i_sc_at i_A_tunes i_A_houses i_fA_length i_B_tunes i_B_houses i_fB_length i_acts_done i_acts_undone i_kn_count f_boxes f_boxKept f_trial f_offers f_A_noteCounts f_A_notes f_B_noteCounts f_B_notes f_now_where f_now_worn f_ahead_where f_ahead_worn f_acts_rows f_kn_tunes f_kn_noteTimes m43_J L)) (hS : va_S A s.heap H43 locs) (hl : lv_has ls 7 [(0, .ref (r 0)), (1, .int p0), (2, .int p1), (3, .int y43_3), (4, .int y43_4), (5, .int y43_5)]) (hM : -1 * y43_5.toInt + 4 < (N43 : Int)), W p l e { frames := 12, cells := 0, slots := 0, locals := 428 } s m ([.ref (r 0), .int p0, .int p1] : List Value).toArray below meth c0 H43 locs 0 0 Q (F0 m 43 ls []) := by
            intro N43
            induction N43 with
            | zero =>
              intro y43_3 y43_4 y43_5 m43_J H43 locs ls g43_0 g43_1 g43_2 g43_3 hP hD hS hl hM
              exact ((ox_476 hM g43_2 g43_3)).elim
            | succ N43 ih43 =>
              intro y43_3 y43_4 y43_5 m43_J H43 locs ls g43_0 g43_1 g43_2 g43_3 hP hD hS hl hM
              have hM43 := msucc hM
              refine lv_iload hx hb dX8_pair_43 (lv_at hl 5 rfl) ?_
              refine lv_aload_n hx hb dX8_pair_45 rfl (lv_at hl 0 rfl) ?_
              refine gX_X8_23_0 hx hb hG hown hK hP dX8_pair_46 ?_
              refine gX_X8_99_3 hx hb hG hown hK hP dX8_pair_49 ?_
              refine lv_icmp_ge (tgt := 84) hx hb dX8_pair_52 (by decide) (fun c_66 => ?_) (fun c_66 => ?_)
              · skip
                have f67 : i_A_houses.toInt ≤ y43_5.toInt := qi_le c_66 rfl rfl
                refine lv_iload_n hx hb dX8_pair_84 rfl (lv_at hl 2 rfl) ?_
                refine lv_if_ne (tgt := 92) hx hb dX8_pair_85 (by decide) (fun c_68 => ?_) (fun c_68 => ?_)
                · skip
                  have f69 : p1.toInt ≠ 0 := qi_ne c_68 rfl zc_0
                  have f70 : (1 : Int) ≤ p1.toInt := (ox_382 f19 f21 f69)
                  refine lv_iload hx hb dX8_pair_92 (lv_at hl 4 rfl) ?_
                  rw [hQ]
                  exact W.iret (v := y43_4) hx hb hr (fun t ht hW => ⟨⟨y43_4, y43_4, rfl, rfl, ⟨m43_J, by rw [ht]; exact hP, hD, hI25⟩⟩, hS.F ht⟩) hS.2.2 dX8_pair_94
                · skip
                  have f71 : p1.toInt = 0 := qi_eq c_68 rfl zc_0
                  refine lv_iload_n hx hb dX8_pair_88 rfl (lv_at hl 3 rfl) ?_
                  refine lv_goto (tgt := 94) hx hb dX8_pair_89 (by decide) ?_
                  rw [hQ]
                  exact W.iret (v := y43_3) hx hb hr (fun t ht hW => ⟨⟨y43_3, y43_3, rfl, rfl, ⟨m43_J, by rw [ht]; exact hP, hD, hI25⟩⟩, hS.F ht⟩) hS.2.2 dX8_pair_94
              · skip
                have f72 : y43_5.toInt < i_A_houses.toInt := qi_nle c_66 rfl rfl
                refine lv_aload_n hx hb dX8_pair_55 rfl (lv_at hl 0 rfl) ?_
                refine lv_iload hx hb dX8_pair_56 (lv_at hl 5 rfl) ?_
                refine lv_iload_n hx hb dX8_pair_58 rfl (lv_at hl 1 rfl) ?_
                have hFc := frA hD hS hA
                refine va_calli (va_runV (As := [.int y43_5, .int p0]) (rest := []) ⟨hx, hb, hml, hown, hG⟩ (kX8_gladNow l dC dI r ct i_tapeLength i_time i_lyingCount i_rd_fault i_rd_token i_rd_kind i_sc_count i_sc_at i_A_tunes i_A_houses i_fA_length i_B_tunes i_B_houses i_fB_length i_acts_done i_acts_undone i_kn_count f_boxes f_boxKept f_trial f_offers f_A_noteCounts f_A_notes f_B_noteCounts f_B_notes f_now_where f_now_worn f_ahead_where f_ahead_worn f_acts_rows f_kn_tunes f_kn_noteTimes m43_J L y43_5 p0 H43.size hI25 (ox_477 g43_2) (ox_223 f72) (ox_54 f9 f10) (ox_55 f10)) (cwV 2 hG (goodV gw737 gw739 gw23 gw129 gw740) rfl rfl rfl hd_X8_gladNow ⟨(Nat.le_of_ble_eq_true rfl), (Nat.le_of_ble_eq_true rfl)⟩) ⟨fbW, va_recv hK hP (ci := 7) (q0 := 0) rfl rfl, pW_in hP hK hD⟩ rfl rfl hl.1 rfl (lv_room (Nat.le_of_ble_eq_true rfl)) dX8_pair_59 ⟨(Nat.le_of_ble_eq_true rfl), (Nat.le_of_ble_eq_true rfl)⟩) hS (fun q _ h => hFc q h) hFc (fun r_74 u_ t_ H73 locs ht hvm hw hB hz1 hk1 hS => ?_)
                subst hw
                obtain ⟨J75, hP1, hD1, hI76⟩ := hB
                rw [ht] at hP1
                have hP := hP1
                have hD := dW hFc hD1
                obtain ⟨im77, im78, im79, im80, im81, im82, im83, im84, im85, im86, im87, im88, im89, im90, im91, im92, im93, im94, im95, im96, im97, im98, im99, im100, im101, im102, im103, im104, im105, im106, im107, im108, im109, im110, im111, im112, im113, im114, im115, im116⟩ := id hI76
                refine lv_istore (lv' := [(6, .int r_74), (0, .ref (r 0)), (1, .int p0), (2, .int p1), (3, .int y43_3), (4, .int y43_4), (5, .int y43_5)]) hx hb dX8_pair_62 hl (by decide) rfl (fun ls hl => ?_)
                refine lv_iload hx hb dX8_pair_64 (lv_at hl 0 rfl) ?_
                refine lv_iload hx hb dX8_pair_66 (lv_at hl 5 rfl) ?_
                refine lv_icmp_le (tgt := 78) hx hb dX8_pair_68 (by decide) (fun c_117 => ?_) (fun c_117 => ?_)
                · skip
                  have f118 : r_74.toInt ≤ y43_4.toInt := qi_le c_117 rfl rfl
                  obtain ⟨x119, ex119⟩ : ∃ y : Int32, y = y43_5 + Int32.ofInt 1 := ⟨_, rfl⟩
                  have f120 : x119.toInt = y43_5.toInt + 1 := (ox_13 (qi_add ex119 rfl (by decide) (ox_478 g43_2) (ox_219 g43_3)))
                  refine lv_iinc (v := x119) (lv' := [(5, .int x119), (6, .int r_74), (0, .ref (r 0)), (1, .int p0), (2, .int p1), (3, .int y43_3), (4, .int y43_4)]) hx hb dX8_pair_78 hl (k := 6) rfl ex119.symm (by decide) rfl (fun ls hl => ?_)
                  refine lv_goto (tgt := 43) hx hb dX8_pair_81 (by decide) ?_
                  exact ih43 y43_3 y43_4 x119 J75 H73 _ _ (ox_479 g43_0 g43_1) (ox_480 g43_0 g43_1) (ox_481 g43_2 f120) (ox_220 ie15 f72 f120) hP hD hS (lv_sub hl [2, 3, 4, 5, 6, 0] rfl) (ox_221 hM43 f120)
                · skip
                  have f121 : y43_4.toInt < r_74.toInt := qi_nle c_117 rfl rfl
                  refine lv_iload hx hb dX8_pair_71 (lv_at hl 0 rfl) ?_
                  refine lv_istore (lv' := [(4, .int r_74), (6, .int r_74), (0, .ref (r 0)), (1, .int p0), (2, .int p1), (3, .int y43_3), (5, .int y43_5)]) hx hb dX8_pair_73 hl (by decide) rfl (fun ls hl => ?_)
                  refine lv_iload hx hb dX8_pair_75 (lv_at hl 6 rfl) ?_
                  refine lv_istore_n (lv' := [(3, .int y43_5), (4, .int r_74), (6, .int r_74), (0, .ref (r 0)), (1, .int p0), (2, .int p1), (5, .int y43_5)]) hx hb dX8_pair_77 rfl hl (by decide) rfl (fun ls hl => ?_)
                  obtain ⟨x122, ex122⟩ : ∃ y : Int32, y = y43_5 + Int32.ofInt 1 := ⟨_, rfl⟩
                  have f123 : x122.toInt = y43_5.toInt + 1 := (ox_13 (qi_add ex122 rfl (by decide) (ox_478 g43_2) (ox_219 g43_3)))
                  refine lv_iinc (v := x122) (lv' := [(5, .int x122), (3, .int y43_5), (4, .int r_74), (6, .int r_74), (0, .ref (r 0)), (1, .int p0), (2, .int p1)]) hx hb dX8_pair_78 hl (k := 6) rfl ex122.symm (by decide) rfl (fun ls hl => ?_)
                  refine lv_goto (tgt := 43) hx hb dX8_pair_81 (by decide) ?_
                  exact ih43 y43_5 r_74 x122 J75 H73 _ _ (ox_477 g43_2) (ox_482 g43_3) (ox_481 g43_2 f123) (ox_220 ie15 f72 f123) hP hD hS (lv_sub hl [4, 5, 6, 1, 2, 0] rfl) (ox_221 hM43 f123)
          exact L43 (-1 * (1 : Int32).toInt + 4 + 1).toNat 0 r_23 1 J24 H22 _ _ (ox_27 zc_0) (ox_483 zc_0) (ox_484 zc_1) (ox_485 zc_1) hP hD hS (lv_sub hl [3, 4, 5, 2, 1, 0] rfl) (mlt (ox_486 zc_1))
        · skip
          have f124 : 1 < p1.toInt := qi_nle c_20 rfl zc_1
          refine lv_ldc (v := (-1000000000)) hx hb hown (hG _ gw777) dX8_pair_27 ?_
          rw [hQ]
          exact W.iret (v := (-1000000000)) hx hb hr (fun t ht hW => ⟨⟨(-1000000000), (-1000000000), rfl, rfl, ⟨J, by rw [ht]; exact hP, hD, hI⟩⟩, hS.F ht⟩) hS.2.2 dX8_pair_29
set_option maxHeartbeats 4000000 in
set_option maxRecDepth 100000 in
theorem kX8_frayed (l : Launch) (dC : Nat → ClassId) (dI : Nat → Nat → Nat) (r : Nat → Nat) (ct : Nat → ClassId) (i_tapeLength i_time i_lyingCount i_rd_fault i_rd_token i_rd_kind i_sc_count i_sc_at i_A_tunes i_A_houses i_fA_length i_B_tunes i_B_houses i_fB_length i_acts_done i_acts_undone i_kn_count : Int32) (f_boxes f_boxKept f_trial f_offers f_A_noteCounts f_A_notes f_B_noteCounts f_B_notes f_now_where f_now_worn f_ahead_where f_ahead_worn f_acts_rows f_kn_tunes f_kn_noteTimes : Nat → Int32) (J : Nat → Nat → Int32) (L : Nat → Nat → Int64) (p0 : Int32) (sz : Nat) (hI : (IX i_tapeLength i_time i_lyingCount i_rd_token i_sc_count i_sc_at i_A_tunes i_A_houses i_fA_length i_B_tunes i_B_houses i_fB_length i_acts_done i_acts_undone i_kn_count f_boxes f_A_noteCounts f_A_notes f_B_noteCounts f_B_notes f_now_worn f_ahead_worn f_acts_rows f_kn_tunes)) : Met l yX8_frayed (.code yX8_frayed cX8_frayed 2 (some .int) :: GW) { frames := 4, cells := 0, slots := 0, locals := 163 } (va_Pc [.ref (r 0), .int p0] (pR (dC, dI) (WX r ct i_tapeLength i_time i_lyingCount i_rd_fault i_rd_token i_rd_kind i_sc_count i_sc_at i_A_tunes i_A_houses i_fA_length i_B_tunes i_B_houses i_fB_length i_acts_done i_acts_undone i_kn_count f_boxes f_boxKept f_trial f_offers f_A_noteCounts f_A_notes f_B_noteCounts f_B_notes f_now_where f_now_worn f_ahead_where f_ahead_worn f_acts_rows f_kn_tunes f_kn_noteTimes J L) (TX ct) sz)) (va_Qi (fun (r0 : Int32) (u : Int32) => r0 = u) (fun (u : Int32) (t : State) => True) (fun q => sz ≤ q)) 0 0 (fun q => sz ≤ q) := by
  refine Met.ofW (cc := cX8_frayed) (maxL := 2) (ret := (some .int)) (by decide) rfl ?_
  intro p e s m args below meth c0 s₁ B hml hv
  obtain ⟨rfl, hsz, hP, hK⟩ := hv
  have hx := B.exec
  have hb := B.bytes
  have hr := B.returns
  have hts := atoms_spec (ws := .code yX8_frayed cX8_frayed 2 (some .int) :: GW) B.pre
  have hG : ∀ w ∈ GW, w.before _ s = true := fun w h => hts w (List.mem_cons_of_mem _ h)
  have hown : s.vm.findClass RX8 = some m.cls := findClass_of_methodNamed B.named
  subst hsz
  have hS : va_S (fun q => s.heap.size ≤ q) s.heap s.heap [] := va_S.rf
  have hP : va_P (dC, dI) vwCl (WX r ct i_tapeLength i_time i_lyingCount i_rd_fault i_rd_token i_rd_kind i_sc_count i_sc_at i_A_tunes i_A_houses i_fA_length i_B_tunes i_B_houses i_fB_length i_acts_done i_acts_undone i_kn_count f_boxes f_boxKept f_trial f_offers f_A_noteCounts f_A_notes f_B_noteCounts f_B_notes f_now_where f_now_worn f_ahead_where f_ahead_worn f_acts_rows f_kn_tunes f_kn_noteTimes J L) s.heap := hP
  have hl := lv_entry ([.ref (r 0), .int p0]) (n := 2) (Nat.le_of_ble_eq_true rfl)
  rw [lg_entry_eq]
  generalize (lg_sl ([.ref (r 0), .int p0]) ++ List.replicate (2 - (lg_sl ([.ref (r 0), .int p0])).length) Slot.unset).toArray = ls at hl ⊢
  have hl : lv_has ls 2 [(0, .ref (r 0)), (1, .int p0)] := hl
  refine nameQ (fun Q hQ => ?_)
  obtain ⟨ie0, ie1, ie2, ie3, ie4, ie5, ie6, ie7, ie8, ie9, ie10, ie11, ie12, ie13, ie14, ie15, ie16, ie17, ie18, ie19, ie20, ie21, ie22, ie23, ie24, ie25, ie26, ie27, ie28, ie29, ie30, ie31, ie32, ie33, ie34, ie35, ie36, ie37, ie38, ie39⟩ := id hI
  refine lv_aload_n hx hb dX8_frayed_0 rfl (lv_at hl 0 rfl) ?_
  refine lv_iload_n hx hb dX8_frayed_1 rfl (lv_at hl 1 rfl) ?_
  refine va_calli (va_runV (As := [.int p0]) (rest := []) ⟨hx, hb, hml, hown, hG⟩ (kX8_isTune l dC dI r ct i_tapeLength i_time i_lyingCount i_rd_fault i_rd_token i_rd_kind i_sc_count i_sc_at i_A_tunes i_A_houses i_fA_length i_B_tunes i_B_houses i_fB_length i_acts_done i_acts_undone i_kn_count f_boxes f_boxKept f_trial f_offers f_A_noteCounts f_A_notes f_B_noteCounts f_B_notes f_now_where f_now_worn f_ahead_where f_ahead_worn f_acts_rows f_kn_tunes f_kn_noteTimes J L p0 s.heap.size hI) (cwV 1 hG (goodV gw695 gw697 gw20 gw129 gw698) rfl rfl rfl hd_X8_isTune ⟨(Nat.le_of_ble_eq_true rfl), (Nat.le_of_ble_eq_true rfl)⟩) ⟨fbR, va_recv hK hP (ci := 7) (q0 := 0) rfl rfl, pR_in hP hK⟩ rfl rfl hl.1 rfl (lv_room (Nat.le_of_ble_eq_true rfl)) dX8_frayed_2 ⟨(Nat.le_of_ble_eq_true rfl), (Nat.le_of_ble_eq_true rfl)⟩) hS (fun q hq h => absurd hq (Nat.not_lt.mpr h)) (fun q h => Nat.le_trans hS.1 h) (fun r_2 u_ t_ H1 locs ht hvm hw hB hz1 hk1 hS => ?_)
  subst hw
  have hP := wk hP hk1
  obtain ⟨f3, f4, f5⟩ := hB
  refine lv_if_eq (tgt := 30) hx hb dX8_frayed_5 (by decide) (fun c_6 => ?_) (fun c_6 => ?_)
  · skip
    have f7 : r_2.toInt = 0 := qi_eq c_6 rfl zc_0
    refine lv_iconst (v := (-1)) hx hb dX8_frayed_30 (by decide) ?_
    rw [hQ]
    exact W.iret (v := (-1)) hx hb hr (fun t ht hW => ⟨⟨(-1), (-1), rfl, rfl, trivial⟩, hS.F ht⟩) hS.2.2 dX8_frayed_31
  · skip
    have f8 : r_2.toInt ≠ 0 := qi_ne c_6 rfl zc_0
    have f9 : (0 : Int) ≤ p0.toInt := (ox_50 f3 f8)
    have f10 : p0.toInt + 1 ≤ i_A_tunes.toInt := (ox_51 f3 f8)
    have f11 : r_2.toInt = (1 : Int) := (ox_52 f3 f8)
    have f12 : (1 : Int) ≤ r_2.toInt := (ox_53 f4 f5 f11)
    refine lv_aload_n hx hb dX8_frayed_8 rfl (lv_at hl 0 rfl) ?_
    refine gX_X8_23_0 hx hb hG hown hK hP dX8_frayed_9 ?_
    refine lv_iload_n hx hb dX8_frayed_12 rfl (lv_at hl 1 rfl) ?_
    refine lv_aload_n hx hb dX8_frayed_13 rfl (lv_at hl 0 rfl) ?_
    refine gX_X8_30_0 hx hb hG hown hK hP dX8_frayed_14 ?_
    refine gX_X8_118_7 hx hb hG hown hK hP dX8_frayed_17 ?_
    refine lv_iload_n hx hb dX8_frayed_20 rfl (lv_at hl 1 rfl) ?_
    refine ldX_43 (mm := p0.toInt) hx hb hK hP rfl (ox_33 f9 f10) (ox_34 ie13 f10) dX8_frayed_21 ?_
    have f13 : 0 ≤ (f_now_worn (p0.toInt).toNat).toInt ∧ (f_now_worn (p0.toInt).toNat).toInt ≤ 99 := ie36 (p0.toInt)
    refine va_calli (va_runV (As := [.int p0, .int (f_now_worn (p0.toInt).toNat)]) (rest := []) ⟨hx, hb, hml, hown, hG⟩ (kX4_left l dC dI r ct i_tapeLength i_time i_lyingCount i_rd_fault i_rd_token i_rd_kind i_sc_count i_sc_at i_A_tunes i_A_houses i_fA_length i_B_tunes i_B_houses i_fB_length i_acts_done i_acts_undone i_kn_count f_boxes f_boxKept f_trial f_offers f_A_noteCounts f_A_notes f_B_noteCounts f_B_notes f_now_where f_now_worn f_ahead_where f_ahead_worn f_acts_rows f_kn_tunes f_kn_noteTimes J L p0 (f_now_worn (p0.toInt).toNat) H1.size hI (ox_54 f9 f10) (ox_55 f10) (ox_56 f13) (ox_57 f13)) (cwV 2 hG (goodV gw699 gw700 gw701 gw132 gw702) rfl rfl rfl hd_X4_left ⟨(Nat.le_of_ble_eq_true rfl), (Nat.le_of_ble_eq_true rfl)⟩) ⟨fbR, va_recv hK hP (ci := 3) (q0 := 3) rfl rfl, pR_in hP hK⟩ rfl rfl hl.1 rfl (lv_room (Nat.le_of_ble_eq_true rfl)) dX8_frayed_22 ⟨(Nat.le_of_ble_eq_true rfl), (Nat.le_of_ble_eq_true rfl)⟩) hS (fun q hq h => absurd hq (Nat.not_lt.mpr h)) (fun q h => Nat.le_trans hS.1 h) (fun r_15 u_ t_ H14 locs ht hvm hw hB hz1 hk1 hS => ?_)
    subst hw
    have hP := wk hP hk1
    obtain ⟨f16, f17, f18, f19, f20⟩ := hB
    refine lv_iconst (v := 3) hx hb dX8_frayed_25 (by decide) ?_
    refine lv_isub hx hb dX8_frayed_26 ?_
    refine lv_topi (fun x21 ex21 => ?_)
    have f22 : x21.toInt = r_15.toInt + (-3) := (ox_466 (qi_sub ex21 rfl zc_3 (ox_464 f16 f17) (ox_465 f16 f17)))
    refine lv_goto (tgt := 31) hx hb dX8_frayed_27 (by decide) ?_
    rw [hQ]
    exact W.iret (v := x21) hx hb hr (fun t ht hW => ⟨⟨x21, x21, rfl, rfl, trivial⟩, hS.F ht⟩) hS.2.2 dX8_frayed_31
set_option maxHeartbeats 4000000 in
set_option maxRecDepth 100000 in
theorem kX8_isBestAgainst (l : Launch) (dC : Nat → ClassId) (dI : Nat → Nat → Nat) (r : Nat → Nat) (ct : Nat → ClassId) (i_tapeLength i_time i_lyingCount i_rd_fault i_rd_token i_rd_kind i_sc_count i_sc_at i_A_tunes i_A_houses i_fA_length i_B_tunes i_B_houses i_fB_length i_acts_done i_acts_undone i_kn_count : Int32) (f_boxes f_boxKept f_trial f_offers f_A_noteCounts f_A_notes f_B_noteCounts f_B_notes f_now_where f_now_worn f_ahead_where f_ahead_worn f_acts_rows f_kn_tunes f_kn_noteTimes : Nat → Int32) (J : Nat → Nat → Int32) (L : Nat → Nat → Int64) (p0 p1 p2 p3 : Int32) (sz : Nat) (hI : (IX i_tapeLength i_time i_lyingCount i_rd_token i_sc_count i_sc_at i_A_tunes i_A_houses i_fA_length i_B_tunes i_B_houses i_fB_length i_acts_done i_acts_undone i_kn_count f_boxes f_A_noteCounts f_A_notes f_B_noteCounts f_B_notes f_now_worn f_ahead_worn f_acts_rows f_kn_tunes)) (hp0 : (0 : Int) ≤ p0.toInt) (hp1 : p0.toInt + 1 ≤ i_A_houses.toInt) (hp2 : (0 : Int) ≤ p1.toInt) (hp3 : p1.toInt + 1 ≤ i_A_tunes.toInt) : Met l yX8_isBestAgainst (.code yX8_isBestAgainst cX8_isBestAgainst 8 (some .boolean) :: GW) { frames := 4, cells := 0, slots := 0, locals := 162 } (va_Pc [.ref (r 0), .int p0, .int p1, .int p2, .int p3] (pR (dC, dI) (WX r ct i_tapeLength i_time i_lyingCount i_rd_fault i_rd_token i_rd_kind i_sc_count i_sc_at i_A_tunes i_A_houses i_fA_length i_B_tunes i_B_houses i_fB_length i_acts_done i_acts_undone i_kn_count f_boxes f_boxKept f_trial f_offers f_A_noteCounts f_A_notes f_B_noteCounts f_B_notes f_now_where f_now_worn f_ahead_where f_ahead_worn f_acts_rows f_kn_tunes f_kn_noteTimes J L) (TX ct) sz)) (va_Qi (fun (r0 : Int32) (u : Int32) => r0 = u) (fun (u : Int32) (t : State) => (((p1.toInt ≠ p2.toInt) ∧ (u.toInt = (1 : Int))) ∨ ((p1.toInt ≠ p2.toInt) ∧ (u.toInt = (0 : Int))) ∨ ((p1.toInt = p2.toInt) ∧ (u.toInt = (1 : Int))) ∨ ((p1.toInt = p2.toInt) ∧ (u.toInt = (0 : Int))) ∨ ((u.toInt = (0 : Int)))) ∧ ((0 : Int) ≤ u.toInt) ∧ (u.toInt ≤ (1 : Int))) (fun q => sz ≤ q)) 0 0 (fun q => sz ≤ q) := by
  refine Met.ofW (cc := cX8_isBestAgainst) (maxL := 8) (ret := (some .boolean)) (by decide) rfl ?_
  intro p e s m args below meth c0 s₁ B hml hv
  obtain ⟨rfl, hsz, hP, hK⟩ := hv
  have hx := B.exec
  have hb := B.bytes
  have hr := B.returns
  have hts := atoms_spec (ws := .code yX8_isBestAgainst cX8_isBestAgainst 8 (some .boolean) :: GW) B.pre
  have hG : ∀ w ∈ GW, w.before _ s = true := fun w h => hts w (List.mem_cons_of_mem _ h)
  have hown : s.vm.findClass RX8 = some m.cls := findClass_of_methodNamed B.named
  subst hsz
  have hS : va_S (fun q => s.heap.size ≤ q) s.heap s.heap [] := va_S.rf
  have hP : va_P (dC, dI) vwCl (WX r ct i_tapeLength i_time i_lyingCount i_rd_fault i_rd_token i_rd_kind i_sc_count i_sc_at i_A_tunes i_A_houses i_fA_length i_B_tunes i_B_houses i_fB_length i_acts_done i_acts_undone i_kn_count f_boxes f_boxKept f_trial f_offers f_A_noteCounts f_A_notes f_B_noteCounts f_B_notes f_now_where f_now_worn f_ahead_where f_ahead_worn f_acts_rows f_kn_tunes f_kn_noteTimes J L) s.heap := hP
  have hl := lv_entry ([.ref (r 0), .int p0, .int p1, .int p2, .int p3]) (n := 8) (Nat.le_of_ble_eq_true rfl)
  rw [lg_entry_eq]
  generalize (lg_sl ([.ref (r 0), .int p0, .int p1, .int p2, .int p3]) ++ List.replicate (8 - (lg_sl ([.ref (r 0), .int p0, .int p1, .int p2, .int p3])).length) Slot.unset).toArray = ls at hl ⊢
  have hl : lv_has ls 8 [(0, .ref (r 0)), (1, .int p0), (2, .int p1), (3, .int p2), (4, .int p3)] := hl
  refine nameQ (fun Q hQ => ?_)
  obtain ⟨ie0, ie1, ie2, ie3, ie4, ie5, ie6, ie7, ie8, ie9, ie10, ie11, ie12, ie13, ie14, ie15, ie16, ie17, ie18, ie19, ie20, ie21, ie22, ie23, ie24, ie25, ie26, ie27, ie28, ie29, ie30, ie31, ie32, ie33, ie34, ie35, ie36, ie37, ie38, ie39⟩ := id hI
  refine lv_iload hx hb dX8_isBestAgainst_0 (lv_at hl 4 rfl) ?_
  refine lv_iload_n hx hb dX8_isBestAgainst_2 rfl (lv_at hl 2 rfl) ?_
  refine va_calli (va_runS (As := [.int p3, .int p1]) (rest := []) ⟨hx, hb, hml, hown, hG⟩ (kX8_holds l dC dI p3 p1 s.heap.size) (va_cwS 2 hG (goodS gw911 gw912 gw129 gw913) rfl rfl rfl hd_X8_holds ⟨(Nat.le_of_ble_eq_true rfl), (Nat.le_of_ble_eq_true rfl)⟩) ⟨fbR, pR_in emptyP (emptyK hK)⟩ rfl rfl hl.1 rfl (lv_room (Nat.le_of_ble_eq_true rfl)) dX8_isBestAgainst_3 ⟨(Nat.le_of_ble_eq_true rfl), (Nat.le_of_ble_eq_true rfl)⟩) hS (fun q hq h => absurd hq (Nat.not_lt.mpr h)) (fun q h => Nat.le_trans hS.1 h) (fun r_2 u_ t_ H1 locs ht hvm hw hB hz1 hk1 hS => ?_)
  subst hw
  have hP := wk hP hk1
  obtain ⟨f3, f4, f5⟩ := hB
  refine lv_if_ne (tgt := 11) hx hb dX8_isBestAgainst_6 (by decide) (fun c_6 => ?_) (fun c_6 => ?_)
  · skip
    have f7 : r_2.toInt ≠ 0 := qi_ne c_6 rfl zc_0
    have f8 : r_2.toInt = (1 : Int) := (ox_91 f3 f7)
    have f9 : (1 : Int) ≤ r_2.toInt := (ox_53 f4 f5 f8)
    refine lv_iload_n hx hb dX8_isBestAgainst_11 rfl (lv_at hl 2 rfl) ?_
    refine lv_iload_n hx hb dX8_isBestAgainst_12 rfl (lv_at hl 3 rfl) ?_
    refine lv_icmp_ne (tgt := 20) hx hb dX8_isBestAgainst_13 (by decide) (fun c_10 => ?_) (fun c_10 => ?_)
    · skip
      have f11 : p1.toInt ≠ p2.toInt := qi_ne c_10 rfl rfl
      refine lv_aload_n hx hb dX8_isBestAgainst_20 rfl (lv_at hl 0 rfl) ?_
      refine lv_iload_n hx hb dX8_isBestAgainst_21 rfl (lv_at hl 1 rfl) ?_
      refine lv_iload_n hx hb dX8_isBestAgainst_22 rfl (lv_at hl 2 rfl) ?_
      refine va_calli (va_runV (As := [.int p0, .int p1]) (rest := []) ⟨hx, hb, hml, hown, hG⟩ (kX8_rate l dC dI r ct i_tapeLength i_time i_lyingCount i_rd_fault i_rd_token i_rd_kind i_sc_count i_sc_at i_A_tunes i_A_houses i_fA_length i_B_tunes i_B_houses i_fB_length i_acts_done i_acts_undone i_kn_count f_boxes f_boxKept f_trial f_offers f_A_noteCounts f_A_notes f_B_noteCounts f_B_notes f_now_where f_now_worn f_ahead_where f_ahead_worn f_acts_rows f_kn_tunes f_kn_noteTimes J L p0 p1 H1.size hI (ox_54 hp0 hp1) (ox_207 ie15 hp1) (ox_54 hp2 hp3) (ox_211 ie13 hp3)) (cwV 2 hG (goodV gw953 gw955 gw40 gw129 gw956) rfl rfl rfl hd_X8_rate ⟨(Nat.le_of_ble_eq_true rfl), (Nat.le_of_ble_eq_true rfl)⟩) ⟨fbR, va_recv hK hP (ci := 7) (q0 := 0) rfl rfl, pR_in hP hK⟩ rfl rfl hl.1 rfl (lv_room (Nat.le_of_ble_eq_true rfl)) dX8_isBestAgainst_23 ⟨(Nat.le_of_ble_eq_true rfl), (Nat.le_of_ble_eq_true rfl)⟩) hS (fun q hq h => absurd hq (Nat.not_lt.mpr h)) (fun q h => Nat.le_trans hS.1 h) (fun r_13 u_ t_ H12 locs ht hvm hw hB hz1 hk1 hS => ?_)
      subst hw
      have hP := wk hP hk1
      refine lv_istore (lv' := [(5, .int r_13), (0, .ref (r 0)), (1, .int p0), (2, .int p1), (3, .int p2), (4, .int p3)]) hx hb dX8_isBestAgainst_26 hl (by decide) rfl (fun ls hl => ?_)
      refine lv_iconst (v := 0) hx hb dX8_isBestAgainst_28 (by decide) ?_
      refine lv_istore (lv' := [(6, .int 0), (5, .int r_13), (0, .ref (r 0)), (1, .int p0), (2, .int p1), (3, .int p2), (4, .int p3)]) hx hb dX8_isBestAgainst_29 hl (by decide) rfl (fun ls hl => ?_)
      have L31 : ∀ (N31 : Nat) (y31_6 : Int32) (H31 : Heap) (locs : List Loc) (ls : Array Slot) (g31_0 : (0 : Int) ≤ y31_6.toInt) (g31_1 : y31_6.toInt ≤ (5 : Int)) (hP : va_P (dC, dI) vwCl (WX r ct i_tapeLength i_time i_lyingCount i_rd_fault i_rd_token i_rd_kind i_sc_count i_sc_at i_A_tunes i_A_houses i_fA_length i_B_tunes i_B_houses i_fB_length i_acts_done i_acts_undone i_kn_count f_boxes f_boxKept f_trial f_offers f_A_noteCounts f_A_notes f_B_noteCounts f_B_notes f_now_where f_now_worn f_ahead_where f_ahead_worn f_acts_rows f_kn_tunes f_kn_noteTimes J L) H31) (hS : va_S (fun q => s.heap.size ≤ q) s.heap H31 locs) (hl : lv_has ls 8 [(0, .ref (r 0)), (1, .int p0), (2, .int p1), (3, .int p2), (4, .int p3), (5, .int r_13), (6, .int y31_6)]) (hM : -1 * y31_6.toInt + 5 < (N31 : Int)), W p l e { frames := 4, cells := 0, slots := 0, locals := 162 } s m ([.ref (r 0), .int p0, .int p1, .int p2, .int p3] : List Value).toArray below meth c0 H31 locs 0 0 Q (F0 m 31 ls []) := by
        intro N31
        induction N31 with
        | zero =>
          intro y31_6 H31 locs ls g31_0 g31_1 hP hS hl hM
          exact ((ox_82 hM g31_0 g31_1)).elim
        | succ N31 ih31 =>
          intro y31_6 H31 locs ls g31_0 g31_1 hP hS hl hM
          have hM31 := msucc hM
          refine lv_iload hx hb dX8_isBestAgainst_31 (lv_at hl 6 rfl) ?_
          refine lv_aload_n hx hb dX8_isBestAgainst_33 rfl (lv_at hl 0 rfl) ?_
          refine gX_X8_23_0 hx hb hG hown hK hP dX8_isBestAgainst_34 ?_
          refine gX_X8_108_3 hx hb hG hown hK hP dX8_isBestAgainst_37 ?_
          refine lv_icmp_ge (tgt := 87) hx hb dX8_isBestAgainst_40 (by decide) (fun c_14 => ?_) (fun c_14 => ?_)
          · skip
            have f15 : i_A_tunes.toInt ≤ y31_6.toInt := qi_le c_14 rfl rfl
            refine lv_iconst (v := 1) hx hb dX8_isBestAgainst_87 (by decide) ?_
            rw [hQ]
            exact W.zret (v := 1) hx hb hr (by decide) (fun t ht hW => ⟨⟨1, 1, rfl, rfl, ⟨(ox_487 hp2 hp3 zc_1), (ox_31 zc_1), (ox_32 zc_1)⟩⟩, hS.F ht⟩) hS.2.2 dX8_isBestAgainst_88
          · skip
            have f16 : y31_6.toInt < i_A_tunes.toInt := qi_nle c_14 rfl rfl
            refine lv_iload hx hb dX8_isBestAgainst_43 (lv_at hl 6 rfl) ?_
            refine lv_iload_n hx hb dX8_isBestAgainst_45 rfl (lv_at hl 3 rfl) ?_
            refine lv_icmp_ne (tgt := 53) hx hb dX8_isBestAgainst_46 (by decide) (fun c_17 => ?_) (fun c_17 => ?_)
            · skip
              have f18 : y31_6.toInt ≠ p2.toInt := qi_ne c_17 rfl rfl
              refine lv_aload_n hx hb dX8_isBestAgainst_53 rfl (lv_at hl 0 rfl) ?_
              refine lv_iload_n hx hb dX8_isBestAgainst_54 rfl (lv_at hl 1 rfl) ?_
              refine lv_iload hx hb dX8_isBestAgainst_55 (lv_at hl 6 rfl) ?_
              refine va_calli (va_runV (As := [.int p0, .int y31_6]) (rest := []) ⟨hx, hb, hml, hown, hG⟩ (kX8_rate l dC dI r ct i_tapeLength i_time i_lyingCount i_rd_fault i_rd_token i_rd_kind i_sc_count i_sc_at i_A_tunes i_A_houses i_fA_length i_B_tunes i_B_houses i_fB_length i_acts_done i_acts_undone i_kn_count f_boxes f_boxKept f_trial f_offers f_A_noteCounts f_A_notes f_B_noteCounts f_B_notes f_now_where f_now_worn f_ahead_where f_ahead_worn f_acts_rows f_kn_tunes f_kn_noteTimes J L p0 y31_6 H31.size hI (ox_54 hp0 hp1) (ox_207 ie15 hp1) (ox_6 g31_0) (ox_97 ie13 f16)) (cwV 2 hG (goodV gw953 gw955 gw40 gw129 gw956) rfl rfl rfl hd_X8_rate ⟨(Nat.le_of_ble_eq_true rfl), (Nat.le_of_ble_eq_true rfl)⟩) ⟨fbR, va_recv hK hP (ci := 7) (q0 := 0) rfl rfl, pR_in hP hK⟩ rfl rfl hl.1 rfl (lv_room (Nat.le_of_ble_eq_true rfl)) dX8_isBestAgainst_57 ⟨(Nat.le_of_ble_eq_true rfl), (Nat.le_of_ble_eq_true rfl)⟩) hS (fun q hq h => absurd hq (Nat.not_lt.mpr h)) (fun q h => Nat.le_trans hS.1 h) (fun r_20 u_ t_ H19 locs ht hvm hw hB hz1 hk1 hS => ?_)
              subst hw
              have hP := wk hP hk1
              refine lv_istore (lv' := [(7, .int r_20), (0, .ref (r 0)), (1, .int p0), (2, .int p1), (3, .int p2), (4, .int p3), (5, .int r_13), (6, .int y31_6)]) hx hb dX8_isBestAgainst_60 hl (by decide) rfl (fun ls hl => ?_)
              refine lv_iload hx hb dX8_isBestAgainst_62 (lv_at hl 5 rfl) ?_
              refine lv_iload hx hb dX8_isBestAgainst_64 (lv_at hl 7 rfl) ?_
              refine va_calli (va_runS (As := [.int p3, .int y31_6]) (rest := []) ⟨hx, hb, hml, hown, hG⟩ (kX8_holds l dC dI p3 y31_6 H19.size) (va_cwS 2 hG (goodS gw911 gw912 gw129 gw913) rfl rfl rfl hd_X8_holds ⟨(Nat.le_of_ble_eq_true rfl), (Nat.le_of_ble_eq_true rfl)⟩) ⟨fbR, pR_in emptyP (emptyK hK)⟩ rfl rfl hl.1 rfl (lv_room (Nat.le_of_ble_eq_true rfl)) dX8_isBestAgainst_66 ⟨(Nat.le_of_ble_eq_true rfl), (Nat.le_of_ble_eq_true rfl)⟩) hS (fun q hq h => absurd hq (Nat.not_lt.mpr h)) (fun q h => Nat.le_trans hS.1 h) (fun r_22 u_ t_ H21 locs ht hvm hw hB hz1 hk1 hS => ?_)
              subst hw
              have hP := wk hP hk1
              obtain ⟨f23, f24, f25⟩ := hB
              refine lv_if_eq (tgt := 81) hx hb dX8_isBestAgainst_69 (by decide) (fun c_26 => ?_) (fun c_26 => ?_)
              · skip
                have f27 : r_22.toInt = 0 := qi_eq c_26 rfl zc_0
                have f28 : r_22.toInt = (0 : Int) := (ox_92 f24 f25 f27)
                obtain ⟨x29, ex29⟩ : ∃ y : Int32, y = y31_6 + Int32.ofInt 1 := ⟨_, rfl⟩
                have f30 : x29.toInt = y31_6.toInt + 1 := (ox_13 (qi_add ex29 rfl (by decide) (ox_11 g31_0) (ox_87 g31_1)))
                refine lv_iinc (v := x29) (lv' := [(6, .int x29), (7, .int r_20), (0, .ref (r 0)), (1, .int p0), (2, .int p1), (3, .int p2), (4, .int p3), (5, .int r_13)]) hx hb dX8_isBestAgainst_81 hl (k := 7) rfl ex29.symm (by decide) rfl (fun ls hl => ?_)
                refine lv_goto (tgt := 31) hx hb dX8_isBestAgainst_84 (by decide) ?_
                exact ih31 x29 H21 _ _ (ox_14 g31_0 f30) (ox_98 ie13 f16 f30) hP hS (lv_sub hl [2, 3, 4, 5, 6, 7, 0] rfl) (ox_89 hM31 f30)
              · skip
                have f31 : r_22.toInt ≠ 0 := qi_ne c_26 rfl zc_0
                have f32 : r_22.toInt = (1 : Int) := (ox_91 f23 f31)
                have f33 : (1 : Int) ≤ r_22.toInt := (ox_53 f24 f25 f32)
                refine lv_iload hx hb dX8_isBestAgainst_72 (lv_at hl 0 rfl) ?_
                refine lv_iload hx hb dX8_isBestAgainst_74 (lv_at hl 6 rfl) ?_
                refine lv_icmp_le (tgt := 81) hx hb dX8_isBestAgainst_76 (by decide) (fun c_34 => ?_) (fun c_34 => ?_)
                · skip
                  have f35 : r_20.toInt ≤ r_13.toInt := qi_le c_34 rfl rfl
                  obtain ⟨x36, ex36⟩ : ∃ y : Int32, y = y31_6 + Int32.ofInt 1 := ⟨_, rfl⟩
                  have f37 : x36.toInt = y31_6.toInt + 1 := (ox_13 (qi_add ex36 rfl (by decide) (ox_11 g31_0) (ox_87 g31_1)))
                  refine lv_iinc (v := x36) (lv' := [(6, .int x36), (7, .int r_20), (0, .ref (r 0)), (1, .int p0), (2, .int p1), (3, .int p2), (4, .int p3), (5, .int r_13)]) hx hb dX8_isBestAgainst_81 hl (k := 7) rfl ex36.symm (by decide) rfl (fun ls hl => ?_)
                  refine lv_goto (tgt := 31) hx hb dX8_isBestAgainst_84 (by decide) ?_
                  exact ih31 x36 H21 _ _ (ox_14 g31_0 f37) (ox_98 ie13 f16 f37) hP hS (lv_sub hl [2, 3, 4, 5, 6, 7, 0] rfl) (ox_89 hM31 f37)
                · skip
                  have f38 : r_13.toInt < r_20.toInt := qi_nle c_34 rfl rfl
                  refine lv_iconst (v := 0) hx hb dX8_isBestAgainst_79 (by decide) ?_
                  rw [hQ]
                  exact W.zret (v := 0) hx hb hr (by decide) (fun t ht hW => ⟨⟨0, 0, rfl, rfl, ⟨(ox_488 hp2 hp3 zc_0), (ox_27 zc_0), (ox_28 zc_0)⟩⟩, hS.F ht⟩) hS.2.2 dX8_isBestAgainst_80
            · skip
              have f39 : y31_6.toInt = p2.toInt := qi_eq c_17 rfl rfl
              refine lv_iconst (v := 0) hx hb dX8_isBestAgainst_49 (by decide) ?_
              refine lv_goto (tgt := 60) hx hb dX8_isBestAgainst_50 (by decide) ?_
              refine lv_istore (lv' := [(7, .int 0), (0, .ref (r 0)), (1, .int p0), (2, .int p1), (3, .int p2), (4, .int p3), (5, .int r_13), (6, .int y31_6)]) hx hb dX8_isBestAgainst_60 hl (by decide) rfl (fun ls hl => ?_)
              refine lv_iload hx hb dX8_isBestAgainst_62 (lv_at hl 5 rfl) ?_
              refine lv_iload hx hb dX8_isBestAgainst_64 (lv_at hl 7 rfl) ?_
              refine va_calli (va_runS (As := [.int p3, .int y31_6]) (rest := []) ⟨hx, hb, hml, hown, hG⟩ (kX8_holds l dC dI p3 y31_6 H31.size) (va_cwS 2 hG (goodS gw911 gw912 gw129 gw913) rfl rfl rfl hd_X8_holds ⟨(Nat.le_of_ble_eq_true rfl), (Nat.le_of_ble_eq_true rfl)⟩) ⟨fbR, pR_in emptyP (emptyK hK)⟩ rfl rfl hl.1 rfl (lv_room (Nat.le_of_ble_eq_true rfl)) dX8_isBestAgainst_66 ⟨(Nat.le_of_ble_eq_true rfl), (Nat.le_of_ble_eq_true rfl)⟩) hS (fun q hq h => absurd hq (Nat.not_lt.mpr h)) (fun q h => Nat.le_trans hS.1 h) (fun r_41 u_ t_ H40 locs ht hvm hw hB hz1 hk1 hS => ?_)
              subst hw
              have hP := wk hP hk1
              obtain ⟨f42, f43, f44⟩ := hB
              refine lv_if_eq (tgt := 81) hx hb dX8_isBestAgainst_69 (by decide) (fun c_45 => ?_) (fun c_45 => ?_)
              · skip
                have f46 : r_41.toInt = 0 := qi_eq c_45 rfl zc_0
                have f47 : r_41.toInt = (0 : Int) := (ox_92 f43 f44 f46)
                obtain ⟨x48, ex48⟩ : ∃ y : Int32, y = y31_6 + Int32.ofInt 1 := ⟨_, rfl⟩
                have f49 : x48.toInt = y31_6.toInt + 1 := (ox_13 (qi_add ex48 rfl (by decide) (ox_11 g31_0) (ox_87 g31_1)))
                refine lv_iinc (v := x48) (lv' := [(6, .int x48), (7, .int 0), (0, .ref (r 0)), (1, .int p0), (2, .int p1), (3, .int p2), (4, .int p3), (5, .int r_13)]) hx hb dX8_isBestAgainst_81 hl (k := 7) rfl ex48.symm (by decide) rfl (fun ls hl => ?_)
                refine lv_goto (tgt := 31) hx hb dX8_isBestAgainst_84 (by decide) ?_
                exact ih31 x48 H40 _ _ (ox_14 g31_0 f49) (ox_98 ie13 f16 f49) hP hS (lv_sub hl [2, 3, 4, 5, 6, 7, 0] rfl) (ox_89 hM31 f49)
              · skip
                have f50 : r_41.toInt ≠ 0 := qi_ne c_45 rfl zc_0
                have f51 : r_41.toInt = (1 : Int) := (ox_91 f42 f50)
                have f52 : (1 : Int) ≤ r_41.toInt := (ox_53 f43 f44 f51)
                refine lv_iload hx hb dX8_isBestAgainst_72 (lv_at hl 0 rfl) ?_
                refine lv_iload hx hb dX8_isBestAgainst_74 (lv_at hl 6 rfl) ?_
                refine lv_icmp_le (tgt := 81) hx hb dX8_isBestAgainst_76 (by decide) (fun c_53 => ?_) (fun c_53 => ?_)
                · skip
                  have f54 : 0 ≤ r_13.toInt := qi_le c_53 zc_0 rfl
                  obtain ⟨x55, ex55⟩ : ∃ y : Int32, y = y31_6 + Int32.ofInt 1 := ⟨_, rfl⟩
                  have f56 : x55.toInt = y31_6.toInt + 1 := (ox_13 (qi_add ex55 rfl (by decide) (ox_11 g31_0) (ox_87 g31_1)))
                  refine lv_iinc (v := x55) (lv' := [(6, .int x55), (7, .int 0), (0, .ref (r 0)), (1, .int p0), (2, .int p1), (3, .int p2), (4, .int p3), (5, .int r_13)]) hx hb dX8_isBestAgainst_81 hl (k := 7) rfl ex55.symm (by decide) rfl (fun ls hl => ?_)
                  refine lv_goto (tgt := 31) hx hb dX8_isBestAgainst_84 (by decide) ?_
                  exact ih31 x55 H40 _ _ (ox_14 g31_0 f56) (ox_98 ie13 f16 f56) hP hS (lv_sub hl [2, 3, 4, 5, 6, 7, 0] rfl) (ox_89 hM31 f56)
                · skip
                  have f57 : r_13.toInt < 0 := qi_nle c_53 zc_0 rfl
                  refine lv_iconst (v := 0) hx hb dX8_isBestAgainst_79 (by decide) ?_
                  rw [hQ]
                  exact W.zret (v := 0) hx hb hr (by decide) (fun t ht hW => ⟨⟨0, 0, rfl, rfl, ⟨(ox_489 hp2 hp3 f39 zc_0), (ox_27 zc_0), (ox_28 zc_0)⟩⟩, hS.F ht⟩) hS.2.2 dX8_isBestAgainst_80
      exact L31 (-1 * (0 : Int32).toInt + 5 + 1).toNat 0 H12 _ _ (ox_27 zc_0) (ox_95 zc_0) hP hS (lv_sub hl [2, 3, 4, 5, 6, 1, 0] rfl) (mlt (ox_96 zc_0))
    · skip
      have f58 : p1.toInt = p2.toInt := qi_eq c_10 rfl rfl
      refine lv_iconst (v := 0) hx hb dX8_isBestAgainst_16 (by decide) ?_
      refine lv_goto (tgt := 26) hx hb dX8_isBestAgainst_17 (by decide) ?_
      refine lv_istore (lv' := [(5, .int 0), (0, .ref (r 0)), (1, .int p0), (2, .int p1), (3, .int p2), (4, .int p3)]) hx hb dX8_isBestAgainst_26 hl (by decide) rfl (fun ls hl => ?_)
      refine lv_iconst (v := 0) hx hb dX8_isBestAgainst_28 (by decide) ?_
      refine lv_istore (lv' := [(6, .int 0), (5, .int 0), (0, .ref (r 0)), (1, .int p0), (2, .int p1), (3, .int p2), (4, .int p3)]) hx hb dX8_isBestAgainst_29 hl (by decide) rfl (fun ls hl => ?_)
      have L31 : ∀ (N31 : Nat) (y31_6 : Int32) (H31 : Heap) (locs : List Loc) (ls : Array Slot) (g31_0 : (0 : Int) ≤ y31_6.toInt) (g31_1 : y31_6.toInt ≤ (5 : Int)) (hP : va_P (dC, dI) vwCl (WX r ct i_tapeLength i_time i_lyingCount i_rd_fault i_rd_token i_rd_kind i_sc_count i_sc_at i_A_tunes i_A_houses i_fA_length i_B_tunes i_B_houses i_fB_length i_acts_done i_acts_undone i_kn_count f_boxes f_boxKept f_trial f_offers f_A_noteCounts f_A_notes f_B_noteCounts f_B_notes f_now_where f_now_worn f_ahead_where f_ahead_worn f_acts_rows f_kn_tunes f_kn_noteTimes J L) H31) (hS : va_S (fun q => s.heap.size ≤ q) s.heap H31 locs) (hl : lv_has ls 8 [(0, .ref (r 0)), (1, .int p0), (2, .int p1), (3, .int p2), (4, .int p3), (5, .int 0), (6, .int y31_6)]) (hM : -1 * y31_6.toInt + 5 < (N31 : Int)), W p l e { frames := 4, cells := 0, slots := 0, locals := 162 } s m ([.ref (r 0), .int p0, .int p1, .int p2, .int p3] : List Value).toArray below meth c0 H31 locs 0 0 Q (F0 m 31 ls []) := by
        intro N31
        induction N31 with
        | zero =>
          intro y31_6 H31 locs ls g31_0 g31_1 hP hS hl hM
          exact ((ox_82 hM g31_0 g31_1)).elim
        | succ N31 ih31 =>
          intro y31_6 H31 locs ls g31_0 g31_1 hP hS hl hM
          have hM31 := msucc hM
          refine lv_iload hx hb dX8_isBestAgainst_31 (lv_at hl 6 rfl) ?_
          refine lv_aload_n hx hb dX8_isBestAgainst_33 rfl (lv_at hl 0 rfl) ?_
          refine gX_X8_23_0 hx hb hG hown hK hP dX8_isBestAgainst_34 ?_
          refine gX_X8_108_3 hx hb hG hown hK hP dX8_isBestAgainst_37 ?_
          refine lv_icmp_ge (tgt := 87) hx hb dX8_isBestAgainst_40 (by decide) (fun c_59 => ?_) (fun c_59 => ?_)
          · skip
            have f60 : i_A_tunes.toInt ≤ y31_6.toInt := qi_le c_59 rfl rfl
            refine lv_iconst (v := 1) hx hb dX8_isBestAgainst_87 (by decide) ?_
            rw [hQ]
            exact W.zret (v := 1) hx hb hr (by decide) (fun t ht hW => ⟨⟨1, 1, rfl, rfl, ⟨(ox_490 hp2 hp3 f58 zc_1), (ox_31 zc_1), (ox_32 zc_1)⟩⟩, hS.F ht⟩) hS.2.2 dX8_isBestAgainst_88
          · skip
            have f61 : y31_6.toInt < i_A_tunes.toInt := qi_nle c_59 rfl rfl
            refine lv_iload hx hb dX8_isBestAgainst_43 (lv_at hl 6 rfl) ?_
            refine lv_iload_n hx hb dX8_isBestAgainst_45 rfl (lv_at hl 3 rfl) ?_
            refine lv_icmp_ne (tgt := 53) hx hb dX8_isBestAgainst_46 (by decide) (fun c_62 => ?_) (fun c_62 => ?_)
            · skip
              have f63 : y31_6.toInt ≠ p2.toInt := qi_ne c_62 rfl rfl
              refine lv_aload_n hx hb dX8_isBestAgainst_53 rfl (lv_at hl 0 rfl) ?_
              refine lv_iload_n hx hb dX8_isBestAgainst_54 rfl (lv_at hl 1 rfl) ?_
              refine lv_iload hx hb dX8_isBestAgainst_55 (lv_at hl 6 rfl) ?_
              refine va_calli (va_runV (As := [.int p0, .int y31_6]) (rest := []) ⟨hx, hb, hml, hown, hG⟩ (kX8_rate l dC dI r ct i_tapeLength i_time i_lyingCount i_rd_fault i_rd_token i_rd_kind i_sc_count i_sc_at i_A_tunes i_A_houses i_fA_length i_B_tunes i_B_houses i_fB_length i_acts_done i_acts_undone i_kn_count f_boxes f_boxKept f_trial f_offers f_A_noteCounts f_A_notes f_B_noteCounts f_B_notes f_now_where f_now_worn f_ahead_where f_ahead_worn f_acts_rows f_kn_tunes f_kn_noteTimes J L p0 y31_6 H31.size hI (ox_54 hp0 hp1) (ox_207 ie15 hp1) (ox_6 g31_0) (ox_97 ie13 f61)) (cwV 2 hG (goodV gw953 gw955 gw40 gw129 gw956) rfl rfl rfl hd_X8_rate ⟨(Nat.le_of_ble_eq_true rfl), (Nat.le_of_ble_eq_true rfl)⟩) ⟨fbR, va_recv hK hP (ci := 7) (q0 := 0) rfl rfl, pR_in hP hK⟩ rfl rfl hl.1 rfl (lv_room (Nat.le_of_ble_eq_true rfl)) dX8_isBestAgainst_57 ⟨(Nat.le_of_ble_eq_true rfl), (Nat.le_of_ble_eq_true rfl)⟩) hS (fun q hq h => absurd hq (Nat.not_lt.mpr h)) (fun q h => Nat.le_trans hS.1 h) (fun r_65 u_ t_ H64 locs ht hvm hw hB hz1 hk1 hS => ?_)
              subst hw
              have hP := wk hP hk1
              refine lv_istore (lv' := [(7, .int r_65), (0, .ref (r 0)), (1, .int p0), (2, .int p1), (3, .int p2), (4, .int p3), (5, .int 0), (6, .int y31_6)]) hx hb dX8_isBestAgainst_60 hl (by decide) rfl (fun ls hl => ?_)
              refine lv_iload hx hb dX8_isBestAgainst_62 (lv_at hl 5 rfl) ?_
              refine lv_iload hx hb dX8_isBestAgainst_64 (lv_at hl 7 rfl) ?_
              refine va_calli (va_runS (As := [.int p3, .int y31_6]) (rest := []) ⟨hx, hb, hml, hown, hG⟩ (kX8_holds l dC dI p3 y31_6 H64.size) (va_cwS 2 hG (goodS gw911 gw912 gw129 gw913) rfl rfl rfl hd_X8_holds ⟨(Nat.le_of_ble_eq_true rfl), (Nat.le_of_ble_eq_true rfl)⟩) ⟨fbR, pR_in emptyP (emptyK hK)⟩ rfl rfl hl.1 rfl (lv_room (Nat.le_of_ble_eq_true rfl)) dX8_isBestAgainst_66 ⟨(Nat.le_of_ble_eq_true rfl), (Nat.le_of_ble_eq_true rfl)⟩) hS (fun q hq h => absurd hq (Nat.not_lt.mpr h)) (fun q h => Nat.le_trans hS.1 h) (fun r_67 u_ t_ H66 locs ht hvm hw hB hz1 hk1 hS => ?_)
              subst hw
              have hP := wk hP hk1
              obtain ⟨f68, f69, f70⟩ := hB
              refine lv_if_eq (tgt := 81) hx hb dX8_isBestAgainst_69 (by decide) (fun c_71 => ?_) (fun c_71 => ?_)
              · skip
                have f72 : r_67.toInt = 0 := qi_eq c_71 rfl zc_0
                have f73 : r_67.toInt = (0 : Int) := (ox_92 f69 f70 f72)
                obtain ⟨x74, ex74⟩ : ∃ y : Int32, y = y31_6 + Int32.ofInt 1 := ⟨_, rfl⟩
                have f75 : x74.toInt = y31_6.toInt + 1 := (ox_13 (qi_add ex74 rfl (by decide) (ox_11 g31_0) (ox_87 g31_1)))
                refine lv_iinc (v := x74) (lv' := [(6, .int x74), (7, .int r_65), (0, .ref (r 0)), (1, .int p0), (2, .int p1), (3, .int p2), (4, .int p3), (5, .int 0)]) hx hb dX8_isBestAgainst_81 hl (k := 7) rfl ex74.symm (by decide) rfl (fun ls hl => ?_)
                refine lv_goto (tgt := 31) hx hb dX8_isBestAgainst_84 (by decide) ?_
                exact ih31 x74 H66 _ _ (ox_14 g31_0 f75) (ox_98 ie13 f61 f75) hP hS (lv_sub hl [2, 3, 4, 5, 6, 7, 0] rfl) (ox_89 hM31 f75)
              · skip
                have f76 : r_67.toInt ≠ 0 := qi_ne c_71 rfl zc_0
                have f77 : r_67.toInt = (1 : Int) := (ox_91 f68 f76)
                have f78 : (1 : Int) ≤ r_67.toInt := (ox_53 f69 f70 f77)
                refine lv_iload hx hb dX8_isBestAgainst_72 (lv_at hl 0 rfl) ?_
                refine lv_iload hx hb dX8_isBestAgainst_74 (lv_at hl 6 rfl) ?_
                refine lv_icmp_le (tgt := 81) hx hb dX8_isBestAgainst_76 (by decide) (fun c_79 => ?_) (fun c_79 => ?_)
                · skip
                  have f80 : r_65.toInt ≤ 0 := qi_le c_79 rfl zc_0
                  obtain ⟨x81, ex81⟩ : ∃ y : Int32, y = y31_6 + Int32.ofInt 1 := ⟨_, rfl⟩
                  have f82 : x81.toInt = y31_6.toInt + 1 := (ox_13 (qi_add ex81 rfl (by decide) (ox_11 g31_0) (ox_87 g31_1)))
                  refine lv_iinc (v := x81) (lv' := [(6, .int x81), (7, .int r_65), (0, .ref (r 0)), (1, .int p0), (2, .int p1), (3, .int p2), (4, .int p3), (5, .int 0)]) hx hb dX8_isBestAgainst_81 hl (k := 7) rfl ex81.symm (by decide) rfl (fun ls hl => ?_)
                  refine lv_goto (tgt := 31) hx hb dX8_isBestAgainst_84 (by decide) ?_
                  exact ih31 x81 H66 _ _ (ox_14 g31_0 f82) (ox_98 ie13 f61 f82) hP hS (lv_sub hl [2, 3, 4, 5, 6, 7, 0] rfl) (ox_89 hM31 f82)
                · skip
                  have f83 : 0 < r_65.toInt := qi_nle c_79 rfl zc_0
                  refine lv_iconst (v := 0) hx hb dX8_isBestAgainst_79 (by decide) ?_
                  rw [hQ]
                  exact W.zret (v := 0) hx hb hr (by decide) (fun t ht hW => ⟨⟨0, 0, rfl, rfl, ⟨(ox_491 hp2 hp3 f58 zc_0), (ox_27 zc_0), (ox_28 zc_0)⟩⟩, hS.F ht⟩) hS.2.2 dX8_isBestAgainst_80
            · skip
              have f84 : y31_6.toInt = p2.toInt := qi_eq c_62 rfl rfl
              refine lv_iconst (v := 0) hx hb dX8_isBestAgainst_49 (by decide) ?_
              refine lv_goto (tgt := 60) hx hb dX8_isBestAgainst_50 (by decide) ?_
              refine lv_istore (lv' := [(7, .int 0), (0, .ref (r 0)), (1, .int p0), (2, .int p1), (3, .int p2), (4, .int p3), (5, .int 0), (6, .int y31_6)]) hx hb dX8_isBestAgainst_60 hl (by decide) rfl (fun ls hl => ?_)
              refine lv_iload hx hb dX8_isBestAgainst_62 (lv_at hl 5 rfl) ?_
              refine lv_iload hx hb dX8_isBestAgainst_64 (lv_at hl 7 rfl) ?_
              refine va_calli (va_runS (As := [.int p3, .int y31_6]) (rest := []) ⟨hx, hb, hml, hown, hG⟩ (kX8_holds l dC dI p3 y31_6 H31.size) (va_cwS 2 hG (goodS gw911 gw912 gw129 gw913) rfl rfl rfl hd_X8_holds ⟨(Nat.le_of_ble_eq_true rfl), (Nat.le_of_ble_eq_true rfl)⟩) ⟨fbR, pR_in emptyP (emptyK hK)⟩ rfl rfl hl.1 rfl (lv_room (Nat.le_of_ble_eq_true rfl)) dX8_isBestAgainst_66 ⟨(Nat.le_of_ble_eq_true rfl), (Nat.le_of_ble_eq_true rfl)⟩) hS (fun q hq h => absurd hq (Nat.not_lt.mpr h)) (fun q h => Nat.le_trans hS.1 h) (fun r_86 u_ t_ H85 locs ht hvm hw hB hz1 hk1 hS => ?_)
              subst hw
              have hP := wk hP hk1
              obtain ⟨f87, f88, f89⟩ := hB
              refine lv_if_eq (tgt := 81) hx hb dX8_isBestAgainst_69 (by decide) (fun c_90 => ?_) (fun c_90 => ?_)
              · skip
                have f91 : r_86.toInt = 0 := qi_eq c_90 rfl zc_0
                have f92 : r_86.toInt = (0 : Int) := (ox_92 f88 f89 f91)
                obtain ⟨x93, ex93⟩ : ∃ y : Int32, y = y31_6 + Int32.ofInt 1 := ⟨_, rfl⟩
                have f94 : x93.toInt = y31_6.toInt + 1 := (ox_13 (qi_add ex93 rfl (by decide) (ox_11 g31_0) (ox_87 g31_1)))
                refine lv_iinc (v := x93) (lv' := [(6, .int x93), (7, .int 0), (0, .ref (r 0)), (1, .int p0), (2, .int p1), (3, .int p2), (4, .int p3), (5, .int 0)]) hx hb dX8_isBestAgainst_81 hl (k := 7) rfl ex93.symm (by decide) rfl (fun ls hl => ?_)
                refine lv_goto (tgt := 31) hx hb dX8_isBestAgainst_84 (by decide) ?_
                exact ih31 x93 H85 _ _ (ox_14 g31_0 f94) (ox_98 ie13 f61 f94) hP hS (lv_sub hl [2, 3, 4, 5, 6, 7, 0] rfl) (ox_89 hM31 f94)
              · skip
                have f95 : r_86.toInt ≠ 0 := qi_ne c_90 rfl zc_0
                have f96 : r_86.toInt = (1 : Int) := (ox_91 f87 f95)
                have f97 : (1 : Int) ≤ r_86.toInt := (ox_53 f88 f89 f96)
                refine lv_iload hx hb dX8_isBestAgainst_72 (lv_at hl 0 rfl) ?_
                refine lv_iload hx hb dX8_isBestAgainst_74 (lv_at hl 6 rfl) ?_
                refine lv_icmp_le (tgt := 81) hx hb dX8_isBestAgainst_76 (by decide) (fun c_98 => ?_) (fun c_98 => absurd (by decide) c_98)
                obtain ⟨x99, ex99⟩ : ∃ y : Int32, y = y31_6 + Int32.ofInt 1 := ⟨_, rfl⟩
                have f100 : x99.toInt = y31_6.toInt + 1 := (ox_13 (qi_add ex99 rfl (by decide) (ox_11 g31_0) (ox_87 g31_1)))
                refine lv_iinc (v := x99) (lv' := [(6, .int x99), (7, .int 0), (0, .ref (r 0)), (1, .int p0), (2, .int p1), (3, .int p2), (4, .int p3), (5, .int 0)]) hx hb dX8_isBestAgainst_81 hl (k := 7) rfl ex99.symm (by decide) rfl (fun ls hl => ?_)
                refine lv_goto (tgt := 31) hx hb dX8_isBestAgainst_84 (by decide) ?_
                exact ih31 x99 H85 _ _ (ox_14 g31_0 f100) (ox_98 ie13 f61 f100) hP hS (lv_sub hl [2, 3, 4, 5, 6, 7, 0] rfl) (ox_89 hM31 f100)
      exact L31 (-1 * (0 : Int32).toInt + 5 + 1).toNat 0 H1 _ _ (ox_27 zc_0) (ox_95 zc_0) hP hS (lv_sub hl [2, 3, 4, 5, 6, 1, 0] rfl) (mlt (ox_96 zc_0))
  · skip
    have f101 : r_2.toInt = 0 := qi_eq c_6 rfl zc_0
    have f102 : r_2.toInt = (0 : Int) := (ox_92 f4 f5 f101)
    refine lv_iconst (v := 0) hx hb dX8_isBestAgainst_9 (by decide) ?_
    rw [hQ]
    exact W.zret (v := 0) hx hb hr (by decide) (fun t ht hW => ⟨⟨0, 0, rfl, rfl, ⟨(ox_488 hp2 hp3 zc_0), (ox_27 zc_0), (ox_28 zc_0)⟩⟩, hS.F ht⟩) hS.2.2 dX8_isBestAgainst_10
set_option maxHeartbeats 4000000 in
set_option maxRecDepth 100000 in
theorem kX8_layTwo (l : Launch) (dC : Nat → ClassId) (dI : Nat → Nat → Nat) (r : Nat → Nat) (ct : Nat → ClassId) (i_tapeLength i_time i_lyingCount i_rd_fault i_rd_token i_rd_kind i_sc_count i_sc_at i_A_tunes i_A_houses i_fA_length i_B_tunes i_B_houses i_fB_length i_acts_done i_acts_undone i_kn_count : Int32) (f_boxes f_boxKept f_trial f_offers f_A_noteCounts f_A_notes f_B_noteCounts f_B_notes f_now_where f_now_worn f_ahead_where f_ahead_worn f_acts_rows f_kn_tunes f_kn_noteTimes : Nat → Int32) (J : Nat → Nat → Int32) (L : Nat → Nat → Int64) (p0 p1 : Int32) (sz : Nat) (hI : (IX i_tapeLength i_time i_lyingCount i_rd_token i_sc_count i_sc_at i_A_tunes i_A_houses i_fA_length i_B_tunes i_B_houses i_fB_length i_acts_done i_acts_undone i_kn_count f_boxes f_A_noteCounts f_A_notes f_B_noteCounts f_B_notes f_now_worn f_ahead_worn f_acts_rows f_kn_tunes)) : Met l yX8_layTwo (.code yX8_layTwo cX8_layTwo 3 none :: GW) { frames := 2, cells := 0, slots := 0, locals := 100 } (va_Pc [.ref (r 0), .int p0, .int p1] (pW (dC, dI) (WX r ct i_tapeLength i_time i_lyingCount i_rd_fault i_rd_token i_rd_kind i_sc_count i_sc_at i_A_tunes i_A_houses i_fA_length i_B_tunes i_B_houses i_fB_length i_acts_done i_acts_undone i_kn_count f_boxes f_boxKept f_trial f_offers f_A_noteCounts f_A_notes f_B_noteCounts f_B_notes f_now_where f_now_worn f_ahead_where f_ahead_worn f_acts_rows f_kn_tunes f_kn_noteTimes J L) (TX ct) sz)) (va_Qv (fun _ : Unit => True) (fun (_ : Unit) (t : State) => ∃ (n_i_lyingCount : Int32) (n_J : Nat → Nat → Int32), va_P (dC, dI) vwCl (WX r ct i_tapeLength i_time n_i_lyingCount i_rd_fault i_rd_token i_rd_kind i_sc_count i_sc_at i_A_tunes i_A_houses i_fA_length i_B_tunes i_B_houses i_fB_length i_acts_done i_acts_undone i_kn_count f_boxes f_boxKept f_trial f_offers f_A_noteCounts f_A_notes f_B_noteCounts f_B_notes f_now_where f_now_worn f_ahead_where f_ahead_worn f_acts_rows f_kn_tunes f_kn_noteTimes n_J L) t.heap ∧ va_D (va_A (WX r ct i_tapeLength i_time i_lyingCount i_rd_fault i_rd_token i_rd_kind i_sc_count i_sc_at i_A_tunes i_A_houses i_fA_length i_B_tunes i_B_houses i_fB_length i_acts_done i_acts_undone i_kn_count f_boxes f_boxKept f_trial f_offers f_A_noteCounts f_A_notes f_B_noteCounts f_B_notes f_now_where f_now_worn f_ahead_where f_ahead_worn f_acts_rows f_kn_tunes f_kn_noteTimes J L) sz) (WX r ct i_tapeLength i_time n_i_lyingCount i_rd_fault i_rd_token i_rd_kind i_sc_count i_sc_at i_A_tunes i_A_houses i_fA_length i_B_tunes i_B_houses i_fB_length i_acts_done i_acts_undone i_kn_count f_boxes f_boxKept f_trial f_offers f_A_noteCounts f_A_notes f_B_noteCounts f_B_notes f_now_where f_now_worn f_ahead_where f_ahead_worn f_acts_rows f_kn_tunes f_kn_noteTimes n_J L) ∧ (IX i_tapeLength i_time n_i_lyingCount i_rd_token i_sc_count i_sc_at i_A_tunes i_A_houses i_fA_length i_B_tunes i_B_houses i_fB_length i_acts_done i_acts_undone i_kn_count f_boxes f_A_noteCounts f_A_notes f_B_noteCounts f_B_notes f_now_worn f_ahead_worn f_acts_rows f_kn_tunes)) (va_A (WX r ct i_tapeLength i_time i_lyingCount i_rd_fault i_rd_token i_rd_kind i_sc_count i_sc_at i_A_tunes i_A_houses i_fA_length i_B_tunes i_B_houses i_fB_length i_acts_done i_acts_undone i_kn_count f_boxes f_boxKept f_trial f_offers f_A_noteCounts f_A_notes f_B_noteCounts f_B_notes f_now_where f_now_worn f_ahead_where f_ahead_worn f_acts_rows f_kn_tunes f_kn_noteTimes J L) sz)) 0 0 (va_A (WX r ct i_tapeLength i_time i_lyingCount i_rd_fault i_rd_token i_rd_kind i_sc_count i_sc_at i_A_tunes i_A_houses i_fA_length i_B_tunes i_B_houses i_fB_length i_acts_done i_acts_undone i_kn_count f_boxes f_boxKept f_trial f_offers f_A_noteCounts f_A_notes f_B_noteCounts f_B_notes f_now_where f_now_worn f_ahead_where f_ahead_worn f_acts_rows f_kn_tunes f_kn_noteTimes J L) sz) := by
  refine Met.ofW (cc := cX8_layTwo) (maxL := 3) (ret := none) (by decide) rfl ?_
  intro p e s m args below meth c0 s₁ B hml hv
  obtain ⟨rfl, hsz, hP, hK, hD0⟩ := hv
  have hx := B.exec
  have hb := B.bytes
  have hr := B.returns
  have hts := atoms_spec (ws := .code yX8_layTwo cX8_layTwo 3 none :: GW) B.pre
  have hG : ∀ w ∈ GW, w.before _ s = true := fun w h => hts w (List.mem_cons_of_mem _ h)
  have hown : s.vm.findClass RX8 = some m.cls := findClass_of_methodNamed B.named
  subst hsz
  have hD := hD0.self (sz := s.heap.size)
  generalize hAe : va_A (WX r ct i_tapeLength i_time i_lyingCount i_rd_fault i_rd_token i_rd_kind i_sc_count i_sc_at i_A_tunes i_A_houses i_fA_length i_B_tunes i_B_houses i_fB_length i_acts_done i_acts_undone i_kn_count f_boxes f_boxKept f_trial f_offers f_A_noteCounts f_A_notes f_B_noteCounts f_B_notes f_now_where f_now_worn f_ahead_where f_ahead_worn f_acts_rows f_kn_tunes f_kn_noteTimes J L) s.heap.size = A at hD ⊢
  have hA : ∀ q : Nat, s.heap.size ≤ q → A q := fun q h => by rw [← hAe]; exact Or.inr h
  have hS : va_S A s.heap s.heap [] := va_S.rf
  have hP : va_P (dC, dI) vwCl (WX r ct i_tapeLength i_time i_lyingCount i_rd_fault i_rd_token i_rd_kind i_sc_count i_sc_at i_A_tunes i_A_houses i_fA_length i_B_tunes i_B_houses i_fB_length i_acts_done i_acts_undone i_kn_count f_boxes f_boxKept f_trial f_offers f_A_noteCounts f_A_notes f_B_noteCounts f_B_notes f_now_where f_now_worn f_ahead_where f_ahead_worn f_acts_rows f_kn_tunes f_kn_noteTimes J L) s.heap := hP
  have hl := lv_entry ([.ref (r 0), .int p0, .int p1]) (n := 3) (Nat.le_of_ble_eq_true rfl)
  rw [lg_entry_eq]
  generalize (lg_sl ([.ref (r 0), .int p0, .int p1]) ++ List.replicate (3 - (lg_sl ([.ref (r 0), .int p0, .int p1])).length) Slot.unset).toArray = ls at hl ⊢
  have hl : lv_has ls 3 [(0, .ref (r 0)), (1, .int p0), (2, .int p1)] := hl
  refine nameQ (fun Q hQ => ?_)
  obtain ⟨ie0, ie1, ie2, ie3, ie4, ie5, ie6, ie7, ie8, ie9, ie10, ie11, ie12, ie13, ie14, ie15, ie16, ie17, ie18, ie19, ie20, ie21, ie22, ie23, ie24, ie25, ie26, ie27, ie28, ie29, ie30, ie31, ie32, ie33, ie34, ie35, ie36, ie37, ie38, ie39⟩ := id hI
  refine lv_aload_n hx hb dX8_layTwo_0 rfl (lv_at hl 0 rfl) ?_
  refine gX_X8_59_0 hx hb hG hown hK hP dX8_layTwo_1 ?_
  refine lv_iconst (v := 0) hx hb dX8_layTwo_4 (by decide) ?_
  refine lv_iload_n hx hb dX8_layTwo_5 rfl (lv_at hl 1 rfl) ?_
  refine stX_14 (mm := (0 : Int)) hx hb hK hP hD hS zc_0 (ox_143) (ox_492) dX8_layTwo_6 (fun J2 H1 locs hP hD hS => ?_)
  refine lv_aload_n hx hb dX8_layTwo_7 rfl (lv_at hl 0 rfl) ?_
  refine gX_X8_59_0 hx hb hG hown hK hP dX8_layTwo_8 ?_
  refine lv_iconst (v := 1) hx hb dX8_layTwo_11 (by decide) ?_
  refine lv_iload_n hx hb dX8_layTwo_12 rfl (lv_at hl 2 rfl) ?_
  refine stX_14 (mm := (1 : Int)) hx hb hK hP hD hS zc_1 (ox_178) (ox_493) dX8_layTwo_13 (fun J4 H3 locs hP hD hS => ?_)
  refine lv_aload_n hx hb dX8_layTwo_14 rfl (lv_at hl 0 rfl) ?_
  refine lv_iconst (v := 2) hx hb dX8_layTwo_15 (by decide) ?_
  refine pX_X8_96_0 hx hb hG hown hK hP hD hS dX8_layTwo_16 (fun H5 locs hP hD hS => ?_)
  rw [hQ]
  exact W.vret hx hb hr (fun t ht hW => ⟨⟨(), rfl, trivial, ⟨2, J4, by rw [ht]; exact hP, hD, ⟨ie0, ie1, ie2, ie3, (ox_494 zc_2), (ox_495 zc_2), ie6, ie7, ie8, ie9, ie10, ie11, ie12, ie13, ie14, ie15, ie16, ie17, ie18, ie19, ie20, ie21, ie22, ie23, ie24, ie25, ie26, ie27, ie28, ie29, ie30, ie31, ie32, ie33, ie34, ie35, ie36, ie37, ie38, ie39⟩⟩⟩, hS.F ht⟩) hS.2.2 dX8_layTwo_19
set_option maxHeartbeats 4000000 in
set_option maxRecDepth 100000 in
theorem kX8_rivals (l : Launch) (dC : Nat → ClassId) (dI : Nat → Nat → Nat) (r : Nat → Nat) (ct : Nat → ClassId) (i_tapeLength i_time i_lyingCount i_rd_fault i_rd_token i_rd_kind i_sc_count i_sc_at i_A_tunes i_A_houses i_fA_length i_B_tunes i_B_houses i_fB_length i_acts_done i_acts_undone i_kn_count : Int32) (f_boxes f_boxKept f_trial f_offers f_A_noteCounts f_A_notes f_B_noteCounts f_B_notes f_now_where f_now_worn f_ahead_where f_ahead_worn f_acts_rows f_kn_tunes f_kn_noteTimes : Nat → Int32) (J : Nat → Nat → Int32) (L : Nat → Nat → Int64) (p0 p1 : Int32) (sz : Nat) (hI : (IX i_tapeLength i_time i_lyingCount i_rd_token i_sc_count i_sc_at i_A_tunes i_A_houses i_fA_length i_B_tunes i_B_houses i_fB_length i_acts_done i_acts_undone i_kn_count f_boxes f_A_noteCounts f_A_notes f_B_noteCounts f_B_notes f_now_worn f_ahead_worn f_acts_rows f_kn_tunes)) : Met l yX8_rivals (.code yX8_rivals cX8_rivals 7 (some .int) :: GW) { frames := 14, cells := 0, slots := 0, locals := 490 } (va_Pc [.ref (r 0), .int p0, .int p1] (pW (dC, dI) (WX r ct i_tapeLength i_time i_lyingCount i_rd_fault i_rd_token i_rd_kind i_sc_count i_sc_at i_A_tunes i_A_houses i_fA_length i_B_tunes i_B_houses i_fB_length i_acts_done i_acts_undone i_kn_count f_boxes f_boxKept f_trial f_offers f_A_noteCounts f_A_notes f_B_noteCounts f_B_notes f_now_where f_now_worn f_ahead_where f_ahead_worn f_acts_rows f_kn_tunes f_kn_noteTimes J L) (TX ct) sz)) (va_Qi (fun (r0 : Int32) (u : Int32) => r0 = u) (fun (u : Int32) (t : State) => ∃ (n_i_lyingCount : Int32) (n_J : Nat → Nat → Int32), va_P (dC, dI) vwCl (WX r ct i_tapeLength i_time n_i_lyingCount i_rd_fault i_rd_token i_rd_kind i_sc_count i_sc_at i_A_tunes i_A_houses i_fA_length i_B_tunes i_B_houses i_fB_length i_acts_done i_acts_undone i_kn_count f_boxes f_boxKept f_trial f_offers f_A_noteCounts f_A_notes f_B_noteCounts f_B_notes f_now_where f_now_worn f_ahead_where f_ahead_worn f_acts_rows f_kn_tunes f_kn_noteTimes n_J L) t.heap ∧ va_D (va_A (WX r ct i_tapeLength i_time i_lyingCount i_rd_fault i_rd_token i_rd_kind i_sc_count i_sc_at i_A_tunes i_A_houses i_fA_length i_B_tunes i_B_houses i_fB_length i_acts_done i_acts_undone i_kn_count f_boxes f_boxKept f_trial f_offers f_A_noteCounts f_A_notes f_B_noteCounts f_B_notes f_now_where f_now_worn f_ahead_where f_ahead_worn f_acts_rows f_kn_tunes f_kn_noteTimes J L) sz) (WX r ct i_tapeLength i_time n_i_lyingCount i_rd_fault i_rd_token i_rd_kind i_sc_count i_sc_at i_A_tunes i_A_houses i_fA_length i_B_tunes i_B_houses i_fB_length i_acts_done i_acts_undone i_kn_count f_boxes f_boxKept f_trial f_offers f_A_noteCounts f_A_notes f_B_noteCounts f_B_notes f_now_where f_now_worn f_ahead_where f_ahead_worn f_acts_rows f_kn_tunes f_kn_noteTimes n_J L) ∧ (IX i_tapeLength i_time n_i_lyingCount i_rd_token i_sc_count i_sc_at i_A_tunes i_A_houses i_fA_length i_B_tunes i_B_houses i_fB_length i_acts_done i_acts_undone i_kn_count f_boxes f_A_noteCounts f_A_notes f_B_noteCounts f_B_notes f_now_worn f_ahead_worn f_acts_rows f_kn_tunes)) (va_A (WX r ct i_tapeLength i_time i_lyingCount i_rd_fault i_rd_token i_rd_kind i_sc_count i_sc_at i_A_tunes i_A_houses i_fA_length i_B_tunes i_B_houses i_fB_length i_acts_done i_acts_undone i_kn_count f_boxes f_boxKept f_trial f_offers f_A_noteCounts f_A_notes f_B_noteCounts f_B_notes f_now_where f_now_worn f_ahead_where f_ahead_worn f_acts_rows f_kn_tunes f_kn_noteTimes J L) sz)) 0 0 (va_A (WX r ct i_tapeLength i_time i_lyingCount i_rd_fault i_rd_token i_rd_kind i_sc_count i_sc_at i_A_tunes i_A_houses i_fA_length i_B_tunes i_B_houses i_fB_length i_acts_done i_acts_undone i_kn_count f_boxes f_boxKept f_trial f_offers f_A_noteCounts f_A_notes f_B_noteCounts f_B_notes f_now_where f_now_worn f_ahead_where f_ahead_worn f_acts_rows f_kn_tunes f_kn_noteTimes J L) sz) := by
  refine Met.ofW (cc := cX8_rivals) (maxL := 7) (ret := (some .int)) (by decide) rfl ?_
  intro p e s m args below meth c0 s₁ B hml hv
  obtain ⟨rfl, hsz, hP, hK, hD0⟩ := hv
  have hx := B.exec
  have hb := B.bytes
  have hr := B.returns
  have hts := atoms_spec (ws := .code yX8_rivals cX8_rivals 7 (some .int) :: GW) B.pre
  have hG : ∀ w ∈ GW, w.before _ s = true := fun w h => hts w (List.mem_cons_of_mem _ h)
  have hown : s.vm.findClass RX8 = some m.cls := findClass_of_methodNamed B.named
  subst hsz
  have hD := hD0.self (sz := s.heap.size)
  generalize hAe : va_A (WX r ct i_tapeLength i_time i_lyingCount i_rd_fault i_rd_token i_rd_kind i_sc_count i_sc_at i_A_tunes i_A_houses i_fA_length i_B_tunes i_B_houses i_fB_length i_acts_done i_acts_undone i_kn_count f_boxes f_boxKept f_trial f_offers f_A_noteCounts f_A_notes f_B_noteCounts f_B_notes f_now_where f_now_worn f_ahead_where f_ahead_worn f_acts_rows f_kn_tunes f_kn_noteTimes J L) s.heap.size = A at hD ⊢
  have hA : ∀ q : Nat, s.heap.size ≤ q → A q := fun q h => by rw [← hAe]; exact Or.inr h
  have hS : va_S A s.heap s.heap [] := va_S.rf
  have hP : va_P (dC, dI) vwCl (WX r ct i_tapeLength i_time i_lyingCount i_rd_fault i_rd_token i_rd_kind i_sc_count i_sc_at i_A_tunes i_A_houses i_fA_length i_B_tunes i_B_houses i_fB_length i_acts_done i_acts_undone i_kn_count f_boxes f_boxKept f_trial f_offers f_A_noteCounts f_A_notes f_B_noteCounts f_B_notes f_now_where f_now_worn f_ahead_where f_ahead_worn f_acts_rows f_kn_tunes f_kn_noteTimes J L) s.heap := hP
  have hl := lv_entry ([.ref (r 0), .int p0, .int p1]) (n := 7) (Nat.le_of_ble_eq_true rfl)
  rw [lg_entry_eq]
  generalize (lg_sl ([.ref (r 0), .int p0, .int p1]) ++ List.replicate (7 - (lg_sl ([.ref (r 0), .int p0, .int p1])).length) Slot.unset).toArray = ls at hl ⊢
  have hl : lv_has ls 7 [(0, .ref (r 0)), (1, .int p0), (2, .int p1)] := hl
  refine nameQ (fun Q hQ => ?_)
  obtain ⟨ie0, ie1, ie2, ie3, ie4, ie5, ie6, ie7, ie8, ie9, ie10, ie11, ie12, ie13, ie14, ie15, ie16, ie17, ie18, ie19, ie20, ie21, ie22, ie23, ie24, ie25, ie26, ie27, ie28, ie29, ie30, ie31, ie32, ie33, ie34, ie35, ie36, ie37, ie38, ie39⟩ := id hI
  refine lv_aload_n hx hb dX8_rivals_0 rfl (lv_at hl 0 rfl) ?_
  refine lv_iconst (v := 0) hx hb dX8_rivals_1 (by decide) ?_
  refine pX_X8_96_0 hx hb hG hown hK hP hD hS dX8_rivals_2 (fun H1 locs hP hD hS => ?_)
  refine lv_aload_n hx hb dX8_rivals_5 rfl (lv_at hl 0 rfl) ?_
  refine va_calli (va_runV (As := []) (rest := []) ⟨hx, hb, hml, hown, hG⟩ (kX8_onCart l dC dI r ct i_tapeLength i_time 0 i_rd_fault i_rd_token i_rd_kind i_sc_count i_sc_at i_A_tunes i_A_houses i_fA_length i_B_tunes i_B_houses i_fB_length i_acts_done i_acts_undone i_kn_count f_boxes f_boxKept f_trial f_offers f_A_noteCounts f_A_notes f_B_noteCounts f_B_notes f_now_where f_now_worn f_ahead_where f_ahead_worn f_acts_rows f_kn_tunes f_kn_noteTimes J L H1.size ⟨ie0, ie1, ie2, ie3, (ox_27 zc_0), (ox_224 zc_0), ie6, ie7, ie8, ie9, ie10, ie11, ie12, ie13, ie14, ie15, ie16, ie17, ie18, ie19, ie20, ie21, ie22, ie23, ie24, ie25, ie26, ie27, ie28, ie29, ie30, ie31, ie32, ie33, ie34, ie35, ie36, ie37, ie38, ie39⟩) (cwV 0 hG (goodV gw895 gw897 gw30 gw129 gw898) rfl rfl rfl hd_X8_onCart ⟨(Nat.le_of_ble_eq_true rfl), (Nat.le_of_ble_eq_true rfl)⟩) ⟨fbR, va_recv hK hP (ci := 7) (q0 := 0) rfl rfl, pR_in hP hK⟩ rfl rfl hl.1 rfl (lv_room (Nat.le_of_ble_eq_true rfl)) dX8_rivals_6 ⟨(Nat.le_of_ble_eq_true rfl), (Nat.le_of_ble_eq_true rfl)⟩) hS (fun q hq h => absurd hq (Nat.not_lt.mpr h)) (fun q h => hA q (Nat.le_trans hS.1 h)) (fun r_3 u_ t_ H2 locs ht hvm hw hB hz1 hk1 hS => ?_)
  subst hw
  have hP := wk hP hk1
  refine lv_istore_n (lv' := [(3, .int r_3), (0, .ref (r 0)), (1, .int p0), (2, .int p1)]) hx hb dX8_rivals_9 rfl hl (by decide) rfl (fun ls hl => ?_)
  refine lv_aload_n hx hb dX8_rivals_10 rfl (lv_at hl 1 rfl) ?_
  refine lv_iload_n hx hb dX8_rivals_11 rfl (lv_at hl 2 rfl) ?_
  refine va_calli (va_runV (As := [.int p0]) (rest := []) ⟨hx, hb, hml, hown, hG⟩ (kX8_isHouse l dC dI r ct i_tapeLength i_time 0 i_rd_fault i_rd_token i_rd_kind i_sc_count i_sc_at i_A_tunes i_A_houses i_fA_length i_B_tunes i_B_houses i_fB_length i_acts_done i_acts_undone i_kn_count f_boxes f_boxKept f_trial f_offers f_A_noteCounts f_A_notes f_B_noteCounts f_B_notes f_now_where f_now_worn f_ahead_where f_ahead_worn f_acts_rows f_kn_tunes f_kn_noteTimes J L p0 H2.size ⟨ie0, ie1, ie2, ie3, (ox_27 zc_0), (ox_224 zc_0), ie6, ie7, ie8, ie9, ie10, ie11, ie12, ie13, ie14, ie15, ie16, ie17, ie18, ie19, ie20, ie21, ie22, ie23, ie24, ie25, ie26, ie27, ie28, ie29, ie30, ie31, ie32, ie33, ie34, ie35, ie36, ie37, ie38, ie39⟩) (cwV 1 hG (goodV gw716 gw718 gw21 gw129 gw719) rfl rfl rfl hd_X8_isHouse ⟨(Nat.le_of_ble_eq_true rfl), (Nat.le_of_ble_eq_true rfl)⟩) ⟨fbR, va_recv hK hP (ci := 7) (q0 := 0) rfl rfl, pR_in hP hK⟩ rfl rfl hl.1 rfl (lv_room (Nat.le_of_ble_eq_true rfl)) dX8_rivals_12 ⟨(Nat.le_of_ble_eq_true rfl), (Nat.le_of_ble_eq_true rfl)⟩) hS (fun q hq h => absurd hq (Nat.not_lt.mpr h)) (fun q h => hA q (Nat.le_trans hS.1 h)) (fun r_5 u_ t_ H4 locs ht hvm hw hB hz1 hk1 hS => ?_)
  subst hw
  have hP := wk hP hk1
  obtain ⟨f6, f7, f8⟩ := hB
  refine lv_if_eq (tgt := 35) hx hb dX8_rivals_15 (by decide) (fun c_9 => ?_) (fun c_9 => ?_)
  · skip
    have f10 : r_5.toInt = 0 := qi_eq c_9 rfl zc_0
    refine lv_iconst (v := (-1)) hx hb dX8_rivals_35 (by decide) ?_
    rw [hQ]
    exact W.iret (v := (-1)) hx hb hr (fun t ht hW => ⟨⟨(-1), (-1), rfl, rfl, ⟨0, J, by rw [ht]; exact hP, hD, ⟨ie0, ie1, ie2, ie3, (ox_27 zc_0), (ox_224 zc_0), ie6, ie7, ie8, ie9, ie10, ie11, ie12, ie13, ie14, ie15, ie16, ie17, ie18, ie19, ie20, ie21, ie22, ie23, ie24, ie25, ie26, ie27, ie28, ie29, ie30, ie31, ie32, ie33, ie34, ie35, ie36, ie37, ie38, ie39⟩⟩⟩, hS.F ht⟩) hS.2.2 dX8_rivals_36
  · skip
    have f11 : r_5.toInt ≠ 0 := qi_ne c_9 rfl zc_0
    have f12 : (0 : Int) ≤ p0.toInt := (ox_50 f6 f11)
    have f13 : p0.toInt + 1 ≤ i_A_houses.toInt := (ox_51 f6 f11)
    have f14 : r_5.toInt = (1 : Int) := (ox_52 f6 f11)
    have f15 : (1 : Int) ≤ r_5.toInt := (ox_53 f7 f8 f14)
    refine lv_aload_n hx hb dX8_rivals_18 rfl (lv_at hl 1 rfl) ?_
    refine lv_iload_n hx hb dX8_rivals_19 rfl (lv_at hl 3 rfl) ?_
    refine va_calli (va_runV (As := [.int p1]) (rest := []) ⟨hx, hb, hml, hown, hG⟩ (kX8_isHouse l dC dI r ct i_tapeLength i_time 0 i_rd_fault i_rd_token i_rd_kind i_sc_count i_sc_at i_A_tunes i_A_houses i_fA_length i_B_tunes i_B_houses i_fB_length i_acts_done i_acts_undone i_kn_count f_boxes f_boxKept f_trial f_offers f_A_noteCounts f_A_notes f_B_noteCounts f_B_notes f_now_where f_now_worn f_ahead_where f_ahead_worn f_acts_rows f_kn_tunes f_kn_noteTimes J L p1 H4.size ⟨ie0, ie1, ie2, ie3, (ox_27 zc_0), (ox_224 zc_0), ie6, ie7, ie8, ie9, ie10, ie11, ie12, ie13, ie14, ie15, ie16, ie17, ie18, ie19, ie20, ie21, ie22, ie23, ie24, ie25, ie26, ie27, ie28, ie29, ie30, ie31, ie32, ie33, ie34, ie35, ie36, ie37, ie38, ie39⟩) (cwV 1 hG (goodV gw716 gw718 gw21 gw129 gw719) rfl rfl rfl hd_X8_isHouse ⟨(Nat.le_of_ble_eq_true rfl), (Nat.le_of_ble_eq_true rfl)⟩) ⟨fbR, va_recv hK hP (ci := 7) (q0 := 0) rfl rfl, pR_in hP hK⟩ rfl rfl hl.1 rfl (lv_room (Nat.le_of_ble_eq_true rfl)) dX8_rivals_20 ⟨(Nat.le_of_ble_eq_true rfl), (Nat.le_of_ble_eq_true rfl)⟩) hS (fun q hq h => absurd hq (Nat.not_lt.mpr h)) (fun q h => hA q (Nat.le_trans hS.1 h)) (fun r_17 u_ t_ H16 locs ht hvm hw hB hz1 hk1 hS => ?_)
    subst hw
    have hP := wk hP hk1
    obtain ⟨f18, f19, f20⟩ := hB
    refine lv_if_eq (tgt := 35) hx hb dX8_rivals_23 (by decide) (fun c_21 => ?_) (fun c_21 => ?_)
    · skip
      have f22 : r_17.toInt = 0 := qi_eq c_21 rfl zc_0
      refine lv_iconst (v := (-1)) hx hb dX8_rivals_35 (by decide) ?_
      rw [hQ]
      exact W.iret (v := (-1)) hx hb hr (fun t ht hW => ⟨⟨(-1), (-1), rfl, rfl, ⟨0, J, by rw [ht]; exact hP, hD, ⟨ie0, ie1, ie2, ie3, (ox_27 zc_0), (ox_224 zc_0), ie6, ie7, ie8, ie9, ie10, ie11, ie12, ie13, ie14, ie15, ie16, ie17, ie18, ie19, ie20, ie21, ie22, ie23, ie24, ie25, ie26, ie27, ie28, ie29, ie30, ie31, ie32, ie33, ie34, ie35, ie36, ie37, ie38, ie39⟩⟩⟩, hS.F ht⟩) hS.2.2 dX8_rivals_36
    · skip
      have f23 : r_17.toInt ≠ 0 := qi_ne c_21 rfl zc_0
      have f24 : (0 : Int) ≤ p1.toInt := (ox_50 f18 f23)
      have f25 : p1.toInt + 1 ≤ i_A_houses.toInt := (ox_51 f18 f23)
      have f26 : r_17.toInt = (1 : Int) := (ox_52 f18 f23)
      have f27 : (1 : Int) ≤ r_17.toInt := (ox_53 f19 f20 f26)
      refine lv_iload_n hx hb dX8_rivals_26 rfl (lv_at hl 2 rfl) ?_
      refine lv_iload_n hx hb dX8_rivals_27 rfl (lv_at hl 3 rfl) ?_
      refine lv_icmp_eq (tgt := 35) hx hb dX8_rivals_28 (by decide) (fun c_28 => ?_) (fun c_28 => ?_)
      · skip
        have f29 : p0.toInt = p1.toInt := qi_eq c_28 rfl rfl
        refine lv_iconst (v := (-1)) hx hb dX8_rivals_35 (by decide) ?_
        rw [hQ]
        exact W.iret (v := (-1)) hx hb hr (fun t ht hW => ⟨⟨(-1), (-1), rfl, rfl, ⟨0, J, by rw [ht]; exact hP, hD, ⟨ie0, ie1, ie2, ie3, (ox_27 zc_0), (ox_224 zc_0), ie6, ie7, ie8, ie9, ie10, ie11, ie12, ie13, ie14, ie15, ie16, ie17, ie18, ie19, ie20, ie21, ie22, ie23, ie24, ie25, ie26, ie27, ie28, ie29, ie30, ie31, ie32, ie33, ie34, ie35, ie36, ie37, ie38, ie39⟩⟩⟩, hS.F ht⟩) hS.2.2 dX8_rivals_36
      · skip
        have f30 : p0.toInt ≠ p1.toInt := qi_ne c_28 rfl rfl
        refine lv_iload_n hx hb dX8_rivals_31 rfl (lv_at hl 0 rfl) ?_
        refine lv_if_ne (tgt := 37) hx hb dX8_rivals_32 (by decide) (fun c_31 => ?_) (fun c_31 => ?_)
        · skip
          have f32 : r_3.toInt ≠ 0 := qi_ne c_31 rfl zc_0
          refine lv_aload_n hx hb dX8_rivals_37 rfl (lv_at hl 1 rfl) ?_
          have hFc := frA hD hS hA
          refine va_callv (va_runV (As := []) (rest := []) ⟨hx, hb, hml, hown, hG⟩ (kX8_rateAll l dC dI r ct i_tapeLength i_time 0 i_rd_fault i_rd_token i_rd_kind i_sc_count i_sc_at i_A_tunes i_A_houses i_fA_length i_B_tunes i_B_houses i_fB_length i_acts_done i_acts_undone i_kn_count f_boxes f_boxKept f_trial f_offers f_A_noteCounts f_A_notes f_B_noteCounts f_B_notes f_now_where f_now_worn f_ahead_where f_ahead_worn f_acts_rows f_kn_tunes f_kn_noteTimes J L H16.size ⟨ie0, ie1, ie2, ie3, (ox_27 zc_0), (ox_224 zc_0), ie6, ie7, ie8, ie9, ie10, ie11, ie12, ie13, ie14, ie15, ie16, ie17, ie18, ie19, ie20, ie21, ie22, ie23, ie24, ie25, ie26, ie27, ie28, ie29, ie30, ie31, ie32, ie33, ie34, ie35, ie36, ie37, ie38, ie39⟩) (cwV 0 hG (goodV gw944 gw946 gw38 gw129 gw947) rfl rfl rfl hd_X8_rateAll ⟨(Nat.le_of_ble_eq_true rfl), (Nat.le_of_ble_eq_true rfl)⟩) ⟨fbW, va_recv hK hP (ci := 7) (q0 := 0) rfl rfl, pW_in hP hK hD⟩ rfl rfl hl.1 rfl (lv_room (Nat.le_of_ble_eq_true rfl)) dX8_rivals_38 ⟨(Nat.le_of_ble_eq_true rfl), (Nat.le_of_ble_eq_true rfl)⟩) hS (fun q _ h => hFc q h) hFc (fun _ t_ H33 locs ht hvm hw hB hz1 hk1 hS => ?_)
          obtain ⟨J35, hP1, hD1, hI36⟩ := hB
          rw [ht] at hP1
          have hP := hP1
          have hD := dW hFc hD1
          obtain ⟨im37, im38, im39, im40, im41, im42, im43, im44, im45, im46, im47, im48, im49, im50, im51, im52, im53, im54, im55, im56, im57, im58, im59, im60, im61, im62, im63, im64, im65, im66, im67, im68, im69, im70, im71, im72, im73, im74, im75, im76⟩ := id hI36
          refine lv_iconst (v := 0) hx hb dX8_rivals_41 (by decide) ?_
          refine lv_istore (lv' := [(4, .int 0), (3, .int r_3), (0, .ref (r 0)), (1, .int p0), (2, .int p1)]) hx hb dX8_rivals_42 hl (by decide) rfl (fun ls hl => ?_)
          refine lv_iconst (v := 0) hx hb dX8_rivals_44 (by decide) ?_
          refine lv_istore (lv' := [(5, .int 0), (4, .int 0), (3, .int r_3), (0, .ref (r 0)), (1, .int p0), (2, .int p1)]) hx hb dX8_rivals_45 hl (by decide) rfl (fun ls hl => ?_)
          have L47 : ∀ (N47 : Nat) (y47_4 y47_5 : Int32) (m47_i_lyingCount : Int32) (m47_J : Nat → Nat → Int32) (H47 : Heap) (locs : List Loc) (ls : Array Slot) (g47_0 : (0 : Int) ≤ y47_5.toInt) (g47_1 : y47_5.toInt ≤ (5 : Int)) (g47_2 : (0 : Int) ≤ m47_i_lyingCount.toInt) (g47_3 : m47_i_lyingCount.toInt ≤ (4 : Int)) (gi47_i_lyingCount_lo : (0 : Int) ≤ m47_i_lyingCount.toInt) (gi47_i_lyingCount_hi : m47_i_lyingCount.toInt ≤ (4 : Int)) (hP : va_P (dC, dI) vwCl (WX r ct i_tapeLength i_time m47_i_lyingCount i_rd_fault i_rd_token i_rd_kind i_sc_count i_sc_at i_A_tunes i_A_houses i_fA_length i_B_tunes i_B_houses i_fB_length i_acts_done i_acts_undone i_kn_count f_boxes f_boxKept f_trial f_offers f_A_noteCounts f_A_notes f_B_noteCounts f_B_notes f_now_where f_now_worn f_ahead_where f_ahead_worn f_acts_rows f_kn_tunes f_kn_noteTimes m47_J L) H47) (hD : va_D A (WX r ct i_tapeLength i_time m47_i_lyingCount i_rd_fault i_rd_token i_rd_kind i_sc_count i_sc_at i_A_tunes i_A_houses i_fA_length i_B_tunes i_B_houses i_fB_length i_acts_done i_acts_undone i_kn_count f_boxes f_boxKept f_trial f_offers f_A_noteCounts f_A_notes f_B_noteCounts f_B_notes f_now_where f_now_worn f_ahead_where f_ahead_worn f_acts_rows f_kn_tunes f_kn_noteTimes m47_J L)) (hS : va_S A s.heap H47 locs) (hl : lv_has ls 7 [(0, .ref (r 0)), (1, .int p0), (2, .int p1), (3, .int r_3), (4, .int y47_4), (5, .int y47_5)]) (hM : -1 * y47_5.toInt + 5 < (N47 : Int)), W p l e { frames := 14, cells := 0, slots := 0, locals := 490 } s m ([.ref (r 0), .int p0, .int p1] : List Value).toArray below meth c0 H47 locs 0 0 Q (F0 m 47 ls []) := by
            intro N47
            induction N47 with
            | zero =>
              intro y47_4 y47_5 m47_i_lyingCount m47_J H47 locs ls g47_0 g47_1 g47_2 g47_3 gi47_i_lyingCount_lo gi47_i_lyingCount_hi hP hD hS hl hM
              exact ((ox_82 hM g47_0 g47_1)).elim
            | succ N47 ih47 =>
              intro y47_4 y47_5 m47_i_lyingCount m47_J H47 locs ls g47_0 g47_1 g47_2 g47_3 gi47_i_lyingCount_lo gi47_i_lyingCount_hi hP hD hS hl hM
              have hM47 := msucc hM
              refine lv_iload hx hb dX8_rivals_47 (lv_at hl 5 rfl) ?_
              refine lv_aload_n hx hb dX8_rivals_49 rfl (lv_at hl 0 rfl) ?_
              refine gX_X8_23_0 hx hb hG hown hK hP dX8_rivals_50 ?_
              refine gX_X8_108_3 hx hb hG hown hK hP dX8_rivals_53 ?_
              refine lv_icmp_ge (tgt := 128) hx hb dX8_rivals_56 (by decide) (fun c_77 => ?_) (fun c_77 => ?_)
              · skip
                have f78 : i_A_tunes.toInt ≤ y47_5.toInt := qi_le c_77 rfl rfl
                refine lv_iload hx hb dX8_rivals_128 (lv_at hl 4 rfl) ?_
                rw [hQ]
                exact W.iret (v := y47_4) hx hb hr (fun t ht hW => ⟨⟨y47_4, y47_4, rfl, rfl, ⟨m47_i_lyingCount, m47_J, by rw [ht]; exact hP, hD, ⟨ie0, ie1, ie2, ie3, gi47_i_lyingCount_lo, gi47_i_lyingCount_hi, ie6, ie7, ie8, ie9, ie10, ie11, ie12, ie13, ie14, ie15, ie16, ie17, ie18, ie19, ie20, ie21, ie22, ie23, ie24, ie25, ie26, ie27, ie28, ie29, ie30, ie31, ie32, ie33, ie34, ie35, ie36, ie37, ie38, ie39⟩⟩⟩, hS.F ht⟩) hS.2.2 dX8_rivals_130
              · skip
                have f79 : y47_5.toInt < i_A_tunes.toInt := qi_nle c_77 rfl rfl
                refine lv_iconst (v := 0) hx hb dX8_rivals_59 (by decide) ?_
                refine lv_istore (lv' := [(6, .int 0), (0, .ref (r 0)), (1, .int p0), (2, .int p1), (3, .int r_3), (4, .int y47_4), (5, .int y47_5)]) hx hb dX8_rivals_60 hl (by decide) rfl (fun ls hl => ?_)
                have L62 : ∀ (N62 : Nat) (y62_4 y62_6 : Int32) (m62_i_lyingCount : Int32) (m62_J : Nat → Nat → Int32) (H62 : Heap) (locs : List Loc) (ls : Array Slot) (g62_0 : (0 : Int) ≤ y62_6.toInt) (g62_1 : y62_6.toInt ≤ (5 : Int)) (g62_2 : (0 : Int) ≤ m62_i_lyingCount.toInt) (g62_3 : m62_i_lyingCount.toInt ≤ (4 : Int)) (gi62_i_lyingCount_lo : (0 : Int) ≤ m62_i_lyingCount.toInt) (gi62_i_lyingCount_hi : m62_i_lyingCount.toInt ≤ (4 : Int)) (hP : va_P (dC, dI) vwCl (WX r ct i_tapeLength i_time m62_i_lyingCount i_rd_fault i_rd_token i_rd_kind i_sc_count i_sc_at i_A_tunes i_A_houses i_fA_length i_B_tunes i_B_houses i_fB_length i_acts_done i_acts_undone i_kn_count f_boxes f_boxKept f_trial f_offers f_A_noteCounts f_A_notes f_B_noteCounts f_B_notes f_now_where f_now_worn f_ahead_where f_ahead_worn f_acts_rows f_kn_tunes f_kn_noteTimes m62_J L) H62) (hD : va_D A (WX r ct i_tapeLength i_time m62_i_lyingCount i_rd_fault i_rd_token i_rd_kind i_sc_count i_sc_at i_A_tunes i_A_houses i_fA_length i_B_tunes i_B_houses i_fB_length i_acts_done i_acts_undone i_kn_count f_boxes f_boxKept f_trial f_offers f_A_noteCounts f_A_notes f_B_noteCounts f_B_notes f_now_where f_now_worn f_ahead_where f_ahead_worn f_acts_rows f_kn_tunes f_kn_noteTimes m62_J L)) (hS : va_S A s.heap H62 locs) (hl : lv_has ls 7 [(0, .ref (r 0)), (1, .int p0), (2, .int p1), (3, .int r_3), (4, .int y62_4), (5, .int y47_5), (6, .int y62_6)]) (hM : -1 * y62_6.toInt + 5 < (N62 : Int)), W p l e { frames := 14, cells := 0, slots := 0, locals := 490 } s m ([.ref (r 0), .int p0, .int p1] : List Value).toArray below meth c0 H62 locs 0 0 Q (F0 m 62 ls []) := by
                  intro N62
                  induction N62 with
                  | zero =>
                    intro y62_4 y62_6 m62_i_lyingCount m62_J H62 locs ls g62_0 g62_1 g62_2 g62_3 gi62_i_lyingCount_lo gi62_i_lyingCount_hi hP hD hS hl hM
                    exact ((ox_82 hM g62_0 g62_1)).elim
                  | succ N62 ih62 =>
                    intro y62_4 y62_6 m62_i_lyingCount m62_J H62 locs ls g62_0 g62_1 g62_2 g62_3 gi62_i_lyingCount_lo gi62_i_lyingCount_hi hP hD hS hl hM
                    have hM62 := msucc hM
                    refine lv_iload hx hb dX8_rivals_62 (lv_at hl 6 rfl) ?_
                    refine lv_aload_n hx hb dX8_rivals_64 rfl (lv_at hl 0 rfl) ?_
                    refine gX_X8_23_0 hx hb hG hown hK hP dX8_rivals_65 ?_
                    refine gX_X8_108_3 hx hb hG hown hK hP dX8_rivals_68 ?_
                    refine lv_icmp_ge (tgt := 122) hx hb dX8_rivals_71 (by decide) (fun c_80 => ?_) (fun c_80 => ?_)
                    · skip
                      have f81 : i_A_tunes.toInt ≤ y62_6.toInt := qi_le c_80 rfl rfl
                      obtain ⟨x82, ex82⟩ : ∃ y : Int32, y = y47_5 + Int32.ofInt 1 := ⟨_, rfl⟩
                      have f83 : x82.toInt = y47_5.toInt + 1 := (ox_13 (qi_add ex82 rfl (by decide) (ox_11 g47_0) (ox_87 g47_1)))
                      refine lv_iinc (v := x82) (lv' := [(5, .int x82), (0, .ref (r 0)), (1, .int p0), (2, .int p1), (3, .int r_3), (4, .int y62_4), (6, .int y62_6)]) hx hb dX8_rivals_122 hl (k := 5) rfl ex82.symm (by decide) rfl (fun ls hl => ?_)
                      refine lv_goto (tgt := 47) hx hb dX8_rivals_125 (by decide) ?_
                      exact ih47 y62_4 x82 m62_i_lyingCount m62_J H62 _ _ (ox_14 g47_0 f83) (ox_98 ie13 f79 f83) (ox_6 g62_2) (ox_390 g62_3) gi62_i_lyingCount_lo gi62_i_lyingCount_hi hP hD hS (lv_sub hl [1, 2, 3, 4, 5, 0] rfl) (ox_89 hM47 f83)
                    · skip
                      have f84 : y62_6.toInt < i_A_tunes.toInt := qi_nle c_80 rfl rfl
                      refine lv_aload_n hx hb dX8_rivals_74 rfl (lv_at hl 0 rfl) ?_
                      refine lv_iload_n hx hb dX8_rivals_75 rfl (lv_at hl 1 rfl) ?_
                      refine lv_iload hx hb dX8_rivals_76 (lv_at hl 5 rfl) ?_
                      refine lv_iload hx hb dX8_rivals_78 (lv_at hl 6 rfl) ?_
                      refine lv_iload_n hx hb dX8_rivals_80 rfl (lv_at hl 3 rfl) ?_
                      refine va_calli (va_runV (As := [.int p0, .int y47_5, .int y62_6, .int r_3]) (rest := []) ⟨hx, hb, hml, hown, hG⟩ (kX8_isBestAgainst l dC dI r ct i_tapeLength i_time m62_i_lyingCount i_rd_fault i_rd_token i_rd_kind i_sc_count i_sc_at i_A_tunes i_A_houses i_fA_length i_B_tunes i_B_houses i_fB_length i_acts_done i_acts_undone i_kn_count f_boxes f_boxKept f_trial f_offers f_A_noteCounts f_A_notes f_B_noteCounts f_B_notes f_now_where f_now_worn f_ahead_where f_ahead_worn f_acts_rows f_kn_tunes f_kn_noteTimes m62_J L p0 y47_5 y62_6 r_3 H62.size ⟨ie0, ie1, ie2, ie3, gi62_i_lyingCount_lo, gi62_i_lyingCount_hi, ie6, ie7, ie8, ie9, ie10, ie11, ie12, ie13, ie14, ie15, ie16, ie17, ie18, ie19, ie20, ie21, ie22, ie23, ie24, ie25, ie26, ie27, ie28, ie29, ie30, ie31, ie32, ie33, ie34, ie35, ie36, ie37, ie38, ie39⟩ (ox_54 f12 f13) (ox_55 f13) (ox_6 g47_0) (ox_223 f79)) (cwV 4 hG (goodV gw973 gw975 gw43 gw129 gw976) rfl rfl rfl hd_X8_isBestAgainst ⟨(Nat.le_of_ble_eq_true rfl), (Nat.le_of_ble_eq_true rfl)⟩) ⟨fbR, va_recv hK hP (ci := 7) (q0 := 0) rfl rfl, pR_in hP hK⟩ rfl rfl hl.1 rfl (lv_room (Nat.le_of_ble_eq_true rfl)) dX8_rivals_81 ⟨(Nat.le_of_ble_eq_true rfl), (Nat.le_of_ble_eq_true rfl)⟩) hS (fun q hq h => absurd hq (Nat.not_lt.mpr h)) (fun q h => hA q (Nat.le_trans hS.1 h)) (fun r_86 u_ t_ H85 locs ht hvm hw hB hz1 hk1 hS => ?_)
                      subst hw
                      have hP := wk hP hk1
                      obtain ⟨f87, f88, f89⟩ := hB
                      refine lv_if_eq (tgt := 116) hx hb dX8_rivals_84 (by decide) (fun c_90 => ?_) (fun c_90 => ?_)
                      · skip
                        have f91 : r_86.toInt = 0 := qi_eq c_90 rfl zc_0
                        obtain ⟨x92, ex92⟩ : ∃ y : Int32, y = y62_6 + Int32.ofInt 1 := ⟨_, rfl⟩
                        have f93 : x92.toInt = y62_6.toInt + 1 := (ox_13 (qi_add ex92 rfl (by decide) (ox_11 g62_0) (ox_87 g62_1)))
                        refine lv_iinc (v := x92) (lv' := [(6, .int x92), (0, .ref (r 0)), (1, .int p0), (2, .int p1), (3, .int r_3), (4, .int y62_4), (5, .int y47_5)]) hx hb dX8_rivals_116 hl (k := 6) rfl ex92.symm (by decide) rfl (fun ls hl => ?_)
                        refine lv_goto (tgt := 62) hx hb dX8_rivals_119 (by decide) ?_
                        exact ih62 y62_4 x92 m62_i_lyingCount m62_J H85 _ _ (ox_14 g62_0 f93) (ox_98 ie13 f84 f93) (ox_6 g62_2) (ox_390 g62_3) gi62_i_lyingCount_lo gi62_i_lyingCount_hi hP hD hS (lv_sub hl [1, 2, 3, 4, 5, 6, 0] rfl) (ox_89 hM62 f93)
                      · skip
                        have f94 : r_86.toInt ≠ 0 := qi_ne c_90 rfl zc_0
                        have f95 : (1 : Int) ≤ r_86.toInt := (ox_496 f87 f94)
                        refine lv_aload_n hx hb dX8_rivals_87 rfl (lv_at hl 0 rfl) ?_
                        refine lv_iload_n hx hb dX8_rivals_88 rfl (lv_at hl 2 rfl) ?_
                        refine lv_iload hx hb dX8_rivals_89 (lv_at hl 6 rfl) ?_
                        refine lv_iload hx hb dX8_rivals_91 (lv_at hl 5 rfl) ?_
                        refine lv_iload_n hx hb dX8_rivals_93 rfl (lv_at hl 3 rfl) ?_
                        refine va_calli (va_runV (As := [.int p1, .int y62_6, .int y47_5, .int r_3]) (rest := []) ⟨hx, hb, hml, hown, hG⟩ (kX8_isBestAgainst l dC dI r ct i_tapeLength i_time m62_i_lyingCount i_rd_fault i_rd_token i_rd_kind i_sc_count i_sc_at i_A_tunes i_A_houses i_fA_length i_B_tunes i_B_houses i_fB_length i_acts_done i_acts_undone i_kn_count f_boxes f_boxKept f_trial f_offers f_A_noteCounts f_A_notes f_B_noteCounts f_B_notes f_now_where f_now_worn f_ahead_where f_ahead_worn f_acts_rows f_kn_tunes f_kn_noteTimes m62_J L p1 y62_6 y47_5 r_3 H85.size ⟨ie0, ie1, ie2, ie3, gi62_i_lyingCount_lo, gi62_i_lyingCount_hi, ie6, ie7, ie8, ie9, ie10, ie11, ie12, ie13, ie14, ie15, ie16, ie17, ie18, ie19, ie20, ie21, ie22, ie23, ie24, ie25, ie26, ie27, ie28, ie29, ie30, ie31, ie32, ie33, ie34, ie35, ie36, ie37, ie38, ie39⟩ (ox_54 f24 f25) (ox_55 f25) (ox_6 g62_0) (ox_223 f84)) (cwV 4 hG (goodV gw973 gw975 gw43 gw129 gw976) rfl rfl rfl hd_X8_isBestAgainst ⟨(Nat.le_of_ble_eq_true rfl), (Nat.le_of_ble_eq_true rfl)⟩) ⟨fbR, va_recv hK hP (ci := 7) (q0 := 0) rfl rfl, pR_in hP hK⟩ rfl rfl hl.1 rfl (lv_room (Nat.le_of_ble_eq_true rfl)) dX8_rivals_94 ⟨(Nat.le_of_ble_eq_true rfl), (Nat.le_of_ble_eq_true rfl)⟩) hS (fun q hq h => absurd hq (Nat.not_lt.mpr h)) (fun q h => hA q (Nat.le_trans hS.1 h)) (fun r_97 u_ t_ H96 locs ht hvm hw hB hz1 hk1 hS => ?_)
                        subst hw
                        have hP := wk hP hk1
                        obtain ⟨f98, f99, f100⟩ := hB
                        refine lv_if_eq (tgt := 116) hx hb dX8_rivals_97 (by decide) (fun c_101 => ?_) (fun c_101 => ?_)
                        · skip
                          have f102 : r_97.toInt = 0 := qi_eq c_101 rfl zc_0
                          obtain ⟨x103, ex103⟩ : ∃ y : Int32, y = y62_6 + Int32.ofInt 1 := ⟨_, rfl⟩
                          have f104 : x103.toInt = y62_6.toInt + 1 := (ox_13 (qi_add ex103 rfl (by decide) (ox_11 g62_0) (ox_87 g62_1)))
                          refine lv_iinc (v := x103) (lv' := [(6, .int x103), (0, .ref (r 0)), (1, .int p0), (2, .int p1), (3, .int r_3), (4, .int y62_4), (5, .int y47_5)]) hx hb dX8_rivals_116 hl (k := 6) rfl ex103.symm (by decide) rfl (fun ls hl => ?_)
                          refine lv_goto (tgt := 62) hx hb dX8_rivals_119 (by decide) ?_
                          exact ih62 y62_4 x103 m62_i_lyingCount m62_J H96 _ _ (ox_14 g62_0 f104) (ox_98 ie13 f84 f104) (ox_6 g62_2) (ox_390 g62_3) gi62_i_lyingCount_lo gi62_i_lyingCount_hi hP hD hS (lv_sub hl [1, 2, 3, 4, 5, 6, 0] rfl) (ox_89 hM62 f104)
                        · skip
                          have f105 : r_97.toInt ≠ 0 := qi_ne c_101 rfl zc_0
                          have f106 : (1 : Int) ≤ r_97.toInt := (ox_496 f98 f105)
                          refine lv_iload hx hb dX8_rivals_100 (lv_at hl 4 rfl) ?_
                          refine lv_if_ne (tgt := 113) hx hb dX8_rivals_102 (by decide) (fun c_107 => ?_) (fun c_107 => ?_)
                          · skip
                            have f108 : y62_4.toInt ≠ 0 := qi_ne c_107 rfl zc_0
                            obtain ⟨x109, ex109⟩ : ∃ y : Int32, y = y62_4 + Int32.ofInt 1 := ⟨_, rfl⟩
                            have f110 : (-2147483648) ≤ y62_4.toInt ∧ y62_4.toInt ≤ 2147483647 := i32_rg _
                            refine lv_iinc (v := x109) (lv' := [(4, .int x109), (0, .ref (r 0)), (1, .int p0), (2, .int p1), (3, .int r_3), (5, .int y47_5), (6, .int y62_6)]) hx hb dX8_rivals_113 hl (k := 4) rfl ex109.symm (by decide) rfl (fun ls hl => ?_)
                            obtain ⟨x111, ex111⟩ : ∃ y : Int32, y = y62_6 + Int32.ofInt 1 := ⟨_, rfl⟩
                            have f112 : x111.toInt = y62_6.toInt + 1 := (ox_13 (qi_add ex111 rfl (by decide) (ox_11 g62_0) (ox_87 g62_1)))
                            refine lv_iinc (v := x111) (lv' := [(6, .int x111), (4, .int x109), (0, .ref (r 0)), (1, .int p0), (2, .int p1), (3, .int r_3), (5, .int y47_5)]) hx hb dX8_rivals_116 hl (k := 6) rfl ex111.symm (by decide) rfl (fun ls hl => ?_)
                            refine lv_goto (tgt := 62) hx hb dX8_rivals_119 (by decide) ?_
                            exact ih62 x109 x111 m62_i_lyingCount m62_J H96 _ _ (ox_14 g62_0 f112) (ox_98 ie13 f84 f112) (ox_6 g62_2) (ox_390 g62_3) gi62_i_lyingCount_lo gi62_i_lyingCount_hi hP hD hS (lv_sub hl [2, 3, 4, 5, 1, 6, 0] rfl) (ox_89 hM62 f112)
                          · skip
                            have f113 : y62_4.toInt = 0 := qi_eq c_107 rfl zc_0
                            refine lv_aload_n hx hb dX8_rivals_105 rfl (lv_at hl 0 rfl) ?_
                            refine lv_iload hx hb dX8_rivals_106 (lv_at hl 5 rfl) ?_
                            refine lv_iload hx hb dX8_rivals_108 (lv_at hl 6 rfl) ?_
                            have hFc := frA hD hS hA
                            refine va_callv (va_runV (As := [.int y47_5, .int y62_6]) (rest := []) ⟨hx, hb, hml, hown, hG⟩ (kX8_layTwo l dC dI r ct i_tapeLength i_time m62_i_lyingCount i_rd_fault i_rd_token i_rd_kind i_sc_count i_sc_at i_A_tunes i_A_houses i_fA_length i_B_tunes i_B_houses i_fB_length i_acts_done i_acts_undone i_kn_count f_boxes f_boxKept f_trial f_offers f_A_noteCounts f_A_notes f_B_noteCounts f_B_notes f_now_where f_now_worn f_ahead_where f_ahead_worn f_acts_rows f_kn_tunes f_kn_noteTimes m62_J L y47_5 y62_6 H96.size ⟨ie0, ie1, ie2, ie3, gi62_i_lyingCount_lo, gi62_i_lyingCount_hi, ie6, ie7, ie8, ie9, ie10, ie11, ie12, ie13, ie14, ie15, ie16, ie17, ie18, ie19, ie20, ie21, ie22, ie23, ie24, ie25, ie26, ie27, ie28, ie29, ie30, ie31, ie32, ie33, ie34, ie35, ie36, ie37, ie38, ie39⟩) (cwV 2 hG (goodV gw977 gw979 gw44 gw129 gw980) rfl rfl rfl hd_X8_layTwo ⟨(Nat.le_of_ble_eq_true rfl), (Nat.le_of_ble_eq_true rfl)⟩) ⟨fbW, va_recv hK hP (ci := 7) (q0 := 0) rfl rfl, pW_in hP hK hD⟩ rfl rfl hl.1 rfl (lv_room (Nat.le_of_ble_eq_true rfl)) dX8_rivals_110 ⟨(Nat.le_of_ble_eq_true rfl), (Nat.le_of_ble_eq_true rfl)⟩) hS (fun q _ h => hFc q h) hFc (fun _ t_ H114 locs ht hvm hw hB hz1 hk1 hS => ?_)
                            obtain ⟨x116, J117, hP1, hD1, hI118⟩ := hB
                            rw [ht] at hP1
                            have hP := hP1
                            have hD := dW hFc hD1
                            obtain ⟨im119, im120, im121, im122, im123, im124, im125, im126, im127, im128, im129, im130, im131, im132, im133, im134, im135, im136, im137, im138, im139, im140, im141, im142, im143, im144, im145, im146, im147, im148, im149, im150, im151, im152, im153, im154, im155, im156, im157, im158⟩ := id hI118
                            obtain ⟨x159, ex159⟩ : ∃ y : Int32, y = y62_4 + Int32.ofInt 1 := ⟨_, rfl⟩
                            have f160 : x159.toInt = y62_4.toInt + 1 := (ox_13 (qi_add ex159 rfl (by decide) (ox_497 f113) (ox_498 f113)))
                            refine lv_iinc (v := x159) (lv' := [(4, .int x159), (0, .ref (r 0)), (1, .int p0), (2, .int p1), (3, .int r_3), (5, .int y47_5), (6, .int y62_6)]) hx hb dX8_rivals_113 hl (k := 4) rfl ex159.symm (by decide) rfl (fun ls hl => ?_)
                            obtain ⟨x161, ex161⟩ : ∃ y : Int32, y = y62_6 + Int32.ofInt 1 := ⟨_, rfl⟩
                            have f162 : x161.toInt = y62_6.toInt + 1 := (ox_13 (qi_add ex161 rfl (by decide) (ox_11 g62_0) (ox_87 g62_1)))
                            refine lv_iinc (v := x161) (lv' := [(6, .int x161), (4, .int x159), (0, .ref (r 0)), (1, .int p0), (2, .int p1), (3, .int r_3), (5, .int y47_5)]) hx hb dX8_rivals_116 hl (k := 6) rfl ex161.symm (by decide) rfl (fun ls hl => ?_)
                            refine lv_goto (tgt := 62) hx hb dX8_rivals_119 (by decide) ?_
                            exact ih62 x159 x161 x116 J117 H114 _ _ (ox_14 g62_0 f162) (ox_98 ie13 f84 f162) (ox_103 im123 im124) (ox_104 im123 im124) im123 im124 hP hD hS (lv_sub hl [2, 3, 4, 5, 1, 6, 0] rfl) (ox_89 hM62 f162)
                exact L62 (-1 * (0 : Int32).toInt + 5 + 1).toNat y47_4 0 m47_i_lyingCount m47_J H47 _ _ (ox_27 zc_0) (ox_95 zc_0) (ox_6 g47_2) (ox_390 g47_3) gi47_i_lyingCount_lo gi47_i_lyingCount_hi hP hD hS (lv_sub hl [1, 2, 3, 4, 5, 6, 0] rfl) (mlt (ox_96 zc_0))
          exact L47 (-1 * (0 : Int32).toInt + 5 + 1).toNat 0 0 0 J35 H33 _ _ (ox_27 zc_0) (ox_95 zc_0) (ox_27 zc_0) (ox_224 zc_0) (ox_27 zc_0) (ox_224 zc_0) hP hD hS (lv_sub hl [3, 4, 5, 2, 1, 0] rfl) (mlt (ox_96 zc_0))
        · skip
          have f163 : r_3.toInt = 0 := qi_eq c_31 rfl zc_0
          refine lv_iconst (v := (-1)) hx hb dX8_rivals_35 (by decide) ?_
          rw [hQ]
          exact W.iret (v := (-1)) hx hb hr (fun t ht hW => ⟨⟨(-1), (-1), rfl, rfl, ⟨0, J, by rw [ht]; exact hP, hD, ⟨ie0, ie1, ie2, ie3, (ox_27 zc_0), (ox_224 zc_0), ie6, ie7, ie8, ie9, ie10, ie11, ie12, ie13, ie14, ie15, ie16, ie17, ie18, ie19, ie20, ie21, ie22, ie23, ie24, ie25, ie26, ie27, ie28, ie29, ie30, ie31, ie32, ie33, ie34, ie35, ie36, ie37, ie38, ie39⟩⟩⟩, hS.F ht⟩) hS.2.2 dX8_rivals_36
set_option maxHeartbeats 4000000 in
set_option maxRecDepth 100000 in
theorem kX8_priceOf (l : Launch) (dC : Nat → ClassId) (dI : Nat → Nat → Nat) (r : Nat → Nat) (ct : Nat → ClassId) (i_tapeLength i_time i_lyingCount i_rd_fault i_rd_token i_rd_kind i_sc_count i_sc_at i_A_tunes i_A_houses i_fA_length i_B_tunes i_B_houses i_fB_length i_acts_done i_acts_undone i_kn_count : Int32) (f_boxes f_boxKept f_trial f_offers f_A_noteCounts f_A_notes f_B_noteCounts f_B_notes f_now_where f_now_worn f_ahead_where f_ahead_worn f_acts_rows f_kn_tunes f_kn_noteTimes : Nat → Int32) (J : Nat → Nat → Int32) (L : Nat → Nat → Int64) (p0 : Int32) (sz : Nat) (hI : (IX i_tapeLength i_time i_lyingCount i_rd_token i_sc_count i_sc_at i_A_tunes i_A_houses i_fA_length i_B_tunes i_B_houses i_fB_length i_acts_done i_acts_undone i_kn_count f_boxes f_A_noteCounts f_A_notes f_B_noteCounts f_B_notes f_now_worn f_ahead_worn f_acts_rows f_kn_tunes)) : Met l yX8_priceOf (.code yX8_priceOf cX8_priceOf 4 (some .int) :: GW) { frames := 4, cells := 0, slots := 0, locals := 161 } (va_Pc [.ref (r 0), .int p0] (pR (dC, dI) (WX r ct i_tapeLength i_time i_lyingCount i_rd_fault i_rd_token i_rd_kind i_sc_count i_sc_at i_A_tunes i_A_houses i_fA_length i_B_tunes i_B_houses i_fB_length i_acts_done i_acts_undone i_kn_count f_boxes f_boxKept f_trial f_offers f_A_noteCounts f_A_notes f_B_noteCounts f_B_notes f_now_where f_now_worn f_ahead_where f_ahead_worn f_acts_rows f_kn_tunes f_kn_noteTimes J L) (TX ct) sz)) (va_Qi (fun (r0 : Int32) (u : Int32) => r0 = u) (fun (u : Int32) (t : State) => True) (fun q => sz ≤ q)) 0 0 (fun q => sz ≤ q) := by
  refine Met.ofW (cc := cX8_priceOf) (maxL := 4) (ret := (some .int)) (by decide) rfl ?_
  intro p e s m args below meth c0 s₁ B hml hv
  obtain ⟨rfl, hsz, hP, hK⟩ := hv
  have hx := B.exec
  have hb := B.bytes
  have hr := B.returns
  have hts := atoms_spec (ws := .code yX8_priceOf cX8_priceOf 4 (some .int) :: GW) B.pre
  have hG : ∀ w ∈ GW, w.before _ s = true := fun w h => hts w (List.mem_cons_of_mem _ h)
  have hown : s.vm.findClass RX8 = some m.cls := findClass_of_methodNamed B.named
  subst hsz
  have hS : va_S (fun q => s.heap.size ≤ q) s.heap s.heap [] := va_S.rf
  have hP : va_P (dC, dI) vwCl (WX r ct i_tapeLength i_time i_lyingCount i_rd_fault i_rd_token i_rd_kind i_sc_count i_sc_at i_A_tunes i_A_houses i_fA_length i_B_tunes i_B_houses i_fB_length i_acts_done i_acts_undone i_kn_count f_boxes f_boxKept f_trial f_offers f_A_noteCounts f_A_notes f_B_noteCounts f_B_notes f_now_where f_now_worn f_ahead_where f_ahead_worn f_acts_rows f_kn_tunes f_kn_noteTimes J L) s.heap := hP
  have hl := lv_entry ([.ref (r 0), .int p0]) (n := 4) (Nat.le_of_ble_eq_true rfl)
  rw [lg_entry_eq]
  generalize (lg_sl ([.ref (r 0), .int p0]) ++ List.replicate (4 - (lg_sl ([.ref (r 0), .int p0])).length) Slot.unset).toArray = ls at hl ⊢
  have hl : lv_has ls 4 [(0, .ref (r 0)), (1, .int p0)] := hl
  refine nameQ (fun Q hQ => ?_)
  obtain ⟨ie0, ie1, ie2, ie3, ie4, ie5, ie6, ie7, ie8, ie9, ie10, ie11, ie12, ie13, ie14, ie15, ie16, ie17, ie18, ie19, ie20, ie21, ie22, ie23, ie24, ie25, ie26, ie27, ie28, ie29, ie30, ie31, ie32, ie33, ie34, ie35, ie36, ie37, ie38, ie39⟩ := id hI
  refine lv_iconst (v := 0) hx hb dX8_priceOf_0 (by decide) ?_
  refine lv_istore_n (lv' := [(2, .int 0), (0, .ref (r 0)), (1, .int p0)]) hx hb dX8_priceOf_1 rfl hl (by decide) rfl (fun ls hl => ?_)
  refine lv_iconst (v := 0) hx hb dX8_priceOf_2 (by decide) ?_
  refine lv_istore_n (lv' := [(3, .int 0), (2, .int 0), (0, .ref (r 0)), (1, .int p0)]) hx hb dX8_priceOf_3 rfl hl (by decide) rfl (fun ls hl => ?_)
  have L4 : ∀ (N4 : Nat) (y4_2 y4_3 : Int32) (H4 : Heap) (locs : List Loc) (ls : Array Slot) (g4_0 : (0 : Int) ≤ y4_3.toInt) (g4_1 : y4_3.toInt ≤ (5 : Int)) (hP : va_P (dC, dI) vwCl (WX r ct i_tapeLength i_time i_lyingCount i_rd_fault i_rd_token i_rd_kind i_sc_count i_sc_at i_A_tunes i_A_houses i_fA_length i_B_tunes i_B_houses i_fB_length i_acts_done i_acts_undone i_kn_count f_boxes f_boxKept f_trial f_offers f_A_noteCounts f_A_notes f_B_noteCounts f_B_notes f_now_where f_now_worn f_ahead_where f_ahead_worn f_acts_rows f_kn_tunes f_kn_noteTimes J L) H4) (hS : va_S (fun q => s.heap.size ≤ q) s.heap H4 locs) (hl : lv_has ls 4 [(0, .ref (r 0)), (1, .int p0), (2, .int y4_2), (3, .int y4_3)]) (hM : -1 * y4_3.toInt + 5 < (N4 : Int)), W p l e { frames := 4, cells := 0, slots := 0, locals := 161 } s m ([.ref (r 0), .int p0] : List Value).toArray below meth c0 H4 locs 0 0 Q (F0 m 4 ls []) := by
    intro N4
    induction N4 with
    | zero =>
      intro y4_2 y4_3 H4 locs ls g4_0 g4_1 hP hS hl hM
      exact ((ox_82 hM g4_0 g4_1)).elim
    | succ N4 ih4 =>
      intro y4_2 y4_3 H4 locs ls g4_0 g4_1 hP hS hl hM
      have hM4 := msucc hM
      refine lv_iload_n hx hb dX8_priceOf_4 rfl (lv_at hl 3 rfl) ?_
      refine lv_aload_n hx hb dX8_priceOf_5 rfl (lv_at hl 0 rfl) ?_
      refine gX_X8_23_0 hx hb hG hown hK hP dX8_priceOf_6 ?_
      refine gX_X8_108_3 hx hb hG hown hK hP dX8_priceOf_9 ?_
      refine lv_icmp_ge (tgt := 41) hx hb dX8_priceOf_12 (by decide) (fun c_1 => ?_) (fun c_1 => ?_)
      · skip
        have f2 : i_A_tunes.toInt ≤ y4_3.toInt := qi_le c_1 rfl rfl
        refine lv_iload_n hx hb dX8_priceOf_41 rfl (lv_at hl 2 rfl) ?_
        rw [hQ]
        exact W.iret (v := y4_2) hx hb hr (fun t ht hW => ⟨⟨y4_2, y4_2, rfl, rfl, trivial⟩, hS.F ht⟩) hS.2.2 dX8_priceOf_42
      · skip
        have f3 : y4_3.toInt < i_A_tunes.toInt := qi_nle c_1 rfl rfl
        refine lv_iload_n hx hb dX8_priceOf_15 rfl (lv_at hl 1 rfl) ?_
        refine lv_iload_n hx hb dX8_priceOf_16 rfl (lv_at hl 3 rfl) ?_
        refine va_calli (va_runS (As := [.int p0, .int y4_3]) (rest := []) ⟨hx, hb, hml, hown, hG⟩ (kX8_holds l dC dI p0 y4_3 H4.size) (va_cwS 2 hG (goodS gw911 gw912 gw129 gw913) rfl rfl rfl hd_X8_holds ⟨(Nat.le_of_ble_eq_true rfl), (Nat.le_of_ble_eq_true rfl)⟩) ⟨fbR, pR_in emptyP (emptyK hK)⟩ rfl rfl hl.1 rfl (lv_room (Nat.le_of_ble_eq_true rfl)) dX8_priceOf_17 ⟨(Nat.le_of_ble_eq_true rfl), (Nat.le_of_ble_eq_true rfl)⟩) hS (fun q hq h => absurd hq (Nat.not_lt.mpr h)) (fun q h => Nat.le_trans hS.1 h) (fun r_5 u_ t_ H4 locs ht hvm hw hB hz1 hk1 hS => ?_)
        subst hw
        have hP := wk hP hk1
        obtain ⟨f6, f7, f8⟩ := hB
        refine lv_if_eq (tgt := 35) hx hb dX8_priceOf_20 (by decide) (fun c_9 => ?_) (fun c_9 => ?_)
        · skip
          have f10 : r_5.toInt = 0 := qi_eq c_9 rfl zc_0
          have f11 : r_5.toInt = (0 : Int) := (ox_92 f7 f8 f10)
          obtain ⟨x12, ex12⟩ : ∃ y : Int32, y = y4_3 + Int32.ofInt 1 := ⟨_, rfl⟩
          have f13 : x12.toInt = y4_3.toInt + 1 := (ox_13 (qi_add ex12 rfl (by decide) (ox_11 g4_0) (ox_87 g4_1)))
          refine lv_iinc (v := x12) (lv' := [(3, .int x12), (0, .ref (r 0)), (1, .int p0), (2, .int y4_2)]) hx hb dX8_priceOf_35 hl (k := 3) rfl ex12.symm (by decide) rfl (fun ls hl => ?_)
          refine lv_goto (tgt := 4) hx hb dX8_priceOf_38 (by decide) ?_
          exact ih4 y4_2 x12 H4 _ _ (ox_14 g4_0 f13) (ox_98 ie13 f3 f13) hP hS (lv_sub hl [1, 2, 3, 0] rfl) (ox_89 hM4 f13)
        · skip
          have f14 : r_5.toInt ≠ 0 := qi_ne c_9 rfl zc_0
          have f15 : r_5.toInt = (1 : Int) := (ox_91 f6 f14)
          have f16 : (1 : Int) ≤ r_5.toInt := (ox_53 f7 f8 f15)
          refine lv_iload_n hx hb dX8_priceOf_23 rfl (lv_at hl 2 rfl) ?_
          refine lv_aload_n hx hb dX8_priceOf_24 rfl (lv_at hl 0 rfl) ?_
          refine gX_X8_23_0 hx hb hG hown hK hP dX8_priceOf_25 ?_
          refine gX_X8_115_3 hx hb hG hown hK hP dX8_priceOf_28 ?_
          refine lv_iload_n hx hb dX8_priceOf_31 rfl (lv_at hl 3 rfl) ?_
          refine ldX_23 (mm := y4_3.toInt) hx hb hK hP rfl (ox_9 g4_0) (ox_99 ie13 f3) dX8_priceOf_32 (fun x17 => ?_)
          refine lv_iadd hx hb dX8_priceOf_33 ?_
          refine lv_topi (fun x18 ex18 => ?_)
          refine lv_istore_n (lv' := [(2, .int x18), (0, .ref (r 0)), (1, .int p0), (3, .int y4_3)]) hx hb dX8_priceOf_34 rfl hl (by decide) rfl (fun ls hl => ?_)
          obtain ⟨x19, ex19⟩ : ∃ y : Int32, y = y4_3 + Int32.ofInt 1 := ⟨_, rfl⟩
          have f20 : x19.toInt = y4_3.toInt + 1 := (ox_13 (qi_add ex19 rfl (by decide) (ox_11 g4_0) (ox_87 g4_1)))
          refine lv_iinc (v := x19) (lv' := [(3, .int x19), (2, .int x18), (0, .ref (r 0)), (1, .int p0)]) hx hb dX8_priceOf_35 hl (k := 3) rfl ex19.symm (by decide) rfl (fun ls hl => ?_)
          refine lv_goto (tgt := 4) hx hb dX8_priceOf_38 (by decide) ?_
          exact ih4 x18 x19 H4 _ _ (ox_14 g4_0 f20) (ox_98 ie13 f3 f20) hP hS (lv_sub hl [2, 3, 1, 0] rfl) (ox_89 hM4 f20)
  exact L4 (-1 * (0 : Int32).toInt + 5 + 1).toNat 0 0 s.heap _ _ (ox_27 zc_0) (ox_95 zc_0) hP hS (lv_sub hl [2, 3, 1, 0] rfl) (mlt (ox_96 zc_0))
