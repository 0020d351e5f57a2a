set_option maxHeartbeats 4000000 in
set_option maxRecDepth 100000 in
theorem kX8_passWeekIn (l : Launch) (dC : Nat → ClassId) (dI : Nat → Nat → Nat) (r : Nat → Nat) (ct : Nat → ClassId) (i_tapeLength i_time i_lyingCount i_rd_fault i_rd_token i_rd_kind i_sc_count i_sc_at i_A_tunes i_A_houses i_fA_length i_B_tunes i_B_houses i_fB_length i_acts_done i_acts_undone i_kn_count : Int32) (f_boxes f_boxKept f_trial f_offers f_A_noteCounts f_A_notes f_B_noteCounts f_B_notes f_now_where f_now_worn f_ahead_where f_ahead_worn f_acts_rows f_kn_tunes f_kn_noteTimes : Nat → Int32) (J : Nat → Nat → Int32) (L : Nat → Nat → Int64) (p1 p2 p3 : Int32) (sz : Nat) (hI : (IX i_tapeLength i_time i_lyingCount i_rd_token i_sc_count i_sc_at i_A_tunes i_A_houses i_fA_length i_B_tunes i_B_houses i_fB_length i_acts_done i_acts_undone i_kn_count f_boxes f_A_noteCounts f_A_notes f_B_noteCounts f_B_notes f_now_worn f_ahead_worn f_acts_rows f_kn_tunes)) (hp0 : (0 : Int) ≤ p1.toInt) (hp1 : p1.toInt + 1 ≤ i_A_houses.toInt) (hp2 : (0 : Int) ≤ p2.toInt) (hp3 : p2.toInt + 1 ≤ i_A_tunes.toInt) (hp4 : WB i_A_tunes f_now_where) : Met l yX8_passWeekIn (.code yX8_passWeekIn cX8_passWeekIn 9 (some .boolean) :: GW) { frames := 10, cells := 0, slots := 0, locals := 364 } (va_Pc [.ref (r 0), .ref (r 7), .int p1, .int p2, .int p3] (pW (dC, dI) (WX r ct i_tapeLength i_time i_lyingCount i_rd_fault i_rd_token i_rd_kind i_sc_count i_sc_at i_A_tunes i_A_houses i_fA_length i_B_tunes i_B_houses i_fB_length i_acts_done i_acts_undone i_kn_count f_boxes f_boxKept f_trial f_offers f_A_noteCounts f_A_notes f_B_noteCounts f_B_notes f_now_where f_now_worn f_ahead_where f_ahead_worn f_acts_rows f_kn_tunes f_kn_noteTimes J L) (TX ct) sz)) (va_Qi (fun (r0 : Int32) (u : Int32) => r0 = u) (fun (u : Int32) (t : State) => ∃ (n_f_now_where n_f_now_worn : Nat → Int32) (n_J : Nat → Nat → Int32), va_P (dC, dI) vwCl (WX r ct i_tapeLength i_time i_lyingCount i_rd_fault i_rd_token i_rd_kind i_sc_count i_sc_at i_A_tunes i_A_houses i_fA_length i_B_tunes i_B_houses i_fB_length i_acts_done i_acts_undone i_kn_count f_boxes f_boxKept f_trial f_offers f_A_noteCounts f_A_notes f_B_noteCounts f_B_notes n_f_now_where n_f_now_worn f_ahead_where f_ahead_worn f_acts_rows f_kn_tunes f_kn_noteTimes n_J L) t.heap ∧ va_D (va_A (WX r ct i_tapeLength i_time i_lyingCount i_rd_fault i_rd_token i_rd_kind i_sc_count i_sc_at i_A_tunes i_A_houses i_fA_length i_B_tunes i_B_houses i_fB_length i_acts_done i_acts_undone i_kn_count f_boxes f_boxKept f_trial f_offers f_A_noteCounts f_A_notes f_B_noteCounts f_B_notes f_now_where f_now_worn f_ahead_where f_ahead_worn f_acts_rows f_kn_tunes f_kn_noteTimes J L) sz) (WX r ct i_tapeLength i_time i_lyingCount i_rd_fault i_rd_token i_rd_kind i_sc_count i_sc_at i_A_tunes i_A_houses i_fA_length i_B_tunes i_B_houses i_fB_length i_acts_done i_acts_undone i_kn_count f_boxes f_boxKept f_trial f_offers f_A_noteCounts f_A_notes f_B_noteCounts f_B_notes n_f_now_where n_f_now_worn f_ahead_where f_ahead_worn f_acts_rows f_kn_tunes f_kn_noteTimes n_J L) ∧ (IX i_tapeLength i_time i_lyingCount i_rd_token i_sc_count i_sc_at i_A_tunes i_A_houses i_fA_length i_B_tunes i_B_houses i_fB_length i_acts_done i_acts_undone i_kn_count f_boxes f_A_noteCounts f_A_notes f_B_noteCounts f_B_notes n_f_now_worn f_ahead_worn f_acts_rows f_kn_tunes) ∧ (((u.toInt = (0 : Int))) ∨ ((u.toInt = (1 : Int)))) ∧ ((0 : Int) ≤ u.toInt) ∧ (u.toInt ≤ (1 : Int)) ∧ (WB i_A_tunes n_f_now_where)) (va_A (WX r ct i_tapeLength i_time i_lyingCount i_rd_fault i_rd_token i_rd_kind i_sc_count i_sc_at i_A_tunes i_A_houses i_fA_length i_B_tunes i_B_houses i_fB_length i_acts_done i_acts_undone i_kn_count f_boxes f_boxKept f_trial f_offers f_A_noteCounts f_A_notes f_B_noteCounts f_B_notes f_now_where f_now_worn f_ahead_where f_ahead_worn f_acts_rows f_kn_tunes f_kn_noteTimes J L) sz)) 0 0 (va_A (WX r ct i_tapeLength i_time i_lyingCount i_rd_fault i_rd_token i_rd_kind i_sc_count i_sc_at i_A_tunes i_A_houses i_fA_length i_B_tunes i_B_houses i_fB_length i_acts_done i_acts_undone i_kn_count f_boxes f_boxKept f_trial f_offers f_A_noteCounts f_A_notes f_B_noteCounts f_B_notes f_now_where f_now_worn f_ahead_where f_ahead_worn f_acts_rows f_kn_tunes f_kn_noteTimes J L) sz) := by
  refine Met.ofW (cc := cX8_passWeekIn) (maxL := 9) (ret := (some .boolean)) (by decide) rfl ?_
  intro p e s m args below meth c0 s₁ B hml hv
  obtain ⟨rfl, hsz, hP, hK, hD0⟩ := hv
  have hx := B.exec
  have hb := B.bytes
  have hr := B.returns
  have hts := atoms_spec (ws := .code yX8_passWeekIn cX8_passWeekIn 9 (some .boolean) :: GW) B.pre
  have hG : ∀ w ∈ GW, w.before _ s = true := fun w h => hts w (List.mem_cons_of_mem _ h)
  have hown : s.vm.findClass RX8 = some m.cls := findClass_of_methodNamed B.named
  subst hsz
  have hD := hD0.self (sz := s.heap.size)
  generalize hAe : va_A (WX r ct i_tapeLength i_time i_lyingCount i_rd_fault i_rd_token i_rd_kind i_sc_count i_sc_at i_A_tunes i_A_houses i_fA_length i_B_tunes i_B_houses i_fB_length i_acts_done i_acts_undone i_kn_count f_boxes f_boxKept f_trial f_offers f_A_noteCounts f_A_notes f_B_noteCounts f_B_notes f_now_where f_now_worn f_ahead_where f_ahead_worn f_acts_rows f_kn_tunes f_kn_noteTimes J L) s.heap.size = A at hD ⊢
  have hA : ∀ q : Nat, s.heap.size ≤ q → A q := fun q h => by rw [← hAe]; exact Or.inr h
  have hS : va_S A s.heap s.heap [] := va_S.rf
  have hP : va_P (dC, dI) vwCl (WX r ct i_tapeLength i_time i_lyingCount i_rd_fault i_rd_token i_rd_kind i_sc_count i_sc_at i_A_tunes i_A_houses i_fA_length i_B_tunes i_B_houses i_fB_length i_acts_done i_acts_undone i_kn_count f_boxes f_boxKept f_trial f_offers f_A_noteCounts f_A_notes f_B_noteCounts f_B_notes f_now_where f_now_worn f_ahead_where f_ahead_worn f_acts_rows f_kn_tunes f_kn_noteTimes J L) s.heap := hP
  have hl := lv_entry ([.ref (r 0), .ref (r 7), .int p1, .int p2, .int p3]) (n := 9) (Nat.le_of_ble_eq_true rfl)
  rw [lg_entry_eq]
  generalize (lg_sl ([.ref (r 0), .ref (r 7), .int p1, .int p2, .int p3]) ++ List.replicate (9 - (lg_sl ([.ref (r 0), .ref (r 7), .int p1, .int p2, .int p3])).length) Slot.unset).toArray = ls at hl ⊢
  have hl : lv_has ls 9 [(0, .ref (r 0)), (1, .ref (r 7)), (2, .int p1), (3, .int p2), (4, .int p3)] := hl
  refine nameQ (fun Q hQ => ?_)
  obtain ⟨ie0, ie1, ie2, ie3, ie4, ie5, ie6, ie7, ie8, ie9, ie10, ie11, ie12, ie13, ie14, ie15, ie16, ie17, ie18, ie19, ie20, ie21, ie22, ie23, ie24, ie25, ie26, ie27, ie28, ie29, ie30, ie31, ie32, ie33, ie34, ie35, ie36, ie37, ie38, ie39⟩ := id hI
  refine lv_aload_n hx hb dX8_passWeekIn_0 rfl (lv_at hl 1 rfl) ?_
  refine gX_X8_131_7 hx hb hG hown hK hP dX8_passWeekIn_1 ?_
  refine lv_iload_n hx hb dX8_passWeekIn_4 rfl (lv_at hl 3 rfl) ?_
  refine lv_dup2_11 hx hb dX8_passWeekIn_5 rfl rfl ?_
  refine ldX_44 (mm := p2.toInt) hx hb hK hP rfl (ox_33 hp2 hp3) (ox_34 ie13 hp3) dX8_passWeekIn_6 (fun x1 => ?_)
  refine lv_iconst (v := 1) hx hb dX8_passWeekIn_7 (by decide) ?_
  refine lv_iadd hx hb dX8_passWeekIn_8 ?_
  refine lv_topi (fun x2 ex2 => ?_)
  refine stX_44 (mm := p2.toInt) hx hb hK hP hD hS rfl (ox_33 hp2 hp3) (ox_34 ie13 hp3) dX8_passWeekIn_9 (fun J4 H3 locs hP hD hS => ?_)
  refine lv_aload_n hx hb dX8_passWeekIn_10 rfl (lv_at hl 1 rfl) ?_
  refine lv_aload_n hx hb dX8_passWeekIn_11 rfl (lv_at hl 1 rfl) ?_
  refine gX_X8_185_7 hx hb hG hown hK hP dX8_passWeekIn_12 (fun x5 => ?_)
  refine lv_sipush (v := 137) hx hb dX8_passWeekIn_15 (by decide) ?_
  refine lv_imul hx hb dX8_passWeekIn_18 ?_
  refine lv_topi (fun x6 ex6 => ?_)
  refine lv_bipush (v := 71) hx hb dX8_passWeekIn_19 (by decide) ?_
  refine lv_iadd hx hb dX8_passWeekIn_21 ?_
  refine lv_topi (fun x7 ex7 => ?_)
  refine lv_sipush (v := 1000) hx hb dX8_passWeekIn_22 (by decide) ?_
  refine lv_irem hx hb dX8_passWeekIn_25 (by decide) ?_
  refine lv_topi (fun x8 ex8 => ?_)
  refine pX_X8_185_7 hx hb hG hown hK hP hD hS dX8_passWeekIn_26 (fun J10 H9 locs hP hD hS => ?_)
  refine lv_aload_n hx hb dX8_passWeekIn_29 rfl (lv_at hl 1 rfl) ?_
  refine gX_X8_185_7 hx hb hG hown hK hP dX8_passWeekIn_30 (fun x11 => ?_)
  refine lv_bipush (v := 100) hx hb dX8_passWeekIn_33 (by decide) ?_
  refine lv_irem hx hb dX8_passWeekIn_35 (by decide) ?_
  refine lv_topi (fun x12 ex12 => ?_)
  refine lv_iload hx hb dX8_passWeekIn_36 (lv_at hl 4 rfl) ?_
  refine lv_icmp_ge (tgt := 45) hx hb dX8_passWeekIn_38 (by decide) (fun c_13 => ?_) (fun c_13 => ?_)
  · skip
    have f14 : p3.toInt ≤ x12.toInt := qi_le c_13 rfl rfl
    refine lv_iconst (v := 0) hx hb dX8_passWeekIn_45 (by decide) ?_
    refine lv_istore (lv' := [(5, .int 0), (0, .ref (r 0)), (1, .ref (r 7)), (2, .int p1), (3, .int p2), (4, .int p3)]) hx hb dX8_passWeekIn_46 hl (by decide) rfl (fun ls hl => ?_)
    refine lv_iload hx hb dX8_passWeekIn_48 (lv_at hl 0 rfl) ?_
    refine lv_if_ne (tgt := 69) hx hb dX8_passWeekIn_50 (by decide) (fun c_15 => absurd (by decide) c_15) (fun c_15 => ?_)
    refine lv_aload_n hx hb dX8_passWeekIn_53 rfl (lv_at hl 2 rfl) ?_
    refine gX_X8_131_7 hx hb hG hown hK hP dX8_passWeekIn_54 ?_
    refine lv_iload_n hx hb dX8_passWeekIn_57 rfl (lv_at hl 4 rfl) ?_
    refine ldX_44 (mm := p2.toInt) hx hb hK hP rfl (ox_33 hp2 hp3) (ox_34 ie13 hp3) dX8_passWeekIn_58 (fun x16 => ?_)
    refine lv_aload_n hx hb dX8_passWeekIn_59 rfl (lv_at hl 1 rfl) ?_
    refine gX_X8_23_0 hx hb hG hown hK hP dX8_passWeekIn_60 ?_
    refine gX_X8_188_3 hx hb hG hown hK hP dX8_passWeekIn_63 (fun x17 => ?_)
    refine lv_icmp_ge (tgt := 71) hx hb dX8_passWeekIn_66 (by decide) (fun c_18 => ?_) (fun c_18 => ?_)
    · skip
      have f19 : x17.toInt ≤ x16.toInt := qi_le c_18 rfl rfl
      refine lv_aload_n hx hb dX8_passWeekIn_71 rfl (lv_at hl 1 rfl) ?_
      refine gX_X8_23_0 hx hb hG hown hK hP dX8_passWeekIn_72 ?_
      refine gX_X8_115_3 hx hb hG hown hK hP dX8_passWeekIn_75 ?_
      refine lv_iload_n hx hb dX8_passWeekIn_78 rfl (lv_at hl 4 rfl) ?_
      refine ldX_23 (mm := p2.toInt) hx hb hK hP rfl (ox_33 hp2 hp3) (ox_34 ie13 hp3) dX8_passWeekIn_79 (fun x20 => ?_)
      refine lv_istore (lv' := [(6, .int x20), (5, .int 0), (0, .ref (r 0)), (1, .ref (r 7)), (2, .int p1), (3, .int p2), (4, .int p3)]) hx hb dX8_passWeekIn_80 hl (by decide) rfl (fun ls hl => ?_)
      refine lv_aload_n hx hb dX8_passWeekIn_82 rfl (lv_at hl 3 rfl) ?_
      refine gX_X8_144_7 hx hb hG hown hK hP dX8_passWeekIn_83 ?_
      refine lv_iload_n hx hb dX8_passWeekIn_86 rfl (lv_at hl 4 rfl) ?_
      refine ldX_45 (mm := p1.toInt) hx hb hK hP rfl (ox_33 hp0 hp1) (ox_100 ie15 hp1) dX8_passWeekIn_87 (fun x21 => ?_)
      refine lv_istore (lv' := [(7, .int x21), (6, .int x20), (5, .int 0), (0, .ref (r 0)), (1, .ref (r 7)), (2, .int p1), (3, .int p2), (4, .int p3)]) hx hb dX8_passWeekIn_88 hl (by decide) rfl (fun ls hl => ?_)
      refine lv_aload_n hx hb dX8_passWeekIn_90 rfl (lv_at hl 3 rfl) ?_
      refine gX_X8_23_0 hx hb hG hown hK hP dX8_passWeekIn_91 ?_
      refine lv_iload_n hx hb dX8_passWeekIn_94 rfl (lv_at hl 5 rfl) ?_
      refine lv_iload_n hx hb dX8_passWeekIn_95 rfl (lv_at hl 6 rfl) ?_
      refine lv_aload_n hx hb dX8_passWeekIn_96 rfl (lv_at hl 4 rfl) ?_
      refine gX_X8_118_7 hx hb hG hown hK hP dX8_passWeekIn_97 ?_
      refine lv_iload_n hx hb dX8_passWeekIn_100 rfl (lv_at hl 6 rfl) ?_
      refine ldX_43 (mm := p2.toInt) hx hb hK hP rfl (ox_33 hp2 hp3) (ox_34 ie13 hp3) dX8_passWeekIn_101 ?_
      have f22 : 0 ≤ (f_now_worn (p2.toInt).toNat).toInt ∧ (f_now_worn (p2.toInt).toNat).toInt ≤ 99 := ie36 (p2.toInt)
      refine lv_aload_n hx hb dX8_passWeekIn_102 rfl (lv_at hl 4 rfl) ?_
      refine gX_X8_131_7 hx hb hG hown hK hP dX8_passWeekIn_103 ?_
      refine lv_iload_n hx hb dX8_passWeekIn_106 rfl (lv_at hl 6 rfl) ?_
      refine ldX_44 (mm := p2.toInt) hx hb hK hP rfl (ox_33 hp2 hp3) (ox_34 ie13 hp3) dX8_passWeekIn_107 (fun x23 => ?_)
      refine lv_iload hx hb dX8_passWeekIn_108 (lv_at hl 0 rfl) ?_
      have hFc := frA hD hS hA
      refine va_calli (va_runV (As := [.int p1, .int p2, .int (f_now_worn (p2.toInt).toNat), .int x23, .int x21]) (rest := []) ⟨hx, hb, hml, hown, hG⟩ (kX4_gladness l dC dI r ct i_tapeLength i_time i_lyingCount i_rd_fault i_rd_token i_rd_kind i_sc_count i_sc_at i_A_tunes i_A_houses i_fA_length i_B_tunes i_B_houses i_fB_length i_acts_done i_acts_undone i_kn_count f_boxes f_boxKept f_trial f_offers f_A_noteCounts f_A_notes f_B_noteCounts f_B_notes f_now_where f_now_worn f_ahead_where f_ahead_worn f_acts_rows f_kn_tunes f_kn_noteTimes J10 L p1 p2 (f_now_worn (p2.toInt).toNat) x23 x21 H9.size hI (ox_54 hp0 hp1) (ox_55 hp1) (ox_54 hp2 hp3) (ox_55 hp3) (ox_56 f22) (ox_57 f22)) (cwV 5 hG (goodV gw749 gw750 gw751 gw132 gw752) rfl rfl rfl hd_X4_gladness ⟨(Nat.le_of_ble_eq_true rfl), (Nat.le_of_ble_eq_true rfl)⟩) ⟨fbW, va_recv hK hP (ci := 3) (q0 := 3) rfl rfl, pW_in hP hK hD⟩ rfl rfl hl.1 rfl (lv_room (Nat.le_of_ble_eq_true rfl)) dX8_passWeekIn_110 ⟨(Nat.le_of_ble_eq_true rfl), (Nat.le_of_ble_eq_true rfl)⟩) hS (fun q _ h => hFc q h) hFc (fun r_25 u_ t_ H24 locs ht hvm hw hB hz1 hk1 hS => ?_)
      subst hw
      obtain ⟨J26, hP1, hD1, hI27⟩ := hB
      rw [ht] at hP1
      have hP := hP1
      have hD := dW hFc hD1
      obtain ⟨im28, im29, im30, im31, im32, im33, im34, im35, im36, im37, im38, im39, im40, im41, im42, im43, im44, im45, im46, im47, im48, im49, im50, im51, im52, im53, im54, im55, im56, im57, im58, im59, im60, im61, im62, im63, im64, im65, im66, im67⟩ := id hI27
      refine lv_istore (lv' := [(8, .int r_25), (7, .int x21), (6, .int x20), (5, .int 0), (0, .ref (r 0)), (1, .ref (r 7)), (2, .int p1), (3, .int p2), (4, .int p3)]) hx hb dX8_passWeekIn_113 hl (by decide) rfl (fun ls hl => ?_)
      refine lv_iload hx hb dX8_passWeekIn_115 (lv_at hl 0 rfl) ?_
      refine lv_if_le (tgt := 145) hx hb dX8_passWeekIn_117 (by decide) (fun c_68 => ?_) (fun c_68 => ?_)
      · skip
        have f69 : r_25.toInt ≤ 0 := qi_le c_68 rfl zc_0
        refine lv_aload_n hx hb dX8_passWeekIn_145 rfl (lv_at hl 5 rfl) ?_
        refine lv_iload_n hx hb dX8_passWeekIn_146 rfl (lv_at hl 7 rfl) ?_
        have hFc := frA hD hS hA
        refine va_callv (va_runV (As := [.int p2]) (rest := []) ⟨hx, hb, hml, hown, hG⟩ (kX7_backOnCart l dC dI r ct i_tapeLength i_time i_lyingCount i_rd_fault i_rd_token i_rd_kind i_sc_count i_sc_at i_A_tunes i_A_houses i_fA_length i_B_tunes i_B_houses i_fB_length i_acts_done i_acts_undone i_kn_count f_boxes f_boxKept f_trial f_offers f_A_noteCounts f_A_notes f_B_noteCounts f_B_notes f_now_where f_now_worn f_ahead_where f_ahead_worn f_acts_rows f_kn_tunes f_kn_noteTimes J26 L p2 H24.size hI27 (ox_54 hp2 hp3) (ox_211 ie13 hp3)) (cwV 1 hG (goodV gw794 gw454 gw455 gw134 gw456) rfl rfl rfl hd_X7_backOnCart ⟨(Nat.le_of_ble_eq_true rfl), (Nat.le_of_ble_eq_true rfl)⟩) ⟨fbW, va_recv hK hP (ci := 6) (q0 := 7) rfl rfl, pW_in hP hK hD⟩ rfl rfl hl.1 rfl (lv_room (Nat.le_of_ble_eq_true rfl)) dX8_passWeekIn_147 ⟨(Nat.le_of_ble_eq_true rfl), (Nat.le_of_ble_eq_true rfl)⟩) hS (fun q _ h => hFc q h) hFc (fun _ t_ H70 locs ht hvm hw hB hz1 hk1 hS => ?_)
        obtain ⟨z72, J73, hP1, hD1, hI75, f74⟩ := hB
        rw [ht] at hP1
        have hP := hP1
        have hD := dW hFc hD1
        obtain ⟨im76, im77, im78, im79, im80, im81, im82, im83, im84, im85, im86, im87, im88, im89, im90, im91, im92, im93, im94, im95, im96, im97, im98, im99, im100, im101, im102, im103, im104, im105, im106, im107, im108, im109, im110, im111, im112, im113, im114, im115⟩ := id hI75
        refine lv_aload_n hx hb dX8_passWeekIn_150 rfl (lv_at hl 5 rfl) ?_
        refine gX_X8_118_7 hx hb hG hown hK hP dX8_passWeekIn_151 ?_
        refine lv_iload_n hx hb dX8_passWeekIn_154 rfl (lv_at hl 7 rfl) ?_
        refine lv_bipush (v := 99) hx hb dX8_passWeekIn_155 (by decide) ?_
        refine lv_aload_n hx hb dX8_passWeekIn_157 rfl (lv_at hl 5 rfl) ?_
        refine gX_X8_118_7 hx hb hG hown hK hP dX8_passWeekIn_158 ?_
        refine lv_iload_n hx hb dX8_passWeekIn_161 rfl (lv_at hl 7 rfl) ?_
        refine ldX_43 (mm := p2.toInt) hx hb hK hP rfl (ox_33 hp2 hp3) (ox_34 ie13 hp3) dX8_passWeekIn_162 ?_
        refine lv_iconst (v := 1) hx hb dX8_passWeekIn_163 (by decide) ?_
        refine lv_iadd hx hb dX8_passWeekIn_164 ?_
        refine lv_topi (fun x116 ex116 => ?_)
        have f117 : x116.toInt = (f_now_worn (p2.toInt).toNat).toInt + 1 := (ox_13 (qi_add ex116 rfl zc_1 (ox_214 f22) (ox_215 f22)))
        refine va_mmin hx hb (hml.trans hl.1.symm) hown (hG _ gw795) (hG _ gw542) (hG _ gw139) (hG _ gw543) (Nat.le_of_ble_eq_true rfl) (Nat.le_of_ble_eq_true rfl) (Nat.le_of_ble_eq_true rfl) (Nat.le_of_ble_eq_true rfl) dX8_passWeekIn_165 ?_
        refine lv_topi (fun x118 ex118 => ?_)
        have f119 : (99 ≤ x116.toInt ∧ x118.toInt = 99) ∨ (x116.toInt ≤ 99 ∧ x118.toInt = x116.toInt) := mmin_or2 ex118 zc_99 rfl
        refine stX_43 (mm := p2.toInt) hx hb hK hP hD hS rfl (ox_33 hp2 hp3) (ox_34 ie13 hp3) dX8_passWeekIn_168 (fun z121 H120 locs ez121 hP hD hS => ?_)
        have g122 : EB 0 99 z121 := ez121 ▸ EB_upd ie36 (ox_216 f22 f119 f117) (ox_217 f119 f117)
        refine lv_iconst (v := 0) hx hb dX8_passWeekIn_169 (by decide) ?_
        rw [hQ]
        exact W.zret (v := 0) hx hb hr (by decide) (fun t ht hW => ⟨⟨0, 0, rfl, rfl, ⟨z72, z121, J73, by rw [ht]; exact hP, hD, ⟨ie0, ie1, ie2, ie3, ie4, ie5, ie6, ie7, ie8, ie9, ie10, ie11, ie12, ie13, ie14, ie15, ie16, ie17, ie18, ie19, ie20, ie21, ie22, ie23, ie24, ie25, ie26, ie27, ie28, ie29, ie30, ie31, ie32, ie33, ie34, ie35, g122, ie37, ie38, ie39⟩, (ox_80 zc_0), (ox_27 zc_0), (ox_28 zc_0), (WB_m1 hp4 f74 zc_m1)⟩⟩, hS.F ht⟩) hS.2.2 dX8_passWeekIn_170
      · skip
        have f123 : 0 < r_25.toInt := qi_nle c_68 rfl zc_0
        refine lv_iload hx hb dX8_passWeekIn_120 (lv_at hl 1 rfl) ?_
        refine lv_iload hx hb dX8_passWeekIn_122 (lv_at hl 2 rfl) ?_
        refine lv_icmp_lt (tgt := 145) hx hb dX8_passWeekIn_124 (by decide) (fun c_124 => ?_) (fun c_124 => ?_)
        · skip
          have f125 : x21.toInt < x20.toInt := qi_lt c_124 rfl rfl
          refine lv_aload_n hx hb dX8_passWeekIn_145 rfl (lv_at hl 5 rfl) ?_
          refine lv_iload_n hx hb dX8_passWeekIn_146 rfl (lv_at hl 7 rfl) ?_
          have hFc := frA hD hS hA
          refine va_callv (va_runV (As := [.int p2]) (rest := []) ⟨hx, hb, hml, hown, hG⟩ (kX7_backOnCart l dC dI r ct i_tapeLength i_time i_lyingCount i_rd_fault i_rd_token i_rd_kind i_sc_count i_sc_at i_A_tunes i_A_houses i_fA_length i_B_tunes i_B_houses i_fB_length i_acts_done i_acts_undone i_kn_count f_boxes f_boxKept f_trial f_offers f_A_noteCounts f_A_notes f_B_noteCounts f_B_notes f_now_where f_now_worn f_ahead_where f_ahead_worn f_acts_rows f_kn_tunes f_kn_noteTimes J26 L p2 H24.size hI27 (ox_54 hp2 hp3) (ox_211 ie13 hp3)) (cwV 1 hG (goodV gw794 gw454 gw455 gw134 gw456) rfl rfl rfl hd_X7_backOnCart ⟨(Nat.le_of_ble_eq_true rfl), (Nat.le_of_ble_eq_true rfl)⟩) ⟨fbW, va_recv hK hP (ci := 6) (q0 := 7) rfl rfl, pW_in hP hK hD⟩ rfl rfl hl.1 rfl (lv_room (Nat.le_of_ble_eq_true rfl)) dX8_passWeekIn_147 ⟨(Nat.le_of_ble_eq_true rfl), (Nat.le_of_ble_eq_true rfl)⟩) hS (fun q _ h => hFc q h) hFc (fun _ t_ H126 locs ht hvm hw hB hz1 hk1 hS => ?_)
          obtain ⟨z128, J129, hP1, hD1, hI131, f130⟩ := hB
          rw [ht] at hP1
          have hP := hP1
          have hD := dW hFc hD1
          obtain ⟨im132, im133, im134, im135, im136, im137, im138, im139, im140, im141, im142, im143, im144, im145, im146, im147, im148, im149, im150, im151, im152, im153, im154, im155, im156, im157, im158, im159, im160, im161, im162, im163, im164, im165, im166, im167, im168, im169, im170, im171⟩ := id hI131
          refine lv_aload_n hx hb dX8_passWeekIn_150 rfl (lv_at hl 5 rfl) ?_
          refine gX_X8_118_7 hx hb hG hown hK hP dX8_passWeekIn_151 ?_
          refine lv_iload_n hx hb dX8_passWeekIn_154 rfl (lv_at hl 7 rfl) ?_
          refine lv_bipush (v := 99) hx hb dX8_passWeekIn_155 (by decide) ?_
          refine lv_aload_n hx hb dX8_passWeekIn_157 rfl (lv_at hl 5 rfl) ?_
          refine gX_X8_118_7 hx hb hG hown hK hP dX8_passWeekIn_158 ?_
          refine lv_iload_n hx hb dX8_passWeekIn_161 rfl (lv_at hl 7 rfl) ?_
          refine ldX_43 (mm := p2.toInt) hx hb hK hP rfl (ox_33 hp2 hp3) (ox_34 ie13 hp3) dX8_passWeekIn_162 ?_
          refine lv_iconst (v := 1) hx hb dX8_passWeekIn_163 (by decide) ?_
          refine lv_iadd hx hb dX8_passWeekIn_164 ?_
          refine lv_topi (fun x172 ex172 => ?_)
          have f173 : x172.toInt = (f_now_worn (p2.toInt).toNat).toInt + 1 := (ox_13 (qi_add ex172 rfl zc_1 (ox_214 f22) (ox_215 f22)))
          refine va_mmin hx hb (hml.trans hl.1.symm) hown (hG _ gw795) (hG _ gw542) (hG _ gw139) (hG _ gw543) (Nat.le_of_ble_eq_true rfl) (Nat.le_of_ble_eq_true rfl) (Nat.le_of_ble_eq_true rfl) (Nat.le_of_ble_eq_true rfl) dX8_passWeekIn_165 ?_
          refine lv_topi (fun x174 ex174 => ?_)
          have f175 : (99 ≤ x172.toInt ∧ x174.toInt = 99) ∨ (x172.toInt ≤ 99 ∧ x174.toInt = x172.toInt) := mmin_or2 ex174 zc_99 rfl
          refine stX_43 (mm := p2.toInt) hx hb hK hP hD hS rfl (ox_33 hp2 hp3) (ox_34 ie13 hp3) dX8_passWeekIn_168 (fun z177 H176 locs ez177 hP hD hS => ?_)
          have g178 : EB 0 99 z177 := ez177 ▸ EB_upd ie36 (ox_216 f22 f175 f173) (ox_217 f175 f173)
          refine lv_iconst (v := 0) hx hb dX8_passWeekIn_169 (by decide) ?_
          rw [hQ]
          exact W.zret (v := 0) hx hb hr (by decide) (fun t ht hW => ⟨⟨0, 0, rfl, rfl, ⟨z128, z177, J129, by rw [ht]; exact hP, hD, ⟨ie0, ie1, ie2, ie3, ie4, ie5, ie6, ie7, ie8, ie9, ie10, ie11, ie12, ie13, ie14, ie15, ie16, ie17, ie18, ie19, ie20, ie21, ie22, ie23, ie24, ie25, ie26, ie27, ie28, ie29, ie30, ie31, ie32, ie33, ie34, ie35, g178, ie37, ie38, ie39⟩, (ox_80 zc_0), (ox_27 zc_0), (ox_28 zc_0), (WB_m1 hp4 f130 zc_m1)⟩⟩, hS.F ht⟩) hS.2.2 dX8_passWeekIn_170
        · skip
          have f179 : x20.toInt ≤ x21.toInt := qi_nlt c_124 rfl rfl
          refine lv_aload_n hx hb dX8_passWeekIn_127 rfl (lv_at hl 5 rfl) ?_
          refine gX_X8_144_7 hx hb hG hown hK hP dX8_passWeekIn_128 ?_
          refine lv_iload_n hx hb dX8_passWeekIn_131 rfl (lv_at hl 6 rfl) ?_
          refine lv_iload hx hb dX8_passWeekIn_132 (lv_at hl 1 rfl) ?_
          refine lv_iload hx hb dX8_passWeekIn_134 (lv_at hl 2 rfl) ?_
          refine lv_isub hx hb dX8_passWeekIn_136 ?_
          refine lv_topi (fun x180 ex180 => ?_)
          refine stX_45 (mm := p1.toInt) hx hb hK hP hD hS rfl (ox_33 hp0 hp1) (ox_100 ie15 hp1) dX8_passWeekIn_137 (fun J182 H181 locs hP hD hS => ?_)
          refine lv_aload_n hx hb dX8_passWeekIn_138 rfl (lv_at hl 5 rfl) ?_
          refine lv_iload_n hx hb dX8_passWeekIn_139 rfl (lv_at hl 7 rfl) ?_
          have hFc := frA hD hS hA
          refine va_callv (va_runV (As := [.int p2]) (rest := []) ⟨hx, hb, hml, hown, hG⟩ (kX7_pay l dC dI r ct i_tapeLength i_time i_lyingCount i_rd_fault i_rd_token i_rd_kind i_sc_count i_sc_at i_A_tunes i_A_houses i_fA_length i_B_tunes i_B_houses i_fB_length i_acts_done i_acts_undone i_kn_count f_boxes f_boxKept f_trial f_offers f_A_noteCounts f_A_notes f_B_noteCounts f_B_notes f_now_where f_now_worn f_ahead_where f_ahead_worn f_acts_rows f_kn_tunes f_kn_noteTimes J182 L p2 H181.size hI27 (ox_54 hp2 hp3) (ox_211 ie13 hp3)) (cwV 1 hG (goodV gw790 gw791 gw792 gw134 gw793) rfl rfl rfl hd_X7_pay ⟨(Nat.le_of_ble_eq_true rfl), (Nat.le_of_ble_eq_true rfl)⟩) ⟨fbW, va_recv hK hP (ci := 6) (q0 := 7) rfl rfl, pW_in hP hK hD⟩ rfl rfl hl.1 rfl (lv_room (Nat.le_of_ble_eq_true rfl)) dX8_passWeekIn_140 ⟨(Nat.le_of_ble_eq_true rfl), (Nat.le_of_ble_eq_true rfl)⟩) hS (fun q _ h => hFc q h) hFc (fun _ t_ H183 locs ht hvm hw hB hz1 hk1 hS => ?_)
          obtain ⟨J185, hP1, hD1, hI186⟩ := hB
          rw [ht] at hP1
          have hP := hP1
          have hD := dW hFc hD1
          obtain ⟨im187, im188, im189, im190, im191, im192, im193, im194, im195, im196, im197, im198, im199, im200, im201, im202, im203, im204, im205, im206, im207, im208, im209, im210, im211, im212, im213, im214, im215, im216, im217, im218, im219, im220, im221, im222, im223, im224, im225, im226⟩ := id hI186
          refine lv_iconst (v := 1) hx hb dX8_passWeekIn_143 (by decide) ?_
          rw [hQ]
          exact W.zret (v := 1) hx hb hr (by decide) (fun t ht hW => ⟨⟨1, 1, rfl, rfl, ⟨f_now_where, f_now_worn, J185, by rw [ht]; exact hP, hD, hI186, (ox_81 zc_1), (ox_31 zc_1), (ox_32 zc_1), hp4⟩⟩, hS.F ht⟩) hS.2.2 dX8_passWeekIn_144
    · skip
      have f227 : x16.toInt < x17.toInt := qi_nle c_18 rfl rfl
      refine lv_iconst (v := 0) hx hb dX8_passWeekIn_69 (by decide) ?_
      rw [hQ]
      exact W.zret (v := 0) hx hb hr (by decide) (fun t ht hW => ⟨⟨0, 0, rfl, rfl, ⟨f_now_where, f_now_worn, J10, by rw [ht]; exact hP, hD, hI, (ox_80 zc_0), (ox_27 zc_0), (ox_28 zc_0), hp4⟩⟩, hS.F ht⟩) hS.2.2 dX8_passWeekIn_70
  · skip
    have f228 : x12.toInt < p3.toInt := qi_nle c_13 rfl rfl
    refine lv_iconst (v := 1) hx hb dX8_passWeekIn_41 (by decide) ?_
    refine lv_goto (tgt := 46) hx hb dX8_passWeekIn_42 (by decide) ?_
    refine lv_istore (lv' := [(5, .int 1), (0, .ref (r 0)), (1, .ref (r 7)), (2, .int p1), (3, .int p2), (4, .int p3)]) hx hb dX8_passWeekIn_46 hl (by decide) rfl (fun ls hl => ?_)
    refine lv_iload hx hb dX8_passWeekIn_48 (lv_at hl 0 rfl) ?_
    refine lv_if_ne (tgt := 69) hx hb dX8_passWeekIn_50 (by decide) (fun c_229 => ?_) (fun c_229 => absurd c_229 (by decide))
    refine lv_iconst (v := 0) hx hb dX8_passWeekIn_69 (by decide) ?_
    rw [hQ]
    exact W.zret (v := 0) hx hb hr (by decide) (fun t ht hW => ⟨⟨0, 0, rfl, rfl, ⟨f_now_where, f_now_worn, J10, by rw [ht]; exact hP, hD, hI, (ox_80 zc_0), (ox_27 zc_0), (ox_28 zc_0), hp4⟩⟩, hS.F ht⟩) hS.2.2 dX8_passWeekIn_70
set_option maxHeartbeats 4000000 in
set_option maxRecDepth 100000 in
theorem kX8_passWeek (l : Launch) (dC : Nat → ClassId) (dI : Nat → Nat → Nat) (r : Nat → Nat) (ct : Nat → ClassId) (i_tapeLength i_time i_lyingCount i_rd_fault i_rd_token i_rd_kind i_sc_count i_sc_at i_A_tunes i_A_houses i_fA_length i_B_tunes i_B_houses i_fB_length i_acts_done i_acts_undone i_kn_count : Int32) (f_boxes f_boxKept f_trial f_offers f_A_noteCounts f_A_notes f_B_noteCounts f_B_notes f_now_where f_now_worn f_ahead_where f_ahead_worn f_acts_rows f_kn_tunes f_kn_noteTimes : Nat → Int32) (J : Nat → Nat → Int32) (L : Nat → Nat → Int64) (p1 : Int32) (sz : Nat) (hI : (IX i_tapeLength i_time i_lyingCount i_rd_token i_sc_count i_sc_at i_A_tunes i_A_houses i_fA_length i_B_tunes i_B_houses i_fB_length i_acts_done i_acts_undone i_kn_count f_boxes f_A_noteCounts f_A_notes f_B_noteCounts f_B_notes f_now_worn f_ahead_worn f_acts_rows f_kn_tunes)) (hp0 : WB i_A_tunes f_now_where) : Met l yX8_passWeek (.code yX8_passWeek cX8_passWeek 6 (some .int) :: GW) { frames := 12, cells := 0, slots := 0, locals := 432 } (va_Pc [.ref (r 0), .ref (r 7), .int p1] (pW (dC, dI) (WX r ct i_tapeLength i_time i_lyingCount i_rd_fault i_rd_token i_rd_kind i_sc_count i_sc_at i_A_tunes i_A_houses i_fA_length i_B_tunes i_B_houses i_fB_length i_acts_done i_acts_undone i_kn_count f_boxes f_boxKept f_trial f_offers f_A_noteCounts f_A_notes f_B_noteCounts f_B_notes f_now_where f_now_worn f_ahead_where f_ahead_worn f_acts_rows f_kn_tunes f_kn_noteTimes J L) (TX ct) sz)) (va_Qi (fun (r0 : Int32) (u : Int32) => r0 = u) (fun (u : Int32) (t : State) => ∃ (n_f_now_where n_f_now_worn : Nat → Int32) (n_J : Nat → Nat → Int32), va_P (dC, dI) vwCl (WX r ct i_tapeLength i_time i_lyingCount i_rd_fault i_rd_token i_rd_kind i_sc_count i_sc_at i_A_tunes i_A_houses i_fA_length i_B_tunes i_B_houses i_fB_length i_acts_done i_acts_undone i_kn_count f_boxes f_boxKept f_trial f_offers f_A_noteCounts f_A_notes f_B_noteCounts f_B_notes n_f_now_where n_f_now_worn f_ahead_where f_ahead_worn f_acts_rows f_kn_tunes f_kn_noteTimes n_J L) t.heap ∧ va_D (va_A (WX r ct i_tapeLength i_time i_lyingCount i_rd_fault i_rd_token i_rd_kind i_sc_count i_sc_at i_A_tunes i_A_houses i_fA_length i_B_tunes i_B_houses i_fB_length i_acts_done i_acts_undone i_kn_count f_boxes f_boxKept f_trial f_offers f_A_noteCounts f_A_notes f_B_noteCounts f_B_notes f_now_where f_now_worn f_ahead_where f_ahead_worn f_acts_rows f_kn_tunes f_kn_noteTimes J L) sz) (WX r ct i_tapeLength i_time i_lyingCount i_rd_fault i_rd_token i_rd_kind i_sc_count i_sc_at i_A_tunes i_A_houses i_fA_length i_B_tunes i_B_houses i_fB_length i_acts_done i_acts_undone i_kn_count f_boxes f_boxKept f_trial f_offers f_A_noteCounts f_A_notes f_B_noteCounts f_B_notes n_f_now_where n_f_now_worn f_ahead_where f_ahead_worn f_acts_rows f_kn_tunes f_kn_noteTimes n_J L) ∧ (IX i_tapeLength i_time i_lyingCount i_rd_token i_sc_count i_sc_at i_A_tunes i_A_houses i_fA_length i_B_tunes i_B_houses i_fB_length i_acts_done i_acts_undone i_kn_count f_boxes f_A_noteCounts f_A_notes f_B_noteCounts f_B_notes n_f_now_worn f_ahead_worn f_acts_rows f_kn_tunes) ∧ (WB i_A_tunes n_f_now_where)) (va_A (WX r ct i_tapeLength i_time i_lyingCount i_rd_fault i_rd_token i_rd_kind i_sc_count i_sc_at i_A_tunes i_A_houses i_fA_length i_B_tunes i_B_houses i_fB_length i_acts_done i_acts_undone i_kn_count f_boxes f_boxKept f_trial f_offers f_A_noteCounts f_A_notes f_B_noteCounts f_B_notes f_now_where f_now_worn f_ahead_where f_ahead_worn f_acts_rows f_kn_tunes f_kn_noteTimes J L) sz)) 0 0 (va_A (WX r ct i_tapeLength i_time i_lyingCount i_rd_fault i_rd_token i_rd_kind i_sc_count i_sc_at i_A_tunes i_A_houses i_fA_length i_B_tunes i_B_houses i_fB_length i_acts_done i_acts_undone i_kn_count f_boxes f_boxKept f_trial f_offers f_A_noteCounts f_A_notes f_B_noteCounts f_B_notes f_now_where f_now_worn f_ahead_where f_ahead_worn f_acts_rows f_kn_tunes f_kn_noteTimes J L) sz) := by
  refine Met.ofW (cc := cX8_passWeek) (maxL := 6) (ret := (some .int)) (by decide) rfl ?_
  intro p e s m args below meth c0 s₁ B hml hv
  obtain ⟨rfl, hsz, hP, hK, hD0⟩ := hv
  have hx := B.exec
  have hb := B.bytes
  have hr := B.returns
  have hts := atoms_spec (ws := .code yX8_passWeek cX8_passWeek 6 (some .int) :: GW) B.pre
  have hG : ∀ w ∈ GW, w.before _ s = true := fun w h => hts w (List.mem_cons_of_mem _ h)
  have hown : s.vm.findClass RX8 = some m.cls := findClass_of_methodNamed B.named
  subst hsz
  have hD := hD0.self (sz := s.heap.size)
  generalize hAe : va_A (WX r ct i_tapeLength i_time i_lyingCount i_rd_fault i_rd_token i_rd_kind i_sc_count i_sc_at i_A_tunes i_A_houses i_fA_length i_B_tunes i_B_houses i_fB_length i_acts_done i_acts_undone i_kn_count f_boxes f_boxKept f_trial f_offers f_A_noteCounts f_A_notes f_B_noteCounts f_B_notes f_now_where f_now_worn f_ahead_where f_ahead_worn f_acts_rows f_kn_tunes f_kn_noteTimes J L) s.heap.size = A at hD ⊢
  have hA : ∀ q : Nat, s.heap.size ≤ q → A q := fun q h => by rw [← hAe]; exact Or.inr h
  have hS : va_S A s.heap s.heap [] := va_S.rf
  have hP : va_P (dC, dI) vwCl (WX r ct i_tapeLength i_time i_lyingCount i_rd_fault i_rd_token i_rd_kind i_sc_count i_sc_at i_A_tunes i_A_houses i_fA_length i_B_tunes i_B_houses i_fB_length i_acts_done i_acts_undone i_kn_count f_boxes f_boxKept f_trial f_offers f_A_noteCounts f_A_notes f_B_noteCounts f_B_notes f_now_where f_now_worn f_ahead_where f_ahead_worn f_acts_rows f_kn_tunes f_kn_noteTimes J L) s.heap := hP
  have hl := lv_entry ([.ref (r 0), .ref (r 7), .int p1]) (n := 6) (Nat.le_of_ble_eq_true rfl)
  rw [lg_entry_eq]
  generalize (lg_sl ([.ref (r 0), .ref (r 7), .int p1]) ++ List.replicate (6 - (lg_sl ([.ref (r 0), .ref (r 7), .int p1])).length) Slot.unset).toArray = ls at hl ⊢
  have hl : lv_has ls 6 [(0, .ref (r 0)), (1, .ref (r 7)), (2, .int p1)] := hl
  refine nameQ (fun Q hQ => ?_)
  obtain ⟨ie0, ie1, ie2, ie3, ie4, ie5, ie6, ie7, ie8, ie9, ie10, ie11, ie12, ie13, ie14, ie15, ie16, ie17, ie18, ie19, ie20, ie21, ie22, ie23, ie24, ie25, ie26, ie27, ie28, ie29, ie30, ie31, ie32, ie33, ie34, ie35, ie36, ie37, ie38, ie39⟩ := id hI
  refine lv_iconst (v := 0) hx hb dX8_passWeek_0 (by decide) ?_
  refine lv_istore_n (lv' := [(3, .int 0), (0, .ref (r 0)), (1, .ref (r 7)), (2, .int p1)]) hx hb dX8_passWeek_1 rfl hl (by decide) rfl (fun ls hl => ?_)
  refine lv_iconst (v := 0) hx hb dX8_passWeek_2 (by decide) ?_
  refine lv_istore (lv' := [(4, .int 0), (3, .int 0), (0, .ref (r 0)), (1, .ref (r 7)), (2, .int p1)]) hx hb dX8_passWeek_3 hl (by decide) rfl (fun ls hl => ?_)
  have L5 : ∀ (N5 : Nat) (y5_3 y5_4 : Int32) (m5_f_now_where m5_f_now_worn : Nat → Int32) (m5_J : Nat → Nat → Int32) (H5 : Heap) (locs : List Loc) (ls : Array Slot) (g5_0 : (0 : Int) ≤ y5_4.toInt) (g5_1 : y5_4.toInt ≤ (4 : Int)) (gi5_f_now_worn_p : EB 0 99 m5_f_now_worn) (gr5_0 : WB i_A_tunes m5_f_now_where) (hP : va_P (dC, dI) vwCl (WX r ct i_tapeLength i_time i_lyingCount i_rd_fault i_rd_token i_rd_kind i_sc_count i_sc_at i_A_tunes i_A_houses i_fA_length i_B_tunes i_B_houses i_fB_length i_acts_done i_acts_undone i_kn_count f_boxes f_boxKept f_trial f_offers f_A_noteCounts f_A_notes f_B_noteCounts f_B_notes m5_f_now_where m5_f_now_worn f_ahead_where f_ahead_worn f_acts_rows f_kn_tunes f_kn_noteTimes m5_J L) H5) (hD : va_D A (WX r ct i_tapeLength i_time i_lyingCount i_rd_fault i_rd_token i_rd_kind i_sc_count i_sc_at i_A_tunes i_A_houses i_fA_length i_B_tunes i_B_houses i_fB_length i_acts_done i_acts_undone i_kn_count f_boxes f_boxKept f_trial f_offers f_A_noteCounts f_A_notes f_B_noteCounts f_B_notes m5_f_now_where m5_f_now_worn f_ahead_where f_ahead_worn f_acts_rows f_kn_tunes f_kn_noteTimes m5_J L)) (hS : va_S A s.heap H5 locs) (hl : lv_has ls 6 [(0, .ref (r 0)), (1, .ref (r 7)), (2, .int p1), (3, .int y5_3), (4, .int y5_4)]) (hM : -1 * y5_4.toInt + 4 < (N5 : Int)), W p l e { frames := 12, cells := 0, slots := 0, locals := 432 } s m ([.ref (r 0), .ref (r 7), .int p1] : List Value).toArray below meth c0 H5 locs 0 0 Q (F0 m 5 ls []) := by
    intro N5
    induction N5 with
    | zero =>
      intro y5_3 y5_4 m5_f_now_where m5_f_now_worn m5_J H5 locs ls g5_0 g5_1 gi5_f_now_worn_p gr5_0 hP hD hS hl hM
      exact ((ox_218 hM g5_0 g5_1)).elim
    | succ N5 ih5 =>
      intro y5_3 y5_4 m5_f_now_where m5_f_now_worn m5_J H5 locs ls g5_0 g5_1 gi5_f_now_worn_p gr5_0 hP hD hS hl hM
      have hM5 := msucc hM
      refine lv_iload hx hb dX8_passWeek_5 (lv_at hl 4 rfl) ?_
      refine lv_aload_n hx hb dX8_passWeek_7 rfl (lv_at hl 0 rfl) ?_
      refine gX_X8_23_0 hx hb hG hown hK hP dX8_passWeek_8 ?_
      refine gX_X8_99_3 hx hb hG hown hK hP dX8_passWeek_11 ?_
      refine lv_icmp_ge (tgt := 53) hx hb dX8_passWeek_14 (by decide) (fun c_1 => ?_) (fun c_1 => ?_)
      · skip
        have f2 : i_A_houses.toInt ≤ y5_4.toInt := qi_le c_1 rfl rfl
        refine lv_aload_n hx hb dX8_passWeek_53 rfl (lv_at hl 1 rfl) ?_
        refine lv_dup hx hb dX8_passWeek_54 rfl ?_
        refine gX_X8_168_7 hx hb hG hown hK hP dX8_passWeek_55 (fun x3 => ?_)
        refine lv_iconst (v := 1) hx hb dX8_passWeek_58 (by decide) ?_
        refine lv_iadd hx hb dX8_passWeek_59 ?_
        refine lv_topi (fun x4 ex4 => ?_)
        refine pX_X8_168_7 hx hb hG hown hK hP hD hS dX8_passWeek_60 (fun J6 H5 locs hP hD hS => ?_)
        refine lv_iload_n hx hb dX8_passWeek_63 rfl (lv_at hl 3 rfl) ?_
        rw [hQ]
        exact W.iret (v := y5_3) hx hb hr (fun t ht hW => ⟨⟨y5_3, y5_3, rfl, rfl, ⟨m5_f_now_where, m5_f_now_worn, J6, by rw [ht]; exact hP, hD, ⟨ie0, ie1, ie2, ie3, ie4, ie5, ie6, ie7, ie8, ie9, ie10, ie11, ie12, ie13, ie14, ie15, ie16, ie17, ie18, ie19, ie20, ie21, ie22, ie23, ie24, ie25, ie26, ie27, ie28, ie29, ie30, ie31, ie32, ie33, ie34, ie35, gi5_f_now_worn_p, ie37, ie38, ie39⟩, gr5_0⟩⟩, hS.F ht⟩) hS.2.2 dX8_passWeek_64
      · skip
        have f7 : y5_4.toInt < i_A_houses.toInt := qi_nle c_1 rfl rfl
        refine lv_aload_n hx hb dX8_passWeek_17 rfl (lv_at hl 1 rfl) ?_
        refine lv_iload hx hb dX8_passWeek_18 (lv_at hl 4 rfl) ?_
        refine va_calli (va_runV (As := [.int y5_4]) (rest := []) ⟨hx, hb, hml, hown, hG⟩ (kX7_onApprovalIn l dC dI r ct i_tapeLength i_time i_lyingCount i_rd_fault i_rd_token i_rd_kind i_sc_count i_sc_at i_A_tunes i_A_houses i_fA_length i_B_tunes i_B_houses i_fB_length i_acts_done i_acts_undone i_kn_count f_boxes f_boxKept f_trial f_offers f_A_noteCounts f_A_notes f_B_noteCounts f_B_notes m5_f_now_where m5_f_now_worn f_ahead_where f_ahead_worn f_acts_rows f_kn_tunes f_kn_noteTimes m5_J L y5_4 H5.size ⟨ie0, ie1, ie2, ie3, ie4, ie5, ie6, ie7, ie8, ie9, ie10, ie11, ie12, ie13, ie14, ie15, ie16, ie17, ie18, ie19, ie20, ie21, ie22, ie23, ie24, ie25, ie26, ie27, ie28, ie29, ie30, ie31, ie32, ie33, ie34, ie35, gi5_f_now_worn_p, ie37, ie38, ie39⟩ (ox_6 g5_0) gr5_0) (cwV 1 hG (goodV gw720 gw721 gw722 gw134 gw723) rfl rfl rfl hd_X7_onApprovalIn ⟨(Nat.le_of_ble_eq_true rfl), (Nat.le_of_ble_eq_true rfl)⟩) ⟨fbR, va_recv hK hP (ci := 6) (q0 := 7) rfl rfl, pR_in hP hK⟩ rfl rfl hl.1 rfl (lv_room (Nat.le_of_ble_eq_true rfl)) dX8_passWeek_20 ⟨(Nat.le_of_ble_eq_true rfl), (Nat.le_of_ble_eq_true rfl)⟩) hS (fun q hq h => absurd hq (Nat.not_lt.mpr h)) (fun q h => hA q (Nat.le_trans hS.1 h)) (fun r_9 u_ t_ H8 locs ht hvm hw hB hz1 hk1 hS => ?_)
        subst hw
        have hP := wk hP hk1
        obtain ⟨f10, f11, f12⟩ := hB
        refine lv_istore (lv' := [(5, .int r_9), (0, .ref (r 0)), (1, .ref (r 7)), (2, .int p1), (3, .int y5_3), (4, .int y5_4)]) hx hb dX8_passWeek_23 hl (by decide) rfl (fun ls hl => ?_)
        refine lv_iload hx hb dX8_passWeek_25 (lv_at hl 0 rfl) ?_
        refine lv_iconst (v := (-1)) hx hb dX8_passWeek_27 (by decide) ?_
        refine lv_icmp_eq (tgt := 47) hx hb dX8_passWeek_28 (by decide) (fun c_13 => ?_) (fun c_13 => ?_)
        · skip
          have f14 : r_9.toInt = (-1) := qi_eq c_13 rfl zc_m1
          obtain ⟨x15, ex15⟩ : ∃ y : Int32, y = y5_4 + Int32.ofInt 1 := ⟨_, rfl⟩
          have f16 : x15.toInt = y5_4.toInt + 1 := (ox_13 (qi_add ex15 rfl (by decide) (ox_11 g5_0) (ox_219 g5_1)))
          refine lv_iinc (v := x15) (lv' := [(4, .int x15), (5, .int r_9), (0, .ref (r 0)), (1, .ref (r 7)), (2, .int p1), (3, .int y5_3)]) hx hb dX8_passWeek_47 hl (k := 5) rfl ex15.symm (by decide) rfl (fun ls hl => ?_)
          refine lv_goto (tgt := 5) hx hb dX8_passWeek_50 (by decide) ?_
          exact ih5 y5_3 x15 m5_f_now_where m5_f_now_worn m5_J H8 _ _ (ox_14 g5_0 f16) (ox_220 ie15 f7 f16) gi5_f_now_worn_p gr5_0 hP hD hS (lv_sub hl [2, 3, 4, 5, 0] rfl) (ox_221 hM5 f16)
        · skip
          have f17 : r_9.toInt ≠ (-1) := qi_ne c_13 rfl zc_m1
          have f18 : (0 : Int) ≤ r_9.toInt := (ox_222 f10 f17)
          refine lv_aload_n hx hb dX8_passWeek_31 rfl (lv_at hl 1 rfl) ?_
          refine lv_aload_n hx hb dX8_passWeek_32 rfl (lv_at hl 2 rfl) ?_
          refine lv_iload hx hb dX8_passWeek_33 (lv_at hl 5 rfl) ?_
          refine lv_iload hx hb dX8_passWeek_35 (lv_at hl 0 rfl) ?_
          refine lv_iload_n hx hb dX8_passWeek_37 rfl (lv_at hl 3 rfl) ?_
          have hFc := frA hD hS hA
          refine va_calli (va_runV (As := [.ref (r 7), .int y5_4, .int r_9, .int p1]) (rest := []) ⟨hx, hb, hml, hown, hG⟩ (kX8_passWeekIn l dC dI r ct i_tapeLength i_time i_lyingCount i_rd_fault i_rd_token i_rd_kind i_sc_count i_sc_at i_A_tunes i_A_houses i_fA_length i_B_tunes i_B_houses i_fB_length i_acts_done i_acts_undone i_kn_count f_boxes f_boxKept f_trial f_offers f_A_noteCounts f_A_notes f_B_noteCounts f_B_notes m5_f_now_where m5_f_now_worn f_ahead_where f_ahead_worn f_acts_rows f_kn_tunes f_kn_noteTimes m5_J L y5_4 r_9 p1 H8.size ⟨ie0, ie1, ie2, ie3, ie4, ie5, ie6, ie7, ie8, ie9, ie10, ie11, ie12, ie13, ie14, ie15, ie16, ie17, ie18, ie19, ie20, ie21, ie22, ie23, ie24, ie25, ie26, ie27, ie28, ie29, ie30, ie31, ie32, ie33, ie34, ie35, gi5_f_now_worn_p, ie37, ie38, ie39⟩ (ox_6 g5_0) (ox_223 f7) (ox_6 f18) (ox_55 f11) gr5_0) (cwV 4 hG (goodV gw786 gw788 gw25 gw129 gw789) rfl rfl rfl hd_X8_passWeekIn ⟨(Nat.le_of_ble_eq_true rfl), (Nat.le_of_ble_eq_true rfl)⟩) ⟨fbW, va_recv hK hP (ci := 7) (q0 := 0) rfl rfl, pW_in hP hK hD⟩ rfl rfl hl.1 rfl (lv_room (Nat.le_of_ble_eq_true rfl)) dX8_passWeek_38 ⟨(Nat.le_of_ble_eq_true rfl), (Nat.le_of_ble_eq_true rfl)⟩) hS (fun q _ h => hFc q h) hFc (fun r_20 u_ t_ H19 locs ht hvm hw hB hz1 hk1 hS => ?_)
          subst hw
          obtain ⟨z21, z22, J23, hP1, hD1, hI28, f24, f25, f26, f27⟩ := hB
          rw [ht] at hP1
          have hP := hP1
          have hD := dW hFc hD1
          obtain ⟨im29, im30, im31, im32, im33, im34, im35, im36, im37, im38, im39, im40, im41, im42, im43, im44, im45, im46, im47, im48, im49, im50, im51, im52, im53, im54, im55, im56, im57, im58, im59, im60, im61, im62, im63, im64, im65, im66, im67, im68⟩ := id hI28
          refine lv_if_eq (tgt := 47) hx hb dX8_passWeek_41 (by decide) (fun c_69 => ?_) (fun c_69 => ?_)
          · skip
            have f70 : r_20.toInt = 0 := qi_eq c_69 rfl zc_0
            have f71 : r_20.toInt = (0 : Int) := (ox_92 f25 f26 f70)
            obtain ⟨x72, ex72⟩ : ∃ y : Int32, y = y5_4 + Int32.ofInt 1 := ⟨_, rfl⟩
            have f73 : x72.toInt = y5_4.toInt + 1 := (ox_13 (qi_add ex72 rfl (by decide) (ox_11 g5_0) (ox_219 g5_1)))
            refine lv_iinc (v := x72) (lv' := [(4, .int x72), (5, .int r_9), (0, .ref (r 0)), (1, .ref (r 7)), (2, .int p1), (3, .int y5_3)]) hx hb dX8_passWeek_47 hl (k := 5) rfl ex72.symm (by decide) rfl (fun ls hl => ?_)
            refine lv_goto (tgt := 5) hx hb dX8_passWeek_50 (by decide) ?_
            exact ih5 y5_3 x72 z21 z22 J23 H19 _ _ (ox_14 g5_0 f73) (ox_220 ie15 f7 f73) im65 f27 hP hD hS (lv_sub hl [2, 3, 4, 5, 0] rfl) (ox_221 hM5 f73)
          · skip
            have f74 : r_20.toInt ≠ 0 := qi_ne c_69 rfl zc_0
            have f75 : r_20.toInt = (1 : Int) := (ox_91 f24 f74)
            have f76 : (1 : Int) ≤ r_20.toInt := (ox_53 f25 f26 f75)
            obtain ⟨x77, ex77⟩ : ∃ y : Int32, y = y5_3 + Int32.ofInt 1 := ⟨_, rfl⟩
            have f78 : (-2147483648) ≤ y5_3.toInt ∧ y5_3.toInt ≤ 2147483647 := i32_rg _
            refine lv_iinc (v := x77) (lv' := [(3, .int x77), (5, .int r_9), (0, .ref (r 0)), (1, .ref (r 7)), (2, .int p1), (4, .int y5_4)]) hx hb dX8_passWeek_44 hl (k := 4) rfl ex77.symm (by decide) rfl (fun ls hl => ?_)
            obtain ⟨x79, ex79⟩ : ∃ y : Int32, y = y5_4 + Int32.ofInt 1 := ⟨_, rfl⟩
            have f80 : x79.toInt = y5_4.toInt + 1 := (ox_13 (qi_add ex79 rfl (by decide) (ox_11 g5_0) (ox_219 g5_1)))
            refine lv_iinc (v := x79) (lv' := [(4, .int x79), (3, .int x77), (5, .int r_9), (0, .ref (r 0)), (1, .ref (r 7)), (2, .int p1)]) hx hb dX8_passWeek_47 hl (k := 5) rfl ex79.symm (by decide) rfl (fun ls hl => ?_)
            refine lv_goto (tgt := 5) hx hb dX8_passWeek_50 (by decide) ?_
            exact ih5 x77 x79 z21 z22 J23 H19 _ _ (ox_14 g5_0 f80) (ox_220 ie15 f7 f80) im65 f27 hP hD hS (lv_sub hl [3, 4, 5, 1, 0] rfl) (ox_221 hM5 f80)
  exact L5 (-1 * (0 : Int32).toInt + 4 + 1).toNat 0 0 f_now_where f_now_worn J s.heap _ _ (ox_27 zc_0) (ox_224 zc_0) ie36 hp0 hP hD hS (lv_sub hl [2, 3, 4, 1, 0] rfl) (mlt (ox_225 zc_0))
set_option maxHeartbeats 4000000 in
set_option maxRecDepth 100000 in
theorem kX7_writeTo (l : Launch) (dC : Nat → ClassId) (dI : Nat → Nat → Nat) (r : Nat → Nat) (ct : Nat → ClassId) (i_tapeLength i_time i_lyingCount i_rd_fault i_rd_token i_rd_kind i_sc_count i_sc_at i_A_tunes i_A_houses i_fA_length i_B_tunes i_B_houses i_fB_length i_acts_done i_acts_undone i_kn_count : Int32) (f_boxes f_boxKept f_trial f_offers f_A_noteCounts f_A_notes f_B_noteCounts f_B_notes f_now_where f_now_worn f_ahead_where f_ahead_worn f_acts_rows f_kn_tunes f_kn_noteTimes : Nat → Int32) (J : Nat → Nat → Int32) (L : Nat → Nat → Int64) (p1 : Int32) (sz : Nat) (hI : (IX i_tapeLength i_time i_lyingCount i_rd_token i_sc_count i_sc_at i_A_tunes i_A_houses i_fA_length i_B_tunes i_B_houses i_fB_length i_acts_done i_acts_undone i_kn_count f_boxes f_A_noteCounts f_A_notes f_B_noteCounts f_B_notes f_now_worn f_ahead_worn f_acts_rows f_kn_tunes)) (hp0 : (0 : Int) ≤ p1.toInt) (hp1 : p1.toInt ≤ (40 : Int)) (hp2 : WB i_A_tunes f_now_where) : Met l yX7_writeTo (.code yX7_writeTo cX7_writeTo 4 none :: GW) { frames := 4, cells := 0, slots := 0, locals := 160 } (va_Pc [.ref (r 7), .ref (r 51), .int p1] (pW (dC, dI) (WX r ct i_tapeLength i_time i_lyingCount i_rd_fault i_rd_token i_rd_kind i_sc_count i_sc_at i_A_tunes i_A_houses i_fA_length i_B_tunes i_B_houses i_fB_length i_acts_done i_acts_undone i_kn_count f_boxes f_boxKept f_trial f_offers f_A_noteCounts f_A_notes f_B_noteCounts f_B_notes f_now_where f_now_worn f_ahead_where f_ahead_worn f_acts_rows f_kn_tunes f_kn_noteTimes J L) (TX ct) sz)) (va_Qv (fun _ : Unit => True) (fun (_ : Unit) (t : State) => ∃ (n_f_acts_rows : Nat → Int32), va_P (dC, dI) vwCl (WX r ct i_tapeLength i_time i_lyingCount i_rd_fault i_rd_token i_rd_kind i_sc_count i_sc_at i_A_tunes i_A_houses i_fA_length i_B_tunes i_B_houses i_fB_length i_acts_done i_acts_undone i_kn_count f_boxes f_boxKept f_trial f_offers f_A_noteCounts f_A_notes f_B_noteCounts f_B_notes f_now_where f_now_worn f_ahead_where f_ahead_worn n_f_acts_rows f_kn_tunes f_kn_noteTimes J L) t.heap ∧ va_D (va_A (WX r ct i_tapeLength i_time i_lyingCount i_rd_fault i_rd_token i_rd_kind i_sc_count i_sc_at i_A_tunes i_A_houses i_fA_length i_B_tunes i_B_houses i_fB_length i_acts_done i_acts_undone i_kn_count f_boxes f_boxKept f_trial f_offers f_A_noteCounts f_A_notes f_B_noteCounts f_B_notes f_now_where f_now_worn f_ahead_where f_ahead_worn f_acts_rows f_kn_tunes f_kn_noteTimes J L) sz) (WX r ct i_tapeLength i_time i_lyingCount i_rd_fault i_rd_token i_rd_kind i_sc_count i_sc_at i_A_tunes i_A_houses i_fA_length i_B_tunes i_B_houses i_fB_length i_acts_done i_acts_undone i_kn_count f_boxes f_boxKept f_trial f_offers f_A_noteCounts f_A_notes f_B_noteCounts f_B_notes f_now_where f_now_worn f_ahead_where f_ahead_worn n_f_acts_rows f_kn_tunes f_kn_noteTimes J L) ∧ (IX i_tapeLength i_time i_lyingCount i_rd_token i_sc_count i_sc_at i_A_tunes i_A_houses i_fA_length i_B_tunes i_B_houses i_fB_length i_acts_done i_acts_undone i_kn_count f_boxes f_A_noteCounts f_A_notes f_B_noteCounts f_B_notes f_now_worn f_ahead_worn n_f_acts_rows f_kn_tunes) ∧ (WR i_A_tunes p1.toInt f_acts_rows n_f_acts_rows)) (va_A (WX r ct i_tapeLength i_time i_lyingCount i_rd_fault i_rd_token i_rd_kind i_sc_count i_sc_at i_A_tunes i_A_houses i_fA_length i_B_tunes i_B_houses i_fB_length i_acts_done i_acts_undone i_kn_count f_boxes f_boxKept f_trial f_offers f_A_noteCounts f_A_notes f_B_noteCounts f_B_notes f_now_where f_now_worn f_ahead_where f_ahead_worn f_acts_rows f_kn_tunes f_kn_noteTimes J L) sz)) 0 0 (va_A (WX r ct i_tapeLength i_time i_lyingCount i_rd_fault i_rd_token i_rd_kind i_sc_count i_sc_at i_A_tunes i_A_houses i_fA_length i_B_tunes i_B_houses i_fB_length i_acts_done i_acts_undone i_kn_count f_boxes f_boxKept f_trial f_offers f_A_noteCounts f_A_notes f_B_noteCounts f_B_notes f_now_where f_now_worn f_ahead_where f_ahead_worn f_acts_rows f_kn_tunes f_kn_noteTimes J L) sz) := by
  refine Met.ofW (cc := cX7_writeTo) (maxL := 4) (ret := none) (by decide) rfl ?_
  intro p e s m args below meth c0 s₁ B hml hv
  obtain ⟨rfl, hsz, hP, hK, hD0⟩ := hv
  have hx := B.exec
  have hb := B.bytes
  have hr := B.returns
  have hts := atoms_spec (ws := .code yX7_writeTo cX7_writeTo 4 none :: GW) B.pre
  have hG : ∀ w ∈ GW, w.before _ s = true := fun w h => hts w (List.mem_cons_of_mem _ h)
  have hown : s.vm.findClass RX7 = some m.cls := findClass_of_methodNamed B.named
  subst hsz
  have hD := hD0.self (sz := s.heap.size)
  generalize hAe : va_A (WX r ct i_tapeLength i_time i_lyingCount i_rd_fault i_rd_token i_rd_kind i_sc_count i_sc_at i_A_tunes i_A_houses i_fA_length i_B_tunes i_B_houses i_fB_length i_acts_done i_acts_undone i_kn_count f_boxes f_boxKept f_trial f_offers f_A_noteCounts f_A_notes f_B_noteCounts f_B_notes f_now_where f_now_worn f_ahead_where f_ahead_worn f_acts_rows f_kn_tunes f_kn_noteTimes J L) s.heap.size = A at hD ⊢
  have hA : ∀ q : Nat, s.heap.size ≤ q → A q := fun q h => by rw [← hAe]; exact Or.inr h
  have hS : va_S A s.heap s.heap [] := va_S.rf
  have hP : va_P (dC, dI) vwCl (WX r ct i_tapeLength i_time i_lyingCount i_rd_fault i_rd_token i_rd_kind i_sc_count i_sc_at i_A_tunes i_A_houses i_fA_length i_B_tunes i_B_houses i_fB_length i_acts_done i_acts_undone i_kn_count f_boxes f_boxKept f_trial f_offers f_A_noteCounts f_A_notes f_B_noteCounts f_B_notes f_now_where f_now_worn f_ahead_where f_ahead_worn f_acts_rows f_kn_tunes f_kn_noteTimes J L) s.heap := hP
  have hl := lv_entry ([.ref (r 7), .ref (r 51), .int p1]) (n := 4) (Nat.le_of_ble_eq_true rfl)
  rw [lg_entry_eq]
  generalize (lg_sl ([.ref (r 7), .ref (r 51), .int p1]) ++ List.replicate (4 - (lg_sl ([.ref (r 7), .ref (r 51), .int p1])).length) Slot.unset).toArray = ls at hl ⊢
  have hl : lv_has ls 4 [(0, .ref (r 7)), (1, .ref (r 51)), (2, .int p1)] := hl
  refine nameQ (fun Q hQ => ?_)
  obtain ⟨ie0, ie1, ie2, ie3, ie4, ie5, ie6, ie7, ie8, ie9, ie10, ie11, ie12, ie13, ie14, ie15, ie16, ie17, ie18, ie19, ie20, ie21, ie22, ie23, ie24, ie25, ie26, ie27, ie28, ie29, ie30, ie31, ie32, ie33, ie34, ie35, ie36, ie37, ie38, ie39⟩ := id hI
  refine lv_iload_n hx hb dX7_writeTo_0 rfl (lv_at hl 2 rfl) ?_
  refine lv_bipush (v := 26) hx hb dX7_writeTo_1 (by decide) ?_
  refine lv_imul hx hb dX7_writeTo_3 ?_
  refine lv_topi (fun x1 ex1 => ?_)
  have f2 : x1.toInt = 26 * p1.toInt := (ox_228 (qi_mul ex1 rfl zc_26 (ox_226 hp0 hp1) (ox_227 hp0 hp1)))
  refine lv_istore_n (lv' := [(3, .int x1), (0, .ref (r 7)), (1, .ref (r 51)), (2, .int p1)]) hx hb dX7_writeTo_4 rfl hl (by decide) rfl (fun ls hl => ?_)
  refine lv_iload_n hx hb dX7_writeTo_5 rfl (lv_at hl 0 rfl) ?_
  refine lv_if_lt (tgt := 18) hx hb dX7_writeTo_6 (by decide) (fun c_3 => ((ox_229 (qi_lt c_3 rfl zc_0) hp0 hp1 f2)).elim) (fun c_3 => ?_)
  have f4 : 0 ≤ x1.toInt := qi_nlt c_3 rfl zc_0
  refine lv_iload_n hx hb dX7_writeTo_9 rfl (lv_at hl 0 rfl) ?_
  refine lv_bipush (v := 26) hx hb dX7_writeTo_10 (by decide) ?_
  refine lv_iadd hx hb dX7_writeTo_12 ?_
  refine lv_topi (fun x5 ex5 => ?_)
  have f6 : x5.toInt = 26 * p1.toInt + 26 := (ox_232 (qi_add ex5 rfl zc_26 (ox_230 hp0 hp1 f4 f2) (ox_231 hp0 hp1 f4 f2)) f2)
  refine lv_aload_n hx hb dX7_writeTo_13 rfl (lv_at hl 2 rfl) ?_
  refine va_alen (v := 1066) hx hb hK hP 51 40 rfl rfl (show Int32.ofNat 1066 = 1066 by decide) dX7_writeTo_14 ?_
  refine lv_icmp_le (tgt := 19) hx hb dX7_writeTo_15 (by decide) (fun c_7 => ?_) (fun c_7 => ((ox_233 (qi_nle c_7 rfl zc_1066) hp0 hp1 f4 f2 f6)).elim)
  have f8 : x5.toInt ≤ 1066 := qi_le c_7 rfl zc_1066
  refine lv_aload_n hx hb dX7_writeTo_19 rfl (lv_at hl 1 rfl) ?_
  refine gX_X7_9_7 hx hb hG hown hK hP dX7_writeTo_20 ?_
  refine lv_iconst (v := 0) hx hb dX7_writeTo_23 (by decide) ?_
  refine lv_aload_n hx hb dX7_writeTo_24 rfl (lv_at hl 2 rfl) ?_
  refine lv_iload_n hx hb dX7_writeTo_25 rfl (lv_at hl 0 rfl) ?_
  refine lv_iconst (v := 5) hx hb dX7_writeTo_26 (by decide) ?_
  refine cpX_41_51 (a := (0 : Int)) (b := 26 * p1.toInt) (d := (5 : Int)) hx hb (hml.trans hl.1.symm) hown (hG _ gw465) (hG _ gw467) (hG _ gw466) (hG _ gw137) hK hP hD hS zc_0 f2 zc_5 (ox_143) (ox_234 hp0) (ox_186) (ox_235) (ox_236 hp1) (Nat.le_of_ble_eq_true rfl) (Nat.le_of_ble_eq_true rfl) dX7_writeTo_27 (fun z10 H9 locs ez10 hP hD hS => ?_)
  have g11 : EW z10 := EW_cpy ez10 ie30 (ox_143) (ox_234 hp0) (ox_186) (fun k k0 k1 k2 k3 => by have := (ox_237 hp0 hp1 f4 f8 f6 f2); omega)
  refine lv_aload_n hx hb dX7_writeTo_30 rfl (lv_at hl 1 rfl) ?_
  refine gX_X7_15_7 hx hb hG hown hK hP dX7_writeTo_31 ?_
  refine lv_iconst (v := 0) hx hb dX7_writeTo_34 (by decide) ?_
  refine lv_aload_n hx hb dX7_writeTo_35 rfl (lv_at hl 2 rfl) ?_
  refine lv_iload_n hx hb dX7_writeTo_36 rfl (lv_at hl 0 rfl) ?_
  refine lv_iconst (v := 5) hx hb dX7_writeTo_37 (by decide) ?_
  refine lv_iadd hx hb dX7_writeTo_38 ?_
  refine lv_topi (fun x12 ex12 => ?_)
  have f13 : x12.toInt = 26 * p1.toInt + 5 := (ox_240 (qi_add ex12 rfl zc_5 (ox_238 hp0 f2) (ox_239 hp1 f2)) f2)
  refine lv_iconst (v := 5) hx hb dX7_writeTo_39 (by decide) ?_
  refine cpX_42_51 (a := (0 : Int)) (b := 26 * p1.toInt + 5) (d := (5 : Int)) hx hb (hml.trans hl.1.symm) hown (hG _ gw465) (hG _ gw467) (hG _ gw466) (hG _ gw137) hK hP hD hS zc_0 f13 zc_5 (ox_143) (ox_241 hp0) (ox_186) (ox_235) (ox_242 hp1) (Nat.le_of_ble_eq_true rfl) (Nat.le_of_ble_eq_true rfl) dX7_writeTo_40 (fun z15 H14 locs ez15 hP hD hS => ?_)
  have g16 : EW z15 := EW_cpy ez15 g11 (ox_143) (ox_241 hp0) (ox_186) (fun k k0 k1 k2 k3 => by have := (ox_243 hp0 hp1 f4 f8 f6 f2); omega)
  refine lv_aload_n hx hb dX7_writeTo_43 rfl (lv_at hl 1 rfl) ?_
  refine gX_X7_18_7 hx hb hG hown hK hP dX7_writeTo_44 ?_
  refine lv_iconst (v := 0) hx hb dX7_writeTo_47 (by decide) ?_
  refine lv_aload_n hx hb dX7_writeTo_48 rfl (lv_at hl 2 rfl) ?_
  refine lv_iload_n hx hb dX7_writeTo_49 rfl (lv_at hl 0 rfl) ?_
  refine lv_bipush (v := 10) hx hb dX7_writeTo_50 (by decide) ?_
  refine lv_iadd hx hb dX7_writeTo_52 ?_
  refine lv_topi (fun x17 ex17 => ?_)
  have f18 : x17.toInt = 26 * p1.toInt + 10 := (ox_246 (qi_add ex17 rfl zc_10 (ox_244 hp0 f2) (ox_245 hp1 f2)) f2)
  refine lv_iconst (v := 5) hx hb dX7_writeTo_53 (by decide) ?_
  refine cpX_43_51 (a := (0 : Int)) (b := 26 * p1.toInt + 10) (d := (5 : Int)) hx hb (hml.trans hl.1.symm) hown (hG _ gw465) (hG _ gw467) (hG _ gw466) (hG _ gw137) hK hP hD hS zc_0 f18 zc_5 (ox_143) (ox_247 hp0) (ox_186) (ox_235) (ox_248 hp1) (Nat.le_of_ble_eq_true rfl) (Nat.le_of_ble_eq_true rfl) dX7_writeTo_54 (fun z20 H19 locs ez20 hP hD hS => ?_)
  have g21 : EW z20 := EW_cpy ez20 g16 (ox_143) (ox_247 hp0) (ox_186) (fun k _ _ _ _ => ie36 ((0 : Int) + k))
  refine lv_aload_n hx hb dX7_writeTo_57 rfl (lv_at hl 1 rfl) ?_
  refine gX_X7_21_7 hx hb hG hown hK hP dX7_writeTo_58 ?_
  refine lv_iconst (v := 0) hx hb dX7_writeTo_61 (by decide) ?_
  refine lv_aload_n hx hb dX7_writeTo_62 rfl (lv_at hl 2 rfl) ?_
  refine lv_iload_n hx hb dX7_writeTo_63 rfl (lv_at hl 0 rfl) ?_
  refine lv_bipush (v := 15) hx hb dX7_writeTo_64 (by decide) ?_
  refine lv_iadd hx hb dX7_writeTo_66 ?_
  refine lv_topi (fun x22 ex22 => ?_)
  have f23 : x22.toInt = 26 * p1.toInt + 15 := (ox_251 (qi_add ex22 rfl zc_15 (ox_249 hp0 f2) (ox_250 hp1 f2)) f2)
  refine lv_iconst (v := 5) hx hb dX7_writeTo_67 (by decide) ?_
  refine cpX_44_51 (a := (0 : Int)) (b := 26 * p1.toInt + 15) (d := (5 : Int)) hx hb (hml.trans hl.1.symm) hown (hG _ gw465) (hG _ gw467) (hG _ gw466) (hG _ gw137) hK hP hD hS zc_0 f23 zc_5 (ox_143) (ox_252 hp0) (ox_186) (ox_235) (ox_253 hp1) (Nat.le_of_ble_eq_true rfl) (Nat.le_of_ble_eq_true rfl) dX7_writeTo_68 (fun z25 H24 locs ez25 hP hD hS => ?_)
  have g26 : EW z25 := EW_cpy ez25 g21 (ox_143) (ox_252 hp0) (ox_186) (fun k k0 k1 k2 k3 => by have := (ox_254 hp0 hp1 f4 f8 f6 f2); omega)
  refine lv_aload_n hx hb dX7_writeTo_71 rfl (lv_at hl 1 rfl) ?_
  refine gX_X7_24_7 hx hb hG hown hK hP dX7_writeTo_72 ?_
  refine lv_iconst (v := 0) hx hb dX7_writeTo_75 (by decide) ?_
  refine lv_aload_n hx hb dX7_writeTo_76 rfl (lv_at hl 2 rfl) ?_
  refine lv_iload_n hx hb dX7_writeTo_77 rfl (lv_at hl 0 rfl) ?_
  refine lv_bipush (v := 20) hx hb dX7_writeTo_78 (by decide) ?_
  refine lv_iadd hx hb dX7_writeTo_80 ?_
  refine lv_topi (fun x27 ex27 => ?_)
  have f28 : x27.toInt = 26 * p1.toInt + 20 := (ox_257 (qi_add ex27 rfl zc_20 (ox_255 hp0 f2) (ox_256 hp1 f2)) f2)
  refine lv_iconst (v := 4) hx hb dX7_writeTo_81 (by decide) ?_
  refine cpX_45_51 (a := (0 : Int)) (b := 26 * p1.toInt + 20) (d := (4 : Int)) hx hb (hml.trans hl.1.symm) hown (hG _ gw465) (hG _ gw467) (hG _ gw466) (hG _ gw137) hK hP hD hS zc_0 f28 zc_4 (ox_143) (ox_258 hp0) (ox_184) (ox_259) (ox_260 hp1) (Nat.le_of_ble_eq_true rfl) (Nat.le_of_ble_eq_true rfl) dX7_writeTo_82 (fun z30 H29 locs ez30 hP hD hS => ?_)
  have g31 : EW z30 := EW_cpy ez30 g26 (ox_143) (ox_258 hp0) (ox_184) (fun k k0 k1 k2 k3 => by have := (ox_261 hp0 hp1 f4 f8 f6 f2); omega)
  refine lv_aload_n hx hb dX7_writeTo_85 rfl (lv_at hl 2 rfl) ?_
  refine lv_iload_n hx hb dX7_writeTo_86 rfl (lv_at hl 0 rfl) ?_
  refine lv_bipush (v := 26) hx hb dX7_writeTo_87 (by decide) ?_
  refine lv_iadd hx hb dX7_writeTo_89 ?_
  refine lv_topi (fun x32 ex32 => ?_)
  have f33 : x32.toInt = 26 * p1.toInt + 26 := (ox_232 (qi_add ex32 rfl zc_26 (ox_262 hp0 f2) (ox_263 hp1 f2)) f2)
  refine lv_iconst (v := 2) hx hb dX7_writeTo_90 (by decide) ?_
  refine lv_isub hx hb dX7_writeTo_91 ?_
  refine lv_topi (fun x34 ex34 => ?_)
  have f35 : x34.toInt = 26 * p1.toInt + 24 := (ox_266 (qi_sub ex34 rfl zc_2 (ox_264 hp0 f33) (ox_265 hp1 f33)) f33)
  refine lv_aload_n hx hb dX7_writeTo_92 rfl (lv_at hl 1 rfl) ?_
  refine gX_X7_38_7 hx hb hG hown hK hP dX7_writeTo_93 (fun x36 => ?_)
  refine stX_51 (mm := 26 * p1.toInt + 24) hx hb hK hP hD hS f35 (ox_267 hp0) (ox_268 hp1) dX7_writeTo_96 (fun z38 H37 locs ez38 hP hD hS => ?_)
  have g39 : EW z38 := ez38 ▸ EW.updo g31 (ox_267 hp0) (ox_269 hp0 hp1 f4 f8 f6 f2)
  refine lv_aload_n hx hb dX7_writeTo_97 rfl (lv_at hl 2 rfl) ?_
  refine lv_iload_n hx hb dX7_writeTo_98 rfl (lv_at hl 0 rfl) ?_
  refine lv_bipush (v := 26) hx hb dX7_writeTo_99 (by decide) ?_
  refine lv_iadd hx hb dX7_writeTo_101 ?_
  refine lv_topi (fun x40 ex40 => ?_)
  have f41 : x40.toInt = 26 * p1.toInt + 26 := (ox_232 (qi_add ex40 rfl zc_26 (ox_262 hp0 f2) (ox_263 hp1 f2)) f2)
  refine lv_iconst (v := 1) hx hb dX7_writeTo_102 (by decide) ?_
  refine lv_isub hx hb dX7_writeTo_103 ?_
  refine lv_topi (fun x42 ex42 => ?_)
  have f43 : x42.toInt = 26 * p1.toInt + 25 := (ox_272 (qi_sub ex42 rfl zc_1 (ox_270 hp0 f41) (ox_271 hp1 f41)) f41)
  refine lv_aload_n hx hb dX7_writeTo_104 rfl (lv_at hl 1 rfl) ?_
  refine gX_X7_44_7 hx hb hG hown hK hP dX7_writeTo_105 (fun x44 => ?_)
  refine stX_51 (mm := 26 * p1.toInt + 25) hx hb hK hP hD hS f43 (ox_273 hp0) (ox_274 hp1) dX7_writeTo_108 (fun z46 H45 locs ez46 hP hD hS => ?_)
  have g47 : EW z46 := ez46 ▸ EW.updo g39 (ox_273 hp0) (ox_275 hp0 hp1 f4 f8 f6 f2)
  rw [hQ]
  exact W.vret hx hb hr (fun t ht hW => ⟨⟨(), rfl, trivial, ⟨z46, by rw [ht]; exact hP, hD, ⟨ie0, ie1, ie2, ie3, ie4, ie5, ie6, ie7, ie8, ie9, ie10, ie11, ie12, ie13, ie14, ie15, ie16, ie17, ie18, ie19, ie20, ie21, ie22, ie23, ie24, ie25, ie26, ie27, ie28, ie29, g47, ie31, ie32, ie33, ie34, ie35, ie36, ie37, ie38, ie39⟩, (WR_u (WR_u (WR_c (WR_c (WR_c (WR_c (WR_1 hp2 (ox_276 ie12 ie13) (ox_9 hp0) (ox_283) ez10) (ox_276 ie12 ie13) (ox_9 hp0) (ox_282) ez15) (ox_276 ie12 ie13) (ox_9 hp0) (ox_281) ez20) (ox_276 ie12 ie13) (ox_9 hp0) (ox_280) ez25) (ox_276 ie12 ie13) (ox_9 hp0) (ox_279) ez30) (ox_276 ie12 ie13) (ox_9 hp0) (ox_278) ez38) (ox_276 ie12 ie13) (ox_9 hp0) (ox_277) ez46)⟩⟩, hS.F ht⟩) hS.2.2 dX7_writeTo_109
set_option maxHeartbeats 4000000 in
set_option maxRecDepth 100000 in
theorem kX0_keep (l : Launch) (dC : Nat → ClassId) (dI : Nat → Nat → Nat) (r : Nat → Nat) (ct : Nat → ClassId) (i_tapeLength i_time i_lyingCount i_rd_fault i_rd_token i_rd_kind i_sc_count i_sc_at i_A_tunes i_A_houses i_fA_length i_B_tunes i_B_houses i_fB_length i_acts_done i_acts_undone i_kn_count : Int32) (f_boxes f_boxKept f_trial f_offers f_A_noteCounts f_A_notes f_B_noteCounts f_B_notes f_now_where f_now_worn f_ahead_where f_ahead_worn f_acts_rows f_kn_tunes f_kn_noteTimes : Nat → Int32) (J : Nat → Nat → Int32) (L : Nat → Nat → Int64) (sz : Nat) (hI : (IX i_tapeLength i_time i_lyingCount i_rd_token i_sc_count i_sc_at i_A_tunes i_A_houses i_fA_length i_B_tunes i_B_houses i_fB_length i_acts_done i_acts_undone i_kn_count f_boxes f_A_noteCounts f_A_notes f_B_noteCounts f_B_notes f_now_worn f_ahead_worn f_acts_rows f_kn_tunes)) (hp0 : WB i_A_tunes f_now_where) (hp1 : RB i_A_tunes i_acts_done i_acts_undone f_acts_rows) : Met l yX0_keep (.code yX0_keep cX0_keep 2 none :: GW) { frames := 6, cells := 0, slots := 0, locals := 223 } (va_Pc [.ref (r 9), .ref (r 7)] (pW (dC, dI) (WX r ct i_tapeLength i_time i_lyingCount i_rd_fault i_rd_token i_rd_kind i_sc_count i_sc_at i_A_tunes i_A_houses i_fA_length i_B_tunes i_B_houses i_fB_length i_acts_done i_acts_undone i_kn_count f_boxes f_boxKept f_trial f_offers f_A_noteCounts f_A_notes f_B_noteCounts f_B_notes f_now_where f_now_worn f_ahead_where f_ahead_worn f_acts_rows f_kn_tunes f_kn_noteTimes J L) (TX ct) sz)) (va_Qv (fun _ : Unit => True) (fun (_ : Unit) (t : State) => ∃ (n_i_acts_done n_i_acts_undone : Int32) (n_f_acts_rows : Nat → Int32), va_P (dC, dI) vwCl (WX r ct i_tapeLength i_time i_lyingCount i_rd_fault i_rd_token i_rd_kind i_sc_count i_sc_at i_A_tunes i_A_houses i_fA_length i_B_tunes i_B_houses i_fB_length n_i_acts_done n_i_acts_undone i_kn_count f_boxes f_boxKept f_trial f_offers f_A_noteCounts f_A_notes f_B_noteCounts f_B_notes f_now_where f_now_worn f_ahead_where f_ahead_worn n_f_acts_rows f_kn_tunes f_kn_noteTimes J L) t.heap ∧ va_D (va_A (WX r ct i_tapeLength i_time i_lyingCount i_rd_fault i_rd_token i_rd_kind i_sc_count i_sc_at i_A_tunes i_A_houses i_fA_length i_B_tunes i_B_houses i_fB_length i_acts_done i_acts_undone i_kn_count f_boxes f_boxKept f_trial f_offers f_A_noteCounts f_A_notes f_B_noteCounts f_B_notes f_now_where f_now_worn f_ahead_where f_ahead_worn f_acts_rows f_kn_tunes f_kn_noteTimes J L) sz) (WX r ct i_tapeLength i_time i_lyingCount i_rd_fault i_rd_token i_rd_kind i_sc_count i_sc_at i_A_tunes i_A_houses i_fA_length i_B_tunes i_B_houses i_fB_length n_i_acts_done n_i_acts_undone i_kn_count f_boxes f_boxKept f_trial f_offers f_A_noteCounts f_A_notes f_B_noteCounts f_B_notes f_now_where f_now_worn f_ahead_where f_ahead_worn n_f_acts_rows f_kn_tunes f_kn_noteTimes J L) ∧ (IX i_tapeLength i_time i_lyingCount i_rd_token i_sc_count i_sc_at i_A_tunes i_A_houses i_fA_length i_B_tunes i_B_houses i_fB_length n_i_acts_done n_i_acts_undone i_kn_count f_boxes f_A_noteCounts f_A_notes f_B_noteCounts f_B_notes f_now_worn f_ahead_worn n_f_acts_rows f_kn_tunes) ∧ (RB i_A_tunes n_i_acts_done n_i_acts_undone n_f_acts_rows)) (va_A (WX r ct i_tapeLength i_time i_lyingCount i_rd_fault i_rd_token i_rd_kind i_sc_count i_sc_at i_A_tunes i_A_houses i_fA_length i_B_tunes i_B_houses i_fB_length i_acts_done i_acts_undone i_kn_count f_boxes f_boxKept f_trial f_offers f_A_noteCounts f_A_notes f_B_noteCounts f_B_notes f_now_where f_now_worn f_ahead_where f_ahead_worn f_acts_rows f_kn_tunes f_kn_noteTimes J L) sz)) 0 0 (va_A (WX r ct i_tapeLength i_time i_lyingCount i_rd_fault i_rd_token i_rd_kind i_sc_count i_sc_at i_A_tunes i_A_houses i_fA_length i_B_tunes i_B_houses i_fB_length i_acts_done i_acts_undone i_kn_count f_boxes f_boxKept f_trial f_offers f_A_noteCounts f_A_notes f_B_noteCounts f_B_notes f_now_where f_now_worn f_ahead_where f_ahead_worn f_acts_rows f_kn_tunes f_kn_noteTimes J L) sz) := by
  refine Met.ofW (cc := cX0_keep) (maxL := 2) (ret := none) (by decide) rfl ?_
  intro p e s m args below meth c0 s₁ B hml hv
  obtain ⟨rfl, hsz, hP, hK, hD0⟩ := hv
  have hx := B.exec
  have hb := B.bytes
  have hr := B.returns
  have hts := atoms_spec (ws := .code yX0_keep cX0_keep 2 none :: GW) B.pre
  have hG : ∀ w ∈ GW, w.before _ s = true := fun w h => hts w (List.mem_cons_of_mem _ h)
  have hown : s.vm.findClass RX0 = some m.cls := findClass_of_methodNamed B.named
  subst hsz
  have hD := hD0.self (sz := s.heap.size)
  generalize hAe : va_A (WX r ct i_tapeLength i_time i_lyingCount i_rd_fault i_rd_token i_rd_kind i_sc_count i_sc_at i_A_tunes i_A_houses i_fA_length i_B_tunes i_B_houses i_fB_length i_acts_done i_acts_undone i_kn_count f_boxes f_boxKept f_trial f_offers f_A_noteCounts f_A_notes f_B_noteCounts f_B_notes f_now_where f_now_worn f_ahead_where f_ahead_worn f_acts_rows f_kn_tunes f_kn_noteTimes J L) s.heap.size = A at hD ⊢
  have hA : ∀ q : Nat, s.heap.size ≤ q → A q := fun q h => by rw [← hAe]; exact Or.inr h
  have hS : va_S A s.heap s.heap [] := va_S.rf
  have hP : va_P (dC, dI) vwCl (WX r ct i_tapeLength i_time i_lyingCount i_rd_fault i_rd_token i_rd_kind i_sc_count i_sc_at i_A_tunes i_A_houses i_fA_length i_B_tunes i_B_houses i_fB_length i_acts_done i_acts_undone i_kn_count f_boxes f_boxKept f_trial f_offers f_A_noteCounts f_A_notes f_B_noteCounts f_B_notes f_now_where f_now_worn f_ahead_where f_ahead_worn f_acts_rows f_kn_tunes f_kn_noteTimes J L) s.heap := hP
  have hl := lv_entry ([.ref (r 9), .ref (r 7)]) (n := 2) (Nat.le_of_ble_eq_true rfl)
  rw [lg_entry_eq]
  generalize (lg_sl ([.ref (r 9), .ref (r 7)]) ++ List.replicate (2 - (lg_sl ([.ref (r 9), .ref (r 7)])).length) Slot.unset).toArray = ls at hl ⊢
  have hl : lv_has ls 2 [(0, .ref (r 9)), (1, .ref (r 7))] := hl
  refine nameQ (fun Q hQ => ?_)
  obtain ⟨ie0, ie1, ie2, ie3, ie4, ie5, ie6, ie7, ie8, ie9, ie10, ie11, ie12, ie13, ie14, ie15, ie16, ie17, ie18, ie19, ie20, ie21, ie22, ie23, ie24, ie25, ie26, ie27, ie28, ie29, ie30, ie31, ie32, ie33, ie34, ie35, ie36, ie37, ie38, ie39⟩ := id hI
  refine lv_aload_n hx hb dX0_keep_0 rfl (lv_at hl 0 rfl) ?_
  refine lv_iconst (v := 0) hx hb dX0_keep_1 (by decide) ?_
  refine pX_X0_21_9 hx hb hG hown hK hP hD hS dX0_keep_2 (fun H1 locs hP hD hS => ?_)
  refine lv_aload_n hx hb dX0_keep_5 rfl (lv_at hl 0 rfl) ?_
  refine gX_X0_17_9 hx hb hG hown hK hP dX0_keep_6 ?_
  refine lv_bipush (v := 40) hx hb dX0_keep_9 (by decide) ?_
  refine lv_icmp_ge (tgt := 27) hx hb dX0_keep_11 (by decide) (fun c_2 => ?_) (fun c_2 => ?_)
  · skip
    have f3 : 40 ≤ i_acts_done.toInt := qi_le c_2 zc_40 rfl
    refine lv_aload_n hx hb dX0_keep_27 rfl (lv_at hl 0 rfl) ?_
    refine gX_X0_11_9 hx hb hG hown hK hP dX0_keep_28 ?_
    refine lv_bipush (v := 26) hx hb dX0_keep_31 (by decide) ?_
    refine lv_aload_n hx hb dX0_keep_33 rfl (lv_at hl 0 rfl) ?_
    refine gX_X0_11_9 hx hb hG hown hK hP dX0_keep_34 ?_
    refine lv_iconst (v := 0) hx hb dX0_keep_37 (by decide) ?_
    refine lv_sipush (v := 1040) hx hb dX0_keep_38 (by decide) ?_
    refine cpX_51_51 (a := (26 : Int)) (b := (0 : Int)) (d := (1040 : Int)) hx hb (hml.trans hl.1.symm) hown (hG _ gw800) (hG _ gw467) (hG _ gw466) (hG _ gw137) hK hP hD hS zc_26 zc_0 zc_1040 (ox_284) (ox_143) (ox_285) (ox_286) (ox_287) (Nat.le_of_ble_eq_true rfl) (Nat.le_of_ble_eq_true rfl) dX0_keep_41 (fun z5 H4 locs ez5 hP hD hS => ?_)
    have g6 : EW z5 := EW_cpy ez5 ie30 (ox_284) (ox_143) (ox_285) (fun k k0 k1 k2 k3 => ie30 ((26 : Int) + k) (by omega) (by omega) (by omega))
    refine lv_aload_n hx hb dX0_keep_44 rfl (lv_at hl 1 rfl) ?_
    refine lv_aload_n hx hb dX0_keep_45 rfl (lv_at hl 0 rfl) ?_
    refine gX_X0_11_9 hx hb hG hown hK hP dX0_keep_46 ?_
    refine lv_aload_n hx hb dX0_keep_49 rfl (lv_at hl 0 rfl) ?_
    refine gX_X0_17_9 hx hb hG hown hK hP dX0_keep_50 ?_
    have hFc := frA hD hS hA
    refine va_callv (va_runV (As := [.ref (r 51), .int i_acts_done]) (rest := []) ⟨hx, hb, hml, hown, hG⟩ (kX7_writeTo l dC dI r ct i_tapeLength i_time i_lyingCount i_rd_fault i_rd_token i_rd_kind i_sc_count i_sc_at i_A_tunes i_A_houses i_fA_length i_B_tunes i_B_houses i_fB_length i_acts_done 0 i_kn_count f_boxes f_boxKept f_trial f_offers f_A_noteCounts f_A_notes f_B_noteCounts f_B_notes f_now_where f_now_worn f_ahead_where f_ahead_worn z5 f_kn_tunes f_kn_noteTimes J L i_acts_done H4.size ⟨ie0, ie1, ie2, ie3, ie4, ie5, ie6, ie7, ie8, ie9, ie10, ie11, ie12, ie13, ie14, ie15, ie16, ie17, ie18, ie19, ie20, ie21, ie22, ie23, ie24, ie25, ie26, (ox_27 zc_0), (ox_290 ie27 ie28 zc_0), ie29, g6, ie31, ie32, ie33, ie34, ie35, ie36, ie37, ie38, ie39⟩ (ox_288 ie26 ie28 f3) (ox_289 ie27 ie28) hp0) (cwV 2 hG (goodV gw461 gw462 gw463 gw134 gw464) rfl rfl rfl hd_X7_writeTo ⟨(Nat.le_of_ble_eq_true rfl), (Nat.le_of_ble_eq_true rfl)⟩) ⟨fbW, va_recv hK hP (ci := 6) (q0 := 7) rfl rfl, pW_in hP hK hD⟩ rfl rfl hl.1 rfl (lv_room (Nat.le_of_ble_eq_true rfl)) dX0_keep_53 ⟨(Nat.le_of_ble_eq_true rfl), (Nat.le_of_ble_eq_true rfl)⟩) hS (fun q _ h => hFc q h) hFc (fun _ t_ H7 locs ht hvm hw hB hz1 hk1 hS => ?_)
    obtain ⟨z9, hP1, hD1, hI11, f10⟩ := hB
    rw [ht] at hP1
    have hP := hP1
    have hD := dW hFc hD1
    obtain ⟨im12, im13, im14, im15, im16, im17, im18, im19, im20, im21, im22, im23, im24, im25, im26, im27, im28, im29, im30, im31, im32, im33, im34, im35, im36, im37, im38, im39, im40, im41, im42, im43, im44, im45, im46, im47, im48, im49, im50, im51⟩ := id hI11
    rw [hQ]
    exact W.vret hx hb hr (fun t ht hW => ⟨⟨(), rfl, trivial, ⟨i_acts_done, 0, z9, by rw [ht]; exact hP, hD, hI11, (RB_keep2 hp1 ez5 f10 (ox_293) (ox_276 ie12 ie13) (ox_294 ie27 ie28 f3) (ox_291 zc_0) (ox_292 ie27 ie28))⟩⟩, hS.F ht⟩) hS.2.2 dX0_keep_56
  · skip
    have f52 : i_acts_done.toInt < 40 := qi_nle c_2 zc_40 rfl
    refine lv_aload_n hx hb dX0_keep_14 rfl (lv_at hl 0 rfl) ?_
    refine lv_dup hx hb dX0_keep_15 rfl ?_
    refine gX_X0_17_9 hx hb hG hown hK hP dX0_keep_16 ?_
    refine lv_iconst (v := 1) hx hb dX0_keep_19 (by decide) ?_
    refine lv_iadd hx hb dX0_keep_20 ?_
    refine lv_topi (fun x53 ex53 => ?_)
    have f54 : x53.toInt = i_acts_done.toInt + 1 := (ox_13 (qi_add ex53 rfl zc_1 (ox_295 ie26 ie28 f52) (ox_296 ie26 ie28 f52)))
    refine pX_X0_17_9 hx hb hG hown hK hP hD hS dX0_keep_21 (fun H55 locs hP hD hS => ?_)
    refine lv_goto (tgt := 44) hx hb dX0_keep_24 (by decide) ?_
    refine lv_aload_n hx hb dX0_keep_44 rfl (lv_at hl 1 rfl) ?_
    refine lv_aload_n hx hb dX0_keep_45 rfl (lv_at hl 0 rfl) ?_
    refine gX_X0_11_9 hx hb hG hown hK hP dX0_keep_46 ?_
    refine lv_aload_n hx hb dX0_keep_49 rfl (lv_at hl 0 rfl) ?_
    refine gX_X0_17_9 hx hb hG hown hK hP dX0_keep_50 ?_
    have hFc := frA hD hS hA
    refine va_callv (va_runV (As := [.ref (r 51), .int x53]) (rest := []) ⟨hx, hb, hml, hown, hG⟩ (kX7_writeTo l dC dI r ct i_tapeLength i_time i_lyingCount i_rd_fault i_rd_token i_rd_kind i_sc_count i_sc_at i_A_tunes i_A_houses i_fA_length i_B_tunes i_B_houses i_fB_length x53 0 i_kn_count f_boxes f_boxKept f_trial f_offers f_A_noteCounts f_A_notes f_B_noteCounts f_B_notes f_now_where f_now_worn f_ahead_where f_ahead_worn f_acts_rows f_kn_tunes f_kn_noteTimes J L x53 H55.size ⟨ie0, ie1, ie2, ie3, ie4, ie5, ie6, ie7, ie8, ie9, ie10, ie11, ie12, ie13, ie14, ie15, ie16, ie17, ie18, ie19, ie20, ie21, ie22, ie23, ie24, ie25, (ox_297 ie26 ie28 f52 f54), (ox_27 zc_0), (ox_299 ie26 ie28 f52 zc_0 f54), ie29, ie30, ie31, ie32, ie33, ie34, ie35, ie36, ie37, ie38, ie39⟩ (ox_297 ie26 ie28 f52 f54) (ox_298 ie26 ie28 f52 f54) hp0) (cwV 2 hG (goodV gw461 gw462 gw463 gw134 gw464) rfl rfl rfl hd_X7_writeTo ⟨(Nat.le_of_ble_eq_true rfl), (Nat.le_of_ble_eq_true rfl)⟩) ⟨fbW, va_recv hK hP (ci := 6) (q0 := 7) rfl rfl, pW_in hP hK hD⟩ rfl rfl hl.1 rfl (lv_room (Nat.le_of_ble_eq_true rfl)) dX0_keep_53 ⟨(Nat.le_of_ble_eq_true rfl), (Nat.le_of_ble_eq_true rfl)⟩) hS (fun q _ h => hFc q h) hFc (fun _ t_ H56 locs ht hvm hw hB hz1 hk1 hS => ?_)
    obtain ⟨z58, hP1, hD1, hI60, f59⟩ := hB
    rw [ht] at hP1
    have hP := hP1
    have hD := dW hFc hD1
    obtain ⟨im61, im62, im63, im64, im65, im66, im67, im68, im69, im70, im71, im72, im73, im74, im75, im76, im77, im78, im79, im80, im81, im82, im83, im84, im85, im86, im87, im88, im89, im90, im91, im92, im93, im94, im95, im96, im97, im98, im99, im100⟩ := id hI60
    rw [hQ]
    exact W.vret hx hb hr (fun t ht hW => ⟨⟨(), rfl, trivial, ⟨x53, 0, z58, by rw [ht]; exact hP, hD, hI60, (RB_keep1 hp1 f59 (ox_13 f54) (ox_13 f54) (ox_291 zc_0) (ox_292 ie27 ie28))⟩⟩, hS.F ht⟩) hS.2.2 dX0_keep_56
set_option maxHeartbeats 4000000 in
set_option maxRecDepth 100000 in
theorem kX8_week (l : Launch) (dC : Nat → ClassId) (dI : Nat → Nat → Nat) (r : Nat → Nat) (ct : Nat → ClassId) (i_tapeLength i_time i_lyingCount i_rd_fault i_rd_token i_rd_kind i_sc_count i_sc_at i_A_tunes i_A_houses i_fA_length i_B_tunes i_B_houses i_fB_length i_acts_done i_acts_undone i_kn_count : Int32) (f_boxes f_boxKept f_trial f_offers f_A_noteCounts f_A_notes f_B_noteCounts f_B_notes f_now_where f_now_worn f_ahead_where f_ahead_worn f_acts_rows f_kn_tunes f_kn_noteTimes : Nat → Int32) (J : Nat → Nat → Int32) (L : Nat → Nat → Int64) (sz : Nat) (hI : (IX i_tapeLength i_time i_lyingCount i_rd_token i_sc_count i_sc_at i_A_tunes i_A_houses i_fA_length i_B_tunes i_B_houses i_fB_length i_acts_done i_acts_undone i_kn_count f_boxes f_A_noteCounts f_A_notes f_B_noteCounts f_B_notes f_now_worn f_ahead_worn f_acts_rows f_kn_tunes)) (hp0 : WB i_A_tunes f_now_where) (hp1 : RB i_A_tunes i_acts_done i_acts_undone f_acts_rows) : Met l yX8_week (.code yX8_week cX8_week 2 (some .int) :: GW) { frames := 14, cells := 0, slots := 0, locals := 497 } (va_Pc [.ref (r 0)] (pW (dC, dI) (WX r ct i_tapeLength i_time i_lyingCount i_rd_fault i_rd_token i_rd_kind i_sc_count i_sc_at i_A_tunes i_A_houses i_fA_length i_B_tunes i_B_houses i_fB_length i_acts_done i_acts_undone i_kn_count f_boxes f_boxKept f_trial f_offers f_A_noteCounts f_A_notes f_B_noteCounts f_B_notes f_now_where f_now_worn f_ahead_where f_ahead_worn f_acts_rows f_kn_tunes f_kn_noteTimes J L) (TX ct) sz)) (va_Qi (fun (r0 : Int32) (u : Int32) => r0 = u) (fun (u : Int32) (t : State) => ∃ (n_i_acts_done n_i_acts_undone : Int32) (n_f_now_where n_f_now_worn n_f_acts_rows : Nat → Int32) (n_J : Nat → Nat → Int32), va_P (dC, dI) vwCl (WX r ct i_tapeLength i_time i_lyingCount i_rd_fault i_rd_token i_rd_kind i_sc_count i_sc_at i_A_tunes i_A_houses i_fA_length i_B_tunes i_B_houses i_fB_length n_i_acts_done n_i_acts_undone i_kn_count f_boxes f_boxKept f_trial f_offers f_A_noteCounts f_A_notes f_B_noteCounts f_B_notes n_f_now_where n_f_now_worn f_ahead_where f_ahead_worn n_f_acts_rows f_kn_tunes f_kn_noteTimes n_J L) t.heap ∧ va_D (va_A (WX r ct i_tapeLength i_time i_lyingCount i_rd_fault i_rd_token i_rd_kind i_sc_count i_sc_at i_A_tunes i_A_houses i_fA_length i_B_tunes i_B_houses i_fB_length i_acts_done i_acts_undone i_kn_count f_boxes f_boxKept f_trial f_offers f_A_noteCounts f_A_notes f_B_noteCounts f_B_notes f_now_where f_now_worn f_ahead_where f_ahead_worn f_acts_rows f_kn_tunes f_kn_noteTimes J L) sz) (WX r ct i_tapeLength i_time i_lyingCount i_rd_fault i_rd_token i_rd_kind i_sc_count i_sc_at i_A_tunes i_A_houses i_fA_length i_B_tunes i_B_houses i_fB_length n_i_acts_done n_i_acts_undone i_kn_count f_boxes f_boxKept f_trial f_offers f_A_noteCounts f_A_notes f_B_noteCounts f_B_notes n_f_now_where n_f_now_worn f_ahead_where f_ahead_worn n_f_acts_rows f_kn_tunes f_kn_noteTimes n_J L) ∧ (IX i_tapeLength i_time i_lyingCount i_rd_token i_sc_count i_sc_at i_A_tunes i_A_houses i_fA_length i_B_tunes i_B_houses i_fB_length n_i_acts_done n_i_acts_undone i_kn_count f_boxes f_A_noteCounts f_A_notes f_B_noteCounts f_B_notes n_f_now_worn f_ahead_worn n_f_acts_rows f_kn_tunes) ∧ (WB i_A_tunes n_f_now_where) ∧ (RB i_A_tunes n_i_acts_done n_i_acts_undone n_f_acts_rows)) (va_A (WX r ct i_tapeLength i_time i_lyingCount i_rd_fault i_rd_token i_rd_kind i_sc_count i_sc_at i_A_tunes i_A_houses i_fA_length i_B_tunes i_B_houses i_fB_length i_acts_done i_acts_undone i_kn_count f_boxes f_boxKept f_trial f_offers f_A_noteCounts f_A_notes f_B_noteCounts f_B_notes f_now_where f_now_worn f_ahead_where f_ahead_worn f_acts_rows f_kn_tunes f_kn_noteTimes J L) sz)) 0 0 (va_A (WX r ct i_tapeLength i_time i_lyingCount i_rd_fault i_rd_token i_rd_kind i_sc_count i_sc_at i_A_tunes i_A_houses i_fA_length i_B_tunes i_B_houses i_fB_length i_acts_done i_acts_undone i_kn_count f_boxes f_boxKept f_trial f_offers f_A_noteCounts f_A_notes f_B_noteCounts f_B_notes f_now_where f_now_worn f_ahead_where f_ahead_worn f_acts_rows f_kn_tunes f_kn_noteTimes J L) sz) := by
  refine Met.ofW (cc := cX8_week) (maxL := 2) (ret := (some .int)) (by decide) rfl ?_
  intro p e s m args below meth c0 s₁ B hml hv
  obtain ⟨rfl, hsz, hP, hK, hD0⟩ := hv
  have hx := B.exec
  have hb := B.bytes
  have hr := B.returns
  have hts := atoms_spec (ws := .code yX8_week cX8_week 2 (some .int) :: GW) B.pre
  have hG : ∀ w ∈ GW, w.before _ s = true := fun w h => hts w (List.mem_cons_of_mem _ h)
  have hown : s.vm.findClass RX8 = some m.cls := findClass_of_methodNamed B.named
  subst hsz
  have hD := hD0.self (sz := s.heap.size)
  generalize hAe : va_A (WX r ct i_tapeLength i_time i_lyingCount i_rd_fault i_rd_token i_rd_kind i_sc_count i_sc_at i_A_tunes i_A_houses i_fA_length i_B_tunes i_B_houses i_fB_length i_acts_done i_acts_undone i_kn_count f_boxes f_boxKept f_trial f_offers f_A_noteCounts f_A_notes f_B_noteCounts f_B_notes f_now_where f_now_worn f_ahead_where f_ahead_worn f_acts_rows f_kn_tunes f_kn_noteTimes J L) s.heap.size = A at hD ⊢
  have hA : ∀ q : Nat, s.heap.size ≤ q → A q := fun q h => by rw [← hAe]; exact Or.inr h
  have hS : va_S A s.heap s.heap [] := va_S.rf
  have hP : va_P (dC, dI) vwCl (WX r ct i_tapeLength i_time i_lyingCount i_rd_fault i_rd_token i_rd_kind i_sc_count i_sc_at i_A_tunes i_A_houses i_fA_length i_B_tunes i_B_houses i_fB_length i_acts_done i_acts_undone i_kn_count f_boxes f_boxKept f_trial f_offers f_A_noteCounts f_A_notes f_B_noteCounts f_B_notes f_now_where f_now_worn f_ahead_where f_ahead_worn f_acts_rows f_kn_tunes f_kn_noteTimes J L) s.heap := hP
  have hl := lv_entry ([.ref (r 0)]) (n := 2) (Nat.le_of_ble_eq_true rfl)
  rw [lg_entry_eq]
  generalize (lg_sl ([.ref (r 0)]) ++ List.replicate (2 - (lg_sl ([.ref (r 0)])).length) Slot.unset).toArray = ls at hl ⊢
  have hl : lv_has ls 2 [(0, .ref (r 0))] := hl
  refine nameQ (fun Q hQ => ?_)
  obtain ⟨ie0, ie1, ie2, ie3, ie4, ie5, ie6, ie7, ie8, ie9, ie10, ie11, ie12, ie13, ie14, ie15, ie16, ie17, ie18, ie19, ie20, ie21, ie22, ie23, ie24, ie25, ie26, ie27, ie28, ie29, ie30, ie31, ie32, ie33, ie34, ie35, ie36, ie37, ie38, ie39⟩ := id hI
  refine lv_aload_n hx hb dX8_week_0 rfl (lv_at hl 0 rfl) ?_
  refine gX_X8_30_0 hx hb hG hown hK hP dX8_week_1 ?_
  refine gX_X8_168_7 hx hb hG hown hK hP dX8_week_4 (fun x1 => ?_)
  refine lv_sipush (v := 999) hx hb dX8_week_7 (by decide) ?_
  refine lv_icmp_lt (tgt := 15) hx hb dX8_week_10 (by decide) (fun c_2 => ?_) (fun c_2 => ?_)
  · skip
    have f3 : x1.toInt < 999 := qi_lt c_2 rfl zc_999
    refine lv_aload_n hx hb dX8_week_15 rfl (lv_at hl 0 rfl) ?_
    refine lv_aload_n hx hb dX8_week_16 rfl (lv_at hl 0 rfl) ?_
    refine gX_X8_30_0 hx hb hG hown hK hP dX8_week_17 ?_
    refine lv_aload_n hx hb dX8_week_20 rfl (lv_at hl 0 rfl) ?_
    refine gX_X8_23_0 hx hb hG hown hK hP dX8_week_21 ?_
    refine gX_X8_171_3 hx hb hG hown hK hP dX8_week_24 (fun x4 => ?_)
    have hFc := frA hD hS hA
    refine va_calli (va_runV (As := [.ref (r 7), .int x4]) (rest := []) ⟨hx, hb, hml, hown, hG⟩ (kX8_passWeek l dC dI r ct i_tapeLength i_time i_lyingCount i_rd_fault i_rd_token i_rd_kind i_sc_count i_sc_at i_A_tunes i_A_houses i_fA_length i_B_tunes i_B_houses i_fB_length i_acts_done i_acts_undone i_kn_count f_boxes f_boxKept f_trial f_offers f_A_noteCounts f_A_notes f_B_noteCounts f_B_notes f_now_where f_now_worn f_ahead_where f_ahead_worn f_acts_rows f_kn_tunes f_kn_noteTimes J L x4 s.heap.size hI hp0) (cwV 2 hG (goodV gw782 gw784 gw24 gw129 gw785) rfl rfl rfl hd_X8_passWeek ⟨(Nat.le_of_ble_eq_true rfl), (Nat.le_of_ble_eq_true rfl)⟩) ⟨fbW, va_recv hK hP (ci := 7) (q0 := 0) rfl rfl, pW_in hP hK hD⟩ rfl rfl hl.1 rfl (lv_room (Nat.le_of_ble_eq_true rfl)) dX8_week_27 ⟨(Nat.le_of_ble_eq_true rfl), (Nat.le_of_ble_eq_true rfl)⟩) hS (fun q _ h => hFc q h) hFc (fun r_6 u_ t_ H5 locs ht hvm hw hB hz1 hk1 hS => ?_)
    subst hw
    obtain ⟨z7, z8, J9, hP1, hD1, hI11, f10⟩ := hB
    rw [ht] at hP1
    have hP := hP1
    have hD := dW hFc hD1
    obtain ⟨im12, im13, im14, im15, im16, im17, im18, im19, im20, im21, im22, im23, im24, im25, im26, im27, im28, im29, im30, im31, im32, im33, im34, im35, im36, im37, im38, im39, im40, im41, im42, im43, im44, im45, im46, im47, im48, im49, im50, im51⟩ := id hI11
    refine lv_istore_n (lv' := [(1, .int r_6), (0, .ref (r 0))]) hx hb dX8_week_30 rfl hl (by decide) rfl (fun ls hl => ?_)
    refine lv_aload_n hx hb dX8_week_31 rfl (lv_at hl 1 rfl) ?_
    refine gX_X8_40_0 hx hb hG hown hK hP dX8_week_32 ?_
    refine lv_aload_n hx hb dX8_week_35 rfl (lv_at hl 1 rfl) ?_
    refine gX_X8_30_0 hx hb hG hown hK hP dX8_week_36 ?_
    have hFc := frA hD hS hA
    refine va_callv (va_runV (As := [.ref (r 7)]) (rest := []) ⟨hx, hb, hml, hown, hG⟩ (kX0_keep l dC dI r ct i_tapeLength i_time i_lyingCount i_rd_fault i_rd_token i_rd_kind i_sc_count i_sc_at i_A_tunes i_A_houses i_fA_length i_B_tunes i_B_houses i_fB_length i_acts_done i_acts_undone i_kn_count f_boxes f_boxKept f_trial f_offers f_A_noteCounts f_A_notes f_B_noteCounts f_B_notes z7 z8 f_ahead_where f_ahead_worn f_acts_rows f_kn_tunes f_kn_noteTimes J9 L H5.size hI11 f10 hp1) (cwV 1 hG (goodV gw796 gw797 gw798 gw135 gw799) rfl rfl rfl hd_X0_keep ⟨(Nat.le_of_ble_eq_true rfl), (Nat.le_of_ble_eq_true rfl)⟩) ⟨fbW, va_recv hK hP (ci := 0) (q0 := 9) rfl rfl, pW_in hP hK hD⟩ rfl rfl hl.1 rfl (lv_room (Nat.le_of_ble_eq_true rfl)) dX8_week_39 ⟨(Nat.le_of_ble_eq_true rfl), (Nat.le_of_ble_eq_true rfl)⟩) hS (fun q _ h => hFc q h) hFc (fun _ t_ H52 locs ht hvm hw hB hz1 hk1 hS => ?_)
    obtain ⟨x54, x55, z56, hP1, hD1, hI58, f57⟩ := hB
    rw [ht] at hP1
    have hP := hP1
    have hD := dW hFc hD1
    obtain ⟨im59, im60, im61, im62, im63, im64, im65, im66, im67, im68, im69, im70, im71, im72, im73, im74, im75, im76, im77, im78, im79, im80, im81, im82, im83, im84, im85, im86, im87, im88, im89, im90, im91, im92, im93, im94, im95, im96, im97, im98⟩ := id hI58
    refine lv_iload_n hx hb dX8_week_42 rfl (lv_at hl 0 rfl) ?_
    rw [hQ]
    exact W.iret (v := r_6) hx hb hr (fun t ht hW => ⟨⟨r_6, r_6, rfl, rfl, ⟨x54, x55, z7, z8, z56, J9, by rw [ht]; exact hP, hD, hI58, f10, f57⟩⟩, hS.F ht⟩) hS.2.2 dX8_week_43
  · skip
    have f99 : 999 ≤ x1.toInt := qi_nlt c_2 rfl zc_999
    refine lv_iconst (v := (-1)) hx hb dX8_week_13 (by decide) ?_
    rw [hQ]
    exact W.iret (v := (-1)) hx hb hr (fun t ht hW => ⟨⟨(-1), (-1), rfl, rfl, ⟨i_acts_done, i_acts_undone, f_now_where, f_now_worn, f_acts_rows, J, by rw [ht]; exact hP, hD, hI, hp0, hp1⟩⟩, hS.F ht⟩) hS.2.2 dX8_week_14
set_option maxHeartbeats 4000000 in
set_option maxRecDepth 100000 in
theorem kX8_bring (l : Launch) (dC : Nat → ClassId) (dI : Nat → Nat → Nat) (r : Nat → Nat) (ct : Nat → ClassId) (i_tapeLength i_time i_lyingCount i_rd_fault i_rd_token i_rd_kind i_sc_count i_sc_at i_A_tunes i_A_houses i_fA_length i_B_tunes i_B_houses i_fB_length i_acts_done i_acts_undone i_kn_count : Int32) (f_boxes f_boxKept f_trial f_offers f_A_noteCounts f_A_notes f_B_noteCounts f_B_notes f_now_where f_now_worn f_ahead_where f_ahead_worn f_acts_rows f_kn_tunes f_kn_noteTimes : Nat → Int32) (J : Nat → Nat → Int32) (L : Nat → Nat → Int64) (p0 p1 : Int32) (sz : Nat) (hI : (IX i_tapeLength i_time i_lyingCount i_rd_token i_sc_count i_sc_at i_A_tunes i_A_houses i_fA_length i_B_tunes i_B_houses i_fB_length i_acts_done i_acts_undone i_kn_count f_boxes f_A_noteCounts f_A_notes f_B_noteCounts f_B_notes f_now_worn f_ahead_worn f_acts_rows f_kn_tunes)) (hp0 : WB i_A_tunes f_now_where) (hp1 : RB i_A_tunes i_acts_done i_acts_undone f_acts_rows) : Met l yX8_bring (.code yX8_bring cX8_bring 3 (some .int) :: GW) { frames := 12, cells := 0, slots := 0, locals := 428 } (va_Pc [.ref (r 0), .int p0, .int p1] (pW (dC, dI) (WX r ct i_tapeLength i_time i_lyingCount i_rd_fault i_rd_token i_rd_kind i_sc_count i_sc_at i_A_tunes i_A_houses i_fA_length i_B_tunes i_B_houses i_fB_length i_acts_done i_acts_undone i_kn_count f_boxes f_boxKept f_trial f_offers f_A_noteCounts f_A_notes f_B_noteCounts f_B_notes f_now_where f_now_worn f_ahead_where f_ahead_worn f_acts_rows f_kn_tunes f_kn_noteTimes J L) (TX ct) sz)) (va_Qi (fun (r0 : Int32) (u : Int32) => r0 = u) (fun (u : Int32) (t : State) => ∃ (n_i_acts_done n_i_acts_undone : Int32) (n_f_now_where n_f_acts_rows : Nat → Int32) (n_J : Nat → Nat → Int32), va_P (dC, dI) vwCl (WX r ct i_tapeLength i_time i_lyingCount i_rd_fault i_rd_token i_rd_kind i_sc_count i_sc_at i_A_tunes i_A_houses i_fA_length i_B_tunes i_B_houses i_fB_length n_i_acts_done n_i_acts_undone i_kn_count f_boxes f_boxKept f_trial f_offers f_A_noteCounts f_A_notes f_B_noteCounts f_B_notes n_f_now_where f_now_worn f_ahead_where f_ahead_worn n_f_acts_rows f_kn_tunes f_kn_noteTimes n_J L) t.heap ∧ va_D (va_A (WX r ct i_tapeLength i_time i_lyingCount i_rd_fault i_rd_token i_rd_kind i_sc_count i_sc_at i_A_tunes i_A_houses i_fA_length i_B_tunes i_B_houses i_fB_length i_acts_done i_acts_undone i_kn_count f_boxes f_boxKept f_trial f_offers f_A_noteCounts f_A_notes f_B_noteCounts f_B_notes f_now_where f_now_worn f_ahead_where f_ahead_worn f_acts_rows f_kn_tunes f_kn_noteTimes J L) sz) (WX r ct i_tapeLength i_time i_lyingCount i_rd_fault i_rd_token i_rd_kind i_sc_count i_sc_at i_A_tunes i_A_houses i_fA_length i_B_tunes i_B_houses i_fB_length n_i_acts_done n_i_acts_undone i_kn_count f_boxes f_boxKept f_trial f_offers f_A_noteCounts f_A_notes f_B_noteCounts f_B_notes n_f_now_where f_now_worn f_ahead_where f_ahead_worn n_f_acts_rows f_kn_tunes f_kn_noteTimes n_J L) ∧ (IX i_tapeLength i_time i_lyingCount i_rd_token i_sc_count i_sc_at i_A_tunes i_A_houses i_fA_length i_B_tunes i_B_houses i_fB_length n_i_acts_done n_i_acts_undone i_kn_count f_boxes f_A_noteCounts f_A_notes f_B_noteCounts f_B_notes f_now_worn f_ahead_worn n_f_acts_rows f_kn_tunes) ∧ (WB i_A_tunes n_f_now_where) ∧ (RB i_A_tunes n_i_acts_done n_i_acts_undone n_f_acts_rows)) (va_A (WX r ct i_tapeLength i_time i_lyingCount i_rd_fault i_rd_token i_rd_kind i_sc_count i_sc_at i_A_tunes i_A_houses i_fA_length i_B_tunes i_B_houses i_fB_length i_acts_done i_acts_undone i_kn_count f_boxes f_boxKept f_trial f_offers f_A_noteCounts f_A_notes f_B_noteCounts f_B_notes f_now_where f_now_worn f_ahead_where f_ahead_worn f_acts_rows f_kn_tunes f_kn_noteTimes J L) sz)) 0 0 (va_A (WX r ct i_tapeLength i_time i_lyingCount i_rd_fault i_rd_token i_rd_kind i_sc_count i_sc_at i_A_tunes i_A_houses i_fA_length i_B_tunes i_B_houses i_fB_length i_acts_done i_acts_undone i_kn_count f_boxes f_boxKept f_trial f_offers f_A_noteCounts f_A_notes f_B_noteCounts f_B_notes f_now_where f_now_worn f_ahead_where f_ahead_worn f_acts_rows f_kn_tunes f_kn_noteTimes J L) sz) := by
  refine Met.ofW (cc := cX8_bring) (maxL := 3) (ret := (some .int)) (by decide) rfl ?_
  intro p e s m args below meth c0 s₁ B hml hv
  obtain ⟨rfl, hsz, hP, hK, hD0⟩ := hv
  have hx := B.exec
  have hb := B.bytes
  have hr := B.returns
  have hts := atoms_spec (ws := .code yX8_bring cX8_bring 3 (some .int) :: GW) B.pre
  have hG : ∀ w ∈ GW, w.before _ s = true := fun w h => hts w (List.mem_cons_of_mem _ h)
  have hown : s.vm.findClass RX8 = some m.cls := findClass_of_methodNamed B.named
  subst hsz
  have hD := hD0.self (sz := s.heap.size)
  generalize hAe : va_A (WX r ct i_tapeLength i_time i_lyingCount i_rd_fault i_rd_token i_rd_kind i_sc_count i_sc_at i_A_tunes i_A_houses i_fA_length i_B_tunes i_B_houses i_fB_length i_acts_done i_acts_undone i_kn_count f_boxes f_boxKept f_trial f_offers f_A_noteCounts f_A_notes f_B_noteCounts f_B_notes f_now_where f_now_worn f_ahead_where f_ahead_worn f_acts_rows f_kn_tunes f_kn_noteTimes J L) s.heap.size = A at hD ⊢
  have hA : ∀ q : Nat, s.heap.size ≤ q → A q := fun q h => by rw [← hAe]; exact Or.inr h
  have hS : va_S A s.heap s.heap [] := va_S.rf
  have hP : va_P (dC, dI) vwCl (WX r ct i_tapeLength i_time i_lyingCount i_rd_fault i_rd_token i_rd_kind i_sc_count i_sc_at i_A_tunes i_A_houses i_fA_length i_B_tunes i_B_houses i_fB_length i_acts_done i_acts_undone i_kn_count f_boxes f_boxKept f_trial f_offers f_A_noteCounts f_A_notes f_B_noteCounts f_B_notes f_now_where f_now_worn f_ahead_where f_ahead_worn f_acts_rows f_kn_tunes f_kn_noteTimes J L) s.heap := hP
  have hl := lv_entry ([.ref (r 0), .int p0, .int p1]) (n := 3) (Nat.le_of_ble_eq_true rfl)
  rw [lg_entry_eq]
  generalize (lg_sl ([.ref (r 0), .int p0, .int p1]) ++ List.replicate (3 - (lg_sl ([.ref (r 0), .int p0, .int p1])).length) Slot.unset).toArray = ls at hl ⊢
  have hl : lv_has ls 3 [(0, .ref (r 0)), (1, .int p0), (2, .int p1)] := hl
  refine nameQ (fun Q hQ => ?_)
  obtain ⟨ie0, ie1, ie2, ie3, ie4, ie5, ie6, ie7, ie8, ie9, ie10, ie11, ie12, ie13, ie14, ie15, ie16, ie17, ie18, ie19, ie20, ie21, ie22, ie23, ie24, ie25, ie26, ie27, ie28, ie29, ie30, ie31, ie32, ie33, ie34, ie35, ie36, ie37, ie38, ie39⟩ := id hI
  refine lv_aload_n hx hb dX8_bring_0 rfl (lv_at hl 0 rfl) ?_
  refine lv_iload_n hx hb dX8_bring_1 rfl (lv_at hl 1 rfl) ?_
  refine va_calli (va_runV (As := [.int p0]) (rest := []) ⟨hx, hb, hml, hown, hG⟩ (kX8_isTune l dC dI r ct i_tapeLength i_time i_lyingCount i_rd_fault i_rd_token i_rd_kind i_sc_count i_sc_at i_A_tunes i_A_houses i_fA_length i_B_tunes i_B_houses i_fB_length i_acts_done i_acts_undone i_kn_count f_boxes f_boxKept f_trial f_offers f_A_noteCounts f_A_notes f_B_noteCounts f_B_notes f_now_where f_now_worn f_ahead_where f_ahead_worn f_acts_rows f_kn_tunes f_kn_noteTimes J L p0 s.heap.size hI) (cwV 1 hG (goodV gw695 gw697 gw20 gw129 gw698) rfl rfl rfl hd_X8_isTune ⟨(Nat.le_of_ble_eq_true rfl), (Nat.le_of_ble_eq_true rfl)⟩) ⟨fbR, va_recv hK hP (ci := 7) (q0 := 0) rfl rfl, pR_in hP hK⟩ rfl rfl hl.1 rfl (lv_room (Nat.le_of_ble_eq_true rfl)) dX8_bring_2 ⟨(Nat.le_of_ble_eq_true rfl), (Nat.le_of_ble_eq_true rfl)⟩) hS (fun q hq h => absurd hq (Nat.not_lt.mpr h)) (fun q h => hA q (Nat.le_trans hS.1 h)) (fun r_2 u_ t_ H1 locs ht hvm hw hB hz1 hk1 hS => ?_)
  subst hw
  have hP := wk hP hk1
  obtain ⟨f3, f4, f5⟩ := hB
  refine lv_if_eq (tgt := 39) hx hb dX8_bring_5 (by decide) (fun c_6 => ?_) (fun c_6 => ?_)
  · skip
    have f7 : r_2.toInt = 0 := qi_eq c_6 rfl zc_0
    refine lv_ldc (v := (-1000000000)) hx hb hown (hG _ gw777) dX8_bring_39 ?_
    rw [hQ]
    exact W.iret (v := (-1000000000)) hx hb hr (fun t ht hW => ⟨⟨(-1000000000), (-1000000000), rfl, rfl, ⟨i_acts_done, i_acts_undone, f_now_where, f_acts_rows, J, by rw [ht]; exact hP, hD, hI, hp0, hp1⟩⟩, hS.F ht⟩) hS.2.2 dX8_bring_41
  · skip
    have f8 : r_2.toInt ≠ 0 := qi_ne c_6 rfl zc_0
    have f9 : (0 : Int) ≤ p0.toInt := (ox_50 f3 f8)
    have f10 : p0.toInt + 1 ≤ i_A_tunes.toInt := (ox_51 f3 f8)
    have f11 : r_2.toInt = (1 : Int) := (ox_52 f3 f8)
    have f12 : (1 : Int) ≤ r_2.toInt := (ox_53 f4 f5 f11)
    refine lv_aload_n hx hb dX8_bring_8 rfl (lv_at hl 0 rfl) ?_
    refine lv_iload_n hx hb dX8_bring_9 rfl (lv_at hl 2 rfl) ?_
    refine va_calli (va_runV (As := [.int p1]) (rest := []) ⟨hx, hb, hml, hown, hG⟩ (kX8_isHouse l dC dI r ct i_tapeLength i_time i_lyingCount i_rd_fault i_rd_token i_rd_kind i_sc_count i_sc_at i_A_tunes i_A_houses i_fA_length i_B_tunes i_B_houses i_fB_length i_acts_done i_acts_undone i_kn_count f_boxes f_boxKept f_trial f_offers f_A_noteCounts f_A_notes f_B_noteCounts f_B_notes f_now_where f_now_worn f_ahead_where f_ahead_worn f_acts_rows f_kn_tunes f_kn_noteTimes J L p1 H1.size hI) (cwV 1 hG (goodV gw716 gw718 gw21 gw129 gw719) rfl rfl rfl hd_X8_isHouse ⟨(Nat.le_of_ble_eq_true rfl), (Nat.le_of_ble_eq_true rfl)⟩) ⟨fbR, va_recv hK hP (ci := 7) (q0 := 0) rfl rfl, pR_in hP hK⟩ rfl rfl hl.1 rfl (lv_room (Nat.le_of_ble_eq_true rfl)) dX8_bring_10 ⟨(Nat.le_of_ble_eq_true rfl), (Nat.le_of_ble_eq_true rfl)⟩) hS (fun q hq h => absurd hq (Nat.not_lt.mpr h)) (fun q h => hA q (Nat.le_trans hS.1 h)) (fun r_14 u_ t_ H13 locs ht hvm hw hB hz1 hk1 hS => ?_)
    subst hw
    have hP := wk hP hk1
    obtain ⟨f15, f16, f17⟩ := hB
    refine lv_if_eq (tgt := 39) hx hb dX8_bring_13 (by decide) (fun c_18 => ?_) (fun c_18 => ?_)
    · skip
      have f19 : r_14.toInt = 0 := qi_eq c_18 rfl zc_0
      refine lv_ldc (v := (-1000000000)) hx hb hown (hG _ gw777) dX8_bring_39 ?_
      rw [hQ]
      exact W.iret (v := (-1000000000)) hx hb hr (fun t ht hW => ⟨⟨(-1000000000), (-1000000000), rfl, rfl, ⟨i_acts_done, i_acts_undone, f_now_where, f_acts_rows, J, by rw [ht]; exact hP, hD, hI, hp0, hp1⟩⟩, hS.F ht⟩) hS.2.2 dX8_bring_41
    · skip
      have f20 : r_14.toInt ≠ 0 := qi_ne c_18 rfl zc_0
      have f21 : (0 : Int) ≤ p1.toInt := (ox_50 f15 f20)
      have f22 : p1.toInt + 1 ≤ i_A_houses.toInt := (ox_51 f15 f20)
      have f23 : r_14.toInt = (1 : Int) := (ox_52 f15 f20)
      have f24 : (1 : Int) ≤ r_14.toInt := (ox_53 f16 f17 f23)
      refine lv_aload_n hx hb dX8_bring_16 rfl (lv_at hl 0 rfl) ?_
      refine gX_X8_30_0 hx hb hG hown hK hP dX8_bring_17 ?_
      refine lv_iload_n hx hb dX8_bring_20 rfl (lv_at hl 1 rfl) ?_
      refine va_calli (va_runV (As := [.int p0]) (rest := []) ⟨hx, hb, hml, hown, hG⟩ (kX7_isOnCart l dC dI r ct i_tapeLength i_time i_lyingCount i_rd_fault i_rd_token i_rd_kind i_sc_count i_sc_at i_A_tunes i_A_houses i_fA_length i_B_tunes i_B_houses i_fB_length i_acts_done i_acts_undone i_kn_count f_boxes f_boxKept f_trial f_offers f_A_noteCounts f_A_notes f_B_noteCounts f_B_notes f_now_where f_now_worn f_ahead_where f_ahead_worn f_acts_rows f_kn_tunes f_kn_noteTimes J L p0 H13.size hI (ox_54 f9 f10) (ox_211 ie13 f10)) (cwV 1 hG (goodV gw805 gw746 gw747 gw134 gw748) rfl rfl rfl hd_X7_isOnCart ⟨(Nat.le_of_ble_eq_true rfl), (Nat.le_of_ble_eq_true rfl)⟩) ⟨fbR, va_recv hK hP (ci := 6) (q0 := 7) rfl rfl, pR_in hP hK⟩ rfl rfl hl.1 rfl (lv_room (Nat.le_of_ble_eq_true rfl)) dX8_bring_21 ⟨(Nat.le_of_ble_eq_true rfl), (Nat.le_of_ble_eq_true rfl)⟩) hS (fun q hq h => absurd hq (Nat.not_lt.mpr h)) (fun q h => hA q (Nat.le_trans hS.1 h)) (fun r_26 u_ t_ H25 locs ht hvm hw hB hz1 hk1 hS => ?_)
      subst hw
      have hP := wk hP hk1
      obtain ⟨f27, f28, f29⟩ := hB
      refine lv_if_eq (tgt := 39) hx hb dX8_bring_24 (by decide) (fun c_30 => ?_) (fun c_30 => ?_)
      · skip
        have f31 : r_26.toInt = 0 := qi_eq c_30 rfl zc_0
        have f32 : (f_now_where (p0.toInt).toNat).toInt + 1 ≠ (0 : Int) := (ox_107 f27 f31)
        have f33 : r_26.toInt = (0 : Int) := (ox_92 f28 f29 f31)
        refine lv_ldc (v := (-1000000000)) hx hb hown (hG _ gw777) dX8_bring_39 ?_
        rw [hQ]
        exact W.iret (v := (-1000000000)) hx hb hr (fun t ht hW => ⟨⟨(-1000000000), (-1000000000), rfl, rfl, ⟨i_acts_done, i_acts_undone, f_now_where, f_acts_rows, J, by rw [ht]; exact hP, hD, hI, hp0, hp1⟩⟩, hS.F ht⟩) hS.2.2 dX8_bring_41
      · skip
        have f34 : r_26.toInt ≠ 0 := qi_ne c_30 rfl zc_0
        have f35 : (f_now_where (p0.toInt).toNat).toInt + 1 = (0 : Int) := (ox_105 f27 f34)
        have f36 : r_26.toInt = (1 : Int) := (ox_106 f27 f34)
        have f37 : (1 : Int) ≤ r_26.toInt := (ox_53 f28 f29 f36)
        refine lv_aload_n hx hb dX8_bring_27 rfl (lv_at hl 0 rfl) ?_
        refine gX_X8_30_0 hx hb hG hown hK hP dX8_bring_28 ?_
        refine lv_iload_n hx hb dX8_bring_31 rfl (lv_at hl 2 rfl) ?_
        refine va_calli (va_runV (As := [.int p1]) (rest := []) ⟨hx, hb, hml, hown, hG⟩ (kX7_onApprovalIn l dC dI r ct i_tapeLength i_time i_lyingCount i_rd_fault i_rd_token i_rd_kind i_sc_count i_sc_at i_A_tunes i_A_houses i_fA_length i_B_tunes i_B_houses i_fB_length i_acts_done i_acts_undone i_kn_count f_boxes f_boxKept f_trial f_offers f_A_noteCounts f_A_notes f_B_noteCounts f_B_notes f_now_where f_now_worn f_ahead_where f_ahead_worn f_acts_rows f_kn_tunes f_kn_noteTimes J L p1 H25.size hI (ox_54 f21 f22) hp0) (cwV 1 hG (goodV gw720 gw721 gw722 gw134 gw723) rfl rfl rfl hd_X7_onApprovalIn ⟨(Nat.le_of_ble_eq_true rfl), (Nat.le_of_ble_eq_true rfl)⟩) ⟨fbR, va_recv hK hP (ci := 6) (q0 := 7) rfl rfl, pR_in hP hK⟩ rfl rfl hl.1 rfl (lv_room (Nat.le_of_ble_eq_true rfl)) dX8_bring_32 ⟨(Nat.le_of_ble_eq_true rfl), (Nat.le_of_ble_eq_true rfl)⟩) hS (fun q hq h => absurd hq (Nat.not_lt.mpr h)) (fun q h => hA q (Nat.le_trans hS.1 h)) (fun r_39 u_ t_ H38 locs ht hvm hw hB hz1 hk1 hS => ?_)
        subst hw
        have hP := wk hP hk1
        obtain ⟨f40, f41, f42⟩ := hB
        refine lv_iconst (v := (-1)) hx hb dX8_bring_35 (by decide) ?_
        refine lv_icmp_eq (tgt := 42) hx hb dX8_bring_36 (by decide) (fun c_43 => ?_) (fun c_43 => ?_)
        · skip
          have f44 : r_39.toInt = (-1) := qi_eq c_43 rfl zc_m1
          refine lv_aload_n hx hb dX8_bring_42 rfl (lv_at hl 0 rfl) ?_
          refine gX_X8_30_0 hx hb hG hown hK hP dX8_bring_43 ?_
          refine gX_X8_125_7 hx hb hG hown hK hP dX8_bring_46 ?_
          refine lv_iload_n hx hb dX8_bring_49 rfl (lv_at hl 1 rfl) ?_
          refine lv_iload_n hx hb dX8_bring_50 rfl (lv_at hl 2 rfl) ?_
          refine stX_41 (mm := p0.toInt) hx hb hK hP hD hS rfl (ox_33 f9 f10) (ox_34 ie13 f10) dX8_bring_51 (fun z46 H45 locs ez46 hP hD hS => ?_)
          refine lv_aload_n hx hb dX8_bring_52 rfl (lv_at hl 0 rfl) ?_
          refine gX_X8_40_0 hx hb hG hown hK hP dX8_bring_53 ?_
          refine lv_aload_n hx hb dX8_bring_56 rfl (lv_at hl 0 rfl) ?_
          refine gX_X8_30_0 hx hb hG hown hK hP dX8_bring_57 ?_
          have hFc := frA hD hS hA
          refine va_callv (va_runV (As := [.ref (r 7)]) (rest := []) ⟨hx, hb, hml, hown, hG⟩ (kX0_keep l dC dI r ct i_tapeLength i_time i_lyingCount i_rd_fault i_rd_token i_rd_kind i_sc_count i_sc_at i_A_tunes i_A_houses i_fA_length i_B_tunes i_B_houses i_fB_length i_acts_done i_acts_undone i_kn_count f_boxes f_boxKept f_trial f_offers f_A_noteCounts f_A_notes f_B_noteCounts f_B_notes z46 f_now_worn f_ahead_where f_ahead_worn f_acts_rows f_kn_tunes f_kn_noteTimes J L H45.size hI (WB_lt hp0 ez46 (ox_33 f9 f10) (ox_300 f10)) hp1) (cwV 1 hG (goodV gw796 gw797 gw798 gw135 gw799) rfl rfl rfl hd_X0_keep ⟨(Nat.le_of_ble_eq_true rfl), (Nat.le_of_ble_eq_true rfl)⟩) ⟨fbW, va_recv hK hP (ci := 0) (q0 := 9) rfl rfl, pW_in hP hK hD⟩ rfl rfl hl.1 rfl (lv_room (Nat.le_of_ble_eq_true rfl)) dX8_bring_60 ⟨(Nat.le_of_ble_eq_true rfl), (Nat.le_of_ble_eq_true rfl)⟩) hS (fun q _ h => hFc q h) hFc (fun _ t_ H47 locs ht hvm hw hB hz1 hk1 hS => ?_)
          obtain ⟨x49, x50, z51, hP1, hD1, hI53, f52⟩ := hB
          rw [ht] at hP1
          have hP := hP1
          have hD := dW hFc hD1
          obtain ⟨im54, im55, im56, im57, im58, im59, im60, im61, im62, im63, im64, im65, im66, im67, im68, im69, im70, im71, im72, im73, im74, im75, im76, im77, im78, im79, im80, im81, im82, im83, im84, im85, im86, im87, im88, im89, im90, im91, im92, im93⟩ := id hI53
          refine lv_aload_n hx hb dX8_bring_63 rfl (lv_at hl 0 rfl) ?_
          refine lv_iload_n hx hb dX8_bring_64 rfl (lv_at hl 2 rfl) ?_
          refine lv_iload_n hx hb dX8_bring_65 rfl (lv_at hl 1 rfl) ?_
          have hFc := frA hD hS hA
          refine va_calli (va_runV (As := [.int p1, .int p0]) (rest := []) ⟨hx, hb, hml, hown, hG⟩ (kX8_gladNow l dC dI r ct i_tapeLength i_time i_lyingCount i_rd_fault i_rd_token i_rd_kind i_sc_count i_sc_at i_A_tunes i_A_houses i_fA_length i_B_tunes i_B_houses i_fB_length x49 x50 i_kn_count f_boxes f_boxKept f_trial f_offers f_A_noteCounts f_A_notes f_B_noteCounts f_B_notes z46 f_now_worn f_ahead_where f_ahead_worn z51 f_kn_tunes f_kn_noteTimes J L p1 p0 H47.size hI53 (ox_54 f21 f22) (ox_55 f22) (ox_54 f9 f10) (ox_55 f10)) (cwV 2 hG (goodV gw737 gw739 gw23 gw129 gw740) rfl rfl rfl hd_X8_gladNow ⟨(Nat.le_of_ble_eq_true rfl), (Nat.le_of_ble_eq_true rfl)⟩) ⟨fbW, va_recv hK hP (ci := 7) (q0 := 0) rfl rfl, pW_in hP hK hD⟩ rfl rfl hl.1 rfl (lv_room (Nat.le_of_ble_eq_true rfl)) dX8_bring_66 ⟨(Nat.le_of_ble_eq_true rfl), (Nat.le_of_ble_eq_true rfl)⟩) hS (fun q _ h => hFc q h) hFc (fun r_95 u_ t_ H94 locs ht hvm hw hB hz1 hk1 hS => ?_)
          subst hw
          obtain ⟨J96, hP1, hD1, hI97⟩ := hB
          rw [ht] at hP1
          have hP := hP1
          have hD := dW hFc hD1
          obtain ⟨im98, im99, im100, im101, im102, im103, im104, im105, im106, im107, im108, im109, im110, im111, im112, im113, im114, im115, im116, im117, im118, im119, im120, im121, im122, im123, im124, im125, im126, im127, im128, im129, im130, im131, im132, im133, im134, im135, im136, im137⟩ := id hI97
          rw [hQ]
          exact W.iret (v := r_95) hx hb hr (fun t ht hW => ⟨⟨r_95, r_95, rfl, rfl, ⟨x49, x50, z46, z51, J96, by rw [ht]; exact hP, hD, hI97, (WB_lt hp0 ez46 (ox_33 f9 f10) (ox_300 f10)), f52⟩⟩, hS.F ht⟩) hS.2.2 dX8_bring_69
        · skip
          have f138 : r_39.toInt ≠ (-1) := qi_ne c_43 rfl zc_m1
          have f139 : (0 : Int) ≤ r_39.toInt := (ox_222 f40 f138)
          refine lv_ldc (v := (-1000000000)) hx hb hown (hG _ gw777) dX8_bring_39 ?_
          rw [hQ]
          exact W.iret (v := (-1000000000)) hx hb hr (fun t ht hW => ⟨⟨(-1000000000), (-1000000000), rfl, rfl, ⟨i_acts_done, i_acts_undone, f_now_where, f_acts_rows, J, by rw [ht]; exact hP, hD, hI, hp0, hp1⟩⟩, hS.F ht⟩) hS.2.2 dX8_bring_41
set_option maxHeartbeats 4000000 in
set_option maxRecDepth 100000 in
theorem kX8_fetch (l : Launch) (dC : Nat → ClassId) (dI : Nat → Nat → Nat) (r : Nat → Nat) (ct : Nat → ClassId) (i_tapeLength i_time i_lyingCount i_rd_fault i_rd_token i_rd_kind i_sc_count i_sc_at i_A_tunes i_A_houses i_fA_length i_B_tunes i_B_houses i_fB_length i_acts_done i_acts_undone i_kn_count : Int32) (f_boxes f_boxKept f_trial f_offers f_A_noteCounts f_A_notes f_B_noteCounts f_B_notes f_now_where f_now_worn f_ahead_where f_ahead_worn f_acts_rows f_kn_tunes f_kn_noteTimes : Nat → Int32) (J : Nat → Nat → Int32) (L : Nat → Nat → Int64) (p0 : Int32) (sz : Nat) (hI : (IX i_tapeLength i_time i_lyingCount i_rd_token i_sc_count i_sc_at i_A_tunes i_A_houses i_fA_length i_B_tunes i_B_houses i_fB_length i_acts_done i_acts_undone i_kn_count f_boxes f_A_noteCounts f_A_notes f_B_noteCounts f_B_notes f_now_worn f_ahead_worn f_acts_rows f_kn_tunes)) (hp0 : WB i_A_tunes f_now_where) (hp1 : RB i_A_tunes i_acts_done i_acts_undone f_acts_rows) : Met l yX8_fetch (.code yX8_fetch cX8_fetch 3 (some .int) :: GW) { frames := 8, cells := 0, slots := 0, locals := 284 } (va_Pc [.ref (r 0), .int p0] (pW (dC, dI) (WX r ct i_tapeLength i_time i_lyingCount i_rd_fault i_rd_token i_rd_kind i_sc_count i_sc_at i_A_tunes i_A_houses i_fA_length i_B_tunes i_B_houses i_fB_length i_acts_done i_acts_undone i_kn_count f_boxes f_boxKept f_trial f_offers f_A_noteCounts f_A_notes f_B_noteCounts f_B_notes f_now_where f_now_worn f_ahead_where f_ahead_worn f_acts_rows f_kn_tunes f_kn_noteTimes J L) (TX ct) sz)) (va_Qi (fun (r0 : Int32) (u : Int32) => r0 = u) (fun (u : Int32) (t : State) => ∃ (n_i_acts_done n_i_acts_undone : Int32) (n_f_now_where n_f_acts_rows : Nat → Int32) (n_J : Nat → Nat → Int32), va_P (dC, dI) vwCl (WX r ct i_tapeLength i_time i_lyingCount i_rd_fault i_rd_token i_rd_kind i_sc_count i_sc_at i_A_tunes i_A_houses i_fA_length i_B_tunes i_B_houses i_fB_length n_i_acts_done n_i_acts_undone i_kn_count f_boxes f_boxKept f_trial f_offers f_A_noteCounts f_A_notes f_B_noteCounts f_B_notes n_f_now_where f_now_worn f_ahead_where f_ahead_worn n_f_acts_rows f_kn_tunes f_kn_noteTimes n_J L) t.heap ∧ va_D (va_A (WX r ct i_tapeLength i_time i_lyingCount i_rd_fault i_rd_token i_rd_kind i_sc_count i_sc_at i_A_tunes i_A_houses i_fA_length i_B_tunes i_B_houses i_fB_length i_acts_done i_acts_undone i_kn_count f_boxes f_boxKept f_trial f_offers f_A_noteCounts f_A_notes f_B_noteCounts f_B_notes f_now_where f_now_worn f_ahead_where f_ahead_worn f_acts_rows f_kn_tunes f_kn_noteTimes J L) sz) (WX r ct i_tapeLength i_time i_lyingCount i_rd_fault i_rd_token i_rd_kind i_sc_count i_sc_at i_A_tunes i_A_houses i_fA_length i_B_tunes i_B_houses i_fB_length n_i_acts_done n_i_acts_undone i_kn_count f_boxes f_boxKept f_trial f_offers f_A_noteCounts f_A_notes f_B_noteCounts f_B_notes n_f_now_where f_now_worn f_ahead_where f_ahead_worn n_f_acts_rows f_kn_tunes f_kn_noteTimes n_J L) ∧ (IX i_tapeLength i_time i_lyingCount i_rd_token i_sc_count i_sc_at i_A_tunes i_A_houses i_fA_length i_B_tunes i_B_houses i_fB_length n_i_acts_done n_i_acts_undone i_kn_count f_boxes f_A_noteCounts f_A_notes f_B_noteCounts f_B_notes f_now_worn f_ahead_worn n_f_acts_rows f_kn_tunes) ∧ (WB i_A_tunes n_f_now_where) ∧ (RB i_A_tunes n_i_acts_done n_i_acts_undone n_f_acts_rows)) (va_A (WX r ct i_tapeLength i_time i_lyingCount i_rd_fault i_rd_token i_rd_kind i_sc_count i_sc_at i_A_tunes i_A_houses i_fA_length i_B_tunes i_B_houses i_fB_length i_acts_done i_acts_undone i_kn_count f_boxes f_boxKept f_trial f_offers f_A_noteCounts f_A_notes f_B_noteCounts f_B_notes f_now_where f_now_worn f_ahead_where f_ahead_worn f_acts_rows f_kn_tunes f_kn_noteTimes J L) sz)) 0 0 (va_A (WX r ct i_tapeLength i_time i_lyingCount i_rd_fault i_rd_token i_rd_kind i_sc_count i_sc_at i_A_tunes i_A_houses i_fA_length i_B_tunes i_B_houses i_fB_length i_acts_done i_acts_undone i_kn_count f_boxes f_boxKept f_trial f_offers f_A_noteCounts f_A_notes f_B_noteCounts f_B_notes f_now_where f_now_worn f_ahead_where f_ahead_worn f_acts_rows f_kn_tunes f_kn_noteTimes J L) sz) := by
  refine Met.ofW (cc := cX8_fetch) (maxL := 3) (ret := (some .int)) (by decide) rfl ?_
  intro p e s m args below meth c0 s₁ B hml hv
  obtain ⟨rfl, hsz, hP, hK, hD0⟩ := hv
  have hx := B.exec
  have hb := B.bytes
  have hr := B.returns
  have hts := atoms_spec (ws := .code yX8_fetch cX8_fetch 3 (some .int) :: GW) B.pre
  have hG : ∀ w ∈ GW, w.before _ s = true := fun w h => hts w (List.mem_cons_of_mem _ h)
  have hown : s.vm.findClass RX8 = some m.cls := findClass_of_methodNamed B.named
  subst hsz
  have hD := hD0.self (sz := s.heap.size)
  generalize hAe : va_A (WX r ct i_tapeLength i_time i_lyingCount i_rd_fault i_rd_token i_rd_kind i_sc_count i_sc_at i_A_tunes i_A_houses i_fA_length i_B_tunes i_B_houses i_fB_length i_acts_done i_acts_undone i_kn_count f_boxes f_boxKept f_trial f_offers f_A_noteCounts f_A_notes f_B_noteCounts f_B_notes f_now_where f_now_worn f_ahead_where f_ahead_worn f_acts_rows f_kn_tunes f_kn_noteTimes J L) s.heap.size = A at hD ⊢
  have hA : ∀ q : Nat, s.heap.size ≤ q → A q := fun q h => by rw [← hAe]; exact Or.inr h
  have hS : va_S A s.heap s.heap [] := va_S.rf
  have hP : va_P (dC, dI) vwCl (WX r ct i_tapeLength i_time i_lyingCount i_rd_fault i_rd_token i_rd_kind i_sc_count i_sc_at i_A_tunes i_A_houses i_fA_length i_B_tunes i_B_houses i_fB_length i_acts_done i_acts_undone i_kn_count f_boxes f_boxKept f_trial f_offers f_A_noteCounts f_A_notes f_B_noteCounts f_B_notes f_now_where f_now_worn f_ahead_where f_ahead_worn f_acts_rows f_kn_tunes f_kn_noteTimes J L) s.heap := hP
  have hl := lv_entry ([.ref (r 0), .int p0]) (n := 3) (Nat.le_of_ble_eq_true rfl)
  rw [lg_entry_eq]
  generalize (lg_sl ([.ref (r 0), .int p0]) ++ List.replicate (3 - (lg_sl ([.ref (r 0), .int p0])).length) Slot.unset).toArray = ls at hl ⊢
  have hl : lv_has ls 3 [(0, .ref (r 0)), (1, .int p0)] := hl
  refine nameQ (fun Q hQ => ?_)
  obtain ⟨ie0, ie1, ie2, ie3, ie4, ie5, ie6, ie7, ie8, ie9, ie10, ie11, ie12, ie13, ie14, ie15, ie16, ie17, ie18, ie19, ie20, ie21, ie22, ie23, ie24, ie25, ie26, ie27, ie28, ie29, ie30, ie31, ie32, ie33, ie34, ie35, ie36, ie37, ie38, ie39⟩ := id hI
  refine lv_aload_n hx hb dX8_fetch_0 rfl (lv_at hl 0 rfl) ?_
  refine lv_iload_n hx hb dX8_fetch_1 rfl (lv_at hl 1 rfl) ?_
  refine va_calli (va_runV (As := [.int p0]) (rest := []) ⟨hx, hb, hml, hown, hG⟩ (kX8_isTune l dC dI r ct i_tapeLength i_time i_lyingCount i_rd_fault i_rd_token i_rd_kind i_sc_count i_sc_at i_A_tunes i_A_houses i_fA_length i_B_tunes i_B_houses i_fB_length i_acts_done i_acts_undone i_kn_count f_boxes f_boxKept f_trial f_offers f_A_noteCounts f_A_notes f_B_noteCounts f_B_notes f_now_where f_now_worn f_ahead_where f_ahead_worn f_acts_rows f_kn_tunes f_kn_noteTimes J L p0 s.heap.size hI) (cwV 1 hG (goodV gw695 gw697 gw20 gw129 gw698) rfl rfl rfl hd_X8_isTune ⟨(Nat.le_of_ble_eq_true rfl), (Nat.le_of_ble_eq_true rfl)⟩) ⟨fbR, va_recv hK hP (ci := 7) (q0 := 0) rfl rfl, pR_in hP hK⟩ rfl rfl hl.1 rfl (lv_room (Nat.le_of_ble_eq_true rfl)) dX8_fetch_2 ⟨(Nat.le_of_ble_eq_true rfl), (Nat.le_of_ble_eq_true rfl)⟩) hS (fun q hq h => absurd hq (Nat.not_lt.mpr h)) (fun q h => hA q (Nat.le_trans hS.1 h)) (fun r_2 u_ t_ H1 locs ht hvm hw hB hz1 hk1 hS => ?_)
  subst hw
  have hP := wk hP hk1
  obtain ⟨f3, f4, f5⟩ := hB
  refine lv_if_eq (tgt := 19) hx hb dX8_fetch_5 (by decide) (fun c_6 => ?_) (fun c_6 => ?_)
  · skip
    have f7 : r_2.toInt = 0 := qi_eq c_6 rfl zc_0
    refine lv_iconst (v := (-1)) hx hb dX8_fetch_19 (by decide) ?_
    rw [hQ]
    exact W.iret (v := (-1)) hx hb hr (fun t ht hW => ⟨⟨(-1), (-1), rfl, rfl, ⟨i_acts_done, i_acts_undone, f_now_where, f_acts_rows, J, by rw [ht]; exact hP, hD, hI, hp0, hp1⟩⟩, hS.F ht⟩) hS.2.2 dX8_fetch_20
  · skip
    have f8 : r_2.toInt ≠ 0 := qi_ne c_6 rfl zc_0
    have f9 : (0 : Int) ≤ p0.toInt := (ox_50 f3 f8)
    have f10 : p0.toInt + 1 ≤ i_A_tunes.toInt := (ox_51 f3 f8)
    have f11 : r_2.toInt = (1 : Int) := (ox_52 f3 f8)
    have f12 : (1 : Int) ≤ r_2.toInt := (ox_53 f4 f5 f11)
    refine lv_aload_n hx hb dX8_fetch_8 rfl (lv_at hl 0 rfl) ?_
    refine gX_X8_30_0 hx hb hG hown hK hP dX8_fetch_9 ?_
    refine lv_iload_n hx hb dX8_fetch_12 rfl (lv_at hl 1 rfl) ?_
    refine va_calli (va_runV (As := [.int p0]) (rest := []) ⟨hx, hb, hml, hown, hG⟩ (kX7_isOnApproval l dC dI r ct i_tapeLength i_time i_lyingCount i_rd_fault i_rd_token i_rd_kind i_sc_count i_sc_at i_A_tunes i_A_houses i_fA_length i_B_tunes i_B_houses i_fB_length i_acts_done i_acts_undone i_kn_count f_boxes f_boxKept f_trial f_offers f_A_noteCounts f_A_notes f_B_noteCounts f_B_notes f_now_where f_now_worn f_ahead_where f_ahead_worn f_acts_rows f_kn_tunes f_kn_noteTimes J L p0 H1.size hI (ox_54 f9 f10) (ox_211 ie13 f10)) (cwV 1 hG (goodV gw741 gw742 gw743 gw134 gw744) rfl rfl rfl hd_X7_isOnApproval ⟨(Nat.le_of_ble_eq_true rfl), (Nat.le_of_ble_eq_true rfl)⟩) ⟨fbR, va_recv hK hP (ci := 6) (q0 := 7) rfl rfl, pR_in hP hK⟩ rfl rfl hl.1 rfl (lv_room (Nat.le_of_ble_eq_true rfl)) dX8_fetch_13 ⟨(Nat.le_of_ble_eq_true rfl), (Nat.le_of_ble_eq_true rfl)⟩) hS (fun q hq h => absurd hq (Nat.not_lt.mpr h)) (fun q h => hA q (Nat.le_trans hS.1 h)) (fun r_14 u_ t_ H13 locs ht hvm hw hB hz1 hk1 hS => ?_)
    subst hw
    have hP := wk hP hk1
    obtain ⟨f15, f16, f17⟩ := hB
    refine lv_if_ne (tgt := 21) hx hb dX8_fetch_16 (by decide) (fun c_18 => ?_) (fun c_18 => ?_)
    · skip
      have f19 : r_14.toInt ≠ 0 := qi_ne c_18 rfl zc_0
      have f20 : r_14.toInt = (1 : Int) := (ox_91 f15 f19)
      have f21 : (1 : Int) ≤ r_14.toInt := (ox_53 f16 f17 f20)
      refine lv_aload_n hx hb dX8_fetch_21 rfl (lv_at hl 0 rfl) ?_
      refine gX_X8_30_0 hx hb hG hown hK hP dX8_fetch_22 ?_
      refine gX_X8_125_7 hx hb hG hown hK hP dX8_fetch_25 ?_
      refine lv_iload_n hx hb dX8_fetch_28 rfl (lv_at hl 1 rfl) ?_
      refine ldX_41 (mm := p0.toInt) hx hb hK hP rfl (ox_33 f9 f10) (ox_34 ie13 f10) dX8_fetch_29 ?_
      have f22 : i_A_tunes.toInt ≤ p0.toInt → p0.toInt < 5 → (f_now_where (p0.toInt).toNat).toInt = -1 := hp0 (p0.toInt)
      refine lv_istore_n (lv' := [(2, .int (f_now_where (p0.toInt).toNat)), (0, .ref (r 0)), (1, .int p0)]) hx hb dX8_fetch_30 rfl hl (by decide) rfl (fun ls hl => ?_)
      refine lv_aload_n hx hb dX8_fetch_31 rfl (lv_at hl 1 rfl) ?_
      refine gX_X8_30_0 hx hb hG hown hK hP dX8_fetch_32 ?_
      refine lv_iload_n hx hb dX8_fetch_35 rfl (lv_at hl 2 rfl) ?_
      have hFc := frA hD hS hA
      refine va_callv (va_runV (As := [.int p0]) (rest := []) ⟨hx, hb, hml, hown, hG⟩ (kX7_backOnCart l dC dI r ct i_tapeLength i_time i_lyingCount i_rd_fault i_rd_token i_rd_kind i_sc_count i_sc_at i_A_tunes i_A_houses i_fA_length i_B_tunes i_B_houses i_fB_length i_acts_done i_acts_undone i_kn_count f_boxes f_boxKept f_trial f_offers f_A_noteCounts f_A_notes f_B_noteCounts f_B_notes f_now_where f_now_worn f_ahead_where f_ahead_worn f_acts_rows f_kn_tunes f_kn_noteTimes J L p0 H13.size hI (ox_54 f9 f10) (ox_211 ie13 f10)) (cwV 1 hG (goodV gw794 gw454 gw455 gw134 gw456) rfl rfl rfl hd_X7_backOnCart ⟨(Nat.le_of_ble_eq_true rfl), (Nat.le_of_ble_eq_true rfl)⟩) ⟨fbW, va_recv hK hP (ci := 6) (q0 := 7) rfl rfl, pW_in hP hK hD⟩ rfl rfl hl.1 rfl (lv_room (Nat.le_of_ble_eq_true rfl)) dX8_fetch_36 ⟨(Nat.le_of_ble_eq_true rfl), (Nat.le_of_ble_eq_true rfl)⟩) hS (fun q _ h => hFc q h) hFc (fun _ t_ H23 locs ht hvm hw hB hz1 hk1 hS => ?_)
      obtain ⟨z25, J26, hP1, hD1, hI28, f27⟩ := hB
      rw [ht] at hP1
      have hP := hP1
      have hD := dW hFc hD1
      obtain ⟨im29, im30, im31, im32, im33, im34, im35, im36, im37, im38, im39, im40, im41, im42, im43, im44, im45, im46, im47, im48, im49, im50, im51, im52, im53, im54, im55, im56, im57, im58, im59, im60, im61, im62, im63, im64, im65, im66, im67, im68⟩ := id hI28
      refine lv_aload_n hx hb dX8_fetch_39 rfl (lv_at hl 1 rfl) ?_
      refine gX_X8_40_0 hx hb hG hown hK hP dX8_fetch_40 ?_
      refine lv_aload_n hx hb dX8_fetch_43 rfl (lv_at hl 1 rfl) ?_
      refine gX_X8_30_0 hx hb hG hown hK hP dX8_fetch_44 ?_
      have hFc := frA hD hS hA
      refine va_callv (va_runV (As := [.ref (r 7)]) (rest := []) ⟨hx, hb, hml, hown, hG⟩ (kX0_keep l dC dI r ct i_tapeLength i_time i_lyingCount i_rd_fault i_rd_token i_rd_kind i_sc_count i_sc_at i_A_tunes i_A_houses i_fA_length i_B_tunes i_B_houses i_fB_length i_acts_done i_acts_undone i_kn_count f_boxes f_boxKept f_trial f_offers f_A_noteCounts f_A_notes f_B_noteCounts f_B_notes z25 f_now_worn f_ahead_where f_ahead_worn f_acts_rows f_kn_tunes f_kn_noteTimes J26 L H23.size hI28 (WB_m1 hp0 f27 zc_m1) hp1) (cwV 1 hG (goodV gw796 gw797 gw798 gw135 gw799) rfl rfl rfl hd_X0_keep ⟨(Nat.le_of_ble_eq_true rfl), (Nat.le_of_ble_eq_true rfl)⟩) ⟨fbW, va_recv hK hP (ci := 0) (q0 := 9) rfl rfl, pW_in hP hK hD⟩ rfl rfl hl.1 rfl (lv_room (Nat.le_of_ble_eq_true rfl)) dX8_fetch_47 ⟨(Nat.le_of_ble_eq_true rfl), (Nat.le_of_ble_eq_true rfl)⟩) hS (fun q _ h => hFc q h) hFc (fun _ t_ H69 locs ht hvm hw hB hz1 hk1 hS => ?_)
      obtain ⟨x71, x72, z73, hP1, hD1, hI75, f74⟩ := hB
      rw [ht] at hP1
      have hP := hP1
      have hD := dW hFc hD1
      obtain ⟨im76, im77, im78, im79, im80, im81, im82, im83, im84, im85, im86, im87, im88, im89, im90, im91, im92, im93, im94, im95, im96, im97, im98, im99, im100, im101, im102, im103, im104, im105, im106, im107, im108, im109, im110, im111, im112, im113, im114, im115⟩ := id hI75
      refine lv_iload_n hx hb dX8_fetch_50 rfl (lv_at hl 0 rfl) ?_
      rw [hQ]
      exact W.iret (v := (f_now_where (p0.toInt).toNat)) hx hb hr (fun t ht hW => ⟨⟨(f_now_where (p0.toInt).toNat), (f_now_where (p0.toInt).toNat), rfl, rfl, ⟨x71, x72, z25, z73, J26, by rw [ht]; exact hP, hD, hI75, (WB_m1 hp0 f27 zc_m1), f74⟩⟩, hS.F ht⟩) hS.2.2 dX8_fetch_51
    · skip
      have f116 : r_14.toInt = 0 := qi_eq c_18 rfl zc_0
      have f117 : r_14.toInt = (0 : Int) := (ox_92 f16 f17 f116)
      refine lv_iconst (v := (-1)) hx hb dX8_fetch_19 (by decide) ?_
      rw [hQ]
      exact W.iret (v := (-1)) hx hb hr (fun t ht hW => ⟨⟨(-1), (-1), rfl, rfl, ⟨i_acts_done, i_acts_undone, f_now_where, f_acts_rows, J, by rw [ht]; exact hP, hD, hI, hp0, hp1⟩⟩, hS.F ht⟩) hS.2.2 dX8_fetch_20
set_option maxHeartbeats 4000000 in
set_option maxRecDepth 100000 in
theorem kX8_give (l : Launch) (dC : Nat → ClassId) (dI : Nat → Nat → Nat) (r : Nat → Nat) (ct : Nat → ClassId) (i_tapeLength i_time i_lyingCount i_rd_fault i_rd_token i_rd_kind i_sc_count i_sc_at i_A_tunes i_A_houses i_fA_length i_B_tunes i_B_houses i_fB_length i_acts_done i_acts_undone i_kn_count : Int32) (f_boxes f_boxKept f_trial f_offers f_A_noteCounts f_A_notes f_B_noteCounts f_B_notes f_now_where f_now_worn f_ahead_where f_ahead_worn f_acts_rows f_kn_tunes f_kn_noteTimes : Nat → Int32) (J : Nat → Nat → Int32) (L : Nat → Nat → Int64) (p0 : Int32) (sz : Nat) (hI : (IX i_tapeLength i_time i_lyingCount i_rd_token i_sc_count i_sc_at i_A_tunes i_A_houses i_fA_length i_B_tunes i_B_houses i_fB_length i_acts_done i_acts_undone i_kn_count f_boxes f_A_noteCounts f_A_notes f_B_noteCounts f_B_notes f_now_worn f_ahead_worn f_acts_rows f_kn_tunes)) (hp0 : WB i_A_tunes f_now_where) (hp1 : RB i_A_tunes i_acts_done i_acts_undone f_acts_rows) : Met l yX8_give (.code yX8_give cX8_give 3 (some .int) :: GW) { frames := 8, cells := 0, slots := 0, locals := 284 } (va_Pc [.ref (r 0), .int p0] (pW (dC, dI) (WX r ct i_tapeLength i_time i_lyingCount i_rd_fault i_rd_token i_rd_kind i_sc_count i_sc_at i_A_tunes i_A_houses i_fA_length i_B_tunes i_B_houses i_fB_length i_acts_done i_acts_undone i_kn_count f_boxes f_boxKept f_trial f_offers f_A_noteCounts f_A_notes f_B_noteCounts f_B_notes f_now_where f_now_worn f_ahead_where f_ahead_worn f_acts_rows f_kn_tunes f_kn_noteTimes J L) (TX ct) sz)) (va_Qi (fun (r0 : Int32) (u : Int32) => r0 = u) (fun (u : Int32) (t : State) => ∃ (n_i_acts_done n_i_acts_undone : Int32) (n_f_now_where n_f_acts_rows : Nat → Int32) (n_J : Nat → Nat → Int32), va_P (dC, dI) vwCl (WX r ct i_tapeLength i_time i_lyingCount i_rd_fault i_rd_token i_rd_kind i_sc_count i_sc_at i_A_tunes i_A_houses i_fA_length i_B_tunes i_B_houses i_fB_length n_i_acts_done n_i_acts_undone i_kn_count f_boxes f_boxKept f_trial f_offers f_A_noteCounts f_A_notes f_B_noteCounts f_B_notes n_f_now_where f_now_worn f_ahead_where f_ahead_worn n_f_acts_rows f_kn_tunes f_kn_noteTimes n_J L) t.heap ∧ va_D (va_A (WX r ct i_tapeLength i_time i_lyingCount i_rd_fault i_rd_token i_rd_kind i_sc_count i_sc_at i_A_tunes i_A_houses i_fA_length i_B_tunes i_B_houses i_fB_length i_acts_done i_acts_undone i_kn_count f_boxes f_boxKept f_trial f_offers f_A_noteCounts f_A_notes f_B_noteCounts f_B_notes f_now_where f_now_worn f_ahead_where f_ahead_worn f_acts_rows f_kn_tunes f_kn_noteTimes J L) sz) (WX r ct i_tapeLength i_time i_lyingCount i_rd_fault i_rd_token i_rd_kind i_sc_count i_sc_at i_A_tunes i_A_houses i_fA_length i_B_tunes i_B_houses i_fB_length n_i_acts_done n_i_acts_undone i_kn_count f_boxes f_boxKept f_trial f_offers f_A_noteCounts f_A_notes f_B_noteCounts f_B_notes n_f_now_where f_now_worn f_ahead_where f_ahead_worn n_f_acts_rows f_kn_tunes f_kn_noteTimes n_J L) ∧ (IX i_tapeLength i_time i_lyingCount i_rd_token i_sc_count i_sc_at i_A_tunes i_A_houses i_fA_length i_B_tunes i_B_houses i_fB_length n_i_acts_done n_i_acts_undone i_kn_count f_boxes f_A_noteCounts f_A_notes f_B_noteCounts f_B_notes f_now_worn f_ahead_worn n_f_acts_rows f_kn_tunes) ∧ (WB i_A_tunes n_f_now_where) ∧ (RB i_A_tunes n_i_acts_done n_i_acts_undone n_f_acts_rows)) (va_A (WX r ct i_tapeLength i_time i_lyingCount i_rd_fault i_rd_token i_rd_kind i_sc_count i_sc_at i_A_tunes i_A_houses i_fA_length i_B_tunes i_B_houses i_fB_length i_acts_done i_acts_undone i_kn_count f_boxes f_boxKept f_trial f_offers f_A_noteCounts f_A_notes f_B_noteCounts f_B_notes f_now_where f_now_worn f_ahead_where f_ahead_worn f_acts_rows f_kn_tunes f_kn_noteTimes J L) sz)) 0 0 (va_A (WX r ct i_tapeLength i_time i_lyingCount i_rd_fault i_rd_token i_rd_kind i_sc_count i_sc_at i_A_tunes i_A_houses i_fA_length i_B_tunes i_B_houses i_fB_length i_acts_done i_acts_undone i_kn_count f_boxes f_boxKept f_trial f_offers f_A_noteCounts f_A_notes f_B_noteCounts f_B_notes f_now_where f_now_worn f_ahead_where f_ahead_worn f_acts_rows f_kn_tunes f_kn_noteTimes J L) sz) := by
  refine Met.ofW (cc := cX8_give) (maxL := 3) (ret := (some .int)) (by decide) rfl ?_
  intro p e s m args below meth c0 s₁ B hml hv
  obtain ⟨rfl, hsz, hP, hK, hD0⟩ := hv
  have hx := B.exec
  have hb := B.bytes
  have hr := B.returns
  have hts := atoms_spec (ws := .code yX8_give cX8_give 3 (some .int) :: GW) B.pre
  have hG : ∀ w ∈ GW, w.before _ s = true := fun w h => hts w (List.mem_cons_of_mem _ h)
  have hown : s.vm.findClass RX8 = some m.cls := findClass_of_methodNamed B.named
  subst hsz
  have hD := hD0.self (sz := s.heap.size)
  generalize hAe : va_A (WX r ct i_tapeLength i_time i_lyingCount i_rd_fault i_rd_token i_rd_kind i_sc_count i_sc_at i_A_tunes i_A_houses i_fA_length i_B_tunes i_B_houses i_fB_length i_acts_done i_acts_undone i_kn_count f_boxes f_boxKept f_trial f_offers f_A_noteCounts f_A_notes f_B_noteCounts f_B_notes f_now_where f_now_worn f_ahead_where f_ahead_worn f_acts_rows f_kn_tunes f_kn_noteTimes J L) s.heap.size = A at hD ⊢
  have hA : ∀ q : Nat, s.heap.size ≤ q → A q := fun q h => by rw [← hAe]; exact Or.inr h
  have hS : va_S A s.heap s.heap [] := va_S.rf
  have hP : va_P (dC, dI) vwCl (WX r ct i_tapeLength i_time i_lyingCount i_rd_fault i_rd_token i_rd_kind i_sc_count i_sc_at i_A_tunes i_A_houses i_fA_length i_B_tunes i_B_houses i_fB_length i_acts_done i_acts_undone i_kn_count f_boxes f_boxKept f_trial f_offers f_A_noteCounts f_A_notes f_B_noteCounts f_B_notes f_now_where f_now_worn f_ahead_where f_ahead_worn f_acts_rows f_kn_tunes f_kn_noteTimes J L) s.heap := hP
  have hl := lv_entry ([.ref (r 0), .int p0]) (n := 3) (Nat.le_of_ble_eq_true rfl)
  rw [lg_entry_eq]
  generalize (lg_sl ([.ref (r 0), .int p0]) ++ List.replicate (3 - (lg_sl ([.ref (r 0), .int p0])).length) Slot.unset).toArray = ls at hl ⊢
  have hl : lv_has ls 3 [(0, .ref (r 0)), (1, .int p0)] := hl
  refine nameQ (fun Q hQ => ?_)
  obtain ⟨ie0, ie1, ie2, ie3, ie4, ie5, ie6, ie7, ie8, ie9, ie10, ie11, ie12, ie13, ie14, ie15, ie16, ie17, ie18, ie19, ie20, ie21, ie22, ie23, ie24, ie25, ie26, ie27, ie28, ie29, ie30, ie31, ie32, ie33, ie34, ie35, ie36, ie37, ie38, ie39⟩ := id hI
  refine lv_aload_n hx hb dX8_give_0 rfl (lv_at hl 0 rfl) ?_
  refine lv_iload_n hx hb dX8_give_1 rfl (lv_at hl 1 rfl) ?_
  refine va_calli (va_runV (As := [.int p0]) (rest := []) ⟨hx, hb, hml, hown, hG⟩ (kX8_isTune l dC dI r ct i_tapeLength i_time i_lyingCount i_rd_fault i_rd_token i_rd_kind i_sc_count i_sc_at i_A_tunes i_A_houses i_fA_length i_B_tunes i_B_houses i_fB_length i_acts_done i_acts_undone i_kn_count f_boxes f_boxKept f_trial f_offers f_A_noteCounts f_A_notes f_B_noteCounts f_B_notes f_now_where f_now_worn f_ahead_where f_ahead_worn f_acts_rows f_kn_tunes f_kn_noteTimes J L p0 s.heap.size hI) (cwV 1 hG (goodV gw695 gw697 gw20 gw129 gw698) rfl rfl rfl hd_X8_isTune ⟨(Nat.le_of_ble_eq_true rfl), (Nat.le_of_ble_eq_true rfl)⟩) ⟨fbR, va_recv hK hP (ci := 7) (q0 := 0) rfl rfl, pR_in hP hK⟩ rfl rfl hl.1 rfl (lv_room (Nat.le_of_ble_eq_true rfl)) dX8_give_2 ⟨(Nat.le_of_ble_eq_true rfl), (Nat.le_of_ble_eq_true rfl)⟩) hS (fun q hq h => absurd hq (Nat.not_lt.mpr h)) (fun q h => hA q (Nat.le_trans hS.1 h)) (fun r_2 u_ t_ H1 locs ht hvm hw hB hz1 hk1 hS => ?_)
  subst hw
  have hP := wk hP hk1
  obtain ⟨f3, f4, f5⟩ := hB
  refine lv_if_eq (tgt := 19) hx hb dX8_give_5 (by decide) (fun c_6 => ?_) (fun c_6 => ?_)
  · skip
    have f7 : r_2.toInt = 0 := qi_eq c_6 rfl zc_0
    refine lv_iconst (v := (-1)) hx hb dX8_give_19 (by decide) ?_
    rw [hQ]
    exact W.iret (v := (-1)) hx hb hr (fun t ht hW => ⟨⟨(-1), (-1), rfl, rfl, ⟨i_acts_done, i_acts_undone, f_now_where, f_acts_rows, J, by rw [ht]; exact hP, hD, hI, hp0, hp1⟩⟩, hS.F ht⟩) hS.2.2 dX8_give_20
  · skip
    have f8 : r_2.toInt ≠ 0 := qi_ne c_6 rfl zc_0
    have f9 : (0 : Int) ≤ p0.toInt := (ox_50 f3 f8)
    have f10 : p0.toInt + 1 ≤ i_A_tunes.toInt := (ox_51 f3 f8)
    have f11 : r_2.toInt = (1 : Int) := (ox_52 f3 f8)
    have f12 : (1 : Int) ≤ r_2.toInt := (ox_53 f4 f5 f11)
    refine lv_aload_n hx hb dX8_give_8 rfl (lv_at hl 0 rfl) ?_
    refine gX_X8_30_0 hx hb hG hown hK hP dX8_give_9 ?_
    refine lv_iload_n hx hb dX8_give_12 rfl (lv_at hl 1 rfl) ?_
    refine va_calli (va_runV (As := [.int p0]) (rest := []) ⟨hx, hb, hml, hown, hG⟩ (kX7_isPaid l dC dI r ct i_tapeLength i_time i_lyingCount i_rd_fault i_rd_token i_rd_kind i_sc_count i_sc_at i_A_tunes i_A_houses i_fA_length i_B_tunes i_B_houses i_fB_length i_acts_done i_acts_undone i_kn_count f_boxes f_boxKept f_trial f_offers f_A_noteCounts f_A_notes f_B_noteCounts f_B_notes f_now_where f_now_worn f_ahead_where f_ahead_worn f_acts_rows f_kn_tunes f_kn_noteTimes J L p0 H1.size hI (ox_54 f9 f10) (ox_211 ie13 f10)) (cwV 1 hG (goodV gw732 gw725 gw726 gw134 gw727) rfl rfl rfl hd_X7_isPaid ⟨(Nat.le_of_ble_eq_true rfl), (Nat.le_of_ble_eq_true rfl)⟩) ⟨fbR, va_recv hK hP (ci := 6) (q0 := 7) rfl rfl, pR_in hP hK⟩ rfl rfl hl.1 rfl (lv_room (Nat.le_of_ble_eq_true rfl)) dX8_give_13 ⟨(Nat.le_of_ble_eq_true rfl), (Nat.le_of_ble_eq_true rfl)⟩) hS (fun q hq h => absurd hq (Nat.not_lt.mpr h)) (fun q h => hA q (Nat.le_trans hS.1 h)) (fun r_14 u_ t_ H13 locs ht hvm hw hB hz1 hk1 hS => ?_)
    subst hw
    have hP := wk hP hk1
    obtain ⟨f15, f16, f17⟩ := hB
    refine lv_if_ne (tgt := 21) hx hb dX8_give_16 (by decide) (fun c_18 => ?_) (fun c_18 => ?_)
    · skip
      have f19 : r_14.toInt ≠ 0 := qi_ne c_18 rfl zc_0
      have f20 : r_14.toInt = (1 : Int) := (ox_91 f15 f19)
      have f21 : (1 : Int) ≤ r_14.toInt := (ox_53 f16 f17 f20)
      refine lv_aload_n hx hb dX8_give_21 rfl (lv_at hl 0 rfl) ?_
      refine gX_X8_30_0 hx hb hG hown hK hP dX8_give_22 ?_
      refine gX_X8_125_7 hx hb hG hown hK hP dX8_give_25 ?_
      refine lv_iload_n hx hb dX8_give_28 rfl (lv_at hl 1 rfl) ?_
      refine ldX_41 (mm := p0.toInt) hx hb hK hP rfl (ox_33 f9 f10) (ox_34 ie13 f10) dX8_give_29 ?_
      have f22 : i_A_tunes.toInt ≤ p0.toInt → p0.toInt < 5 → (f_now_where (p0.toInt).toNat).toInt = -1 := hp0 (p0.toInt)
      refine lv_istore_n (lv' := [(2, .int (f_now_where (p0.toInt).toNat)), (0, .ref (r 0)), (1, .int p0)]) hx hb dX8_give_30 rfl hl (by decide) rfl (fun ls hl => ?_)
      refine lv_aload_n hx hb dX8_give_31 rfl (lv_at hl 1 rfl) ?_
      refine gX_X8_30_0 hx hb hG hown hK hP dX8_give_32 ?_
      refine lv_iload_n hx hb dX8_give_35 rfl (lv_at hl 2 rfl) ?_
      have hFc := frA hD hS hA
      refine va_callv (va_runV (As := [.int p0]) (rest := []) ⟨hx, hb, hml, hown, hG⟩ (kX7_backOnCart l dC dI r ct i_tapeLength i_time i_lyingCount i_rd_fault i_rd_token i_rd_kind i_sc_count i_sc_at i_A_tunes i_A_houses i_fA_length i_B_tunes i_B_houses i_fB_length i_acts_done i_acts_undone i_kn_count f_boxes f_boxKept f_trial f_offers f_A_noteCounts f_A_notes f_B_noteCounts f_B_notes f_now_where f_now_worn f_ahead_where f_ahead_worn f_acts_rows f_kn_tunes f_kn_noteTimes J L p0 H13.size hI (ox_54 f9 f10) (ox_211 ie13 f10)) (cwV 1 hG (goodV gw794 gw454 gw455 gw134 gw456) rfl rfl rfl hd_X7_backOnCart ⟨(Nat.le_of_ble_eq_true rfl), (Nat.le_of_ble_eq_true rfl)⟩) ⟨fbW, va_recv hK hP (ci := 6) (q0 := 7) rfl rfl, pW_in hP hK hD⟩ rfl rfl hl.1 rfl (lv_room (Nat.le_of_ble_eq_true rfl)) dX8_give_36 ⟨(Nat.le_of_ble_eq_true rfl), (Nat.le_of_ble_eq_true rfl)⟩) hS (fun q _ h => hFc q h) hFc (fun _ t_ H23 locs ht hvm hw hB hz1 hk1 hS => ?_)
      obtain ⟨z25, J26, hP1, hD1, hI28, f27⟩ := hB
      rw [ht] at hP1
      have hP := hP1
      have hD := dW hFc hD1
      obtain ⟨im29, im30, im31, im32, im33, im34, im35, im36, im37, im38, im39, im40, im41, im42, im43, im44, im45, im46, im47, im48, im49, im50, im51, im52, im53, im54, im55, im56, im57, im58, im59, im60, im61, im62, im63, im64, im65, im66, im67, im68⟩ := id hI28
      refine lv_aload_n hx hb dX8_give_39 rfl (lv_at hl 1 rfl) ?_
      refine gX_X8_40_0 hx hb hG hown hK hP dX8_give_40 ?_
      refine lv_aload_n hx hb dX8_give_43 rfl (lv_at hl 1 rfl) ?_
      refine gX_X8_30_0 hx hb hG hown hK hP dX8_give_44 ?_
      have hFc := frA hD hS hA
      refine va_callv (va_runV (As := [.ref (r 7)]) (rest := []) ⟨hx, hb, hml, hown, hG⟩ (kX0_keep l dC dI r ct i_tapeLength i_time i_lyingCount i_rd_fault i_rd_token i_rd_kind i_sc_count i_sc_at i_A_tunes i_A_houses i_fA_length i_B_tunes i_B_houses i_fB_length i_acts_done i_acts_undone i_kn_count f_boxes f_boxKept f_trial f_offers f_A_noteCounts f_A_notes f_B_noteCounts f_B_notes z25 f_now_worn f_ahead_where f_ahead_worn f_acts_rows f_kn_tunes f_kn_noteTimes J26 L H23.size hI28 (WB_m1 hp0 f27 zc_m1) hp1) (cwV 1 hG (goodV gw796 gw797 gw798 gw135 gw799) rfl rfl rfl hd_X0_keep ⟨(Nat.le_of_ble_eq_true rfl), (Nat.le_of_ble_eq_true rfl)⟩) ⟨fbW, va_recv hK hP (ci := 0) (q0 := 9) rfl rfl, pW_in hP hK hD⟩ rfl rfl hl.1 rfl (lv_room (Nat.le_of_ble_eq_true rfl)) dX8_give_47 ⟨(Nat.le_of_ble_eq_true rfl), (Nat.le_of_ble_eq_true rfl)⟩) hS (fun q _ h => hFc q h) hFc (fun _ t_ H69 locs ht hvm hw hB hz1 hk1 hS => ?_)
      obtain ⟨x71, x72, z73, hP1, hD1, hI75, f74⟩ := hB
      rw [ht] at hP1
      have hP := hP1
      have hD := dW hFc hD1
      obtain ⟨im76, im77, im78, im79, im80, im81, im82, im83, im84, im85, im86, im87, im88, im89, im90, im91, im92, im93, im94, im95, im96, im97, im98, im99, im100, im101, im102, im103, im104, im105, im106, im107, im108, im109, im110, im111, im112, im113, im114, im115⟩ := id hI75
      refine lv_iload_n hx hb dX8_give_50 rfl (lv_at hl 0 rfl) ?_
      rw [hQ]
      exact W.iret (v := (f_now_where (p0.toInt).toNat)) hx hb hr (fun t ht hW => ⟨⟨(f_now_where (p0.toInt).toNat), (f_now_where (p0.toInt).toNat), rfl, rfl, ⟨x71, x72, z25, z73, J26, by rw [ht]; exact hP, hD, hI75, (WB_m1 hp0 f27 zc_m1), f74⟩⟩, hS.F ht⟩) hS.2.2 dX8_give_51
    · skip
      have f116 : r_14.toInt = 0 := qi_eq c_18 rfl zc_0
      have f117 : r_14.toInt = (0 : Int) := (ox_92 f16 f17 f116)
      refine lv_iconst (v := (-1)) hx hb dX8_give_19 (by decide) ?_
      rw [hQ]
      exact W.iret (v := (-1)) hx hb hr (fun t ht hW => ⟨⟨(-1), (-1), rfl, rfl, ⟨i_acts_done, i_acts_undone, f_now_where, f_acts_rows, J, by rw [ht]; exact hP, hD, hI, hp0, hp1⟩⟩, hS.F ht⟩) hS.2.2 dX8_give_20
set_option maxHeartbeats 4000000 in
set_option maxRecDepth 100000 in
theorem kX8_fill (l : Launch) (dC : Nat → ClassId) (dI : Nat → Nat → Nat) (r : Nat → Nat) (ct : Nat → ClassId) (i_tapeLength i_time i_lyingCount i_rd_fault i_rd_token i_rd_kind i_sc_count i_sc_at i_A_tunes i_A_houses i_fA_length i_B_tunes i_B_houses i_fB_length i_acts_done i_acts_undone i_kn_count : Int32) (f_boxes f_boxKept f_trial f_offers f_A_noteCounts f_A_notes f_B_noteCounts f_B_notes f_now_where f_now_worn f_ahead_where f_ahead_worn f_acts_rows f_kn_tunes f_kn_noteTimes : Nat → Int32) (J : Nat → Nat → Int32) (L : Nat → Nat → Int64) (p0 p1 : Int32) (sz : Nat) (hI : (IX i_tapeLength i_time i_lyingCount i_rd_token i_sc_count i_sc_at i_A_tunes i_A_houses i_fA_length i_B_tunes i_B_houses i_fB_length i_acts_done i_acts_undone i_kn_count f_boxes f_A_noteCounts f_A_notes f_B_noteCounts f_B_notes f_now_worn f_ahead_worn f_acts_rows f_kn_tunes)) (hp0 : WB i_A_tunes f_now_where) (hp1 : RB i_A_tunes i_acts_done i_acts_undone f_acts_rows) : Met l yX8_fill (.code yX8_fill cX8_fill 3 (some .int) :: GW) { frames := 8, cells := 0, slots := 0, locals := 284 } (va_Pc [.ref (r 0), .int p0, .int p1] (pW (dC, dI) (WX r ct i_tapeLength i_time i_lyingCount i_rd_fault i_rd_token i_rd_kind i_sc_count i_sc_at i_A_tunes i_A_houses i_fA_length i_B_tunes i_B_houses i_fB_length i_acts_done i_acts_undone i_kn_count f_boxes f_boxKept f_trial f_offers f_A_noteCounts f_A_notes f_B_noteCounts f_B_notes f_now_where f_now_worn f_ahead_where f_ahead_worn f_acts_rows f_kn_tunes f_kn_noteTimes J L) (TX ct) sz)) (va_Qi (fun (r0 : Int32) (u : Int32) => r0 = u) (fun (u : Int32) (t : State) => ∃ (n_i_acts_done n_i_acts_undone : Int32) (n_f_acts_rows : Nat → Int32) (n_J : Nat → Nat → Int32), va_P (dC, dI) vwCl (WX r ct i_tapeLength i_time i_lyingCount i_rd_fault i_rd_token i_rd_kind i_sc_count i_sc_at i_A_tunes i_A_houses i_fA_length i_B_tunes i_B_houses i_fB_length n_i_acts_done n_i_acts_undone i_kn_count f_boxes f_boxKept f_trial f_offers f_A_noteCounts f_A_notes f_B_noteCounts f_B_notes f_now_where f_now_worn f_ahead_where f_ahead_worn n_f_acts_rows f_kn_tunes f_kn_noteTimes n_J L) t.heap ∧ va_D (va_A (WX r ct i_tapeLength i_time i_lyingCount i_rd_fault i_rd_token i_rd_kind i_sc_count i_sc_at i_A_tunes i_A_houses i_fA_length i_B_tunes i_B_houses i_fB_length i_acts_done i_acts_undone i_kn_count f_boxes f_boxKept f_trial f_offers f_A_noteCounts f_A_notes f_B_noteCounts f_B_notes f_now_where f_now_worn f_ahead_where f_ahead_worn f_acts_rows f_kn_tunes f_kn_noteTimes J L) sz) (WX r ct i_tapeLength i_time i_lyingCount i_rd_fault i_rd_token i_rd_kind i_sc_count i_sc_at i_A_tunes i_A_houses i_fA_length i_B_tunes i_B_houses i_fB_length n_i_acts_done n_i_acts_undone i_kn_count f_boxes f_boxKept f_trial f_offers f_A_noteCounts f_A_notes f_B_noteCounts f_B_notes f_now_where f_now_worn f_ahead_where f_ahead_worn n_f_acts_rows f_kn_tunes f_kn_noteTimes n_J L) ∧ (IX i_tapeLength i_time i_lyingCount i_rd_token i_sc_count i_sc_at i_A_tunes i_A_houses i_fA_length i_B_tunes i_B_houses i_fB_length n_i_acts_done n_i_acts_undone i_kn_count f_boxes f_A_noteCounts f_A_notes f_B_noteCounts f_B_notes f_now_worn f_ahead_worn n_f_acts_rows f_kn_tunes) ∧ (RB i_A_tunes n_i_acts_done n_i_acts_undone n_f_acts_rows)) (va_A (WX r ct i_tapeLength i_time i_lyingCount i_rd_fault i_rd_token i_rd_kind i_sc_count i_sc_at i_A_tunes i_A_houses i_fA_length i_B_tunes i_B_houses i_fB_length i_acts_done i_acts_undone i_kn_count f_boxes f_boxKept f_trial f_offers f_A_noteCounts f_A_notes f_B_noteCounts f_B_notes f_now_where f_now_worn f_ahead_where f_ahead_worn f_acts_rows f_kn_tunes f_kn_noteTimes J L) sz)) 0 0 (va_A (WX r ct i_tapeLength i_time i_lyingCount i_rd_fault i_rd_token i_rd_kind i_sc_count i_sc_at i_A_tunes i_A_houses i_fA_length i_B_tunes i_B_houses i_fB_length i_acts_done i_acts_undone i_kn_count f_boxes f_boxKept f_trial f_offers f_A_noteCounts f_A_notes f_B_noteCounts f_B_notes f_now_where f_now_worn f_ahead_where f_ahead_worn f_acts_rows f_kn_tunes f_kn_noteTimes J L) sz) := by
  refine Met.ofW (cc := cX8_fill) (maxL := 3) (ret := (some .int)) (by decide) rfl ?_
  intro p e s m args below meth c0 s₁ B hml hv
  obtain ⟨rfl, hsz, hP, hK, hD0⟩ := hv
  have hx := B.exec
  have hb := B.bytes
  have hr := B.returns
  have hts := atoms_spec (ws := .code yX8_fill cX8_fill 3 (some .int) :: GW) B.pre
  have hG : ∀ w ∈ GW, w.before _ s = true := fun w h => hts w (List.mem_cons_of_mem _ h)
  have hown : s.vm.findClass RX8 = some m.cls := findClass_of_methodNamed B.named
  subst hsz
  have hD := hD0.self (sz := s.heap.size)
  generalize hAe : va_A (WX r ct i_tapeLength i_time i_lyingCount i_rd_fault i_rd_token i_rd_kind i_sc_count i_sc_at i_A_tunes i_A_houses i_fA_length i_B_tunes i_B_houses i_fB_length i_acts_done i_acts_undone i_kn_count f_boxes f_boxKept f_trial f_offers f_A_noteCounts f_A_notes f_B_noteCounts f_B_notes f_now_where f_now_worn f_ahead_where f_ahead_worn f_acts_rows f_kn_tunes f_kn_noteTimes J L) s.heap.size = A at hD ⊢
  have hA : ∀ q : Nat, s.heap.size ≤ q → A q := fun q h => by rw [← hAe]; exact Or.inr h
  have hS : va_S A s.heap s.heap [] := va_S.rf
  have hP : va_P (dC, dI) vwCl (WX r ct i_tapeLength i_time i_lyingCount i_rd_fault i_rd_token i_rd_kind i_sc_count i_sc_at i_A_tunes i_A_houses i_fA_length i_B_tunes i_B_houses i_fB_length i_acts_done i_acts_undone i_kn_count f_boxes f_boxKept f_trial f_offers f_A_noteCounts f_A_notes f_B_noteCounts f_B_notes f_now_where f_now_worn f_ahead_where f_ahead_worn f_acts_rows f_kn_tunes f_kn_noteTimes J L) s.heap := hP
  have hl := lv_entry ([.ref (r 0), .int p0, .int p1]) (n := 3) (Nat.le_of_ble_eq_true rfl)
  rw [lg_entry_eq]
  generalize (lg_sl ([.ref (r 0), .int p0, .int p1]) ++ List.replicate (3 - (lg_sl ([.ref (r 0), .int p0, .int p1])).length) Slot.unset).toArray = ls at hl ⊢
  have hl : lv_has ls 3 [(0, .ref (r 0)), (1, .int p0), (2, .int p1)] := hl
  refine nameQ (fun Q hQ => ?_)
  obtain ⟨ie0, ie1, ie2, ie3, ie4, ie5, ie6, ie7, ie8, ie9, ie10, ie11, ie12, ie13, ie14, ie15, ie16, ie17, ie18, ie19, ie20, ie21, ie22, ie23, ie24, ie25, ie26, ie27, ie28, ie29, ie30, ie31, ie32, ie33, ie34, ie35, ie36, ie37, ie38, ie39⟩ := id hI
  refine lv_aload_n hx hb dX8_fill_0 rfl (lv_at hl 0 rfl) ?_
  refine lv_iload_n hx hb dX8_fill_1 rfl (lv_at hl 1 rfl) ?_
  refine va_calli (va_runV (As := [.int p0]) (rest := []) ⟨hx, hb, hml, hown, hG⟩ (kX8_isHouse l dC dI r ct i_tapeLength i_time i_lyingCount i_rd_fault i_rd_token i_rd_kind i_sc_count i_sc_at i_A_tunes i_A_houses i_fA_length i_B_tunes i_B_houses i_fB_length i_acts_done i_acts_undone i_kn_count f_boxes f_boxKept f_trial f_offers f_A_noteCounts f_A_notes f_B_noteCounts f_B_notes f_now_where f_now_worn f_ahead_where f_ahead_worn f_acts_rows f_kn_tunes f_kn_noteTimes J L p0 s.heap.size hI) (cwV 1 hG (goodV gw716 gw718 gw21 gw129 gw719) rfl rfl rfl hd_X8_isHouse ⟨(Nat.le_of_ble_eq_true rfl), (Nat.le_of_ble_eq_true rfl)⟩) ⟨fbR, va_recv hK hP (ci := 7) (q0 := 0) rfl rfl, pR_in hP hK⟩ rfl rfl hl.1 rfl (lv_room (Nat.le_of_ble_eq_true rfl)) dX8_fill_2 ⟨(Nat.le_of_ble_eq_true rfl), (Nat.le_of_ble_eq_true rfl)⟩) hS (fun q hq h => absurd hq (Nat.not_lt.mpr h)) (fun q h => hA q (Nat.le_trans hS.1 h)) (fun r_2 u_ t_ H1 locs ht hvm hw hB hz1 hk1 hS => ?_)
  subst hw
  have hP := wk hP hk1
  obtain ⟨f3, f4, f5⟩ := hB
  refine lv_if_eq (tgt := 34) hx hb dX8_fill_5 (by decide) (fun c_6 => ?_) (fun c_6 => ?_)
  · skip
    have f7 : r_2.toInt = 0 := qi_eq c_6 rfl zc_0
    refine lv_iconst (v := (-1)) hx hb dX8_fill_34 (by decide) ?_
    rw [hQ]
    exact W.iret (v := (-1)) hx hb hr (fun t ht hW => ⟨⟨(-1), (-1), rfl, rfl, ⟨i_acts_done, i_acts_undone, f_acts_rows, J, by rw [ht]; exact hP, hD, hI, hp1⟩⟩, hS.F ht⟩) hS.2.2 dX8_fill_35
  · skip
    have f8 : r_2.toInt ≠ 0 := qi_ne c_6 rfl zc_0
    have f9 : (0 : Int) ≤ p0.toInt := (ox_50 f3 f8)
    have f10 : p0.toInt + 1 ≤ i_A_houses.toInt := (ox_51 f3 f8)
    have f11 : r_2.toInt = (1 : Int) := (ox_52 f3 f8)
    have f12 : (1 : Int) ≤ r_2.toInt := (ox_53 f4 f5 f11)
    refine lv_iload_n hx hb dX8_fill_8 rfl (lv_at hl 2 rfl) ?_
    refine lv_iconst (v := 1) hx hb dX8_fill_9 (by decide) ?_
    refine lv_icmp_lt (tgt := 34) hx hb dX8_fill_10 (by decide) (fun c_13 => ?_) (fun c_13 => ?_)
    · skip
      have f14 : p1.toInt < 1 := qi_lt c_13 rfl zc_1
      refine lv_iconst (v := (-1)) hx hb dX8_fill_34 (by decide) ?_
      rw [hQ]
      exact W.iret (v := (-1)) hx hb hr (fun t ht hW => ⟨⟨(-1), (-1), rfl, rfl, ⟨i_acts_done, i_acts_undone, f_acts_rows, J, by rw [ht]; exact hP, hD, hI, hp1⟩⟩, hS.F ht⟩) hS.2.2 dX8_fill_35
    · skip
      have f15 : 1 ≤ p1.toInt := qi_nlt c_13 rfl zc_1
      refine lv_iload_n hx hb dX8_fill_13 rfl (lv_at hl 2 rfl) ?_
      refine lv_bipush (v := 50) hx hb dX8_fill_14 (by decide) ?_
      refine lv_icmp_gt (tgt := 34) hx hb dX8_fill_16 (by decide) (fun c_16 => ?_) (fun c_16 => ?_)
      · skip
        have f17 : 50 < p1.toInt := qi_lt c_16 zc_50 rfl
        refine lv_iconst (v := (-1)) hx hb dX8_fill_34 (by decide) ?_
        rw [hQ]
        exact W.iret (v := (-1)) hx hb hr (fun t ht hW => ⟨⟨(-1), (-1), rfl, rfl, ⟨i_acts_done, i_acts_undone, f_acts_rows, J, by rw [ht]; exact hP, hD, hI, hp1⟩⟩, hS.F ht⟩) hS.2.2 dX8_fill_35
      · skip
        have f18 : p1.toInt ≤ 50 := qi_nlt c_16 zc_50 rfl
        refine lv_aload_n hx hb dX8_fill_19 rfl (lv_at hl 0 rfl) ?_
        refine gX_X8_30_0 hx hb hG hown hK hP dX8_fill_20 ?_
        refine gX_X8_144_7 hx hb hG hown hK hP dX8_fill_23 ?_
        refine lv_iload_n hx hb dX8_fill_26 rfl (lv_at hl 1 rfl) ?_
        refine ldX_45 (mm := p0.toInt) hx hb hK hP rfl (ox_33 f9 f10) (ox_100 ie15 f10) dX8_fill_27 (fun x19 => ?_)
        refine lv_sipush (v := 999) hx hb dX8_fill_28 (by decide) ?_
        refine lv_icmp_lt (tgt := 36) hx hb dX8_fill_31 (by decide) (fun c_20 => ?_) (fun c_20 => ?_)
        · skip
          have f21 : x19.toInt < 999 := qi_lt c_20 rfl zc_999
          refine lv_aload_n hx hb dX8_fill_36 rfl (lv_at hl 0 rfl) ?_
          refine gX_X8_30_0 hx hb hG hown hK hP dX8_fill_37 ?_
          refine gX_X8_144_7 hx hb hG hown hK hP dX8_fill_40 ?_
          refine lv_iload_n hx hb dX8_fill_43 rfl (lv_at hl 1 rfl) ?_
          refine lv_sipush (v := 999) hx hb dX8_fill_44 (by decide) ?_
          refine lv_aload_n hx hb dX8_fill_47 rfl (lv_at hl 0 rfl) ?_
          refine gX_X8_30_0 hx hb hG hown hK hP dX8_fill_48 ?_
          refine gX_X8_144_7 hx hb hG hown hK hP dX8_fill_51 ?_
          refine lv_iload_n hx hb dX8_fill_54 rfl (lv_at hl 1 rfl) ?_
          refine ldX_45 (mm := p0.toInt) hx hb hK hP rfl (ox_33 f9 f10) (ox_100 ie15 f10) dX8_fill_55 (fun x22 => ?_)
          refine lv_iload_n hx hb dX8_fill_56 rfl (lv_at hl 2 rfl) ?_
          refine lv_iadd hx hb dX8_fill_57 ?_
          refine lv_topi (fun x23 ex23 => ?_)
          refine va_mmin hx hb (hml.trans hl.1.symm) hown (hG _ gw795) (hG _ gw542) (hG _ gw139) (hG _ gw543) (Nat.le_of_ble_eq_true rfl) (Nat.le_of_ble_eq_true rfl) (Nat.le_of_ble_eq_true rfl) (Nat.le_of_ble_eq_true rfl) dX8_fill_58 ?_
          refine lv_topi (fun x24 ex24 => ?_)
          have f25 : (999 ≤ x23.toInt ∧ x24.toInt = 999) ∨ (x23.toInt ≤ 999 ∧ x24.toInt = x23.toInt) := mmin_or2 ex24 zc_999 rfl
          refine stX_45 (mm := p0.toInt) hx hb hK hP hD hS rfl (ox_33 f9 f10) (ox_100 ie15 f10) dX8_fill_61 (fun J27 H26 locs hP hD hS => ?_)
          refine lv_aload_n hx hb dX8_fill_62 rfl (lv_at hl 0 rfl) ?_
          refine gX_X8_40_0 hx hb hG hown hK hP dX8_fill_63 ?_
          refine lv_aload_n hx hb dX8_fill_66 rfl (lv_at hl 0 rfl) ?_
          refine gX_X8_30_0 hx hb hG hown hK hP dX8_fill_67 ?_
          have hFc := frA hD hS hA
          refine va_callv (va_runV (As := [.ref (r 7)]) (rest := []) ⟨hx, hb, hml, hown, hG⟩ (kX0_keep l dC dI r ct i_tapeLength i_time i_lyingCount i_rd_fault i_rd_token i_rd_kind i_sc_count i_sc_at i_A_tunes i_A_houses i_fA_length i_B_tunes i_B_houses i_fB_length i_acts_done i_acts_undone i_kn_count f_boxes f_boxKept f_trial f_offers f_A_noteCounts f_A_notes f_B_noteCounts f_B_notes f_now_where f_now_worn f_ahead_where f_ahead_worn f_acts_rows f_kn_tunes f_kn_noteTimes J27 L H26.size hI hp0 hp1) (cwV 1 hG (goodV gw796 gw797 gw798 gw135 gw799) rfl rfl rfl hd_X0_keep ⟨(Nat.le_of_ble_eq_true rfl), (Nat.le_of_ble_eq_true rfl)⟩) ⟨fbW, va_recv hK hP (ci := 0) (q0 := 9) rfl rfl, pW_in hP hK hD⟩ rfl rfl hl.1 rfl (lv_room (Nat.le_of_ble_eq_true rfl)) dX8_fill_70 ⟨(Nat.le_of_ble_eq_true rfl), (Nat.le_of_ble_eq_true rfl)⟩) hS (fun q _ h => hFc q h) hFc (fun _ t_ H28 locs ht hvm hw hB hz1 hk1 hS => ?_)
          obtain ⟨x30, x31, z32, hP1, hD1, hI34, f33⟩ := hB
          rw [ht] at hP1
          have hP := hP1
          have hD := dW hFc hD1
          obtain ⟨im35, im36, im37, im38, im39, im40, im41, im42, im43, im44, im45, im46, im47, im48, im49, im50, im51, im52, im53, im54, im55, im56, im57, im58, im59, im60, im61, im62, im63, im64, im65, im66, im67, im68, im69, im70, im71, im72, im73, im74⟩ := id hI34
          refine lv_aload_n hx hb dX8_fill_73 rfl (lv_at hl 0 rfl) ?_
          refine gX_X8_30_0 hx hb hG hown hK hP dX8_fill_74 ?_
          refine gX_X8_144_7 hx hb hG hown hK hP dX8_fill_77 ?_
          refine lv_iload_n hx hb dX8_fill_80 rfl (lv_at hl 1 rfl) ?_
          refine ldX_45 (mm := p0.toInt) hx hb hK hP rfl (ox_33 f9 f10) (ox_100 ie15 f10) dX8_fill_81 (fun x75 => ?_)
          rw [hQ]
          exact W.iret (v := x75) hx hb hr (fun t ht hW => ⟨⟨x75, x75, rfl, rfl, ⟨x30, x31, z32, J27, by rw [ht]; exact hP, hD, hI34, f33⟩⟩, hS.F ht⟩) hS.2.2 dX8_fill_82
        · skip
          have f76 : 999 ≤ x19.toInt := qi_nlt c_20 rfl zc_999
          refine lv_iconst (v := (-1)) hx hb dX8_fill_34 (by decide) ?_
          rw [hQ]
          exact W.iret (v := (-1)) hx hb hr (fun t ht hW => ⟨⟨(-1), (-1), rfl, rfl, ⟨i_acts_done, i_acts_undone, f_acts_rows, J, by rw [ht]; exact hP, hD, hI, hp1⟩⟩, hS.F ht⟩) hS.2.2 dX8_fill_35
