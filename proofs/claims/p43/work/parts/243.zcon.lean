set_option maxHeartbeats 4000000 in
set_option maxRecDepth 100000 in
theorem kX5_readUnit_v7 (l : Launch) (dC : Nat → ClassId) (dI : Nat → Nat → Nat) (r : Nat → Nat) (ct : Nat → ClassId) (i_tapeLength i_time i_lyingCount i_rd_fault i_rd_token i_rd_kind i_sc_count i_sc_at i_A_tunes i_A_houses i_fA_length i_B_tunes i_B_houses i_fB_length i_acts_done i_acts_undone i_kn_count : Int32) (f_boxes f_boxKept f_trial f_offers f_A_noteCounts f_A_notes f_B_noteCounts f_B_notes f_now_where f_now_worn f_ahead_where f_ahead_worn f_acts_rows f_kn_tunes f_kn_noteTimes : Nat → Int32) (J : Nat → Nat → Int32) (L : Nat → Nat → Int64) (sz : Nat) (hI : (IX i_tapeLength i_time i_lyingCount i_rd_token i_sc_count i_sc_at i_A_tunes i_A_houses i_fA_length i_B_tunes i_B_houses i_fB_length i_acts_done i_acts_undone i_kn_count f_boxes f_A_noteCounts f_A_notes f_B_noteCounts f_B_notes f_now_worn f_ahead_worn f_acts_rows f_kn_tunes)) : Met l yX5_readUnit (.code yX5_readUnit cX5_readUnit 4 none :: GW) { frames := 6, cells := 0, slots := 0, locals := 222 } (va_Pc [.ref (r 1), .int 7] (pW (dC, dI) (WX r ct i_tapeLength i_time i_lyingCount i_rd_fault i_rd_token i_rd_kind i_sc_count i_sc_at i_A_tunes i_A_houses i_fA_length i_B_tunes i_B_houses i_fB_length i_acts_done i_acts_undone i_kn_count f_boxes f_boxKept f_trial f_offers f_A_noteCounts f_A_notes f_B_noteCounts f_B_notes f_now_where f_now_worn f_ahead_where f_ahead_worn f_acts_rows f_kn_tunes f_kn_noteTimes J L) (TX ct) sz)) (va_Qv (fun _ : Unit => True) (fun (_ : Unit) (t : State) => ∃ (n_i_rd_fault n_i_rd_token n_i_rd_kind n_i_fB_length : Int32) (n_J : Nat → Nat → Int32), va_P (dC, dI) vwCl (WX r ct i_tapeLength i_time i_lyingCount n_i_rd_fault n_i_rd_token n_i_rd_kind i_sc_count i_sc_at i_A_tunes i_A_houses i_fA_length i_B_tunes i_B_houses n_i_fB_length i_acts_done i_acts_undone i_kn_count f_boxes f_boxKept f_trial f_offers f_A_noteCounts f_A_notes f_B_noteCounts f_B_notes f_now_where f_now_worn f_ahead_where f_ahead_worn f_acts_rows f_kn_tunes f_kn_noteTimes n_J L) t.heap ∧ va_D (va_A (WX r ct i_tapeLength i_time i_lyingCount i_rd_fault i_rd_token i_rd_kind i_sc_count i_sc_at i_A_tunes i_A_houses i_fA_length i_B_tunes i_B_houses i_fB_length i_acts_done i_acts_undone i_kn_count f_boxes f_boxKept f_trial f_offers f_A_noteCounts f_A_notes f_B_noteCounts f_B_notes f_now_where f_now_worn f_ahead_where f_ahead_worn f_acts_rows f_kn_tunes f_kn_noteTimes J L) sz) (WX r ct i_tapeLength i_time i_lyingCount n_i_rd_fault n_i_rd_token n_i_rd_kind i_sc_count i_sc_at i_A_tunes i_A_houses i_fA_length i_B_tunes i_B_houses n_i_fB_length i_acts_done i_acts_undone i_kn_count f_boxes f_boxKept f_trial f_offers f_A_noteCounts f_A_notes f_B_noteCounts f_B_notes f_now_where f_now_worn f_ahead_where f_ahead_worn f_acts_rows f_kn_tunes f_kn_noteTimes n_J L) ∧ (IX i_tapeLength i_time i_lyingCount n_i_rd_token i_sc_count i_sc_at i_A_tunes i_A_houses i_fA_length i_B_tunes i_B_houses n_i_fB_length i_acts_done i_acts_undone i_kn_count f_boxes f_A_noteCounts f_A_notes f_B_noteCounts f_B_notes f_now_worn f_ahead_worn f_acts_rows f_kn_tunes)) (va_A (WX r ct i_tapeLength i_time i_lyingCount i_rd_fault i_rd_token i_rd_kind i_sc_count i_sc_at i_A_tunes i_A_houses i_fA_length i_B_tunes i_B_houses i_fB_length i_acts_done i_acts_undone i_kn_count f_boxes f_boxKept f_trial f_offers f_A_noteCounts f_A_notes f_B_noteCounts f_B_notes f_now_where f_now_worn f_ahead_where f_ahead_worn f_acts_rows f_kn_tunes f_kn_noteTimes J L) sz)) 0 0 (va_A (WX r ct i_tapeLength i_time i_lyingCount i_rd_fault i_rd_token i_rd_kind i_sc_count i_sc_at i_A_tunes i_A_houses i_fA_length i_B_tunes i_B_houses i_fB_length i_acts_done i_acts_undone i_kn_count f_boxes f_boxKept f_trial f_offers f_A_noteCounts f_A_notes f_B_noteCounts f_B_notes f_now_where f_now_worn f_ahead_where f_ahead_worn f_acts_rows f_kn_tunes f_kn_noteTimes J L) sz) := by
  refine Met.ofW (cc := cX5_readUnit) (maxL := 4) (ret := none) (by decide) rfl ?_
  intro p e s m args below meth c0 s₁ B hml hv
  obtain ⟨rfl, hsz, hP, hK, hD0⟩ := hv
  have hx := B.exec
  have hb := B.bytes
  have hr := B.returns
  have hts := atoms_spec (ws := .code yX5_readUnit cX5_readUnit 4 none :: GW) B.pre
  have hG : ∀ w ∈ GW, w.before _ s = true := fun w h => hts w (List.mem_cons_of_mem _ h)
  have hown : s.vm.findClass RX5 = some m.cls := findClass_of_methodNamed B.named
  subst hsz
  have hD := hD0.self (sz := s.heap.size)
  generalize hAe : va_A (WX r ct i_tapeLength i_time i_lyingCount i_rd_fault i_rd_token i_rd_kind i_sc_count i_sc_at i_A_tunes i_A_houses i_fA_length i_B_tunes i_B_houses i_fB_length i_acts_done i_acts_undone i_kn_count f_boxes f_boxKept f_trial f_offers f_A_noteCounts f_A_notes f_B_noteCounts f_B_notes f_now_where f_now_worn f_ahead_where f_ahead_worn f_acts_rows f_kn_tunes f_kn_noteTimes J L) s.heap.size = A at hD ⊢
  have hA : ∀ q : Nat, s.heap.size ≤ q → A q := fun q h => by rw [← hAe]; exact Or.inr h
  have hS : va_S A s.heap s.heap [] := va_S.rf
  have hP : va_P (dC, dI) vwCl (WX r ct i_tapeLength i_time i_lyingCount i_rd_fault i_rd_token i_rd_kind i_sc_count i_sc_at i_A_tunes i_A_houses i_fA_length i_B_tunes i_B_houses i_fB_length i_acts_done i_acts_undone i_kn_count f_boxes f_boxKept f_trial f_offers f_A_noteCounts f_A_notes f_B_noteCounts f_B_notes f_now_where f_now_worn f_ahead_where f_ahead_worn f_acts_rows f_kn_tunes f_kn_noteTimes J L) s.heap := hP
  have hl := lv_entry ([.ref (r 1), .int 7]) (n := 4) (Nat.le_of_ble_eq_true rfl)
  rw [lg_entry_eq]
  generalize (lg_sl ([.ref (r 1), .int 7]) ++ List.replicate (4 - (lg_sl ([.ref (r 1), .int 7])).length) Slot.unset).toArray = ls at hl ⊢
  have hl : lv_has ls 4 [(0, .ref (r 1)), (1, .int 7)] := hl
  refine nameQ (fun Q hQ => ?_)
  obtain ⟨ie0, ie1, ie2, ie3, ie4, ie5, ie6, ie7, ie8, ie9, ie10, ie11, ie12, ie13, ie14, ie15, ie16, ie17, ie18, ie19, ie20, ie21, ie22, ie23, ie24, ie25, ie26, ie27, ie28, ie29, ie30, ie31, ie32, ie33, ie34, ie35, ie36, ie37, ie38, ie39⟩ := id hI
  refine lv_aload_n hx hb dX5_readUnit_0 rfl (lv_at hl 0 rfl) ?_
  refine gX_X5_66_1 hx hb hG hown hK hP dX5_readUnit_1 ?_
  refine lv_bipush (v := 40) hx hb dX5_readUnit_4 (by decide) ?_
  refine lv_icmp_ne (tgt := 13) hx hb dX5_readUnit_6 (by decide) (fun c_1 => ?_) (fun c_1 => ?_)
  · skip
    have f2 : i_rd_kind.toInt ≠ 40 := qi_ne c_1 rfl zc_40
    refine lv_iconst (v := 0) hx hb dX5_readUnit_13 (by decide) ?_
    refine lv_istore_n (lv' := [(2, .int 0), (0, .ref (r 1)), (1, .int 7)]) hx hb dX5_readUnit_14 rfl hl (by decide) rfl (fun ls hl => ?_)
    refine lv_iload_n hx hb dX5_readUnit_15 rfl (lv_at hl 0 rfl) ?_
    refine lv_if_ne (tgt := 37) hx hb dX5_readUnit_16 (by decide) (fun c_3 => absurd (by decide) c_3) (fun c_3 => ?_)
    refine lv_aload_n hx hb dX5_readUnit_19 rfl (lv_at hl 1 rfl) ?_
    refine gX_X5_66_1 hx hb hG hown hK hP dX5_readUnit_20 ?_
    refine lv_iconst (v := 2) hx hb dX5_readUnit_23 (by decide) ?_
    refine lv_icmp_eq (tgt := 37) hx hb dX5_readUnit_24 (by decide) (fun c_4 => ?_) (fun c_4 => ?_)
    · skip
      have f5 : i_rd_kind.toInt = 2 := qi_eq c_4 rfl zc_2
      have f6 : i_rd_kind.toInt ≤ (39 : Int) := (ox_963 f5)
      refine lv_iconst (v := 1) hx hb dX5_readUnit_37 (by decide) ?_
      refine lv_goto (tgt := 42) hx hb dX5_readUnit_38 (by decide) ?_
      refine lv_istore_n (lv' := [(3, .int 1), (2, .int 0), (0, .ref (r 1)), (1, .int 7)]) hx hb dX5_readUnit_42 rfl hl (by decide) rfl (fun ls hl => ?_)
      refine lv_iload_n hx hb dX5_readUnit_43 rfl (lv_at hl 0 rfl) ?_
      refine lv_if_eq (tgt := 69) hx hb dX5_readUnit_44 (by decide) (fun c_7 => absurd c_7 (by decide)) (fun c_7 => ?_)
      refine lv_aload_n hx hb dX5_readUnit_47 rfl (lv_at hl 2 rfl) ?_
      refine gX_X5_25_1 hx hb hG hown hK hP dX5_readUnit_48 ?_
      refine gX_X5_172_5 hx hb hG hown hK hP dX5_readUnit_51 (fun x8 => ?_)
      refine lv_bipush (v := 30) hx hb dX5_readUnit_54 (by decide) ?_
      refine lv_icmp_ge (tgt := 69) hx hb dX5_readUnit_56 (by decide) (fun c_9 => ?_) (fun c_9 => ?_)
      · skip
        have f10 : 30 ≤ x8.toInt := qi_le c_9 zc_30 rfl
        refine lv_aload_n hx hb dX5_readUnit_69 rfl (lv_at hl 2 rfl) ?_
        have hFc := frA hD hS hA
        refine va_callv (va_runV (As := []) (rest := []) ⟨hx, hb, hml, hown, hG⟩ (kX5_refuse l dC dI r ct i_tapeLength i_time i_lyingCount i_rd_fault i_rd_token i_rd_kind i_sc_count i_sc_at i_A_tunes i_A_houses i_fA_length i_B_tunes i_B_houses i_fB_length i_acts_done i_acts_undone i_kn_count f_boxes f_boxKept f_trial f_offers f_A_noteCounts f_A_notes f_B_noteCounts f_B_notes f_now_where f_now_worn f_ahead_where f_ahead_worn f_acts_rows f_kn_tunes f_kn_noteTimes J L s.heap.size hI) (cwV 0 hG (goodV gw627 gw629 gw9 gw130 gw630) rfl rfl rfl hd_X5_refuse ⟨(Nat.le_of_ble_eq_true rfl), (Nat.le_of_ble_eq_true rfl)⟩) ⟨fbW, va_recv hK hP (ci := 4) (q0 := 1) rfl rfl, pW_in hP hK hD⟩ rfl rfl hl.1 rfl (lv_room (Nat.le_of_ble_eq_true rfl)) dX5_readUnit_70 ⟨(Nat.le_of_ble_eq_true rfl), (Nat.le_of_ble_eq_true rfl)⟩) hS (fun q _ h => hFc q h) hFc (fun _ t_ H11 locs ht hvm hw hB hz1 hk1 hS => ?_)
        obtain ⟨x13, J14, hP1, hD1, hI15⟩ := hB
        rw [ht] at hP1
        have hP := hP1
        have hD := dW hFc hD1
        obtain ⟨im16, im17, im18, im19, im20, im21, im22, im23, im24, im25, im26, im27, im28, im29, im30, im31, im32, im33, im34, im35, im36, im37, im38, im39, im40, im41, im42, im43, im44, im45, im46, im47, im48, im49, im50, im51, im52, im53, im54, im55⟩ := id hI15
        rw [hQ]
        exact W.vret hx hb hr (fun t ht hW => ⟨⟨(), rfl, trivial, ⟨x13, i_rd_token, i_rd_kind, i_fB_length, J14, by rw [ht]; exact hP, hD, hI15⟩⟩, hS.F ht⟩) hS.2.2 dX5_readUnit_73
      · skip
        have f56 : x8.toInt < 30 := qi_nle c_9 zc_30 rfl
        refine lv_iload_n hx hb dX5_readUnit_59 rfl (lv_at hl 1 rfl) ?_
        refine lv_if_eq (tgt := 74) hx hb dX5_readUnit_60 (by decide) (fun c_57 => ?_) (fun c_57 => absurd (by decide) c_57)
        refine lv_aload_n hx hb dX5_readUnit_74 rfl (lv_at hl 2 rfl) ?_
        refine gX_X5_25_1 hx hb hG hown hK hP dX5_readUnit_75 ?_
        refine lv_dup hx hb dX5_readUnit_78 rfl ?_
        refine gX_X5_172_5 hx hb hG hown hK hP dX5_readUnit_79 (fun x58 => ?_)
        refine lv_iconst (v := 1) hx hb dX5_readUnit_82 (by decide) ?_
        refine lv_iadd hx hb dX5_readUnit_83 ?_
        refine lv_topi (fun x59 ex59 => ?_)
        refine pX_X5_172_5 hx hb hG hown hK hP hD hS dX5_readUnit_84 (fun J61 H60 locs hP hD hS => ?_)
        refine lv_iload_n hx hb dX5_readUnit_87 rfl (lv_at hl 1 rfl) ?_
        refine lv_if_eq (tgt := 110) hx hb dX5_readUnit_88 (by decide) (fun c_62 => ?_) (fun c_62 => absurd (by decide) c_62)
        refine lv_aload_n hx hb dX5_readUnit_110 rfl (lv_at hl 2 rfl) ?_
        refine gX_X5_66_1 hx hb hG hown hK hP dX5_readUnit_111 ?_
        refine lv_iconst (v := 2) hx hb dX5_readUnit_114 (by decide) ?_
        refine lv_icmp_ne (tgt := 144) hx hb dX5_readUnit_115 (by decide) (fun c_63 => ((ox_964 (qi_ne c_63 rfl zc_2) f5 f6)).elim) (fun c_63 => ?_)
        have f64 : i_rd_kind.toInt = 2 := qi_eq c_63 rfl zc_2
        refine lv_aload_n hx hb dX5_readUnit_118 rfl (lv_at hl 2 rfl) ?_
        refine gX_X5_25_1 hx hb hG hown hK hP dX5_readUnit_119 ?_
        refine gX_X5_104_5 hx hb hG hown hK hP dX5_readUnit_122 ?_
        refine lv_aload_n hx hb dX5_readUnit_125 rfl (lv_at hl 2 rfl) ?_
        refine gX_X5_18_1 hx hb hG hown hK hP dX5_readUnit_126 ?_
        refine gX_X5_148_2 hx hb hG hown hK hP dX5_readUnit_129 ?_
        refine lv_aload_n hx hb dX5_readUnit_132 rfl (lv_at hl 2 rfl) ?_
        refine gX_X5_59_1 hx hb hG hown hK hP dX5_readUnit_133 ?_
        refine ldX_22 (mm := i_rd_token.toInt) hx hb hK hP rfl (ox_906 ie6 ie7) (ox_907 ie6 ie7) dX5_readUnit_136 (fun y65 => ?_)
        refine lv_l2i (v := _) hx hb dX5_readUnit_137 rfl ?_
        refine lv_topi (fun x66 ex66 => ?_)
        have hFc := frA hD hS hA
        refine va_callv (va_runV (As := [.int x66]) (rest := []) ⟨hx, hb, hml, hown, hG⟩ (kX1_addNumber l dC dI r ct i_tapeLength i_time i_lyingCount i_rd_fault i_rd_token i_rd_kind i_sc_count i_sc_at i_A_tunes i_A_houses i_fA_length i_B_tunes i_B_houses i_fB_length i_acts_done i_acts_undone i_kn_count f_boxes f_boxKept f_trial f_offers f_A_noteCounts f_A_notes f_B_noteCounts f_B_notes f_now_where f_now_worn f_ahead_where f_ahead_worn f_acts_rows f_kn_tunes f_kn_noteTimes J61 L x66 H60.size hI) (cwV 1 hG (goodV gw671 gw227 gw228 gw133 gw229) rfl rfl rfl hd_X1_addNumber ⟨(Nat.le_of_ble_eq_true rfl), (Nat.le_of_ble_eq_true rfl)⟩) ⟨fbW, va_recv hK hP (ci := 1) (q0 := 6) rfl rfl, pW_in hP hK hD⟩ rfl rfl hl.1 rfl (lv_room (Nat.le_of_ble_eq_true rfl)) dX5_readUnit_138 ⟨(Nat.le_of_ble_eq_true rfl), (Nat.le_of_ble_eq_true rfl)⟩) hS (fun q _ h => hFc q h) hFc (fun _ t_ H67 locs ht hvm hw hB hz1 hk1 hS => ?_)
        obtain ⟨x69, J70, hP1, hD1, hI71⟩ := hB
        rw [ht] at hP1
        have hP := hP1
        have hD := dW hFc hD1
        obtain ⟨im72, im73, im74, im75, im76, im77, im78, im79, im80, im81, im82, im83, im84, im85, im86, im87, im88, im89, im90, im91, im92, im93, im94, im95, im96, im97, im98, im99, im100, im101, im102, im103, im104, im105, im106, im107, im108, im109, im110, im111⟩ := id hI71
        refine lv_goto (tgt := 158) hx hb dX5_readUnit_141 (by decide) ?_
        refine lv_aload_n hx hb dX5_readUnit_158 rfl (lv_at hl 2 rfl) ?_
        have hFc := frA hD hS hA
        refine va_callv (va_runV (As := []) (rest := []) ⟨hx, hb, hml, hown, hG⟩ (kX5_advance l dC dI r ct i_tapeLength i_time i_lyingCount i_rd_fault i_rd_token i_rd_kind i_sc_count i_sc_at i_A_tunes i_A_houses i_fA_length i_B_tunes i_B_houses x69 i_acts_done i_acts_undone i_kn_count f_boxes f_boxKept f_trial f_offers f_A_noteCounts f_A_notes f_B_noteCounts f_B_notes f_now_where f_now_worn f_ahead_where f_ahead_worn f_acts_rows f_kn_tunes f_kn_noteTimes J70 L H67.size hI71) (cwV 0 hG (goodV gw635 gw637 gw11 gw130 gw638) rfl rfl rfl hd_X5_advance ⟨(Nat.le_of_ble_eq_true rfl), (Nat.le_of_ble_eq_true rfl)⟩) ⟨fbW, va_recv hK hP (ci := 4) (q0 := 1) rfl rfl, pW_in hP hK hD⟩ rfl rfl hl.1 rfl (lv_room (Nat.le_of_ble_eq_true rfl)) dX5_readUnit_159 ⟨(Nat.le_of_ble_eq_true rfl), (Nat.le_of_ble_eq_true rfl)⟩) hS (fun q _ h => hFc q h) hFc (fun _ t_ H112 locs ht hvm hw hB hz1 hk1 hS => ?_)
        obtain ⟨x114, x115, hP1, hD1, hI116⟩ := hB
        rw [ht] at hP1
        have hP := hP1
        have hD := dW hFc hD1
        obtain ⟨im117, im118, im119, im120, im121, im122, im123, im124, im125, im126, im127, im128, im129, im130, im131, im132, im133, im134, im135, im136, im137, im138, im139, im140, im141, im142, im143, im144, im145, im146, im147, im148, im149, im150, im151, im152, im153, im154, im155, im156⟩ := id hI116
        rw [hQ]
        exact W.vret hx hb hr (fun t ht hW => ⟨⟨(), rfl, trivial, ⟨i_rd_fault, x114, x115, x69, J70, by rw [ht]; exact hP, hD, hI116⟩⟩, hS.F ht⟩) hS.2.2 dX5_readUnit_162
    · skip
      have f157 : i_rd_kind.toInt ≠ 2 := qi_ne c_4 rfl zc_2
      refine lv_aload_n hx hb dX5_readUnit_27 rfl (lv_at hl 1 rfl) ?_
      refine gX_X5_66_1 hx hb hG hown hK hP dX5_readUnit_28 ?_
      refine va_calli (va_runS (As := [.int i_rd_kind]) (rest := []) ⟨hx, hb, hml, hown, hG⟩ (kX2_isFact l dC dI i_rd_kind s.heap.size) (va_cwS 1 hG (goodS gw668 gw669 gw144 gw670) rfl rfl rfl hd_X2_isFact ⟨(Nat.le_of_ble_eq_true rfl), (Nat.le_of_ble_eq_true rfl)⟩) ⟨fbR, pR_in emptyP (emptyK hK)⟩ rfl rfl hl.1 rfl (lv_room (Nat.le_of_ble_eq_true rfl)) dX5_readUnit_31 ⟨(Nat.le_of_ble_eq_true rfl), (Nat.le_of_ble_eq_true rfl)⟩) hS (fun q hq h => absurd hq (Nat.not_lt.mpr h)) (fun q h => hA q (Nat.le_trans hS.1 h)) (fun r_159 u_ t_ H158 locs ht hvm hw hB hz1 hk1 hS => ?_)
      subst hw
      have hP := wk hP hk1
      obtain ⟨f160, f161, f162⟩ := hB
      refine lv_if_eq (tgt := 41) hx hb dX5_readUnit_34 (by decide) (fun c_163 => ?_) (fun c_163 => ?_)
      · skip
        have f164 : r_159.toInt = 0 := qi_eq c_163 rfl zc_0
        refine lv_iconst (v := 0) hx hb dX5_readUnit_41 (by decide) ?_
        refine lv_istore_n (lv' := [(3, .int 0), (2, .int 0), (0, .ref (r 1)), (1, .int 7)]) hx hb dX5_readUnit_42 rfl hl (by decide) rfl (fun ls hl => ?_)
        refine lv_iload_n hx hb dX5_readUnit_43 rfl (lv_at hl 0 rfl) ?_
        refine lv_if_eq (tgt := 69) hx hb dX5_readUnit_44 (by decide) (fun c_165 => ?_) (fun c_165 => absurd (by decide) c_165)
        refine lv_aload_n hx hb dX5_readUnit_69 rfl (lv_at hl 2 rfl) ?_
        have hFc := frA hD hS hA
        refine va_callv (va_runV (As := []) (rest := []) ⟨hx, hb, hml, hown, hG⟩ (kX5_refuse l dC dI r ct i_tapeLength i_time i_lyingCount i_rd_fault i_rd_token i_rd_kind i_sc_count i_sc_at i_A_tunes i_A_houses i_fA_length i_B_tunes i_B_houses i_fB_length i_acts_done i_acts_undone i_kn_count f_boxes f_boxKept f_trial f_offers f_A_noteCounts f_A_notes f_B_noteCounts f_B_notes f_now_where f_now_worn f_ahead_where f_ahead_worn f_acts_rows f_kn_tunes f_kn_noteTimes J L H158.size hI) (cwV 0 hG (goodV gw627 gw629 gw9 gw130 gw630) rfl rfl rfl hd_X5_refuse ⟨(Nat.le_of_ble_eq_true rfl), (Nat.le_of_ble_eq_true rfl)⟩) ⟨fbW, va_recv hK hP (ci := 4) (q0 := 1) rfl rfl, pW_in hP hK hD⟩ rfl rfl hl.1 rfl (lv_room (Nat.le_of_ble_eq_true rfl)) dX5_readUnit_70 ⟨(Nat.le_of_ble_eq_true rfl), (Nat.le_of_ble_eq_true rfl)⟩) hS (fun q _ h => hFc q h) hFc (fun _ t_ H166 locs ht hvm hw hB hz1 hk1 hS => ?_)
        obtain ⟨x168, J169, hP1, hD1, hI170⟩ := hB
        rw [ht] at hP1
        have hP := hP1
        have hD := dW hFc hD1
        obtain ⟨im171, im172, im173, im174, im175, im176, im177, im178, im179, im180, im181, im182, im183, im184, im185, im186, im187, im188, im189, im190, im191, im192, im193, im194, im195, im196, im197, im198, im199, im200, im201, im202, im203, im204, im205, im206, im207, im208, im209, im210⟩ := id hI170
        rw [hQ]
        exact W.vret hx hb hr (fun t ht hW => ⟨⟨(), rfl, trivial, ⟨x168, i_rd_token, i_rd_kind, i_fB_length, J169, by rw [ht]; exact hP, hD, hI170⟩⟩, hS.F ht⟩) hS.2.2 dX5_readUnit_73
      · skip
        have f211 : r_159.toInt ≠ 0 := qi_ne c_163 rfl zc_0
        have f212 : (112 : Int) ≤ i_rd_kind.toInt := (ox_965 f160 f211)
        have f213 : i_rd_kind.toInt ≤ (118 : Int) := (ox_966 f160 f211)
        have f214 : r_159.toInt = (1 : Int) := (ox_967 f160 f211)
        have f215 : (1 : Int) ≤ r_159.toInt := (ox_53 f161 f162 f214)
        refine lv_iconst (v := 1) hx hb dX5_readUnit_37 (by decide) ?_
        refine lv_goto (tgt := 42) hx hb dX5_readUnit_38 (by decide) ?_
        refine lv_istore_n (lv' := [(3, .int 1), (2, .int 0), (0, .ref (r 1)), (1, .int 7)]) hx hb dX5_readUnit_42 rfl hl (by decide) rfl (fun ls hl => ?_)
        refine lv_iload_n hx hb dX5_readUnit_43 rfl (lv_at hl 0 rfl) ?_
        refine lv_if_eq (tgt := 69) hx hb dX5_readUnit_44 (by decide) (fun c_216 => absurd c_216 (by decide)) (fun c_216 => ?_)
        refine lv_aload_n hx hb dX5_readUnit_47 rfl (lv_at hl 2 rfl) ?_
        refine gX_X5_25_1 hx hb hG hown hK hP dX5_readUnit_48 ?_
        refine gX_X5_172_5 hx hb hG hown hK hP dX5_readUnit_51 (fun x217 => ?_)
        refine lv_bipush (v := 30) hx hb dX5_readUnit_54 (by decide) ?_
        refine lv_icmp_ge (tgt := 69) hx hb dX5_readUnit_56 (by decide) (fun c_218 => ?_) (fun c_218 => ?_)
        · skip
          have f219 : 30 ≤ x217.toInt := qi_le c_218 zc_30 rfl
          refine lv_aload_n hx hb dX5_readUnit_69 rfl (lv_at hl 2 rfl) ?_
          have hFc := frA hD hS hA
          refine va_callv (va_runV (As := []) (rest := []) ⟨hx, hb, hml, hown, hG⟩ (kX5_refuse l dC dI r ct i_tapeLength i_time i_lyingCount i_rd_fault i_rd_token i_rd_kind i_sc_count i_sc_at i_A_tunes i_A_houses i_fA_length i_B_tunes i_B_houses i_fB_length i_acts_done i_acts_undone i_kn_count f_boxes f_boxKept f_trial f_offers f_A_noteCounts f_A_notes f_B_noteCounts f_B_notes f_now_where f_now_worn f_ahead_where f_ahead_worn f_acts_rows f_kn_tunes f_kn_noteTimes J L H158.size hI) (cwV 0 hG (goodV gw627 gw629 gw9 gw130 gw630) rfl rfl rfl hd_X5_refuse ⟨(Nat.le_of_ble_eq_true rfl), (Nat.le_of_ble_eq_true rfl)⟩) ⟨fbW, va_recv hK hP (ci := 4) (q0 := 1) rfl rfl, pW_in hP hK hD⟩ rfl rfl hl.1 rfl (lv_room (Nat.le_of_ble_eq_true rfl)) dX5_readUnit_70 ⟨(Nat.le_of_ble_eq_true rfl), (Nat.le_of_ble_eq_true rfl)⟩) hS (fun q _ h => hFc q h) hFc (fun _ t_ H220 locs ht hvm hw hB hz1 hk1 hS => ?_)
          obtain ⟨x222, J223, hP1, hD1, hI224⟩ := hB
          rw [ht] at hP1
          have hP := hP1
          have hD := dW hFc hD1
          obtain ⟨im225, im226, im227, im228, im229, im230, im231, im232, im233, im234, im235, im236, im237, im238, im239, im240, im241, im242, im243, im244, im245, im246, im247, im248, im249, im250, im251, im252, im253, im254, im255, im256, im257, im258, im259, im260, im261, im262, im263, im264⟩ := id hI224
          rw [hQ]
          exact W.vret hx hb hr (fun t ht hW => ⟨⟨(), rfl, trivial, ⟨x222, i_rd_token, i_rd_kind, i_fB_length, J223, by rw [ht]; exact hP, hD, hI224⟩⟩, hS.F ht⟩) hS.2.2 dX5_readUnit_73
        · skip
          have f265 : x217.toInt < 30 := qi_nle c_218 zc_30 rfl
          refine lv_iload_n hx hb dX5_readUnit_59 rfl (lv_at hl 1 rfl) ?_
          refine lv_if_eq (tgt := 74) hx hb dX5_readUnit_60 (by decide) (fun c_266 => ?_) (fun c_266 => absurd (by decide) c_266)
          refine lv_aload_n hx hb dX5_readUnit_74 rfl (lv_at hl 2 rfl) ?_
          refine gX_X5_25_1 hx hb hG hown hK hP dX5_readUnit_75 ?_
          refine lv_dup hx hb dX5_readUnit_78 rfl ?_
          refine gX_X5_172_5 hx hb hG hown hK hP dX5_readUnit_79 (fun x267 => ?_)
          refine lv_iconst (v := 1) hx hb dX5_readUnit_82 (by decide) ?_
          refine lv_iadd hx hb dX5_readUnit_83 ?_
          refine lv_topi (fun x268 ex268 => ?_)
          refine pX_X5_172_5 hx hb hG hown hK hP hD hS dX5_readUnit_84 (fun J270 H269 locs hP hD hS => ?_)
          refine lv_iload_n hx hb dX5_readUnit_87 rfl (lv_at hl 1 rfl) ?_
          refine lv_if_eq (tgt := 110) hx hb dX5_readUnit_88 (by decide) (fun c_271 => ?_) (fun c_271 => absurd (by decide) c_271)
          refine lv_aload_n hx hb dX5_readUnit_110 rfl (lv_at hl 2 rfl) ?_
          refine gX_X5_66_1 hx hb hG hown hK hP dX5_readUnit_111 ?_
          refine lv_iconst (v := 2) hx hb dX5_readUnit_114 (by decide) ?_
          refine lv_icmp_ne (tgt := 144) hx hb dX5_readUnit_115 (by decide) (fun c_272 => ?_) (fun c_272 => ((ox_968 (qi_eq c_272 rfl zc_2) f212 f213)).elim)
          have f273 : i_rd_kind.toInt ≠ 2 := qi_ne c_272 rfl zc_2
          have f274 : (41 : Int) ≤ i_rd_kind.toInt := (ox_969 f212 f213)
          have f275 : (3 : Int) ≤ i_rd_kind.toInt := (ox_970 f212 f213 f274)
          have f276 : (3 : Int) ≤ i_rd_kind.toInt := (ox_971 f212)
          refine lv_aload_n hx hb dX5_readUnit_144 rfl (lv_at hl 2 rfl) ?_
          refine gX_X5_25_1 hx hb hG hown hK hP dX5_readUnit_145 ?_
          refine gX_X5_104_5 hx hb hG hown hK hP dX5_readUnit_148 ?_
          refine lv_aload_n hx hb dX5_readUnit_151 rfl (lv_at hl 2 rfl) ?_
          refine gX_X5_66_1 hx hb hG hown hK hP dX5_readUnit_152 ?_
          have hFc := frA hD hS hA
          refine va_callv (va_runV (As := [.int i_rd_kind]) (rest := []) ⟨hx, hb, hml, hown, hG⟩ (kX1_addFact l dC dI r ct i_tapeLength i_time i_lyingCount i_rd_fault i_rd_token i_rd_kind i_sc_count i_sc_at i_A_tunes i_A_houses i_fA_length i_B_tunes i_B_houses i_fB_length i_acts_done i_acts_undone i_kn_count f_boxes f_boxKept f_trial f_offers f_A_noteCounts f_A_notes f_B_noteCounts f_B_notes f_now_where f_now_worn f_ahead_where f_ahead_worn f_acts_rows f_kn_tunes f_kn_noteTimes J270 L i_rd_kind H269.size hI) (cwV 1 hG (goodV gw672 gw219 gw220 gw133 gw221) rfl rfl rfl hd_X1_addFact ⟨(Nat.le_of_ble_eq_true rfl), (Nat.le_of_ble_eq_true rfl)⟩) ⟨fbW, va_recv hK hP (ci := 1) (q0 := 6) rfl rfl, pW_in hP hK hD⟩ rfl rfl hl.1 rfl (lv_room (Nat.le_of_ble_eq_true rfl)) dX5_readUnit_155 ⟨(Nat.le_of_ble_eq_true rfl), (Nat.le_of_ble_eq_true rfl)⟩) hS (fun q _ h => hFc q h) hFc (fun _ t_ H277 locs ht hvm hw hB hz1 hk1 hS => ?_)
          obtain ⟨x279, J280, hP1, hD1, hI281⟩ := hB
          rw [ht] at hP1
          have hP := hP1
          have hD := dW hFc hD1
          obtain ⟨im282, im283, im284, im285, im286, im287, im288, im289, im290, im291, im292, im293, im294, im295, im296, im297, im298, im299, im300, im301, im302, im303, im304, im305, im306, im307, im308, im309, im310, im311, im312, im313, im314, im315, im316, im317, im318, im319, im320, im321⟩ := id hI281
          refine lv_aload_n hx hb dX5_readUnit_158 rfl (lv_at hl 2 rfl) ?_
          have hFc := frA hD hS hA
          refine va_callv (va_runV (As := []) (rest := []) ⟨hx, hb, hml, hown, hG⟩ (kX5_advance l dC dI r ct i_tapeLength i_time i_lyingCount i_rd_fault i_rd_token i_rd_kind i_sc_count i_sc_at i_A_tunes i_A_houses i_fA_length i_B_tunes i_B_houses x279 i_acts_done i_acts_undone i_kn_count f_boxes f_boxKept f_trial f_offers f_A_noteCounts f_A_notes f_B_noteCounts f_B_notes f_now_where f_now_worn f_ahead_where f_ahead_worn f_acts_rows f_kn_tunes f_kn_noteTimes J280 L H277.size hI281) (cwV 0 hG (goodV gw635 gw637 gw11 gw130 gw638) rfl rfl rfl hd_X5_advance ⟨(Nat.le_of_ble_eq_true rfl), (Nat.le_of_ble_eq_true rfl)⟩) ⟨fbW, va_recv hK hP (ci := 4) (q0 := 1) rfl rfl, pW_in hP hK hD⟩ rfl rfl hl.1 rfl (lv_room (Nat.le_of_ble_eq_true rfl)) dX5_readUnit_159 ⟨(Nat.le_of_ble_eq_true rfl), (Nat.le_of_ble_eq_true rfl)⟩) hS (fun q _ h => hFc q h) hFc (fun _ t_ H322 locs ht hvm hw hB hz1 hk1 hS => ?_)
          obtain ⟨x324, x325, hP1, hD1, hI326⟩ := hB
          rw [ht] at hP1
          have hP := hP1
          have hD := dW hFc hD1
          obtain ⟨im327, im328, im329, im330, im331, im332, im333, im334, im335, im336, im337, im338, im339, im340, im341, im342, im343, im344, im345, im346, im347, im348, im349, im350, im351, im352, im353, im354, im355, im356, im357, im358, im359, im360, im361, im362, im363, im364, im365, im366⟩ := id hI326
          rw [hQ]
          exact W.vret hx hb hr (fun t ht hW => ⟨⟨(), rfl, trivial, ⟨i_rd_fault, x324, x325, x279, J280, by rw [ht]; exact hP, hD, hI326⟩⟩, hS.F ht⟩) hS.2.2 dX5_readUnit_162
  · skip
    have f367 : i_rd_kind.toInt = 40 := qi_eq c_1 rfl zc_40
    refine lv_iconst (v := 1) hx hb dX5_readUnit_9 (by decide) ?_
    refine lv_goto (tgt := 14) hx hb dX5_readUnit_10 (by decide) ?_
    refine lv_istore_n (lv' := [(2, .int 1), (0, .ref (r 1)), (1, .int 7)]) hx hb dX5_readUnit_14 rfl hl (by decide) rfl (fun ls hl => ?_)
    refine lv_iload_n hx hb dX5_readUnit_15 rfl (lv_at hl 0 rfl) ?_
    refine lv_if_ne (tgt := 37) hx hb dX5_readUnit_16 (by decide) (fun c_368 => ?_) (fun c_368 => absurd c_368 (by decide))
    refine lv_iconst (v := 1) hx hb dX5_readUnit_37 (by decide) ?_
    refine lv_goto (tgt := 42) hx hb dX5_readUnit_38 (by decide) ?_
    refine lv_istore_n (lv' := [(3, .int 1), (2, .int 1), (0, .ref (r 1)), (1, .int 7)]) hx hb dX5_readUnit_42 rfl hl (by decide) rfl (fun ls hl => ?_)
    refine lv_iload_n hx hb dX5_readUnit_43 rfl (lv_at hl 0 rfl) ?_
    refine lv_if_eq (tgt := 69) hx hb dX5_readUnit_44 (by decide) (fun c_369 => absurd c_369 (by decide)) (fun c_369 => ?_)
    refine lv_aload_n hx hb dX5_readUnit_47 rfl (lv_at hl 2 rfl) ?_
    refine gX_X5_25_1 hx hb hG hown hK hP dX5_readUnit_48 ?_
    refine gX_X5_172_5 hx hb hG hown hK hP dX5_readUnit_51 (fun x370 => ?_)
    refine lv_bipush (v := 30) hx hb dX5_readUnit_54 (by decide) ?_
    refine lv_icmp_ge (tgt := 69) hx hb dX5_readUnit_56 (by decide) (fun c_371 => ?_) (fun c_371 => ?_)
    · skip
      have f372 : 30 ≤ x370.toInt := qi_le c_371 zc_30 rfl
      refine lv_aload_n hx hb dX5_readUnit_69 rfl (lv_at hl 2 rfl) ?_
      have hFc := frA hD hS hA
      refine va_callv (va_runV (As := []) (rest := []) ⟨hx, hb, hml, hown, hG⟩ (kX5_refuse l dC dI r ct i_tapeLength i_time i_lyingCount i_rd_fault i_rd_token i_rd_kind i_sc_count i_sc_at i_A_tunes i_A_houses i_fA_length i_B_tunes i_B_houses i_fB_length i_acts_done i_acts_undone i_kn_count f_boxes f_boxKept f_trial f_offers f_A_noteCounts f_A_notes f_B_noteCounts f_B_notes f_now_where f_now_worn f_ahead_where f_ahead_worn f_acts_rows f_kn_tunes f_kn_noteTimes J L s.heap.size hI) (cwV 0 hG (goodV gw627 gw629 gw9 gw130 gw630) rfl rfl rfl hd_X5_refuse ⟨(Nat.le_of_ble_eq_true rfl), (Nat.le_of_ble_eq_true rfl)⟩) ⟨fbW, va_recv hK hP (ci := 4) (q0 := 1) rfl rfl, pW_in hP hK hD⟩ rfl rfl hl.1 rfl (lv_room (Nat.le_of_ble_eq_true rfl)) dX5_readUnit_70 ⟨(Nat.le_of_ble_eq_true rfl), (Nat.le_of_ble_eq_true rfl)⟩) hS (fun q _ h => hFc q h) hFc (fun _ t_ H373 locs ht hvm hw hB hz1 hk1 hS => ?_)
      obtain ⟨x375, J376, hP1, hD1, hI377⟩ := hB
      rw [ht] at hP1
      have hP := hP1
      have hD := dW hFc hD1
      obtain ⟨im378, im379, im380, im381, im382, im383, im384, im385, im386, im387, im388, im389, im390, im391, im392, im393, im394, im395, im396, im397, im398, im399, im400, im401, im402, im403, im404, im405, im406, im407, im408, im409, im410, im411, im412, im413, im414, im415, im416, im417⟩ := id hI377
      rw [hQ]
      exact W.vret hx hb hr (fun t ht hW => ⟨⟨(), rfl, trivial, ⟨x375, i_rd_token, i_rd_kind, i_fB_length, J376, by rw [ht]; exact hP, hD, hI377⟩⟩, hS.F ht⟩) hS.2.2 dX5_readUnit_73
    · skip
      have f418 : x370.toInt < 30 := qi_nle c_371 zc_30 rfl
      refine lv_iload_n hx hb dX5_readUnit_59 rfl (lv_at hl 1 rfl) ?_
      refine lv_if_eq (tgt := 74) hx hb dX5_readUnit_60 (by decide) (fun c_419 => absurd c_419 (by decide)) (fun c_419 => ?_)
      refine lv_iload_n hx hb dX5_readUnit_63 rfl (lv_at hl 3 rfl) ?_
      refine lv_bipush (v := 7) hx hb dX5_readUnit_64 (by decide) ?_
      refine lv_icmp_lt (tgt := 74) hx hb dX5_readUnit_66 (by decide) (fun c_420 => absurd c_420 (by decide)) (fun c_420 => ?_)
      refine lv_aload_n hx hb dX5_readUnit_69 rfl (lv_at hl 2 rfl) ?_
      have hFc := frA hD hS hA
      refine va_callv (va_runV (As := []) (rest := []) ⟨hx, hb, hml, hown, hG⟩ (kX5_refuse l dC dI r ct i_tapeLength i_time i_lyingCount i_rd_fault i_rd_token i_rd_kind i_sc_count i_sc_at i_A_tunes i_A_houses i_fA_length i_B_tunes i_B_houses i_fB_length i_acts_done i_acts_undone i_kn_count f_boxes f_boxKept f_trial f_offers f_A_noteCounts f_A_notes f_B_noteCounts f_B_notes f_now_where f_now_worn f_ahead_where f_ahead_worn f_acts_rows f_kn_tunes f_kn_noteTimes J L s.heap.size hI) (cwV 0 hG (goodV gw627 gw629 gw9 gw130 gw630) rfl rfl rfl hd_X5_refuse ⟨(Nat.le_of_ble_eq_true rfl), (Nat.le_of_ble_eq_true rfl)⟩) ⟨fbW, va_recv hK hP (ci := 4) (q0 := 1) rfl rfl, pW_in hP hK hD⟩ rfl rfl hl.1 rfl (lv_room (Nat.le_of_ble_eq_true rfl)) dX5_readUnit_70 ⟨(Nat.le_of_ble_eq_true rfl), (Nat.le_of_ble_eq_true rfl)⟩) hS (fun q _ h => hFc q h) hFc (fun _ t_ H421 locs ht hvm hw hB hz1 hk1 hS => ?_)
      obtain ⟨x423, J424, hP1, hD1, hI425⟩ := hB
      rw [ht] at hP1
      have hP := hP1
      have hD := dW hFc hD1
      obtain ⟨im426, im427, im428, im429, im430, im431, im432, im433, im434, im435, im436, im437, im438, im439, im440, im441, im442, im443, im444, im445, im446, im447, im448, im449, im450, im451, im452, im453, im454, im455, im456, im457, im458, im459, im460, im461, im462, im463, im464, im465⟩ := id hI425
      rw [hQ]
      exact W.vret hx hb hr (fun t ht hW => ⟨⟨(), rfl, trivial, ⟨x423, i_rd_token, i_rd_kind, i_fB_length, J424, by rw [ht]; exact hP, hD, hI425⟩⟩, hS.F ht⟩) hS.2.2 dX5_readUnit_73
set_option maxHeartbeats 4000000 in
set_option maxRecDepth 100000 in
theorem kX5_readFormula_v47 (l : Launch) (dC : Nat → ClassId) (dI : Nat → Nat → Nat) (r : Nat → Nat) (ct : Nat → ClassId) (i_tapeLength i_time i_lyingCount i_rd_fault i_rd_token i_rd_kind i_sc_count i_sc_at i_A_tunes i_A_houses i_fA_length i_B_tunes i_B_houses i_fB_length i_acts_done i_acts_undone i_kn_count : Int32) (f_boxes f_boxKept f_trial f_offers f_A_noteCounts f_A_notes f_B_noteCounts f_B_notes f_now_where f_now_worn f_ahead_where f_ahead_worn f_acts_rows f_kn_tunes f_kn_noteTimes : Nat → Int32) (J : Nat → Nat → Int32) (L : Nat → Nat → Int64) (sz : Nat) (hI : (IX i_tapeLength i_time i_lyingCount i_rd_token i_sc_count i_sc_at i_A_tunes i_A_houses i_fA_length i_B_tunes i_B_houses i_fB_length i_acts_done i_acts_undone i_kn_count f_boxes f_A_noteCounts f_A_notes f_B_noteCounts f_B_notes f_now_worn f_ahead_worn f_acts_rows f_kn_tunes)) : Met l yX5_readFormula (.code yX5_readFormula cX5_readFormula 6 none :: GW) { frames := 8, cells := 0, slots := 0, locals := 285 } (va_Pc [.ref (r 1), .int 5, .int 7] (pW (dC, dI) (WX r ct i_tapeLength i_time i_lyingCount i_rd_fault i_rd_token i_rd_kind i_sc_count i_sc_at i_A_tunes i_A_houses i_fA_length i_B_tunes i_B_houses i_fB_length i_acts_done i_acts_undone i_kn_count f_boxes f_boxKept f_trial f_offers f_A_noteCounts f_A_notes f_B_noteCounts f_B_notes f_now_where f_now_worn f_ahead_where f_ahead_worn f_acts_rows f_kn_tunes f_kn_noteTimes J L) (TX ct) sz)) (va_Qv (fun _ : Unit => True) (fun (_ : Unit) (t : State) => ∃ (n_i_rd_fault n_i_rd_token n_i_rd_kind n_i_fB_length : Int32) (n_J : Nat → Nat → Int32), va_P (dC, dI) vwCl (WX r ct i_tapeLength i_time i_lyingCount n_i_rd_fault n_i_rd_token n_i_rd_kind i_sc_count i_sc_at i_A_tunes i_A_houses i_fA_length i_B_tunes i_B_houses n_i_fB_length i_acts_done i_acts_undone i_kn_count f_boxes f_boxKept f_trial f_offers f_A_noteCounts f_A_notes f_B_noteCounts f_B_notes f_now_where f_now_worn f_ahead_where f_ahead_worn f_acts_rows f_kn_tunes f_kn_noteTimes n_J L) t.heap ∧ va_D (va_A (WX r ct i_tapeLength i_time i_lyingCount i_rd_fault i_rd_token i_rd_kind i_sc_count i_sc_at i_A_tunes i_A_houses i_fA_length i_B_tunes i_B_houses i_fB_length i_acts_done i_acts_undone i_kn_count f_boxes f_boxKept f_trial f_offers f_A_noteCounts f_A_notes f_B_noteCounts f_B_notes f_now_where f_now_worn f_ahead_where f_ahead_worn f_acts_rows f_kn_tunes f_kn_noteTimes J L) sz) (WX r ct i_tapeLength i_time i_lyingCount n_i_rd_fault n_i_rd_token n_i_rd_kind i_sc_count i_sc_at i_A_tunes i_A_houses i_fA_length i_B_tunes i_B_houses n_i_fB_length i_acts_done i_acts_undone i_kn_count f_boxes f_boxKept f_trial f_offers f_A_noteCounts f_A_notes f_B_noteCounts f_B_notes f_now_where f_now_worn f_ahead_where f_ahead_worn f_acts_rows f_kn_tunes f_kn_noteTimes n_J L) ∧ (IX i_tapeLength i_time i_lyingCount n_i_rd_token i_sc_count i_sc_at i_A_tunes i_A_houses i_fA_length i_B_tunes i_B_houses n_i_fB_length i_acts_done i_acts_undone i_kn_count f_boxes f_A_noteCounts f_A_notes f_B_noteCounts f_B_notes f_now_worn f_ahead_worn f_acts_rows f_kn_tunes)) (va_A (WX r ct i_tapeLength i_time i_lyingCount i_rd_fault i_rd_token i_rd_kind i_sc_count i_sc_at i_A_tunes i_A_houses i_fA_length i_B_tunes i_B_houses i_fB_length i_acts_done i_acts_undone i_kn_count f_boxes f_boxKept f_trial f_offers f_A_noteCounts f_A_notes f_B_noteCounts f_B_notes f_now_where f_now_worn f_ahead_where f_ahead_worn f_acts_rows f_kn_tunes f_kn_noteTimes J L) sz)) 0 0 (va_A (WX r ct i_tapeLength i_time i_lyingCount i_rd_fault i_rd_token i_rd_kind i_sc_count i_sc_at i_A_tunes i_A_houses i_fA_length i_B_tunes i_B_houses i_fB_length i_acts_done i_acts_undone i_kn_count f_boxes f_boxKept f_trial f_offers f_A_noteCounts f_A_notes f_B_noteCounts f_B_notes f_now_where f_now_worn f_ahead_where f_ahead_worn f_acts_rows f_kn_tunes f_kn_noteTimes J L) sz) := by
  refine Met.ofW (cc := cX5_readFormula) (maxL := 6) (ret := none) (by decide) rfl ?_
  intro p e s m args below meth c0 s₁ B hml hv
  obtain ⟨rfl, hsz, hP, hK, hD0⟩ := hv
  have hx := B.exec
  have hb := B.bytes
  have hr := B.returns
  have hts := atoms_spec (ws := .code yX5_readFormula cX5_readFormula 6 none :: GW) B.pre
  have hG : ∀ w ∈ GW, w.before _ s = true := fun w h => hts w (List.mem_cons_of_mem _ h)
  have hown : s.vm.findClass RX5 = some m.cls := findClass_of_methodNamed B.named
  subst hsz
  have hD := hD0.self (sz := s.heap.size)
  generalize hAe : va_A (WX r ct i_tapeLength i_time i_lyingCount i_rd_fault i_rd_token i_rd_kind i_sc_count i_sc_at i_A_tunes i_A_houses i_fA_length i_B_tunes i_B_houses i_fB_length i_acts_done i_acts_undone i_kn_count f_boxes f_boxKept f_trial f_offers f_A_noteCounts f_A_notes f_B_noteCounts f_B_notes f_now_where f_now_worn f_ahead_where f_ahead_worn f_acts_rows f_kn_tunes f_kn_noteTimes J L) s.heap.size = A at hD ⊢
  have hA : ∀ q : Nat, s.heap.size ≤ q → A q := fun q h => by rw [← hAe]; exact Or.inr h
  have hS : va_S A s.heap s.heap [] := va_S.rf
  have hP : va_P (dC, dI) vwCl (WX r ct i_tapeLength i_time i_lyingCount i_rd_fault i_rd_token i_rd_kind i_sc_count i_sc_at i_A_tunes i_A_houses i_fA_length i_B_tunes i_B_houses i_fB_length i_acts_done i_acts_undone i_kn_count f_boxes f_boxKept f_trial f_offers f_A_noteCounts f_A_notes f_B_noteCounts f_B_notes f_now_where f_now_worn f_ahead_where f_ahead_worn f_acts_rows f_kn_tunes f_kn_noteTimes J L) s.heap := hP
  have hl := lv_entry ([.ref (r 1), .int 5, .int 7]) (n := 6) (Nat.le_of_ble_eq_true rfl)
  rw [lg_entry_eq]
  generalize (lg_sl ([.ref (r 1), .int 5, .int 7]) ++ List.replicate (6 - (lg_sl ([.ref (r 1), .int 5, .int 7])).length) Slot.unset).toArray = ls at hl ⊢
  have hl : lv_has ls 6 [(0, .ref (r 1)), (1, .int 5), (2, .int 7)] := hl
  refine nameQ (fun Q hQ => ?_)
  obtain ⟨ie0, ie1, ie2, ie3, ie4, ie5, ie6, ie7, ie8, ie9, ie10, ie11, ie12, ie13, ie14, ie15, ie16, ie17, ie18, ie19, ie20, ie21, ie22, ie23, ie24, ie25, ie26, ie27, ie28, ie29, ie30, ie31, ie32, ie33, ie34, ie35, ie36, ie37, ie38, ie39⟩ := id hI
  refine lv_aload_n hx hb dX5_readFormula_0 rfl (lv_at hl 0 rfl) ?_
  refine gX_X5_43_1 hx hb hG hown hK hP dX5_readFormula_1 ?_
  refine lv_if_eq (tgt := 8) hx hb dX5_readFormula_4 (by decide) (fun c_1 => ?_) (fun c_1 => ?_)
  · skip
    have f2 : i_rd_fault.toInt = 0 := qi_eq c_1 rfl zc_0
    refine lv_iload_n hx hb dX5_readFormula_8 rfl (lv_at hl 1 rfl) ?_
    refine lv_iconst (v := 5) hx hb dX5_readFormula_9 (by decide) ?_
    refine lv_icmp_lt (tgt := 19) hx hb dX5_readFormula_10 (by decide) (fun c_3 => absurd c_3 (by decide)) (fun c_3 => ?_)
    refine lv_aload_n hx hb dX5_readFormula_13 rfl (lv_at hl 0 rfl) ?_
    refine lv_iload_n hx hb dX5_readFormula_14 rfl (lv_at hl 2 rfl) ?_
    have hFc := frA hD hS hA
    refine va_callv (va_runV (As := [.int 7]) (rest := []) ⟨hx, hb, hml, hown, hG⟩ (kX5_readUnit_v7 l dC dI r ct i_tapeLength i_time i_lyingCount i_rd_fault i_rd_token i_rd_kind i_sc_count i_sc_at i_A_tunes i_A_houses i_fA_length i_B_tunes i_B_houses i_fB_length i_acts_done i_acts_undone i_kn_count f_boxes f_boxKept f_trial f_offers f_A_noteCounts f_A_notes f_B_noteCounts f_B_notes f_now_where f_now_worn f_ahead_where f_ahead_worn f_acts_rows f_kn_tunes f_kn_noteTimes J L s.heap.size hI) (cwV 1 hG (goodV gw664 gw666 gw18 gw130 gw667) rfl rfl rfl hd_X5_readUnit ⟨(Nat.le_of_ble_eq_true rfl), (Nat.le_of_ble_eq_true rfl)⟩) ⟨fbW, va_recv hK hP (ci := 4) (q0 := 1) rfl rfl, pW_in hP hK hD⟩ rfl rfl hl.1 rfl (lv_room (Nat.le_of_ble_eq_true rfl)) dX5_readFormula_15 ⟨(Nat.le_of_ble_eq_true rfl), (Nat.le_of_ble_eq_true rfl)⟩) hS (fun q _ h => hFc q h) hFc (fun _ t_ H4 locs ht hvm hw hB hz1 hk1 hS => ?_)
    obtain ⟨x6, x7, x8, x9, J10, hP1, hD1, hI11⟩ := hB
    rw [ht] at hP1
    have hP := hP1
    have hD := dW hFc hD1
    obtain ⟨im12, im13, im14, im15, im16, im17, im18, im19, im20, im21, im22, im23, im24, im25, im26, im27, im28, im29, im30, im31, im32, im33, im34, im35, im36, im37, im38, im39, im40, im41, im42, im43, im44, im45, im46, im47, im48, im49, im50, im51⟩ := id hI11
    rw [hQ]
    exact W.vret hx hb hr (fun t ht hW => ⟨⟨(), rfl, trivial, ⟨x6, x7, x8, x9, J10, by rw [ht]; exact hP, hD, hI11⟩⟩, hS.F ht⟩) hS.2.2 dX5_readFormula_18
  · skip
    have f52 : i_rd_fault.toInt ≠ 0 := qi_ne c_1 rfl zc_0
    rw [hQ]
    exact W.vret hx hb hr (fun t ht hW => ⟨⟨(), rfl, trivial, ⟨i_rd_fault, i_rd_token, i_rd_kind, i_fB_length, J, by rw [ht]; exact hP, hD, hI⟩⟩, hS.F ht⟩) hS.2.2 dX5_readFormula_7
set_option maxHeartbeats 4000000 in
set_option maxRecDepth 100000 in
theorem kX5_readFormula_v46 (l : Launch) (dC : Nat → ClassId) (dI : Nat → Nat → Nat) (r : Nat → Nat) (ct : Nat → ClassId) (i_tapeLength i_time i_lyingCount i_rd_fault i_rd_token i_rd_kind i_sc_count i_sc_at i_A_tunes i_A_houses i_fA_length i_B_tunes i_B_houses i_fB_length i_acts_done i_acts_undone i_kn_count : Int32) (f_boxes f_boxKept f_trial f_offers f_A_noteCounts f_A_notes f_B_noteCounts f_B_notes f_now_where f_now_worn f_ahead_where f_ahead_worn f_acts_rows f_kn_tunes f_kn_noteTimes : Nat → Int32) (J : Nat → Nat → Int32) (L : Nat → Nat → Int64) (sz : Nat) (hI : (IX i_tapeLength i_time i_lyingCount i_rd_token i_sc_count i_sc_at i_A_tunes i_A_houses i_fA_length i_B_tunes i_B_houses i_fB_length i_acts_done i_acts_undone i_kn_count f_boxes f_A_noteCounts f_A_notes f_B_noteCounts f_B_notes f_now_worn f_ahead_worn f_acts_rows f_kn_tunes)) : Met l yX5_readFormula (.code yX5_readFormula cX5_readFormula 6 none :: GW) { frames := 10, cells := 0, slots := 0, locals := 350 } (va_Pc [.ref (r 1), .int 4, .int 7] (pW (dC, dI) (WX r ct i_tapeLength i_time i_lyingCount i_rd_fault i_rd_token i_rd_kind i_sc_count i_sc_at i_A_tunes i_A_houses i_fA_length i_B_tunes i_B_houses i_fB_length i_acts_done i_acts_undone i_kn_count f_boxes f_boxKept f_trial f_offers f_A_noteCounts f_A_notes f_B_noteCounts f_B_notes f_now_where f_now_worn f_ahead_where f_ahead_worn f_acts_rows f_kn_tunes f_kn_noteTimes J L) (TX ct) sz)) (va_Qv (fun _ : Unit => True) (fun (_ : Unit) (t : State) => ∃ (n_i_rd_fault n_i_rd_token n_i_rd_kind n_i_fB_length : Int32) (n_J : Nat → Nat → Int32), va_P (dC, dI) vwCl (WX r ct i_tapeLength i_time i_lyingCount n_i_rd_fault n_i_rd_token n_i_rd_kind i_sc_count i_sc_at i_A_tunes i_A_houses i_fA_length i_B_tunes i_B_houses n_i_fB_length i_acts_done i_acts_undone i_kn_count f_boxes f_boxKept f_trial f_offers f_A_noteCounts f_A_notes f_B_noteCounts f_B_notes f_now_where f_now_worn f_ahead_where f_ahead_worn f_acts_rows f_kn_tunes f_kn_noteTimes n_J L) t.heap ∧ va_D (va_A (WX r ct i_tapeLength i_time i_lyingCount i_rd_fault i_rd_token i_rd_kind i_sc_count i_sc_at i_A_tunes i_A_houses i_fA_length i_B_tunes i_B_houses i_fB_length i_acts_done i_acts_undone i_kn_count f_boxes f_boxKept f_trial f_offers f_A_noteCounts f_A_notes f_B_noteCounts f_B_notes f_now_where f_now_worn f_ahead_where f_ahead_worn f_acts_rows f_kn_tunes f_kn_noteTimes J L) sz) (WX r ct i_tapeLength i_time i_lyingCount n_i_rd_fault n_i_rd_token n_i_rd_kind i_sc_count i_sc_at i_A_tunes i_A_houses i_fA_length i_B_tunes i_B_houses n_i_fB_length i_acts_done i_acts_undone i_kn_count f_boxes f_boxKept f_trial f_offers f_A_noteCounts f_A_notes f_B_noteCounts f_B_notes f_now_where f_now_worn f_ahead_where f_ahead_worn f_acts_rows f_kn_tunes f_kn_noteTimes n_J L) ∧ (IX i_tapeLength i_time i_lyingCount n_i_rd_token i_sc_count i_sc_at i_A_tunes i_A_houses i_fA_length i_B_tunes i_B_houses n_i_fB_length i_acts_done i_acts_undone i_kn_count f_boxes f_A_noteCounts f_A_notes f_B_noteCounts f_B_notes f_now_worn f_ahead_worn f_acts_rows f_kn_tunes)) (va_A (WX r ct i_tapeLength i_time i_lyingCount i_rd_fault i_rd_token i_rd_kind i_sc_count i_sc_at i_A_tunes i_A_houses i_fA_length i_B_tunes i_B_houses i_fB_length i_acts_done i_acts_undone i_kn_count f_boxes f_boxKept f_trial f_offers f_A_noteCounts f_A_notes f_B_noteCounts f_B_notes f_now_where f_now_worn f_ahead_where f_ahead_worn f_acts_rows f_kn_tunes f_kn_noteTimes J L) sz)) 0 0 (va_A (WX r ct i_tapeLength i_time i_lyingCount i_rd_fault i_rd_token i_rd_kind i_sc_count i_sc_at i_A_tunes i_A_houses i_fA_length i_B_tunes i_B_houses i_fB_length i_acts_done i_acts_undone i_kn_count f_boxes f_boxKept f_trial f_offers f_A_noteCounts f_A_notes f_B_noteCounts f_B_notes f_now_where f_now_worn f_ahead_where f_ahead_worn f_acts_rows f_kn_tunes f_kn_noteTimes J L) sz) := by
  refine Met.ofW (cc := cX5_readFormula) (maxL := 6) (ret := none) (by decide) rfl ?_
  intro p e s m args below meth c0 s₁ B hml hv
  obtain ⟨rfl, hsz, hP, hK, hD0⟩ := hv
  have hx := B.exec
  have hb := B.bytes
  have hr := B.returns
  have hts := atoms_spec (ws := .code yX5_readFormula cX5_readFormula 6 none :: GW) B.pre
  have hG : ∀ w ∈ GW, w.before _ s = true := fun w h => hts w (List.mem_cons_of_mem _ h)
  have hown : s.vm.findClass RX5 = some m.cls := findClass_of_methodNamed B.named
  subst hsz
  have hD := hD0.self (sz := s.heap.size)
  generalize hAe : va_A (WX r ct i_tapeLength i_time i_lyingCount i_rd_fault i_rd_token i_rd_kind i_sc_count i_sc_at i_A_tunes i_A_houses i_fA_length i_B_tunes i_B_houses i_fB_length i_acts_done i_acts_undone i_kn_count f_boxes f_boxKept f_trial f_offers f_A_noteCounts f_A_notes f_B_noteCounts f_B_notes f_now_where f_now_worn f_ahead_where f_ahead_worn f_acts_rows f_kn_tunes f_kn_noteTimes J L) s.heap.size = A at hD ⊢
  have hA : ∀ q : Nat, s.heap.size ≤ q → A q := fun q h => by rw [← hAe]; exact Or.inr h
  have hS : va_S A s.heap s.heap [] := va_S.rf
  have hP : va_P (dC, dI) vwCl (WX r ct i_tapeLength i_time i_lyingCount i_rd_fault i_rd_token i_rd_kind i_sc_count i_sc_at i_A_tunes i_A_houses i_fA_length i_B_tunes i_B_houses i_fB_length i_acts_done i_acts_undone i_kn_count f_boxes f_boxKept f_trial f_offers f_A_noteCounts f_A_notes f_B_noteCounts f_B_notes f_now_where f_now_worn f_ahead_where f_ahead_worn f_acts_rows f_kn_tunes f_kn_noteTimes J L) s.heap := hP
  have hl := lv_entry ([.ref (r 1), .int 4, .int 7]) (n := 6) (Nat.le_of_ble_eq_true rfl)
  rw [lg_entry_eq]
  generalize (lg_sl ([.ref (r 1), .int 4, .int 7]) ++ List.replicate (6 - (lg_sl ([.ref (r 1), .int 4, .int 7])).length) Slot.unset).toArray = ls at hl ⊢
  have hl : lv_has ls 6 [(0, .ref (r 1)), (1, .int 4), (2, .int 7)] := hl
  refine nameQ (fun Q hQ => ?_)
  obtain ⟨ie0, ie1, ie2, ie3, ie4, ie5, ie6, ie7, ie8, ie9, ie10, ie11, ie12, ie13, ie14, ie15, ie16, ie17, ie18, ie19, ie20, ie21, ie22, ie23, ie24, ie25, ie26, ie27, ie28, ie29, ie30, ie31, ie32, ie33, ie34, ie35, ie36, ie37, ie38, ie39⟩ := id hI
  refine lv_aload_n hx hb dX5_readFormula_0 rfl (lv_at hl 0 rfl) ?_
  refine gX_X5_43_1 hx hb hG hown hK hP dX5_readFormula_1 ?_
  refine lv_if_eq (tgt := 8) hx hb dX5_readFormula_4 (by decide) (fun c_1 => ?_) (fun c_1 => ?_)
  · skip
    have f2 : i_rd_fault.toInt = 0 := qi_eq c_1 rfl zc_0
    refine lv_iload_n hx hb dX5_readFormula_8 rfl (lv_at hl 1 rfl) ?_
    refine lv_iconst (v := 5) hx hb dX5_readFormula_9 (by decide) ?_
    refine lv_icmp_lt (tgt := 19) hx hb dX5_readFormula_10 (by decide) (fun c_3 => ?_) (fun c_3 => absurd (by decide) c_3)
    refine lv_iload_n hx hb dX5_readFormula_19 rfl (lv_at hl 1 rfl) ?_
    refine lv_iconst (v := 2) hx hb dX5_readFormula_20 (by decide) ?_
    refine lv_icmp_ne (tgt := 39) hx hb dX5_readFormula_21 (by decide) (fun c_4 => ?_) (fun c_4 => absurd c_4 (by decide))
    refine lv_aload_n hx hb dX5_readFormula_39 rfl (lv_at hl 0 rfl) ?_
    refine lv_iload_n hx hb dX5_readFormula_40 rfl (lv_at hl 1 rfl) ?_
    refine lv_iconst (v := 1) hx hb dX5_readFormula_41 (by decide) ?_
    refine lv_iadd hx hb dX5_readFormula_42 ?_
    refine wt_c (v := 5) (by decide) ?_
    refine lv_iload_n hx hb dX5_readFormula_43 rfl (lv_at hl 2 rfl) ?_
    have hFc := frA hD hS hA
    refine va_callv (va_runV (As := [.int 5, .int 7]) (rest := []) ⟨hx, hb, hml, hown, hG⟩ (kX5_readFormula_v47 l dC dI r ct i_tapeLength i_time i_lyingCount i_rd_fault i_rd_token i_rd_kind i_sc_count i_sc_at i_A_tunes i_A_houses i_fA_length i_B_tunes i_B_houses i_fB_length i_acts_done i_acts_undone i_kn_count f_boxes f_boxKept f_trial f_offers f_A_noteCounts f_A_notes f_B_noteCounts f_B_notes f_now_where f_now_worn f_ahead_where f_ahead_worn f_acts_rows f_kn_tunes f_kn_noteTimes J L s.heap.size hI) (cwV 2 hG (goodV gw660 gw662 gw17 gw130 gw663) rfl rfl rfl hd_X5_readFormula ⟨(Nat.le_of_ble_eq_true rfl), (Nat.le_of_ble_eq_true rfl)⟩) ⟨fbW, va_recv hK hP (ci := 4) (q0 := 1) rfl rfl, pW_in hP hK hD⟩ rfl rfl hl.1 rfl (lv_room (Nat.le_of_ble_eq_true rfl)) dX5_readFormula_44 ⟨(Nat.le_of_ble_eq_true rfl), (Nat.le_of_ble_eq_true rfl)⟩) hS (fun q _ h => hFc q h) hFc (fun _ t_ H5 locs ht hvm hw hB hz1 hk1 hS => ?_)
    obtain ⟨x7, x8, x9, x10, J11, hP1, hD1, hI12⟩ := hB
    rw [ht] at hP1
    have hP := hP1
    have hD := dW hFc hD1
    obtain ⟨im13, im14, im15, im16, im17, im18, im19, im20, im21, im22, im23, im24, im25, im26, im27, im28, im29, im30, im31, im32, im33, im34, im35, im36, im37, im38, im39, im40, im41, im42, im43, im44, im45, im46, im47, im48, im49, im50, im51, im52⟩ := id hI12
    refine lv_iload_n hx hb dX5_readFormula_47 rfl (lv_at hl 1 rfl) ?_
    refine lv_iconst (v := 2) hx hb dX5_readFormula_48 (by decide) ?_
    refine lv_icmp_ne (tgt := 56) hx hb dX5_readFormula_49 (by decide) (fun c_53 => ?_) (fun c_53 => absurd c_53 (by decide))
    refine lv_sipush (v := 1600) hx hb dX5_readFormula_56 (by decide) ?_
    refine lv_istore_n (lv' := [(3, .int 1600), (0, .ref (r 1)), (1, .int 4), (2, .int 7)]) hx hb dX5_readFormula_59 rfl hl (by decide) rfl (fun ls hl => ?_)
    refine lv_iconst (v := 0) hx hb dX5_readFormula_60 (by decide) ?_
    refine lv_istore (lv' := [(4, .int 0), (3, .int 1600), (0, .ref (r 1)), (1, .int 4), (2, .int 7)]) hx hb dX5_readFormula_61 hl (by decide) rfl (fun ls hl => ?_)
    have L63 : ∀ (N63 : Nat) (y63_4 : Int32) (m63_i_rd_fault m63_i_rd_token m63_i_rd_kind m63_i_fB_length : Int32) (m63_J : Nat → Nat → Int32) (H63 : Heap) (locs : List Loc) (ls : Array Slot) (g63_0 : (0 : Int) ≤ y63_4.toInt) (g63_1 : y63_4.toInt ≤ (1600 : Int)) (g63_2 : (0 : Int) ≤ m63_i_rd_token.toInt) (g63_3 : m63_i_rd_token.toInt ≤ (1600 : Int)) (g63_4 : (0 : Int) ≤ m63_i_fB_length.toInt) (g63_5 : m63_i_fB_length.toInt ≤ (300 : Int)) (gi63_i_rd_token_lo : (0 : Int) ≤ m63_i_rd_token.toInt) (gi63_i_rd_token_hi : m63_i_rd_token.toInt ≤ (1600 : Int)) (gi63_i_fB_length_lo : (0 : Int) ≤ m63_i_fB_length.toInt) (gi63_i_fB_length_hi : m63_i_fB_length.toInt ≤ (300 : Int)) (hP : va_P (dC, dI) vwCl (WX r ct i_tapeLength i_time i_lyingCount m63_i_rd_fault m63_i_rd_token m63_i_rd_kind i_sc_count i_sc_at i_A_tunes i_A_houses i_fA_length i_B_tunes i_B_houses m63_i_fB_length i_acts_done i_acts_undone i_kn_count f_boxes f_boxKept f_trial f_offers f_A_noteCounts f_A_notes f_B_noteCounts f_B_notes f_now_where f_now_worn f_ahead_where f_ahead_worn f_acts_rows f_kn_tunes f_kn_noteTimes m63_J L) H63) (hD : va_D A (WX r ct i_tapeLength i_time i_lyingCount m63_i_rd_fault m63_i_rd_token m63_i_rd_kind i_sc_count i_sc_at i_A_tunes i_A_houses i_fA_length i_B_tunes i_B_houses m63_i_fB_length i_acts_done i_acts_undone i_kn_count f_boxes f_boxKept f_trial f_offers f_A_noteCounts f_A_notes f_B_noteCounts f_B_notes f_now_where f_now_worn f_ahead_where f_ahead_worn f_acts_rows f_kn_tunes f_kn_noteTimes m63_J L)) (hS : va_S A s.heap H63 locs) (hl : lv_has ls 6 [(0, .ref (r 1)), (1, .int 4), (2, .int 7), (3, .int 1600), (4, .int y63_4)]) (hM : -1 * y63_4.toInt + 1600 < (N63 : Int)), W p l e { frames := 10, cells := 0, slots := 0, locals := 350 } s m ([.ref (r 1), .int 4, .int 7] : List Value).toArray below meth c0 H63 locs 0 0 Q (F0 m 63 ls []) := by
      intro N63
      induction N63 with
      | zero =>
        intro y63_4 m63_i_rd_fault m63_i_rd_token m63_i_rd_kind m63_i_fB_length m63_J H63 locs ls g63_0 g63_1 g63_2 g63_3 g63_4 g63_5 gi63_i_rd_token_lo gi63_i_rd_token_hi gi63_i_fB_length_lo gi63_i_fB_length_hi hP hD hS hl hM
        exact ((ox_794 hM g63_0 g63_1)).elim
      | succ N63 ih63 =>
        intro y63_4 m63_i_rd_fault m63_i_rd_token m63_i_rd_kind m63_i_fB_length m63_J H63 locs ls g63_0 g63_1 g63_2 g63_3 g63_4 g63_5 gi63_i_rd_token_lo gi63_i_rd_token_hi gi63_i_fB_length_lo gi63_i_fB_length_hi hP hD hS hl hM
        have hM63 := msucc hM
        refine lv_iload hx hb dX5_readFormula_63 (lv_at hl 4 rfl) ?_
        refine lv_iload_n hx hb dX5_readFormula_65 rfl (lv_at hl 3 rfl) ?_
        refine lv_icmp_ge (tgt := 123) hx hb dX5_readFormula_66 (by decide) (fun c_54 => ?_) (fun c_54 => ?_)
        · skip
          have f55 : 1600 ≤ y63_4.toInt := qi_le c_54 zc_1600 rfl
          rw [hQ]
          exact W.vret hx hb hr (fun t ht hW => ⟨⟨(), rfl, trivial, ⟨m63_i_rd_fault, m63_i_rd_token, m63_i_rd_kind, m63_i_fB_length, m63_J, by rw [ht]; exact hP, hD, ⟨ie0, ie1, ie2, ie3, ie4, ie5, gi63_i_rd_token_lo, gi63_i_rd_token_hi, ie8, ie9, ie10, ie11, ie12, ie13, ie14, ie15, ie16, ie17, ie18, ie19, ie20, ie21, gi63_i_fB_length_lo, gi63_i_fB_length_hi, ie24, ie25, ie26, ie27, ie28, ie29, ie30, ie31, ie32, ie33, ie34, ie35, ie36, ie37, ie38, ie39⟩⟩⟩, hS.F ht⟩) hS.2.2 dX5_readFormula_123
        · skip
          have f56 : y63_4.toInt < 1600 := qi_nle c_54 zc_1600 rfl
          refine lv_aload_n hx hb dX5_readFormula_69 rfl (lv_at hl 0 rfl) ?_
          refine gX_X5_43_1 hx hb hG hown hK hP dX5_readFormula_70 ?_
          refine lv_if_ne (tgt := 123) hx hb dX5_readFormula_73 (by decide) (fun c_57 => ?_) (fun c_57 => ?_)
          · skip
            have f58 : m63_i_rd_fault.toInt ≠ 0 := qi_ne c_57 rfl zc_0
            rw [hQ]
            exact W.vret hx hb hr (fun t ht hW => ⟨⟨(), rfl, trivial, ⟨m63_i_rd_fault, m63_i_rd_token, m63_i_rd_kind, m63_i_fB_length, m63_J, by rw [ht]; exact hP, hD, ⟨ie0, ie1, ie2, ie3, ie4, ie5, gi63_i_rd_token_lo, gi63_i_rd_token_hi, ie8, ie9, ie10, ie11, ie12, ie13, ie14, ie15, ie16, ie17, ie18, ie19, ie20, ie21, gi63_i_fB_length_lo, gi63_i_fB_length_hi, ie24, ie25, ie26, ie27, ie28, ie29, ie30, ie31, ie32, ie33, ie34, ie35, ie36, ie37, ie38, ie39⟩⟩⟩, hS.F ht⟩) hS.2.2 dX5_readFormula_123
          · skip
            have f59 : m63_i_rd_fault.toInt = 0 := qi_eq c_57 rfl zc_0
            refine lv_aload_n hx hb dX5_readFormula_76 rfl (lv_at hl 0 rfl) ?_
            refine gX_X5_66_1 hx hb hG hown hK hP dX5_readFormula_77 ?_
            refine va_calli (va_runS (As := [.int m63_i_rd_kind]) (rest := []) ⟨hx, hb, hml, hown, hG⟩ (kX2_levelOf l dC dI m63_i_rd_kind H63.size) (va_cwS 1 hG (goodS gw678 gw613 gw144 gw614) rfl rfl rfl hd_X2_levelOf ⟨(Nat.le_of_ble_eq_true rfl), (Nat.le_of_ble_eq_true rfl)⟩) ⟨fbR, pR_in emptyP (emptyK hK)⟩ rfl rfl hl.1 rfl (lv_room (Nat.le_of_ble_eq_true rfl)) dX5_readFormula_80 ⟨(Nat.le_of_ble_eq_true rfl), (Nat.le_of_ble_eq_true rfl)⟩) hS (fun q hq h => absurd hq (Nat.not_lt.mpr h)) (fun q h => hA q (Nat.le_trans hS.1 h)) (fun r_61 u_ t_ H60 locs ht hvm hw hB hz1 hk1 hS => ?_)
            subst hw
            have hP := wk hP hk1
            obtain ⟨f62, f63⟩ := hB
            refine lv_iload_n hx hb dX5_readFormula_83 rfl (lv_at hl 1 rfl) ?_
            refine lv_icmp_ne (tgt := 123) hx hb dX5_readFormula_84 (by decide) (fun c_64 => ?_) (fun c_64 => ?_)
            · skip
              have f65 : r_61.toInt ≠ 4 := qi_ne c_64 rfl zc_4
              have f66 : r_61.toInt ≤ (3 : Int) := (ox_972 f62 f63 f65)
              rw [hQ]
              exact W.vret hx hb hr (fun t ht hW => ⟨⟨(), rfl, trivial, ⟨m63_i_rd_fault, m63_i_rd_token, m63_i_rd_kind, m63_i_fB_length, m63_J, by rw [ht]; exact hP, hD, ⟨ie0, ie1, ie2, ie3, ie4, ie5, gi63_i_rd_token_lo, gi63_i_rd_token_hi, ie8, ie9, ie10, ie11, ie12, ie13, ie14, ie15, ie16, ie17, ie18, ie19, ie20, ie21, gi63_i_fB_length_lo, gi63_i_fB_length_hi, ie24, ie25, ie26, ie27, ie28, ie29, ie30, ie31, ie32, ie33, ie34, ie35, ie36, ie37, ie38, ie39⟩⟩⟩, hS.F ht⟩) hS.2.2 dX5_readFormula_123
            · skip
              have f67 : r_61.toInt = 4 := qi_eq c_64 rfl zc_4
              refine lv_aload_n hx hb dX5_readFormula_87 rfl (lv_at hl 0 rfl) ?_
              refine gX_X5_66_1 hx hb hG hown hK hP dX5_readFormula_88 ?_
              refine lv_istore (lv' := [(5, .int m63_i_rd_kind), (0, .ref (r 1)), (1, .int 4), (2, .int 7), (3, .int 1600), (4, .int y63_4)]) hx hb dX5_readFormula_91 hl (by decide) rfl (fun ls hl => ?_)
              refine lv_aload_n hx hb dX5_readFormula_93 rfl (lv_at hl 1 rfl) ?_
              have hFc := frA hD hS hA
              refine va_callv (va_runV (As := []) (rest := []) ⟨hx, hb, hml, hown, hG⟩ (kX5_advance l dC dI r ct i_tapeLength i_time i_lyingCount m63_i_rd_fault m63_i_rd_token m63_i_rd_kind i_sc_count i_sc_at i_A_tunes i_A_houses i_fA_length i_B_tunes i_B_houses m63_i_fB_length i_acts_done i_acts_undone i_kn_count f_boxes f_boxKept f_trial f_offers f_A_noteCounts f_A_notes f_B_noteCounts f_B_notes f_now_where f_now_worn f_ahead_where f_ahead_worn f_acts_rows f_kn_tunes f_kn_noteTimes m63_J L H60.size ⟨ie0, ie1, ie2, ie3, ie4, ie5, gi63_i_rd_token_lo, gi63_i_rd_token_hi, ie8, ie9, ie10, ie11, ie12, ie13, ie14, ie15, ie16, ie17, ie18, ie19, ie20, ie21, gi63_i_fB_length_lo, gi63_i_fB_length_hi, ie24, ie25, ie26, ie27, ie28, ie29, ie30, ie31, ie32, ie33, ie34, ie35, ie36, ie37, ie38, ie39⟩) (cwV 0 hG (goodV gw635 gw637 gw11 gw130 gw638) rfl rfl rfl hd_X5_advance ⟨(Nat.le_of_ble_eq_true rfl), (Nat.le_of_ble_eq_true rfl)⟩) ⟨fbW, va_recv hK hP (ci := 4) (q0 := 1) rfl rfl, pW_in hP hK hD⟩ rfl rfl hl.1 rfl (lv_room (Nat.le_of_ble_eq_true rfl)) dX5_readFormula_94 ⟨(Nat.le_of_ble_eq_true rfl), (Nat.le_of_ble_eq_true rfl)⟩) hS (fun q _ h => hFc q h) hFc (fun _ t_ H68 locs ht hvm hw hB hz1 hk1 hS => ?_)
              obtain ⟨x70, x71, hP1, hD1, hI72⟩ := hB
              rw [ht] at hP1
              have hP := hP1
              have hD := dW hFc hD1
              obtain ⟨im73, im74, im75, im76, im77, im78, im79, im80, im81, im82, im83, im84, im85, im86, im87, im88, im89, im90, im91, im92, im93, im94, im95, im96, im97, im98, im99, im100, im101, im102, im103, im104, im105, im106, im107, im108, im109, im110, im111, im112⟩ := id hI72
              refine lv_aload_n hx hb dX5_readFormula_97 rfl (lv_at hl 1 rfl) ?_
              refine lv_iload_n hx hb dX5_readFormula_98 rfl (lv_at hl 2 rfl) ?_
              refine lv_iconst (v := 1) hx hb dX5_readFormula_99 (by decide) ?_
              refine lv_iadd hx hb dX5_readFormula_100 ?_
              refine wt_c (v := 5) (by decide) ?_
              refine lv_iload_n hx hb dX5_readFormula_101 rfl (lv_at hl 3 rfl) ?_
              have hFc := frA hD hS hA
              refine va_callv (va_runV (As := [.int 5, .int 7]) (rest := []) ⟨hx, hb, hml, hown, hG⟩ (kX5_readFormula_v47 l dC dI r ct i_tapeLength i_time i_lyingCount m63_i_rd_fault x70 x71 i_sc_count i_sc_at i_A_tunes i_A_houses i_fA_length i_B_tunes i_B_houses m63_i_fB_length i_acts_done i_acts_undone i_kn_count f_boxes f_boxKept f_trial f_offers f_A_noteCounts f_A_notes f_B_noteCounts f_B_notes f_now_where f_now_worn f_ahead_where f_ahead_worn f_acts_rows f_kn_tunes f_kn_noteTimes m63_J L H68.size hI72) (cwV 2 hG (goodV gw660 gw662 gw17 gw130 gw663) rfl rfl rfl hd_X5_readFormula ⟨(Nat.le_of_ble_eq_true rfl), (Nat.le_of_ble_eq_true rfl)⟩) ⟨fbW, va_recv hK hP (ci := 4) (q0 := 1) rfl rfl, pW_in hP hK hD⟩ rfl rfl hl.1 rfl (lv_room (Nat.le_of_ble_eq_true rfl)) dX5_readFormula_102 ⟨(Nat.le_of_ble_eq_true rfl), (Nat.le_of_ble_eq_true rfl)⟩) hS (fun q _ h => hFc q h) hFc (fun _ t_ H113 locs ht hvm hw hB hz1 hk1 hS => ?_)
              obtain ⟨x115, x116, x117, x118, J119, hP1, hD1, hI120⟩ := hB
              rw [ht] at hP1
              have hP := hP1
              have hD := dW hFc hD1
              obtain ⟨im121, im122, im123, im124, im125, im126, im127, im128, im129, im130, im131, im132, im133, im134, im135, im136, im137, im138, im139, im140, im141, im142, im143, im144, im145, im146, im147, im148, im149, im150, im151, im152, im153, im154, im155, im156, im157, im158, im159, im160⟩ := id hI120
              refine lv_aload_n hx hb dX5_readFormula_105 rfl (lv_at hl 1 rfl) ?_
              refine gX_X5_25_1 hx hb hG hown hK hP dX5_readFormula_106 ?_
              refine gX_X5_104_5 hx hb hG hown hK hP dX5_readFormula_109 ?_
              refine lv_iload hx hb dX5_readFormula_112 (lv_at hl 0 rfl) ?_
              have hFc := frA hD hS hA
              refine va_callv (va_runV (As := [.int m63_i_rd_kind]) (rest := []) ⟨hx, hb, hml, hown, hG⟩ (kX1_addOperator l dC dI r ct i_tapeLength i_time i_lyingCount x115 x116 x117 i_sc_count i_sc_at i_A_tunes i_A_houses i_fA_length i_B_tunes i_B_houses x118 i_acts_done i_acts_undone i_kn_count f_boxes f_boxKept f_trial f_offers f_A_noteCounts f_A_notes f_B_noteCounts f_B_notes f_now_where f_now_worn f_ahead_where f_ahead_worn f_acts_rows f_kn_tunes f_kn_noteTimes J119 L m63_i_rd_kind H113.size hI120) (cwV 1 hG (goodV gw677 gw231 gw232 gw133 gw233) rfl rfl rfl hd_X1_addOperator ⟨(Nat.le_of_ble_eq_true rfl), (Nat.le_of_ble_eq_true rfl)⟩) ⟨fbW, va_recv hK hP (ci := 1) (q0 := 6) rfl rfl, pW_in hP hK hD⟩ rfl rfl hl.1 rfl (lv_room (Nat.le_of_ble_eq_true rfl)) dX5_readFormula_114 ⟨(Nat.le_of_ble_eq_true rfl), (Nat.le_of_ble_eq_true rfl)⟩) hS (fun q _ h => hFc q h) hFc (fun _ t_ H161 locs ht hvm hw hB hz1 hk1 hS => ?_)
              obtain ⟨x163, J164, hP1, hD1, hI165⟩ := hB
              rw [ht] at hP1
              have hP := hP1
              have hD := dW hFc hD1
              obtain ⟨im166, im167, im168, im169, im170, im171, im172, im173, im174, im175, im176, im177, im178, im179, im180, im181, im182, im183, im184, im185, im186, im187, im188, im189, im190, im191, im192, im193, im194, im195, im196, im197, im198, im199, im200, im201, im202, im203, im204, im205⟩ := id hI165
              obtain ⟨x206, ex206⟩ : ∃ y : Int32, y = y63_4 + Int32.ofInt 1 := ⟨_, rfl⟩
              have f207 : x206.toInt = y63_4.toInt + 1 := (ox_13 (qi_add ex206 rfl (by decide) (ox_11 g63_0) (ox_12 g63_1)))
              refine lv_iinc (v := x206) (lv' := [(4, .int x206), (5, .int m63_i_rd_kind), (0, .ref (r 1)), (1, .int 4), (2, .int 7), (3, .int 1600)]) hx hb dX5_readFormula_117 hl (k := 5) rfl ex206.symm (by decide) rfl (fun ls hl => ?_)
              refine lv_goto (tgt := 63) hx hb dX5_readFormula_120 (by decide) ?_
              exact ih63 x206 x115 x116 x117 x163 J164 H161 _ _ (ox_14 g63_0 f207) (ox_15 f56 f207) (ox_18 im127 im128) (ox_19 im127 im128) (ox_973 im188 im189) (ox_974 im188 im189) im127 im128 im188 im189 hP hD hS (lv_sub hl [2, 3, 4, 5, 0] rfl) (ox_810 hM63 f207)
    exact L63 (-1 * (0 : Int32).toInt + 1600 + 1).toNat 0 x7 x8 x9 x10 J11 H5 _ _ (ox_27 zc_0) (ox_811 zc_0) (ox_18 im19 im20) (ox_19 im19 im20) (ox_973 im35 im36) (ox_974 im35 im36) im19 im20 im35 im36 hP hD hS (lv_sub hl [2, 3, 4, 1, 0] rfl) (mlt (ox_812 zc_0))
  · skip
    have f208 : i_rd_fault.toInt ≠ 0 := qi_ne c_1 rfl zc_0
    rw [hQ]
    exact W.vret hx hb hr (fun t ht hW => ⟨⟨(), rfl, trivial, ⟨i_rd_fault, i_rd_token, i_rd_kind, i_fB_length, J, by rw [ht]; exact hP, hD, hI⟩⟩, hS.F ht⟩) hS.2.2 dX5_readFormula_7
set_option maxHeartbeats 4000000 in
set_option maxRecDepth 100000 in
theorem kX5_readFormula_v45 (l : Launch) (dC : Nat → ClassId) (dI : Nat → Nat → Nat) (r : Nat → Nat) (ct : Nat → ClassId) (i_tapeLength i_time i_lyingCount i_rd_fault i_rd_token i_rd_kind i_sc_count i_sc_at i_A_tunes i_A_houses i_fA_length i_B_tunes i_B_houses i_fB_length i_acts_done i_acts_undone i_kn_count : Int32) (f_boxes f_boxKept f_trial f_offers f_A_noteCounts f_A_notes f_B_noteCounts f_B_notes f_now_where f_now_worn f_ahead_where f_ahead_worn f_acts_rows f_kn_tunes f_kn_noteTimes : Nat → Int32) (J : Nat → Nat → Int32) (L : Nat → Nat → Int64) (sz : Nat) (hI : (IX i_tapeLength i_time i_lyingCount i_rd_token i_sc_count i_sc_at i_A_tunes i_A_houses i_fA_length i_B_tunes i_B_houses i_fB_length i_acts_done i_acts_undone i_kn_count f_boxes f_A_noteCounts f_A_notes f_B_noteCounts f_B_notes f_now_worn f_ahead_worn f_acts_rows f_kn_tunes)) : Met l yX5_readFormula (.code yX5_readFormula cX5_readFormula 6 none :: GW) { frames := 12, cells := 0, slots := 0, locals := 415 } (va_Pc [.ref (r 1), .int 3, .int 7] (pW (dC, dI) (WX r ct i_tapeLength i_time i_lyingCount i_rd_fault i_rd_token i_rd_kind i_sc_count i_sc_at i_A_tunes i_A_houses i_fA_length i_B_tunes i_B_houses i_fB_length i_acts_done i_acts_undone i_kn_count f_boxes f_boxKept f_trial f_offers f_A_noteCounts f_A_notes f_B_noteCounts f_B_notes f_now_where f_now_worn f_ahead_where f_ahead_worn f_acts_rows f_kn_tunes f_kn_noteTimes J L) (TX ct) sz)) (va_Qv (fun _ : Unit => True) (fun (_ : Unit) (t : State) => ∃ (n_i_rd_fault n_i_rd_token n_i_rd_kind n_i_fB_length : Int32) (n_J : Nat → Nat → Int32), va_P (dC, dI) vwCl (WX r ct i_tapeLength i_time i_lyingCount n_i_rd_fault n_i_rd_token n_i_rd_kind i_sc_count i_sc_at i_A_tunes i_A_houses i_fA_length i_B_tunes i_B_houses n_i_fB_length i_acts_done i_acts_undone i_kn_count f_boxes f_boxKept f_trial f_offers f_A_noteCounts f_A_notes f_B_noteCounts f_B_notes f_now_where f_now_worn f_ahead_where f_ahead_worn f_acts_rows f_kn_tunes f_kn_noteTimes n_J L) t.heap ∧ va_D (va_A (WX r ct i_tapeLength i_time i_lyingCount i_rd_fault i_rd_token i_rd_kind i_sc_count i_sc_at i_A_tunes i_A_houses i_fA_length i_B_tunes i_B_houses i_fB_length i_acts_done i_acts_undone i_kn_count f_boxes f_boxKept f_trial f_offers f_A_noteCounts f_A_notes f_B_noteCounts f_B_notes f_now_where f_now_worn f_ahead_where f_ahead_worn f_acts_rows f_kn_tunes f_kn_noteTimes J L) sz) (WX r ct i_tapeLength i_time i_lyingCount n_i_rd_fault n_i_rd_token n_i_rd_kind i_sc_count i_sc_at i_A_tunes i_A_houses i_fA_length i_B_tunes i_B_houses n_i_fB_length i_acts_done i_acts_undone i_kn_count f_boxes f_boxKept f_trial f_offers f_A_noteCounts f_A_notes f_B_noteCounts f_B_notes f_now_where f_now_worn f_ahead_where f_ahead_worn f_acts_rows f_kn_tunes f_kn_noteTimes n_J L) ∧ (IX i_tapeLength i_time i_lyingCount n_i_rd_token i_sc_count i_sc_at i_A_tunes i_A_houses i_fA_length i_B_tunes i_B_houses n_i_fB_length i_acts_done i_acts_undone i_kn_count f_boxes f_A_noteCounts f_A_notes f_B_noteCounts f_B_notes f_now_worn f_ahead_worn f_acts_rows f_kn_tunes)) (va_A (WX r ct i_tapeLength i_time i_lyingCount i_rd_fault i_rd_token i_rd_kind i_sc_count i_sc_at i_A_tunes i_A_houses i_fA_length i_B_tunes i_B_houses i_fB_length i_acts_done i_acts_undone i_kn_count f_boxes f_boxKept f_trial f_offers f_A_noteCounts f_A_notes f_B_noteCounts f_B_notes f_now_where f_now_worn f_ahead_where f_ahead_worn f_acts_rows f_kn_tunes f_kn_noteTimes J L) sz)) 0 0 (va_A (WX r ct i_tapeLength i_time i_lyingCount i_rd_fault i_rd_token i_rd_kind i_sc_count i_sc_at i_A_tunes i_A_houses i_fA_length i_B_tunes i_B_houses i_fB_length i_acts_done i_acts_undone i_kn_count f_boxes f_boxKept f_trial f_offers f_A_noteCounts f_A_notes f_B_noteCounts f_B_notes f_now_where f_now_worn f_ahead_where f_ahead_worn f_acts_rows f_kn_tunes f_kn_noteTimes J L) sz) := by
  refine Met.ofW (cc := cX5_readFormula) (maxL := 6) (ret := none) (by decide) rfl ?_
  intro p e s m args below meth c0 s₁ B hml hv
  obtain ⟨rfl, hsz, hP, hK, hD0⟩ := hv
  have hx := B.exec
  have hb := B.bytes
  have hr := B.returns
  have hts := atoms_spec (ws := .code yX5_readFormula cX5_readFormula 6 none :: GW) B.pre
  have hG : ∀ w ∈ GW, w.before _ s = true := fun w h => hts w (List.mem_cons_of_mem _ h)
  have hown : s.vm.findClass RX5 = some m.cls := findClass_of_methodNamed B.named
  subst hsz
  have hD := hD0.self (sz := s.heap.size)
  generalize hAe : va_A (WX r ct i_tapeLength i_time i_lyingCount i_rd_fault i_rd_token i_rd_kind i_sc_count i_sc_at i_A_tunes i_A_houses i_fA_length i_B_tunes i_B_houses i_fB_length i_acts_done i_acts_undone i_kn_count f_boxes f_boxKept f_trial f_offers f_A_noteCounts f_A_notes f_B_noteCounts f_B_notes f_now_where f_now_worn f_ahead_where f_ahead_worn f_acts_rows f_kn_tunes f_kn_noteTimes J L) s.heap.size = A at hD ⊢
  have hA : ∀ q : Nat, s.heap.size ≤ q → A q := fun q h => by rw [← hAe]; exact Or.inr h
  have hS : va_S A s.heap s.heap [] := va_S.rf
  have hP : va_P (dC, dI) vwCl (WX r ct i_tapeLength i_time i_lyingCount i_rd_fault i_rd_token i_rd_kind i_sc_count i_sc_at i_A_tunes i_A_houses i_fA_length i_B_tunes i_B_houses i_fB_length i_acts_done i_acts_undone i_kn_count f_boxes f_boxKept f_trial f_offers f_A_noteCounts f_A_notes f_B_noteCounts f_B_notes f_now_where f_now_worn f_ahead_where f_ahead_worn f_acts_rows f_kn_tunes f_kn_noteTimes J L) s.heap := hP
  have hl := lv_entry ([.ref (r 1), .int 3, .int 7]) (n := 6) (Nat.le_of_ble_eq_true rfl)
  rw [lg_entry_eq]
  generalize (lg_sl ([.ref (r 1), .int 3, .int 7]) ++ List.replicate (6 - (lg_sl ([.ref (r 1), .int 3, .int 7])).length) Slot.unset).toArray = ls at hl ⊢
  have hl : lv_has ls 6 [(0, .ref (r 1)), (1, .int 3), (2, .int 7)] := hl
  refine nameQ (fun Q hQ => ?_)
  obtain ⟨ie0, ie1, ie2, ie3, ie4, ie5, ie6, ie7, ie8, ie9, ie10, ie11, ie12, ie13, ie14, ie15, ie16, ie17, ie18, ie19, ie20, ie21, ie22, ie23, ie24, ie25, ie26, ie27, ie28, ie29, ie30, ie31, ie32, ie33, ie34, ie35, ie36, ie37, ie38, ie39⟩ := id hI
  refine lv_aload_n hx hb dX5_readFormula_0 rfl (lv_at hl 0 rfl) ?_
  refine gX_X5_43_1 hx hb hG hown hK hP dX5_readFormula_1 ?_
  refine lv_if_eq (tgt := 8) hx hb dX5_readFormula_4 (by decide) (fun c_1 => ?_) (fun c_1 => ?_)
  · skip
    have f2 : i_rd_fault.toInt = 0 := qi_eq c_1 rfl zc_0
    refine lv_iload_n hx hb dX5_readFormula_8 rfl (lv_at hl 1 rfl) ?_
    refine lv_iconst (v := 5) hx hb dX5_readFormula_9 (by decide) ?_
    refine lv_icmp_lt (tgt := 19) hx hb dX5_readFormula_10 (by decide) (fun c_3 => ?_) (fun c_3 => absurd (by decide) c_3)
    refine lv_iload_n hx hb dX5_readFormula_19 rfl (lv_at hl 1 rfl) ?_
    refine lv_iconst (v := 2) hx hb dX5_readFormula_20 (by decide) ?_
    refine lv_icmp_ne (tgt := 39) hx hb dX5_readFormula_21 (by decide) (fun c_4 => ?_) (fun c_4 => absurd c_4 (by decide))
    refine lv_aload_n hx hb dX5_readFormula_39 rfl (lv_at hl 0 rfl) ?_
    refine lv_iload_n hx hb dX5_readFormula_40 rfl (lv_at hl 1 rfl) ?_
    refine lv_iconst (v := 1) hx hb dX5_readFormula_41 (by decide) ?_
    refine lv_iadd hx hb dX5_readFormula_42 ?_
    refine wt_c (v := 4) (by decide) ?_
    refine lv_iload_n hx hb dX5_readFormula_43 rfl (lv_at hl 2 rfl) ?_
    have hFc := frA hD hS hA
    refine va_callv (va_runV (As := [.int 4, .int 7]) (rest := []) ⟨hx, hb, hml, hown, hG⟩ (kX5_readFormula_v46 l dC dI r ct i_tapeLength i_time i_lyingCount i_rd_fault i_rd_token i_rd_kind i_sc_count i_sc_at i_A_tunes i_A_houses i_fA_length i_B_tunes i_B_houses i_fB_length i_acts_done i_acts_undone i_kn_count f_boxes f_boxKept f_trial f_offers f_A_noteCounts f_A_notes f_B_noteCounts f_B_notes f_now_where f_now_worn f_ahead_where f_ahead_worn f_acts_rows f_kn_tunes f_kn_noteTimes J L s.heap.size hI) (cwV 2 hG (goodV gw660 gw662 gw17 gw130 gw663) rfl rfl rfl hd_X5_readFormula ⟨(Nat.le_of_ble_eq_true rfl), (Nat.le_of_ble_eq_true rfl)⟩) ⟨fbW, va_recv hK hP (ci := 4) (q0 := 1) rfl rfl, pW_in hP hK hD⟩ rfl rfl hl.1 rfl (lv_room (Nat.le_of_ble_eq_true rfl)) dX5_readFormula_44 ⟨(Nat.le_of_ble_eq_true rfl), (Nat.le_of_ble_eq_true rfl)⟩) hS (fun q _ h => hFc q h) hFc (fun _ t_ H5 locs ht hvm hw hB hz1 hk1 hS => ?_)
    obtain ⟨x7, x8, x9, x10, J11, hP1, hD1, hI12⟩ := hB
    rw [ht] at hP1
    have hP := hP1
    have hD := dW hFc hD1
    obtain ⟨im13, im14, im15, im16, im17, im18, im19, im20, im21, im22, im23, im24, im25, im26, im27, im28, im29, im30, im31, im32, im33, im34, im35, im36, im37, im38, im39, im40, im41, im42, im43, im44, im45, im46, im47, im48, im49, im50, im51, im52⟩ := id hI12
    refine lv_iload_n hx hb dX5_readFormula_47 rfl (lv_at hl 1 rfl) ?_
    refine lv_iconst (v := 2) hx hb dX5_readFormula_48 (by decide) ?_
    refine lv_icmp_ne (tgt := 56) hx hb dX5_readFormula_49 (by decide) (fun c_53 => ?_) (fun c_53 => absurd c_53 (by decide))
    refine lv_sipush (v := 1600) hx hb dX5_readFormula_56 (by decide) ?_
    refine lv_istore_n (lv' := [(3, .int 1600), (0, .ref (r 1)), (1, .int 3), (2, .int 7)]) hx hb dX5_readFormula_59 rfl hl (by decide) rfl (fun ls hl => ?_)
    refine lv_iconst (v := 0) hx hb dX5_readFormula_60 (by decide) ?_
    refine lv_istore (lv' := [(4, .int 0), (3, .int 1600), (0, .ref (r 1)), (1, .int 3), (2, .int 7)]) hx hb dX5_readFormula_61 hl (by decide) rfl (fun ls hl => ?_)
    have L63 : ∀ (N63 : Nat) (y63_4 : Int32) (m63_i_rd_fault m63_i_rd_token m63_i_rd_kind m63_i_fB_length : Int32) (m63_J : Nat → Nat → Int32) (H63 : Heap) (locs : List Loc) (ls : Array Slot) (g63_0 : (0 : Int) ≤ y63_4.toInt) (g63_1 : y63_4.toInt ≤ (1600 : Int)) (g63_2 : (0 : Int) ≤ m63_i_rd_token.toInt) (g63_3 : m63_i_rd_token.toInt ≤ (1600 : Int)) (g63_4 : (0 : Int) ≤ m63_i_fB_length.toInt) (g63_5 : m63_i_fB_length.toInt ≤ (300 : Int)) (gi63_i_rd_token_lo : (0 : Int) ≤ m63_i_rd_token.toInt) (gi63_i_rd_token_hi : m63_i_rd_token.toInt ≤ (1600 : Int)) (gi63_i_fB_length_lo : (0 : Int) ≤ m63_i_fB_length.toInt) (gi63_i_fB_length_hi : m63_i_fB_length.toInt ≤ (300 : Int)) (hP : va_P (dC, dI) vwCl (WX r ct i_tapeLength i_time i_lyingCount m63_i_rd_fault m63_i_rd_token m63_i_rd_kind i_sc_count i_sc_at i_A_tunes i_A_houses i_fA_length i_B_tunes i_B_houses m63_i_fB_length i_acts_done i_acts_undone i_kn_count f_boxes f_boxKept f_trial f_offers f_A_noteCounts f_A_notes f_B_noteCounts f_B_notes f_now_where f_now_worn f_ahead_where f_ahead_worn f_acts_rows f_kn_tunes f_kn_noteTimes m63_J L) H63) (hD : va_D A (WX r ct i_tapeLength i_time i_lyingCount m63_i_rd_fault m63_i_rd_token m63_i_rd_kind i_sc_count i_sc_at i_A_tunes i_A_houses i_fA_length i_B_tunes i_B_houses m63_i_fB_length i_acts_done i_acts_undone i_kn_count f_boxes f_boxKept f_trial f_offers f_A_noteCounts f_A_notes f_B_noteCounts f_B_notes f_now_where f_now_worn f_ahead_where f_ahead_worn f_acts_rows f_kn_tunes f_kn_noteTimes m63_J L)) (hS : va_S A s.heap H63 locs) (hl : lv_has ls 6 [(0, .ref (r 1)), (1, .int 3), (2, .int 7), (3, .int 1600), (4, .int y63_4)]) (hM : -1 * y63_4.toInt + 1600 < (N63 : Int)), W p l e { frames := 12, cells := 0, slots := 0, locals := 415 } s m ([.ref (r 1), .int 3, .int 7] : List Value).toArray below meth c0 H63 locs 0 0 Q (F0 m 63 ls []) := by
      intro N63
      induction N63 with
      | zero =>
        intro y63_4 m63_i_rd_fault m63_i_rd_token m63_i_rd_kind m63_i_fB_length m63_J H63 locs ls g63_0 g63_1 g63_2 g63_3 g63_4 g63_5 gi63_i_rd_token_lo gi63_i_rd_token_hi gi63_i_fB_length_lo gi63_i_fB_length_hi hP hD hS hl hM
        exact ((ox_794 hM g63_0 g63_1)).elim
      | succ N63 ih63 =>
        intro y63_4 m63_i_rd_fault m63_i_rd_token m63_i_rd_kind m63_i_fB_length m63_J H63 locs ls g63_0 g63_1 g63_2 g63_3 g63_4 g63_5 gi63_i_rd_token_lo gi63_i_rd_token_hi gi63_i_fB_length_lo gi63_i_fB_length_hi hP hD hS hl hM
        have hM63 := msucc hM
        refine lv_iload hx hb dX5_readFormula_63 (lv_at hl 4 rfl) ?_
        refine lv_iload_n hx hb dX5_readFormula_65 rfl (lv_at hl 3 rfl) ?_
        refine lv_icmp_ge (tgt := 123) hx hb dX5_readFormula_66 (by decide) (fun c_54 => ?_) (fun c_54 => ?_)
        · skip
          have f55 : 1600 ≤ y63_4.toInt := qi_le c_54 zc_1600 rfl
          rw [hQ]
          exact W.vret hx hb hr (fun t ht hW => ⟨⟨(), rfl, trivial, ⟨m63_i_rd_fault, m63_i_rd_token, m63_i_rd_kind, m63_i_fB_length, m63_J, by rw [ht]; exact hP, hD, ⟨ie0, ie1, ie2, ie3, ie4, ie5, gi63_i_rd_token_lo, gi63_i_rd_token_hi, ie8, ie9, ie10, ie11, ie12, ie13, ie14, ie15, ie16, ie17, ie18, ie19, ie20, ie21, gi63_i_fB_length_lo, gi63_i_fB_length_hi, ie24, ie25, ie26, ie27, ie28, ie29, ie30, ie31, ie32, ie33, ie34, ie35, ie36, ie37, ie38, ie39⟩⟩⟩, hS.F ht⟩) hS.2.2 dX5_readFormula_123
        · skip
          have f56 : y63_4.toInt < 1600 := qi_nle c_54 zc_1600 rfl
          refine lv_aload_n hx hb dX5_readFormula_69 rfl (lv_at hl 0 rfl) ?_
          refine gX_X5_43_1 hx hb hG hown hK hP dX5_readFormula_70 ?_
          refine lv_if_ne (tgt := 123) hx hb dX5_readFormula_73 (by decide) (fun c_57 => ?_) (fun c_57 => ?_)
          · skip
            have f58 : m63_i_rd_fault.toInt ≠ 0 := qi_ne c_57 rfl zc_0
            rw [hQ]
            exact W.vret hx hb hr (fun t ht hW => ⟨⟨(), rfl, trivial, ⟨m63_i_rd_fault, m63_i_rd_token, m63_i_rd_kind, m63_i_fB_length, m63_J, by rw [ht]; exact hP, hD, ⟨ie0, ie1, ie2, ie3, ie4, ie5, gi63_i_rd_token_lo, gi63_i_rd_token_hi, ie8, ie9, ie10, ie11, ie12, ie13, ie14, ie15, ie16, ie17, ie18, ie19, ie20, ie21, gi63_i_fB_length_lo, gi63_i_fB_length_hi, ie24, ie25, ie26, ie27, ie28, ie29, ie30, ie31, ie32, ie33, ie34, ie35, ie36, ie37, ie38, ie39⟩⟩⟩, hS.F ht⟩) hS.2.2 dX5_readFormula_123
          · skip
            have f59 : m63_i_rd_fault.toInt = 0 := qi_eq c_57 rfl zc_0
            refine lv_aload_n hx hb dX5_readFormula_76 rfl (lv_at hl 0 rfl) ?_
            refine gX_X5_66_1 hx hb hG hown hK hP dX5_readFormula_77 ?_
            refine va_calli (va_runS (As := [.int m63_i_rd_kind]) (rest := []) ⟨hx, hb, hml, hown, hG⟩ (kX2_levelOf l dC dI m63_i_rd_kind H63.size) (va_cwS 1 hG (goodS gw678 gw613 gw144 gw614) rfl rfl rfl hd_X2_levelOf ⟨(Nat.le_of_ble_eq_true rfl), (Nat.le_of_ble_eq_true rfl)⟩) ⟨fbR, pR_in emptyP (emptyK hK)⟩ rfl rfl hl.1 rfl (lv_room (Nat.le_of_ble_eq_true rfl)) dX5_readFormula_80 ⟨(Nat.le_of_ble_eq_true rfl), (Nat.le_of_ble_eq_true rfl)⟩) hS (fun q hq h => absurd hq (Nat.not_lt.mpr h)) (fun q h => hA q (Nat.le_trans hS.1 h)) (fun r_61 u_ t_ H60 locs ht hvm hw hB hz1 hk1 hS => ?_)
            subst hw
            have hP := wk hP hk1
            obtain ⟨f62, f63⟩ := hB
            refine lv_iload_n hx hb dX5_readFormula_83 rfl (lv_at hl 1 rfl) ?_
            refine lv_icmp_ne (tgt := 123) hx hb dX5_readFormula_84 (by decide) (fun c_64 => ?_) (fun c_64 => ?_)
            · skip
              have f65 : r_61.toInt ≠ 3 := qi_ne c_64 rfl zc_3
              rw [hQ]
              exact W.vret hx hb hr (fun t ht hW => ⟨⟨(), rfl, trivial, ⟨m63_i_rd_fault, m63_i_rd_token, m63_i_rd_kind, m63_i_fB_length, m63_J, by rw [ht]; exact hP, hD, ⟨ie0, ie1, ie2, ie3, ie4, ie5, gi63_i_rd_token_lo, gi63_i_rd_token_hi, ie8, ie9, ie10, ie11, ie12, ie13, ie14, ie15, ie16, ie17, ie18, ie19, ie20, ie21, gi63_i_fB_length_lo, gi63_i_fB_length_hi, ie24, ie25, ie26, ie27, ie28, ie29, ie30, ie31, ie32, ie33, ie34, ie35, ie36, ie37, ie38, ie39⟩⟩⟩, hS.F ht⟩) hS.2.2 dX5_readFormula_123
            · skip
              have f66 : r_61.toInt = 3 := qi_eq c_64 rfl zc_3
              refine lv_aload_n hx hb dX5_readFormula_87 rfl (lv_at hl 0 rfl) ?_
              refine gX_X5_66_1 hx hb hG hown hK hP dX5_readFormula_88 ?_
              refine lv_istore (lv' := [(5, .int m63_i_rd_kind), (0, .ref (r 1)), (1, .int 3), (2, .int 7), (3, .int 1600), (4, .int y63_4)]) hx hb dX5_readFormula_91 hl (by decide) rfl (fun ls hl => ?_)
              refine lv_aload_n hx hb dX5_readFormula_93 rfl (lv_at hl 1 rfl) ?_
              have hFc := frA hD hS hA
              refine va_callv (va_runV (As := []) (rest := []) ⟨hx, hb, hml, hown, hG⟩ (kX5_advance l dC dI r ct i_tapeLength i_time i_lyingCount m63_i_rd_fault m63_i_rd_token m63_i_rd_kind i_sc_count i_sc_at i_A_tunes i_A_houses i_fA_length i_B_tunes i_B_houses m63_i_fB_length i_acts_done i_acts_undone i_kn_count f_boxes f_boxKept f_trial f_offers f_A_noteCounts f_A_notes f_B_noteCounts f_B_notes f_now_where f_now_worn f_ahead_where f_ahead_worn f_acts_rows f_kn_tunes f_kn_noteTimes m63_J L H60.size ⟨ie0, ie1, ie2, ie3, ie4, ie5, gi63_i_rd_token_lo, gi63_i_rd_token_hi, ie8, ie9, ie10, ie11, ie12, ie13, ie14, ie15, ie16, ie17, ie18, ie19, ie20, ie21, gi63_i_fB_length_lo, gi63_i_fB_length_hi, ie24, ie25, ie26, ie27, ie28, ie29, ie30, ie31, ie32, ie33, ie34, ie35, ie36, ie37, ie38, ie39⟩) (cwV 0 hG (goodV gw635 gw637 gw11 gw130 gw638) rfl rfl rfl hd_X5_advance ⟨(Nat.le_of_ble_eq_true rfl), (Nat.le_of_ble_eq_true rfl)⟩) ⟨fbW, va_recv hK hP (ci := 4) (q0 := 1) rfl rfl, pW_in hP hK hD⟩ rfl rfl hl.1 rfl (lv_room (Nat.le_of_ble_eq_true rfl)) dX5_readFormula_94 ⟨(Nat.le_of_ble_eq_true rfl), (Nat.le_of_ble_eq_true rfl)⟩) hS (fun q _ h => hFc q h) hFc (fun _ t_ H67 locs ht hvm hw hB hz1 hk1 hS => ?_)
              obtain ⟨x69, x70, hP1, hD1, hI71⟩ := hB
              rw [ht] at hP1
              have hP := hP1
              have hD := dW hFc hD1
              obtain ⟨im72, im73, im74, im75, im76, im77, im78, im79, im80, im81, im82, im83, im84, im85, im86, im87, im88, im89, im90, im91, im92, im93, im94, im95, im96, im97, im98, im99, im100, im101, im102, im103, im104, im105, im106, im107, im108, im109, im110, im111⟩ := id hI71
              refine lv_aload_n hx hb dX5_readFormula_97 rfl (lv_at hl 1 rfl) ?_
              refine lv_iload_n hx hb dX5_readFormula_98 rfl (lv_at hl 2 rfl) ?_
              refine lv_iconst (v := 1) hx hb dX5_readFormula_99 (by decide) ?_
              refine lv_iadd hx hb dX5_readFormula_100 ?_
              refine wt_c (v := 4) (by decide) ?_
              refine lv_iload_n hx hb dX5_readFormula_101 rfl (lv_at hl 3 rfl) ?_
              have hFc := frA hD hS hA
              refine va_callv (va_runV (As := [.int 4, .int 7]) (rest := []) ⟨hx, hb, hml, hown, hG⟩ (kX5_readFormula_v46 l dC dI r ct i_tapeLength i_time i_lyingCount m63_i_rd_fault x69 x70 i_sc_count i_sc_at i_A_tunes i_A_houses i_fA_length i_B_tunes i_B_houses m63_i_fB_length i_acts_done i_acts_undone i_kn_count f_boxes f_boxKept f_trial f_offers f_A_noteCounts f_A_notes f_B_noteCounts f_B_notes f_now_where f_now_worn f_ahead_where f_ahead_worn f_acts_rows f_kn_tunes f_kn_noteTimes m63_J L H67.size hI71) (cwV 2 hG (goodV gw660 gw662 gw17 gw130 gw663) rfl rfl rfl hd_X5_readFormula ⟨(Nat.le_of_ble_eq_true rfl), (Nat.le_of_ble_eq_true rfl)⟩) ⟨fbW, va_recv hK hP (ci := 4) (q0 := 1) rfl rfl, pW_in hP hK hD⟩ rfl rfl hl.1 rfl (lv_room (Nat.le_of_ble_eq_true rfl)) dX5_readFormula_102 ⟨(Nat.le_of_ble_eq_true rfl), (Nat.le_of_ble_eq_true rfl)⟩) hS (fun q _ h => hFc q h) hFc (fun _ t_ H112 locs ht hvm hw hB hz1 hk1 hS => ?_)
              obtain ⟨x114, x115, x116, x117, J118, hP1, hD1, hI119⟩ := hB
              rw [ht] at hP1
              have hP := hP1
              have hD := dW hFc hD1
              obtain ⟨im120, im121, im122, im123, im124, im125, im126, im127, im128, im129, im130, im131, im132, im133, im134, im135, im136, im137, im138, im139, im140, im141, im142, im143, im144, im145, im146, im147, im148, im149, im150, im151, im152, im153, im154, im155, im156, im157, im158, im159⟩ := id hI119
              refine lv_aload_n hx hb dX5_readFormula_105 rfl (lv_at hl 1 rfl) ?_
              refine gX_X5_25_1 hx hb hG hown hK hP dX5_readFormula_106 ?_
              refine gX_X5_104_5 hx hb hG hown hK hP dX5_readFormula_109 ?_
              refine lv_iload hx hb dX5_readFormula_112 (lv_at hl 0 rfl) ?_
              have hFc := frA hD hS hA
              refine va_callv (va_runV (As := [.int m63_i_rd_kind]) (rest := []) ⟨hx, hb, hml, hown, hG⟩ (kX1_addOperator l dC dI r ct i_tapeLength i_time i_lyingCount x114 x115 x116 i_sc_count i_sc_at i_A_tunes i_A_houses i_fA_length i_B_tunes i_B_houses x117 i_acts_done i_acts_undone i_kn_count f_boxes f_boxKept f_trial f_offers f_A_noteCounts f_A_notes f_B_noteCounts f_B_notes f_now_where f_now_worn f_ahead_where f_ahead_worn f_acts_rows f_kn_tunes f_kn_noteTimes J118 L m63_i_rd_kind H112.size hI119) (cwV 1 hG (goodV gw677 gw231 gw232 gw133 gw233) rfl rfl rfl hd_X1_addOperator ⟨(Nat.le_of_ble_eq_true rfl), (Nat.le_of_ble_eq_true rfl)⟩) ⟨fbW, va_recv hK hP (ci := 1) (q0 := 6) rfl rfl, pW_in hP hK hD⟩ rfl rfl hl.1 rfl (lv_room (Nat.le_of_ble_eq_true rfl)) dX5_readFormula_114 ⟨(Nat.le_of_ble_eq_true rfl), (Nat.le_of_ble_eq_true rfl)⟩) hS (fun q _ h => hFc q h) hFc (fun _ t_ H160 locs ht hvm hw hB hz1 hk1 hS => ?_)
              obtain ⟨x162, J163, hP1, hD1, hI164⟩ := hB
              rw [ht] at hP1
              have hP := hP1
              have hD := dW hFc hD1
              obtain ⟨im165, im166, im167, im168, im169, im170, im171, im172, im173, im174, im175, im176, im177, im178, im179, im180, im181, im182, im183, im184, im185, im186, im187, im188, im189, im190, im191, im192, im193, im194, im195, im196, im197, im198, im199, im200, im201, im202, im203, im204⟩ := id hI164
              obtain ⟨x205, ex205⟩ : ∃ y : Int32, y = y63_4 + Int32.ofInt 1 := ⟨_, rfl⟩
              have f206 : x205.toInt = y63_4.toInt + 1 := (ox_13 (qi_add ex205 rfl (by decide) (ox_11 g63_0) (ox_12 g63_1)))
              refine lv_iinc (v := x205) (lv' := [(4, .int x205), (5, .int m63_i_rd_kind), (0, .ref (r 1)), (1, .int 3), (2, .int 7), (3, .int 1600)]) hx hb dX5_readFormula_117 hl (k := 5) rfl ex205.symm (by decide) rfl (fun ls hl => ?_)
              refine lv_goto (tgt := 63) hx hb dX5_readFormula_120 (by decide) ?_
              exact ih63 x205 x114 x115 x116 x162 J163 H160 _ _ (ox_14 g63_0 f206) (ox_15 f56 f206) (ox_18 im126 im127) (ox_19 im126 im127) (ox_973 im187 im188) (ox_974 im187 im188) im126 im127 im187 im188 hP hD hS (lv_sub hl [2, 3, 4, 5, 0] rfl) (ox_810 hM63 f206)
    exact L63 (-1 * (0 : Int32).toInt + 1600 + 1).toNat 0 x7 x8 x9 x10 J11 H5 _ _ (ox_27 zc_0) (ox_811 zc_0) (ox_18 im19 im20) (ox_19 im19 im20) (ox_973 im35 im36) (ox_974 im35 im36) im19 im20 im35 im36 hP hD hS (lv_sub hl [2, 3, 4, 1, 0] rfl) (mlt (ox_812 zc_0))
  · skip
    have f207 : i_rd_fault.toInt ≠ 0 := qi_ne c_1 rfl zc_0
    rw [hQ]
    exact W.vret hx hb hr (fun t ht hW => ⟨⟨(), rfl, trivial, ⟨i_rd_fault, i_rd_token, i_rd_kind, i_fB_length, J, by rw [ht]; exact hP, hD, hI⟩⟩, hS.F ht⟩) hS.2.2 dX5_readFormula_7
set_option maxHeartbeats 4000000 in
set_option maxRecDepth 100000 in
theorem kX5_readNot (l : Launch) (dC : Nat → ClassId) (dI : Nat → Nat → Nat) (r : Nat → Nat) (ct : Nat → ClassId) (i_tapeLength i_time i_lyingCount i_rd_fault i_rd_token i_rd_kind i_sc_count i_sc_at i_A_tunes i_A_houses i_fA_length i_B_tunes i_B_houses i_fB_length i_acts_done i_acts_undone i_kn_count : Int32) (f_boxes f_boxKept f_trial f_offers f_A_noteCounts f_A_notes f_B_noteCounts f_B_notes f_now_where f_now_worn f_ahead_where f_ahead_worn f_acts_rows f_kn_tunes f_kn_noteTimes : Nat → Int32) (J : Nat → Nat → Int32) (L : Nat → Nat → Int64) (sz : Nat) (hI : (IX i_tapeLength i_time i_lyingCount i_rd_token i_sc_count i_sc_at i_A_tunes i_A_houses i_fA_length i_B_tunes i_B_houses i_fB_length i_acts_done i_acts_undone i_kn_count f_boxes f_A_noteCounts f_A_notes f_B_noteCounts f_B_notes f_now_worn f_ahead_worn f_acts_rows f_kn_tunes)) : Met l yX5_readNot (.code yX5_readNot cX5_readNot 2 none :: GW) { frames := 6, cells := 0, slots := 0, locals := 221 } (va_Pc [.ref (r 1), .int 7] (pW (dC, dI) (WX r ct i_tapeLength i_time i_lyingCount i_rd_fault i_rd_token i_rd_kind i_sc_count i_sc_at i_A_tunes i_A_houses i_fA_length i_B_tunes i_B_houses i_fB_length i_acts_done i_acts_undone i_kn_count f_boxes f_boxKept f_trial f_offers f_A_noteCounts f_A_notes f_B_noteCounts f_B_notes f_now_where f_now_worn f_ahead_where f_ahead_worn f_acts_rows f_kn_tunes f_kn_noteTimes J L) (TX ct) sz)) (va_Qv (fun _ : Unit => True) (fun (_ : Unit) (t : State) => ∃ (n_i_rd_fault : Int32) (n_J : Nat → Nat → Int32), va_P (dC, dI) vwCl (WX r ct i_tapeLength i_time i_lyingCount n_i_rd_fault i_rd_token i_rd_kind i_sc_count i_sc_at i_A_tunes i_A_houses i_fA_length i_B_tunes i_B_houses i_fB_length i_acts_done i_acts_undone i_kn_count f_boxes f_boxKept f_trial f_offers f_A_noteCounts f_A_notes f_B_noteCounts f_B_notes f_now_where f_now_worn f_ahead_where f_ahead_worn f_acts_rows f_kn_tunes f_kn_noteTimes n_J L) t.heap ∧ va_D (va_A (WX r ct i_tapeLength i_time i_lyingCount i_rd_fault i_rd_token i_rd_kind i_sc_count i_sc_at i_A_tunes i_A_houses i_fA_length i_B_tunes i_B_houses i_fB_length i_acts_done i_acts_undone i_kn_count f_boxes f_boxKept f_trial f_offers f_A_noteCounts f_A_notes f_B_noteCounts f_B_notes f_now_where f_now_worn f_ahead_where f_ahead_worn f_acts_rows f_kn_tunes f_kn_noteTimes J L) sz) (WX r ct i_tapeLength i_time i_lyingCount n_i_rd_fault i_rd_token i_rd_kind i_sc_count i_sc_at i_A_tunes i_A_houses i_fA_length i_B_tunes i_B_houses i_fB_length i_acts_done i_acts_undone i_kn_count f_boxes f_boxKept f_trial f_offers f_A_noteCounts f_A_notes f_B_noteCounts f_B_notes f_now_where f_now_worn f_ahead_where f_ahead_worn f_acts_rows f_kn_tunes f_kn_noteTimes n_J L) ∧ (IX i_tapeLength i_time i_lyingCount i_rd_token i_sc_count i_sc_at i_A_tunes i_A_houses i_fA_length i_B_tunes i_B_houses i_fB_length i_acts_done i_acts_undone i_kn_count f_boxes f_A_noteCounts f_A_notes f_B_noteCounts f_B_notes f_now_worn f_ahead_worn f_acts_rows f_kn_tunes)) (va_A (WX r ct i_tapeLength i_time i_lyingCount i_rd_fault i_rd_token i_rd_kind i_sc_count i_sc_at i_A_tunes i_A_houses i_fA_length i_B_tunes i_B_houses i_fB_length i_acts_done i_acts_undone i_kn_count f_boxes f_boxKept f_trial f_offers f_A_noteCounts f_A_notes f_B_noteCounts f_B_notes f_now_where f_now_worn f_ahead_where f_ahead_worn f_acts_rows f_kn_tunes f_kn_noteTimes J L) sz)) 0 0 (va_A (WX r ct i_tapeLength i_time i_lyingCount i_rd_fault i_rd_token i_rd_kind i_sc_count i_sc_at i_A_tunes i_A_houses i_fA_length i_B_tunes i_B_houses i_fB_length i_acts_done i_acts_undone i_kn_count f_boxes f_boxKept f_trial f_offers f_A_noteCounts f_A_notes f_B_noteCounts f_B_notes f_now_where f_now_worn f_ahead_where f_ahead_worn f_acts_rows f_kn_tunes f_kn_noteTimes J L) sz) := by
  refine Met.ofW (cc := cX5_readNot) (maxL := 2) (ret := none) (by decide) rfl ?_
  intro p e s m args below meth c0 s₁ B hml hv
  obtain ⟨rfl, hsz, hP, hK, hD0⟩ := hv
  have hx := B.exec
  have hb := B.bytes
  have hr := B.returns
  have hts := atoms_spec (ws := .code yX5_readNot cX5_readNot 2 none :: GW) B.pre
  have hG : ∀ w ∈ GW, w.before _ s = true := fun w h => hts w (List.mem_cons_of_mem _ h)
  have hown : s.vm.findClass RX5 = some m.cls := findClass_of_methodNamed B.named
  subst hsz
  have hD := hD0.self (sz := s.heap.size)
  generalize hAe : va_A (WX r ct i_tapeLength i_time i_lyingCount i_rd_fault i_rd_token i_rd_kind i_sc_count i_sc_at i_A_tunes i_A_houses i_fA_length i_B_tunes i_B_houses i_fB_length i_acts_done i_acts_undone i_kn_count f_boxes f_boxKept f_trial f_offers f_A_noteCounts f_A_notes f_B_noteCounts f_B_notes f_now_where f_now_worn f_ahead_where f_ahead_worn f_acts_rows f_kn_tunes f_kn_noteTimes J L) s.heap.size = A at hD ⊢
  have hA : ∀ q : Nat, s.heap.size ≤ q → A q := fun q h => by rw [← hAe]; exact Or.inr h
  have hS : va_S A s.heap s.heap [] := va_S.rf
  have hP : va_P (dC, dI) vwCl (WX r ct i_tapeLength i_time i_lyingCount i_rd_fault i_rd_token i_rd_kind i_sc_count i_sc_at i_A_tunes i_A_houses i_fA_length i_B_tunes i_B_houses i_fB_length i_acts_done i_acts_undone i_kn_count f_boxes f_boxKept f_trial f_offers f_A_noteCounts f_A_notes f_B_noteCounts f_B_notes f_now_where f_now_worn f_ahead_where f_ahead_worn f_acts_rows f_kn_tunes f_kn_noteTimes J L) s.heap := hP
  have hl := lv_entry ([.ref (r 1), .int 7]) (n := 2) (Nat.le_of_ble_eq_true rfl)
  rw [lg_entry_eq]
  generalize (lg_sl ([.ref (r 1), .int 7]) ++ List.replicate (2 - (lg_sl ([.ref (r 1), .int 7])).length) Slot.unset).toArray = ls at hl ⊢
  have hl : lv_has ls 2 [(0, .ref (r 1)), (1, .int 7)] := hl
  refine nameQ (fun Q hQ => ?_)
  obtain ⟨ie0, ie1, ie2, ie3, ie4, ie5, ie6, ie7, ie8, ie9, ie10, ie11, ie12, ie13, ie14, ie15, ie16, ie17, ie18, ie19, ie20, ie21, ie22, ie23, ie24, ie25, ie26, ie27, ie28, ie29, ie30, ie31, ie32, ie33, ie34, ie35, ie36, ie37, ie38, ie39⟩ := id hI
  refine lv_iload_n hx hb dX5_readNot_0 rfl (lv_at hl 1 rfl) ?_
  refine lv_bipush (v := 7) hx hb dX5_readNot_1 (by decide) ?_
  refine lv_icmp_lt (tgt := 11) hx hb dX5_readNot_3 (by decide) (fun c_1 => absurd c_1 (by decide)) (fun c_1 => ?_)
  refine lv_aload_n hx hb dX5_readNot_6 rfl (lv_at hl 0 rfl) ?_
  have hFc := frA hD hS hA
  refine va_callv (va_runV (As := []) (rest := []) ⟨hx, hb, hml, hown, hG⟩ (kX5_refuse l dC dI r ct i_tapeLength i_time i_lyingCount i_rd_fault i_rd_token i_rd_kind i_sc_count i_sc_at i_A_tunes i_A_houses i_fA_length i_B_tunes i_B_houses i_fB_length i_acts_done i_acts_undone i_kn_count f_boxes f_boxKept f_trial f_offers f_A_noteCounts f_A_notes f_B_noteCounts f_B_notes f_now_where f_now_worn f_ahead_where f_ahead_worn f_acts_rows f_kn_tunes f_kn_noteTimes J L s.heap.size hI) (cwV 0 hG (goodV gw627 gw629 gw9 gw130 gw630) rfl rfl rfl hd_X5_refuse ⟨(Nat.le_of_ble_eq_true rfl), (Nat.le_of_ble_eq_true rfl)⟩) ⟨fbW, va_recv hK hP (ci := 4) (q0 := 1) rfl rfl, pW_in hP hK hD⟩ rfl rfl hl.1 rfl (lv_room (Nat.le_of_ble_eq_true rfl)) dX5_readNot_7 ⟨(Nat.le_of_ble_eq_true rfl), (Nat.le_of_ble_eq_true rfl)⟩) hS (fun q _ h => hFc q h) hFc (fun _ t_ H2 locs ht hvm hw hB hz1 hk1 hS => ?_)
  obtain ⟨x4, J5, hP1, hD1, hI6⟩ := hB
  rw [ht] at hP1
  have hP := hP1
  have hD := dW hFc hD1
  obtain ⟨im7, im8, im9, im10, im11, im12, im13, im14, im15, im16, im17, im18, im19, im20, im21, im22, im23, im24, im25, im26, im27, im28, im29, im30, im31, im32, im33, im34, im35, im36, im37, im38, im39, im40, im41, im42, im43, im44, im45, im46⟩ := id hI6
  rw [hQ]
  exact W.vret hx hb hr (fun t ht hW => ⟨⟨(), rfl, trivial, ⟨x4, J5, by rw [ht]; exact hP, hD, hI6⟩⟩, hS.F ht⟩) hS.2.2 dX5_readNot_10
set_option maxHeartbeats 4000000 in
set_option maxRecDepth 100000 in
theorem kX5_readFormula_v44 (l : Launch) (dC : Nat → ClassId) (dI : Nat → Nat → Nat) (r : Nat → Nat) (ct : Nat → ClassId) (i_tapeLength i_time i_lyingCount i_rd_fault i_rd_token i_rd_kind i_sc_count i_sc_at i_A_tunes i_A_houses i_fA_length i_B_tunes i_B_houses i_fB_length i_acts_done i_acts_undone i_kn_count : Int32) (f_boxes f_boxKept f_trial f_offers f_A_noteCounts f_A_notes f_B_noteCounts f_B_notes f_now_where f_now_worn f_ahead_where f_ahead_worn f_acts_rows f_kn_tunes f_kn_noteTimes : Nat → Int32) (J : Nat → Nat → Int32) (L : Nat → Nat → Int64) (sz : Nat) (hI : (IX i_tapeLength i_time i_lyingCount i_rd_token i_sc_count i_sc_at i_A_tunes i_A_houses i_fA_length i_B_tunes i_B_houses i_fB_length i_acts_done i_acts_undone i_kn_count f_boxes f_A_noteCounts f_A_notes f_B_noteCounts f_B_notes f_now_worn f_ahead_worn f_acts_rows f_kn_tunes)) : Met l yX5_readFormula (.code yX5_readFormula cX5_readFormula 6 none :: GW) { frames := 14, cells := 0, slots := 0, locals := 480 } (va_Pc [.ref (r 1), .int 2, .int 7] (pW (dC, dI) (WX r ct i_tapeLength i_time i_lyingCount i_rd_fault i_rd_token i_rd_kind i_sc_count i_sc_at i_A_tunes i_A_houses i_fA_length i_B_tunes i_B_houses i_fB_length i_acts_done i_acts_undone i_kn_count f_boxes f_boxKept f_trial f_offers f_A_noteCounts f_A_notes f_B_noteCounts f_B_notes f_now_where f_now_worn f_ahead_where f_ahead_worn f_acts_rows f_kn_tunes f_kn_noteTimes J L) (TX ct) sz)) (va_Qv (fun _ : Unit => True) (fun (_ : Unit) (t : State) => ∃ (n_i_rd_fault n_i_rd_token n_i_rd_kind n_i_fB_length : Int32) (n_J : Nat → Nat → Int32), va_P (dC, dI) vwCl (WX r ct i_tapeLength i_time i_lyingCount n_i_rd_fault n_i_rd_token n_i_rd_kind i_sc_count i_sc_at i_A_tunes i_A_houses i_fA_length i_B_tunes i_B_houses n_i_fB_length i_acts_done i_acts_undone i_kn_count f_boxes f_boxKept f_trial f_offers f_A_noteCounts f_A_notes f_B_noteCounts f_B_notes f_now_where f_now_worn f_ahead_where f_ahead_worn f_acts_rows f_kn_tunes f_kn_noteTimes n_J L) t.heap ∧ va_D (va_A (WX r ct i_tapeLength i_time i_lyingCount i_rd_fault i_rd_token i_rd_kind i_sc_count i_sc_at i_A_tunes i_A_houses i_fA_length i_B_tunes i_B_houses i_fB_length i_acts_done i_acts_undone i_kn_count f_boxes f_boxKept f_trial f_offers f_A_noteCounts f_A_notes f_B_noteCounts f_B_notes f_now_where f_now_worn f_ahead_where f_ahead_worn f_acts_rows f_kn_tunes f_kn_noteTimes J L) sz) (WX r ct i_tapeLength i_time i_lyingCount n_i_rd_fault n_i_rd_token n_i_rd_kind i_sc_count i_sc_at i_A_tunes i_A_houses i_fA_length i_B_tunes i_B_houses n_i_fB_length i_acts_done i_acts_undone i_kn_count f_boxes f_boxKept f_trial f_offers f_A_noteCounts f_A_notes f_B_noteCounts f_B_notes f_now_where f_now_worn f_ahead_where f_ahead_worn f_acts_rows f_kn_tunes f_kn_noteTimes n_J L) ∧ (IX i_tapeLength i_time i_lyingCount n_i_rd_token i_sc_count i_sc_at i_A_tunes i_A_houses i_fA_length i_B_tunes i_B_houses n_i_fB_length i_acts_done i_acts_undone i_kn_count f_boxes f_A_noteCounts f_A_notes f_B_noteCounts f_B_notes f_now_worn f_ahead_worn f_acts_rows f_kn_tunes)) (va_A (WX r ct i_tapeLength i_time i_lyingCount i_rd_fault i_rd_token i_rd_kind i_sc_count i_sc_at i_A_tunes i_A_houses i_fA_length i_B_tunes i_B_houses i_fB_length i_acts_done i_acts_undone i_kn_count f_boxes f_boxKept f_trial f_offers f_A_noteCounts f_A_notes f_B_noteCounts f_B_notes f_now_where f_now_worn f_ahead_where f_ahead_worn f_acts_rows f_kn_tunes f_kn_noteTimes J L) sz)) 0 0 (va_A (WX r ct i_tapeLength i_time i_lyingCount i_rd_fault i_rd_token i_rd_kind i_sc_count i_sc_at i_A_tunes i_A_houses i_fA_length i_B_tunes i_B_houses i_fB_length i_acts_done i_acts_undone i_kn_count f_boxes f_boxKept f_trial f_offers f_A_noteCounts f_A_notes f_B_noteCounts f_B_notes f_now_where f_now_worn f_ahead_where f_ahead_worn f_acts_rows f_kn_tunes f_kn_noteTimes J L) sz) := by
  refine Met.ofW (cc := cX5_readFormula) (maxL := 6) (ret := none) (by decide) rfl ?_
  intro p e s m args below meth c0 s₁ B hml hv
  obtain ⟨rfl, hsz, hP, hK, hD0⟩ := hv
  have hx := B.exec
  have hb := B.bytes
  have hr := B.returns
  have hts := atoms_spec (ws := .code yX5_readFormula cX5_readFormula 6 none :: GW) B.pre
  have hG : ∀ w ∈ GW, w.before _ s = true := fun w h => hts w (List.mem_cons_of_mem _ h)
  have hown : s.vm.findClass RX5 = some m.cls := findClass_of_methodNamed B.named
  subst hsz
  have hD := hD0.self (sz := s.heap.size)
  generalize hAe : va_A (WX r ct i_tapeLength i_time i_lyingCount i_rd_fault i_rd_token i_rd_kind i_sc_count i_sc_at i_A_tunes i_A_houses i_fA_length i_B_tunes i_B_houses i_fB_length i_acts_done i_acts_undone i_kn_count f_boxes f_boxKept f_trial f_offers f_A_noteCounts f_A_notes f_B_noteCounts f_B_notes f_now_where f_now_worn f_ahead_where f_ahead_worn f_acts_rows f_kn_tunes f_kn_noteTimes J L) s.heap.size = A at hD ⊢
  have hA : ∀ q : Nat, s.heap.size ≤ q → A q := fun q h => by rw [← hAe]; exact Or.inr h
  have hS : va_S A s.heap s.heap [] := va_S.rf
  have hP : va_P (dC, dI) vwCl (WX r ct i_tapeLength i_time i_lyingCount i_rd_fault i_rd_token i_rd_kind i_sc_count i_sc_at i_A_tunes i_A_houses i_fA_length i_B_tunes i_B_houses i_fB_length i_acts_done i_acts_undone i_kn_count f_boxes f_boxKept f_trial f_offers f_A_noteCounts f_A_notes f_B_noteCounts f_B_notes f_now_where f_now_worn f_ahead_where f_ahead_worn f_acts_rows f_kn_tunes f_kn_noteTimes J L) s.heap := hP
  have hl := lv_entry ([.ref (r 1), .int 2, .int 7]) (n := 6) (Nat.le_of_ble_eq_true rfl)
  rw [lg_entry_eq]
  generalize (lg_sl ([.ref (r 1), .int 2, .int 7]) ++ List.replicate (6 - (lg_sl ([.ref (r 1), .int 2, .int 7])).length) Slot.unset).toArray = ls at hl ⊢
  have hl : lv_has ls 6 [(0, .ref (r 1)), (1, .int 2), (2, .int 7)] := hl
  refine nameQ (fun Q hQ => ?_)
  obtain ⟨ie0, ie1, ie2, ie3, ie4, ie5, ie6, ie7, ie8, ie9, ie10, ie11, ie12, ie13, ie14, ie15, ie16, ie17, ie18, ie19, ie20, ie21, ie22, ie23, ie24, ie25, ie26, ie27, ie28, ie29, ie30, ie31, ie32, ie33, ie34, ie35, ie36, ie37, ie38, ie39⟩ := id hI
  refine lv_aload_n hx hb dX5_readFormula_0 rfl (lv_at hl 0 rfl) ?_
  refine gX_X5_43_1 hx hb hG hown hK hP dX5_readFormula_1 ?_
  refine lv_if_eq (tgt := 8) hx hb dX5_readFormula_4 (by decide) (fun c_1 => ?_) (fun c_1 => ?_)
  · skip
    have f2 : i_rd_fault.toInt = 0 := qi_eq c_1 rfl zc_0
    refine lv_iload_n hx hb dX5_readFormula_8 rfl (lv_at hl 1 rfl) ?_
    refine lv_iconst (v := 5) hx hb dX5_readFormula_9 (by decide) ?_
    refine lv_icmp_lt (tgt := 19) hx hb dX5_readFormula_10 (by decide) (fun c_3 => ?_) (fun c_3 => absurd (by decide) c_3)
    refine lv_iload_n hx hb dX5_readFormula_19 rfl (lv_at hl 1 rfl) ?_
    refine lv_iconst (v := 2) hx hb dX5_readFormula_20 (by decide) ?_
    refine lv_icmp_ne (tgt := 39) hx hb dX5_readFormula_21 (by decide) (fun c_4 => absurd (by decide) c_4) (fun c_4 => ?_)
    refine lv_aload_n hx hb dX5_readFormula_24 rfl (lv_at hl 0 rfl) ?_
    refine gX_X5_66_1 hx hb hG hown hK hP dX5_readFormula_25 ?_
    refine lv_bipush (v := 111) hx hb dX5_readFormula_28 (by decide) ?_
    refine lv_icmp_ne (tgt := 39) hx hb dX5_readFormula_30 (by decide) (fun c_5 => ?_) (fun c_5 => ?_)
    · skip
      have f6 : i_rd_kind.toInt ≠ 111 := qi_ne c_5 rfl zc_111
      refine lv_aload_n hx hb dX5_readFormula_39 rfl (lv_at hl 0 rfl) ?_
      refine lv_iload_n hx hb dX5_readFormula_40 rfl (lv_at hl 1 rfl) ?_
      refine lv_iconst (v := 1) hx hb dX5_readFormula_41 (by decide) ?_
      refine lv_iadd hx hb dX5_readFormula_42 ?_
      refine wt_c (v := 3) (by decide) ?_
      refine lv_iload_n hx hb dX5_readFormula_43 rfl (lv_at hl 2 rfl) ?_
      have hFc := frA hD hS hA
      refine va_callv (va_runV (As := [.int 3, .int 7]) (rest := []) ⟨hx, hb, hml, hown, hG⟩ (kX5_readFormula_v45 l dC dI r ct i_tapeLength i_time i_lyingCount i_rd_fault i_rd_token i_rd_kind i_sc_count i_sc_at i_A_tunes i_A_houses i_fA_length i_B_tunes i_B_houses i_fB_length i_acts_done i_acts_undone i_kn_count f_boxes f_boxKept f_trial f_offers f_A_noteCounts f_A_notes f_B_noteCounts f_B_notes f_now_where f_now_worn f_ahead_where f_ahead_worn f_acts_rows f_kn_tunes f_kn_noteTimes J L s.heap.size hI) (cwV 2 hG (goodV gw660 gw662 gw17 gw130 gw663) rfl rfl rfl hd_X5_readFormula ⟨(Nat.le_of_ble_eq_true rfl), (Nat.le_of_ble_eq_true rfl)⟩) ⟨fbW, va_recv hK hP (ci := 4) (q0 := 1) rfl rfl, pW_in hP hK hD⟩ rfl rfl hl.1 rfl (lv_room (Nat.le_of_ble_eq_true rfl)) dX5_readFormula_44 ⟨(Nat.le_of_ble_eq_true rfl), (Nat.le_of_ble_eq_true rfl)⟩) hS (fun q _ h => hFc q h) hFc (fun _ t_ H7 locs ht hvm hw hB hz1 hk1 hS => ?_)
      obtain ⟨x9, x10, x11, x12, J13, hP1, hD1, hI14⟩ := hB
      rw [ht] at hP1
      have hP := hP1
      have hD := dW hFc hD1
      obtain ⟨im15, im16, im17, im18, im19, im20, im21, im22, im23, im24, im25, im26, im27, im28, im29, im30, im31, im32, im33, im34, im35, im36, im37, im38, im39, im40, im41, im42, im43, im44, im45, im46, im47, im48, im49, im50, im51, im52, im53, im54⟩ := id hI14
      refine lv_iload_n hx hb dX5_readFormula_47 rfl (lv_at hl 1 rfl) ?_
      refine lv_iconst (v := 2) hx hb dX5_readFormula_48 (by decide) ?_
      refine lv_icmp_ne (tgt := 56) hx hb dX5_readFormula_49 (by decide) (fun c_55 => absurd (by decide) c_55) (fun c_55 => ?_)
      refine lv_iconst (v := 1) hx hb dX5_readFormula_52 (by decide) ?_
      refine lv_goto (tgt := 59) hx hb dX5_readFormula_53 (by decide) ?_
      refine lv_istore_n (lv' := [(3, .int 1), (0, .ref (r 1)), (1, .int 2), (2, .int 7)]) hx hb dX5_readFormula_59 rfl hl (by decide) rfl (fun ls hl => ?_)
      refine lv_iconst (v := 0) hx hb dX5_readFormula_60 (by decide) ?_
      refine lv_istore (lv' := [(4, .int 0), (3, .int 1), (0, .ref (r 1)), (1, .int 2), (2, .int 7)]) hx hb dX5_readFormula_61 hl (by decide) rfl (fun ls hl => ?_)
      have L63 : ∀ (N63 : Nat) (y63_4 : Int32) (m63_i_rd_fault m63_i_rd_token m63_i_rd_kind m63_i_fB_length : Int32) (m63_J : Nat → Nat → Int32) (H63 : Heap) (locs : List Loc) (ls : Array Slot) (g63_0 : (0 : Int) ≤ y63_4.toInt) (g63_1 : y63_4.toInt ≤ (1 : Int)) (g63_2 : (0 : Int) ≤ m63_i_rd_token.toInt) (g63_3 : m63_i_rd_token.toInt ≤ (1600 : Int)) (g63_4 : (0 : Int) ≤ m63_i_fB_length.toInt) (g63_5 : m63_i_fB_length.toInt ≤ (300 : Int)) (gi63_i_rd_token_lo : (0 : Int) ≤ m63_i_rd_token.toInt) (gi63_i_rd_token_hi : m63_i_rd_token.toInt ≤ (1600 : Int)) (gi63_i_fB_length_lo : (0 : Int) ≤ m63_i_fB_length.toInt) (gi63_i_fB_length_hi : m63_i_fB_length.toInt ≤ (300 : Int)) (hP : va_P (dC, dI) vwCl (WX r ct i_tapeLength i_time i_lyingCount m63_i_rd_fault m63_i_rd_token m63_i_rd_kind i_sc_count i_sc_at i_A_tunes i_A_houses i_fA_length i_B_tunes i_B_houses m63_i_fB_length i_acts_done i_acts_undone i_kn_count f_boxes f_boxKept f_trial f_offers f_A_noteCounts f_A_notes f_B_noteCounts f_B_notes f_now_where f_now_worn f_ahead_where f_ahead_worn f_acts_rows f_kn_tunes f_kn_noteTimes m63_J L) H63) (hD : va_D A (WX r ct i_tapeLength i_time i_lyingCount m63_i_rd_fault m63_i_rd_token m63_i_rd_kind i_sc_count i_sc_at i_A_tunes i_A_houses i_fA_length i_B_tunes i_B_houses m63_i_fB_length i_acts_done i_acts_undone i_kn_count f_boxes f_boxKept f_trial f_offers f_A_noteCounts f_A_notes f_B_noteCounts f_B_notes f_now_where f_now_worn f_ahead_where f_ahead_worn f_acts_rows f_kn_tunes f_kn_noteTimes m63_J L)) (hS : va_S A s.heap H63 locs) (hl : lv_has ls 6 [(0, .ref (r 1)), (1, .int 2), (2, .int 7), (3, .int 1), (4, .int y63_4)]) (hM : -1 * y63_4.toInt + 1 < (N63 : Int)), W p l e { frames := 14, cells := 0, slots := 0, locals := 480 } s m ([.ref (r 1), .int 2, .int 7] : List Value).toArray below meth c0 H63 locs 0 0 Q (F0 m 63 ls []) := by
        intro N63
        induction N63 with
        | zero =>
          intro y63_4 m63_i_rd_fault m63_i_rd_token m63_i_rd_kind m63_i_fB_length m63_J H63 locs ls g63_0 g63_1 g63_2 g63_3 g63_4 g63_5 gi63_i_rd_token_lo gi63_i_rd_token_hi gi63_i_fB_length_lo gi63_i_fB_length_hi hP hD hS hl hM
          exact ((ox_975 hM g63_0 g63_1)).elim
        | succ N63 ih63 =>
          intro y63_4 m63_i_rd_fault m63_i_rd_token m63_i_rd_kind m63_i_fB_length m63_J H63 locs ls g63_0 g63_1 g63_2 g63_3 g63_4 g63_5 gi63_i_rd_token_lo gi63_i_rd_token_hi gi63_i_fB_length_lo gi63_i_fB_length_hi hP hD hS hl hM
          have hM63 := msucc hM
          refine lv_iload hx hb dX5_readFormula_63 (lv_at hl 4 rfl) ?_
          refine lv_iload_n hx hb dX5_readFormula_65 rfl (lv_at hl 3 rfl) ?_
          refine lv_icmp_ge (tgt := 123) hx hb dX5_readFormula_66 (by decide) (fun c_56 => ?_) (fun c_56 => ?_)
          · skip
            have f57 : 1 ≤ y63_4.toInt := qi_le c_56 zc_1 rfl
            rw [hQ]
            exact W.vret hx hb hr (fun t ht hW => ⟨⟨(), rfl, trivial, ⟨m63_i_rd_fault, m63_i_rd_token, m63_i_rd_kind, m63_i_fB_length, m63_J, by rw [ht]; exact hP, hD, ⟨ie0, ie1, ie2, ie3, ie4, ie5, gi63_i_rd_token_lo, gi63_i_rd_token_hi, ie8, ie9, ie10, ie11, ie12, ie13, ie14, ie15, ie16, ie17, ie18, ie19, ie20, ie21, gi63_i_fB_length_lo, gi63_i_fB_length_hi, ie24, ie25, ie26, ie27, ie28, ie29, ie30, ie31, ie32, ie33, ie34, ie35, ie36, ie37, ie38, ie39⟩⟩⟩, hS.F ht⟩) hS.2.2 dX5_readFormula_123
          · skip
            have f58 : y63_4.toInt < 1 := qi_nle c_56 zc_1 rfl
            refine lv_aload_n hx hb dX5_readFormula_69 rfl (lv_at hl 0 rfl) ?_
            refine gX_X5_43_1 hx hb hG hown hK hP dX5_readFormula_70 ?_
            refine lv_if_ne (tgt := 123) hx hb dX5_readFormula_73 (by decide) (fun c_59 => ?_) (fun c_59 => ?_)
            · skip
              have f60 : m63_i_rd_fault.toInt ≠ 0 := qi_ne c_59 rfl zc_0
              rw [hQ]
              exact W.vret hx hb hr (fun t ht hW => ⟨⟨(), rfl, trivial, ⟨m63_i_rd_fault, m63_i_rd_token, m63_i_rd_kind, m63_i_fB_length, m63_J, by rw [ht]; exact hP, hD, ⟨ie0, ie1, ie2, ie3, ie4, ie5, gi63_i_rd_token_lo, gi63_i_rd_token_hi, ie8, ie9, ie10, ie11, ie12, ie13, ie14, ie15, ie16, ie17, ie18, ie19, ie20, ie21, gi63_i_fB_length_lo, gi63_i_fB_length_hi, ie24, ie25, ie26, ie27, ie28, ie29, ie30, ie31, ie32, ie33, ie34, ie35, ie36, ie37, ie38, ie39⟩⟩⟩, hS.F ht⟩) hS.2.2 dX5_readFormula_123
            · skip
              have f61 : m63_i_rd_fault.toInt = 0 := qi_eq c_59 rfl zc_0
              refine lv_aload_n hx hb dX5_readFormula_76 rfl (lv_at hl 0 rfl) ?_
              refine gX_X5_66_1 hx hb hG hown hK hP dX5_readFormula_77 ?_
              refine va_calli (va_runS (As := [.int m63_i_rd_kind]) (rest := []) ⟨hx, hb, hml, hown, hG⟩ (kX2_levelOf l dC dI m63_i_rd_kind H63.size) (va_cwS 1 hG (goodS gw678 gw613 gw144 gw614) rfl rfl rfl hd_X2_levelOf ⟨(Nat.le_of_ble_eq_true rfl), (Nat.le_of_ble_eq_true rfl)⟩) ⟨fbR, pR_in emptyP (emptyK hK)⟩ rfl rfl hl.1 rfl (lv_room (Nat.le_of_ble_eq_true rfl)) dX5_readFormula_80 ⟨(Nat.le_of_ble_eq_true rfl), (Nat.le_of_ble_eq_true rfl)⟩) hS (fun q hq h => absurd hq (Nat.not_lt.mpr h)) (fun q h => hA q (Nat.le_trans hS.1 h)) (fun r_63 u_ t_ H62 locs ht hvm hw hB hz1 hk1 hS => ?_)
              subst hw
              have hP := wk hP hk1
              obtain ⟨f64, f65⟩ := hB
              refine lv_iload_n hx hb dX5_readFormula_83 rfl (lv_at hl 1 rfl) ?_
              refine lv_icmp_ne (tgt := 123) hx hb dX5_readFormula_84 (by decide) (fun c_66 => ?_) (fun c_66 => ?_)
              · skip
                have f67 : r_63.toInt ≠ 2 := qi_ne c_66 rfl zc_2
                rw [hQ]
                exact W.vret hx hb hr (fun t ht hW => ⟨⟨(), rfl, trivial, ⟨m63_i_rd_fault, m63_i_rd_token, m63_i_rd_kind, m63_i_fB_length, m63_J, by rw [ht]; exact hP, hD, ⟨ie0, ie1, ie2, ie3, ie4, ie5, gi63_i_rd_token_lo, gi63_i_rd_token_hi, ie8, ie9, ie10, ie11, ie12, ie13, ie14, ie15, ie16, ie17, ie18, ie19, ie20, ie21, gi63_i_fB_length_lo, gi63_i_fB_length_hi, ie24, ie25, ie26, ie27, ie28, ie29, ie30, ie31, ie32, ie33, ie34, ie35, ie36, ie37, ie38, ie39⟩⟩⟩, hS.F ht⟩) hS.2.2 dX5_readFormula_123
              · skip
                have f68 : r_63.toInt = 2 := qi_eq c_66 rfl zc_2
                refine lv_aload_n hx hb dX5_readFormula_87 rfl (lv_at hl 0 rfl) ?_
                refine gX_X5_66_1 hx hb hG hown hK hP dX5_readFormula_88 ?_
                refine lv_istore (lv' := [(5, .int m63_i_rd_kind), (0, .ref (r 1)), (1, .int 2), (2, .int 7), (3, .int 1), (4, .int y63_4)]) hx hb dX5_readFormula_91 hl (by decide) rfl (fun ls hl => ?_)
                refine lv_aload_n hx hb dX5_readFormula_93 rfl (lv_at hl 1 rfl) ?_
                have hFc := frA hD hS hA
                refine va_callv (va_runV (As := []) (rest := []) ⟨hx, hb, hml, hown, hG⟩ (kX5_advance l dC dI r ct i_tapeLength i_time i_lyingCount m63_i_rd_fault m63_i_rd_token m63_i_rd_kind i_sc_count i_sc_at i_A_tunes i_A_houses i_fA_length i_B_tunes i_B_houses m63_i_fB_length i_acts_done i_acts_undone i_kn_count f_boxes f_boxKept f_trial f_offers f_A_noteCounts f_A_notes f_B_noteCounts f_B_notes f_now_where f_now_worn f_ahead_where f_ahead_worn f_acts_rows f_kn_tunes f_kn_noteTimes m63_J L H62.size ⟨ie0, ie1, ie2, ie3, ie4, ie5, gi63_i_rd_token_lo, gi63_i_rd_token_hi, ie8, ie9, ie10, ie11, ie12, ie13, ie14, ie15, ie16, ie17, ie18, ie19, ie20, ie21, gi63_i_fB_length_lo, gi63_i_fB_length_hi, ie24, ie25, ie26, ie27, ie28, ie29, ie30, ie31, ie32, ie33, ie34, ie35, ie36, ie37, ie38, ie39⟩) (cwV 0 hG (goodV gw635 gw637 gw11 gw130 gw638) rfl rfl rfl hd_X5_advance ⟨(Nat.le_of_ble_eq_true rfl), (Nat.le_of_ble_eq_true rfl)⟩) ⟨fbW, va_recv hK hP (ci := 4) (q0 := 1) rfl rfl, pW_in hP hK hD⟩ rfl rfl hl.1 rfl (lv_room (Nat.le_of_ble_eq_true rfl)) dX5_readFormula_94 ⟨(Nat.le_of_ble_eq_true rfl), (Nat.le_of_ble_eq_true rfl)⟩) hS (fun q _ h => hFc q h) hFc (fun _ t_ H69 locs ht hvm hw hB hz1 hk1 hS => ?_)
                obtain ⟨x71, x72, hP1, hD1, hI73⟩ := hB
                rw [ht] at hP1
                have hP := hP1
                have hD := dW hFc hD1
                obtain ⟨im74, im75, im76, im77, im78, im79, im80, im81, im82, im83, im84, im85, im86, im87, im88, im89, im90, im91, im92, im93, im94, im95, im96, im97, im98, im99, im100, im101, im102, im103, im104, im105, im106, im107, im108, im109, im110, im111, im112, im113⟩ := id hI73
                refine lv_aload_n hx hb dX5_readFormula_97 rfl (lv_at hl 1 rfl) ?_
                refine lv_iload_n hx hb dX5_readFormula_98 rfl (lv_at hl 2 rfl) ?_
                refine lv_iconst (v := 1) hx hb dX5_readFormula_99 (by decide) ?_
                refine lv_iadd hx hb dX5_readFormula_100 ?_
                refine wt_c (v := 3) (by decide) ?_
                refine lv_iload_n hx hb dX5_readFormula_101 rfl (lv_at hl 3 rfl) ?_
                have hFc := frA hD hS hA
                refine va_callv (va_runV (As := [.int 3, .int 7]) (rest := []) ⟨hx, hb, hml, hown, hG⟩ (kX5_readFormula_v45 l dC dI r ct i_tapeLength i_time i_lyingCount m63_i_rd_fault x71 x72 i_sc_count i_sc_at i_A_tunes i_A_houses i_fA_length i_B_tunes i_B_houses m63_i_fB_length i_acts_done i_acts_undone i_kn_count f_boxes f_boxKept f_trial f_offers f_A_noteCounts f_A_notes f_B_noteCounts f_B_notes f_now_where f_now_worn f_ahead_where f_ahead_worn f_acts_rows f_kn_tunes f_kn_noteTimes m63_J L H69.size hI73) (cwV 2 hG (goodV gw660 gw662 gw17 gw130 gw663) rfl rfl rfl hd_X5_readFormula ⟨(Nat.le_of_ble_eq_true rfl), (Nat.le_of_ble_eq_true rfl)⟩) ⟨fbW, va_recv hK hP (ci := 4) (q0 := 1) rfl rfl, pW_in hP hK hD⟩ rfl rfl hl.1 rfl (lv_room (Nat.le_of_ble_eq_true rfl)) dX5_readFormula_102 ⟨(Nat.le_of_ble_eq_true rfl), (Nat.le_of_ble_eq_true rfl)⟩) hS (fun q _ h => hFc q h) hFc (fun _ t_ H114 locs ht hvm hw hB hz1 hk1 hS => ?_)
                obtain ⟨x116, x117, x118, x119, J120, hP1, hD1, hI121⟩ := hB
                rw [ht] at hP1
                have hP := hP1
                have hD := dW hFc hD1
                obtain ⟨im122, im123, im124, im125, im126, im127, im128, im129, im130, im131, im132, im133, im134, im135, im136, im137, im138, im139, im140, im141, im142, im143, im144, im145, im146, im147, im148, im149, im150, im151, im152, im153, im154, im155, im156, im157, im158, im159, im160, im161⟩ := id hI121
                refine lv_aload_n hx hb dX5_readFormula_105 rfl (lv_at hl 1 rfl) ?_
                refine gX_X5_25_1 hx hb hG hown hK hP dX5_readFormula_106 ?_
                refine gX_X5_104_5 hx hb hG hown hK hP dX5_readFormula_109 ?_
                refine lv_iload hx hb dX5_readFormula_112 (lv_at hl 0 rfl) ?_
                have hFc := frA hD hS hA
                refine va_callv (va_runV (As := [.int m63_i_rd_kind]) (rest := []) ⟨hx, hb, hml, hown, hG⟩ (kX1_addOperator l dC dI r ct i_tapeLength i_time i_lyingCount x116 x117 x118 i_sc_count i_sc_at i_A_tunes i_A_houses i_fA_length i_B_tunes i_B_houses x119 i_acts_done i_acts_undone i_kn_count f_boxes f_boxKept f_trial f_offers f_A_noteCounts f_A_notes f_B_noteCounts f_B_notes f_now_where f_now_worn f_ahead_where f_ahead_worn f_acts_rows f_kn_tunes f_kn_noteTimes J120 L m63_i_rd_kind H114.size hI121) (cwV 1 hG (goodV gw677 gw231 gw232 gw133 gw233) rfl rfl rfl hd_X1_addOperator ⟨(Nat.le_of_ble_eq_true rfl), (Nat.le_of_ble_eq_true rfl)⟩) ⟨fbW, va_recv hK hP (ci := 1) (q0 := 6) rfl rfl, pW_in hP hK hD⟩ rfl rfl hl.1 rfl (lv_room (Nat.le_of_ble_eq_true rfl)) dX5_readFormula_114 ⟨(Nat.le_of_ble_eq_true rfl), (Nat.le_of_ble_eq_true rfl)⟩) hS (fun q _ h => hFc q h) hFc (fun _ t_ H162 locs ht hvm hw hB hz1 hk1 hS => ?_)
                obtain ⟨x164, J165, hP1, hD1, hI166⟩ := hB
                rw [ht] at hP1
                have hP := hP1
                have hD := dW hFc hD1
                obtain ⟨im167, im168, im169, im170, im171, im172, im173, im174, im175, im176, im177, im178, im179, im180, im181, im182, im183, im184, im185, im186, im187, im188, im189, im190, im191, im192, im193, im194, im195, im196, im197, im198, im199, im200, im201, im202, im203, im204, im205, im206⟩ := id hI166
                obtain ⟨x207, ex207⟩ : ∃ y : Int32, y = y63_4 + Int32.ofInt 1 := ⟨_, rfl⟩
                have f208 : x207.toInt = y63_4.toInt + 1 := (ox_13 (qi_add ex207 rfl (by decide) (ox_11 g63_0) (ox_976 g63_1)))
                refine lv_iinc (v := x207) (lv' := [(4, .int x207), (5, .int m63_i_rd_kind), (0, .ref (r 1)), (1, .int 2), (2, .int 7), (3, .int 1)]) hx hb dX5_readFormula_117 hl (k := 5) rfl ex207.symm (by decide) rfl (fun ls hl => ?_)
                refine lv_goto (tgt := 63) hx hb dX5_readFormula_120 (by decide) ?_
                exact ih63 x207 x116 x117 x118 x164 J165 H162 _ _ (ox_14 g63_0 f208) (ox_977 f58 f208) (ox_18 im128 im129) (ox_19 im128 im129) (ox_973 im189 im190) (ox_974 im189 im190) im128 im129 im189 im190 hP hD hS (lv_sub hl [2, 3, 4, 5, 0] rfl) (ox_978 hM63 f208)
      exact L63 (-1 * (0 : Int32).toInt + 1 + 1).toNat 0 x9 x10 x11 x12 J13 H7 _ _ (ox_27 zc_0) (ox_28 zc_0) (ox_18 im21 im22) (ox_19 im21 im22) (ox_973 im37 im38) (ox_974 im37 im38) im21 im22 im37 im38 hP hD hS (lv_sub hl [2, 3, 4, 1, 0] rfl) (mlt (ox_979 zc_0))
    · skip
      have f209 : i_rd_kind.toInt = 111 := qi_eq c_5 rfl zc_111
      refine lv_aload_n hx hb dX5_readFormula_33 rfl (lv_at hl 0 rfl) ?_
      refine lv_iload_n hx hb dX5_readFormula_34 rfl (lv_at hl 2 rfl) ?_
      have hFc := frA hD hS hA
      refine va_callv (va_runV (As := [.int 7]) (rest := []) ⟨hx, hb, hml, hown, hG⟩ (kX5_readNot l dC dI r ct i_tapeLength i_time i_lyingCount i_rd_fault i_rd_token i_rd_kind i_sc_count i_sc_at i_A_tunes i_A_houses i_fA_length i_B_tunes i_B_houses i_fB_length i_acts_done i_acts_undone i_kn_count f_boxes f_boxKept f_trial f_offers f_A_noteCounts f_A_notes f_B_noteCounts f_B_notes f_now_where f_now_worn f_ahead_where f_ahead_worn f_acts_rows f_kn_tunes f_kn_noteTimes J L s.heap.size hI) (cwV 1 hG (goodV gw673 gw675 gw19 gw130 gw676) rfl rfl rfl hd_X5_readNot ⟨(Nat.le_of_ble_eq_true rfl), (Nat.le_of_ble_eq_true rfl)⟩) ⟨fbW, va_recv hK hP (ci := 4) (q0 := 1) rfl rfl, pW_in hP hK hD⟩ rfl rfl hl.1 rfl (lv_room (Nat.le_of_ble_eq_true rfl)) dX5_readFormula_35 ⟨(Nat.le_of_ble_eq_true rfl), (Nat.le_of_ble_eq_true rfl)⟩) hS (fun q _ h => hFc q h) hFc (fun _ t_ H210 locs ht hvm hw hB hz1 hk1 hS => ?_)
      obtain ⟨x212, J213, hP1, hD1, hI214⟩ := hB
      rw [ht] at hP1
      have hP := hP1
      have hD := dW hFc hD1
      obtain ⟨im215, im216, im217, im218, im219, im220, im221, im222, im223, im224, im225, im226, im227, im228, im229, im230, im231, im232, im233, im234, im235, im236, im237, im238, im239, im240, im241, im242, im243, im244, im245, im246, im247, im248, im249, im250, im251, im252, im253, im254⟩ := id hI214
      rw [hQ]
      exact W.vret hx hb hr (fun t ht hW => ⟨⟨(), rfl, trivial, ⟨x212, i_rd_token, i_rd_kind, i_fB_length, J213, by rw [ht]; exact hP, hD, hI214⟩⟩, hS.F ht⟩) hS.2.2 dX5_readFormula_38
  · skip
    have f255 : i_rd_fault.toInt ≠ 0 := qi_ne c_1 rfl zc_0
    rw [hQ]
    exact W.vret hx hb hr (fun t ht hW => ⟨⟨(), rfl, trivial, ⟨i_rd_fault, i_rd_token, i_rd_kind, i_fB_length, J, by rw [ht]; exact hP, hD, hI⟩⟩, hS.F ht⟩) hS.2.2 dX5_readFormula_7
set_option maxHeartbeats 4000000 in
set_option maxRecDepth 100000 in
theorem kX5_readFormula_v43 (l : Launch) (dC : Nat → ClassId) (dI : Nat → Nat → Nat) (r : Nat → Nat) (ct : Nat → ClassId) (i_tapeLength i_time i_lyingCount i_rd_fault i_rd_token i_rd_kind i_sc_count i_sc_at i_A_tunes i_A_houses i_fA_length i_B_tunes i_B_houses i_fB_length i_acts_done i_acts_undone i_kn_count : Int32) (f_boxes f_boxKept f_trial f_offers f_A_noteCounts f_A_notes f_B_noteCounts f_B_notes f_now_where f_now_worn f_ahead_where f_ahead_worn f_acts_rows f_kn_tunes f_kn_noteTimes : Nat → Int32) (J : Nat → Nat → Int32) (L : Nat → Nat → Int64) (sz : Nat) (hI : (IX i_tapeLength i_time i_lyingCount i_rd_token i_sc_count i_sc_at i_A_tunes i_A_houses i_fA_length i_B_tunes i_B_houses i_fB_length i_acts_done i_acts_undone i_kn_count f_boxes f_A_noteCounts f_A_notes f_B_noteCounts f_B_notes f_now_worn f_ahead_worn f_acts_rows f_kn_tunes)) : Met l yX5_readFormula (.code yX5_readFormula cX5_readFormula 6 none :: GW) { frames := 16, cells := 0, slots := 0, locals := 545 } (va_Pc [.ref (r 1), .int 1, .int 7] (pW (dC, dI) (WX r ct i_tapeLength i_time i_lyingCount i_rd_fault i_rd_token i_rd_kind i_sc_count i_sc_at i_A_tunes i_A_houses i_fA_length i_B_tunes i_B_houses i_fB_length i_acts_done i_acts_undone i_kn_count f_boxes f_boxKept f_trial f_offers f_A_noteCounts f_A_notes f_B_noteCounts f_B_notes f_now_where f_now_worn f_ahead_where f_ahead_worn f_acts_rows f_kn_tunes f_kn_noteTimes J L) (TX ct) sz)) (va_Qv (fun _ : Unit => True) (fun (_ : Unit) (t : State) => ∃ (n_i_rd_fault n_i_rd_token n_i_rd_kind n_i_fB_length : Int32) (n_J : Nat → Nat → Int32), va_P (dC, dI) vwCl (WX r ct i_tapeLength i_time i_lyingCount n_i_rd_fault n_i_rd_token n_i_rd_kind i_sc_count i_sc_at i_A_tunes i_A_houses i_fA_length i_B_tunes i_B_houses n_i_fB_length i_acts_done i_acts_undone i_kn_count f_boxes f_boxKept f_trial f_offers f_A_noteCounts f_A_notes f_B_noteCounts f_B_notes f_now_where f_now_worn f_ahead_where f_ahead_worn f_acts_rows f_kn_tunes f_kn_noteTimes n_J L) t.heap ∧ va_D (va_A (WX r ct i_tapeLength i_time i_lyingCount i_rd_fault i_rd_token i_rd_kind i_sc_count i_sc_at i_A_tunes i_A_houses i_fA_length i_B_tunes i_B_houses i_fB_length i_acts_done i_acts_undone i_kn_count f_boxes f_boxKept f_trial f_offers f_A_noteCounts f_A_notes f_B_noteCounts f_B_notes f_now_where f_now_worn f_ahead_where f_ahead_worn f_acts_rows f_kn_tunes f_kn_noteTimes J L) sz) (WX r ct i_tapeLength i_time i_lyingCount n_i_rd_fault n_i_rd_token n_i_rd_kind i_sc_count i_sc_at i_A_tunes i_A_houses i_fA_length i_B_tunes i_B_houses n_i_fB_length i_acts_done i_acts_undone i_kn_count f_boxes f_boxKept f_trial f_offers f_A_noteCounts f_A_notes f_B_noteCounts f_B_notes f_now_where f_now_worn f_ahead_where f_ahead_worn f_acts_rows f_kn_tunes f_kn_noteTimes n_J L) ∧ (IX i_tapeLength i_time i_lyingCount n_i_rd_token i_sc_count i_sc_at i_A_tunes i_A_houses i_fA_length i_B_tunes i_B_houses n_i_fB_length i_acts_done i_acts_undone i_kn_count f_boxes f_A_noteCounts f_A_notes f_B_noteCounts f_B_notes f_now_worn f_ahead_worn f_acts_rows f_kn_tunes)) (va_A (WX r ct i_tapeLength i_time i_lyingCount i_rd_fault i_rd_token i_rd_kind i_sc_count i_sc_at i_A_tunes i_A_houses i_fA_length i_B_tunes i_B_houses i_fB_length i_acts_done i_acts_undone i_kn_count f_boxes f_boxKept f_trial f_offers f_A_noteCounts f_A_notes f_B_noteCounts f_B_notes f_now_where f_now_worn f_ahead_where f_ahead_worn f_acts_rows f_kn_tunes f_kn_noteTimes J L) sz)) 0 0 (va_A (WX r ct i_tapeLength i_time i_lyingCount i_rd_fault i_rd_token i_rd_kind i_sc_count i_sc_at i_A_tunes i_A_houses i_fA_length i_B_tunes i_B_houses i_fB_length i_acts_done i_acts_undone i_kn_count f_boxes f_boxKept f_trial f_offers f_A_noteCounts f_A_notes f_B_noteCounts f_B_notes f_now_where f_now_worn f_ahead_where f_ahead_worn f_acts_rows f_kn_tunes f_kn_noteTimes J L) sz) := by
  refine Met.ofW (cc := cX5_readFormula) (maxL := 6) (ret := none) (by decide) rfl ?_
  intro p e s m args below meth c0 s₁ B hml hv
  obtain ⟨rfl, hsz, hP, hK, hD0⟩ := hv
  have hx := B.exec
  have hb := B.bytes
  have hr := B.returns
  have hts := atoms_spec (ws := .code yX5_readFormula cX5_readFormula 6 none :: GW) B.pre
  have hG : ∀ w ∈ GW, w.before _ s = true := fun w h => hts w (List.mem_cons_of_mem _ h)
  have hown : s.vm.findClass RX5 = some m.cls := findClass_of_methodNamed B.named
  subst hsz
  have hD := hD0.self (sz := s.heap.size)
  generalize hAe : va_A (WX r ct i_tapeLength i_time i_lyingCount i_rd_fault i_rd_token i_rd_kind i_sc_count i_sc_at i_A_tunes i_A_houses i_fA_length i_B_tunes i_B_houses i_fB_length i_acts_done i_acts_undone i_kn_count f_boxes f_boxKept f_trial f_offers f_A_noteCounts f_A_notes f_B_noteCounts f_B_notes f_now_where f_now_worn f_ahead_where f_ahead_worn f_acts_rows f_kn_tunes f_kn_noteTimes J L) s.heap.size = A at hD ⊢
  have hA : ∀ q : Nat, s.heap.size ≤ q → A q := fun q h => by rw [← hAe]; exact Or.inr h
  have hS : va_S A s.heap s.heap [] := va_S.rf
  have hP : va_P (dC, dI) vwCl (WX r ct i_tapeLength i_time i_lyingCount i_rd_fault i_rd_token i_rd_kind i_sc_count i_sc_at i_A_tunes i_A_houses i_fA_length i_B_tunes i_B_houses i_fB_length i_acts_done i_acts_undone i_kn_count f_boxes f_boxKept f_trial f_offers f_A_noteCounts f_A_notes f_B_noteCounts f_B_notes f_now_where f_now_worn f_ahead_where f_ahead_worn f_acts_rows f_kn_tunes f_kn_noteTimes J L) s.heap := hP
  have hl := lv_entry ([.ref (r 1), .int 1, .int 7]) (n := 6) (Nat.le_of_ble_eq_true rfl)
  rw [lg_entry_eq]
  generalize (lg_sl ([.ref (r 1), .int 1, .int 7]) ++ List.replicate (6 - (lg_sl ([.ref (r 1), .int 1, .int 7])).length) Slot.unset).toArray = ls at hl ⊢
  have hl : lv_has ls 6 [(0, .ref (r 1)), (1, .int 1), (2, .int 7)] := hl
  refine nameQ (fun Q hQ => ?_)
  obtain ⟨ie0, ie1, ie2, ie3, ie4, ie5, ie6, ie7, ie8, ie9, ie10, ie11, ie12, ie13, ie14, ie15, ie16, ie17, ie18, ie19, ie20, ie21, ie22, ie23, ie24, ie25, ie26, ie27, ie28, ie29, ie30, ie31, ie32, ie33, ie34, ie35, ie36, ie37, ie38, ie39⟩ := id hI
  refine lv_aload_n hx hb dX5_readFormula_0 rfl (lv_at hl 0 rfl) ?_
  refine gX_X5_43_1 hx hb hG hown hK hP dX5_readFormula_1 ?_
  refine lv_if_eq (tgt := 8) hx hb dX5_readFormula_4 (by decide) (fun c_1 => ?_) (fun c_1 => ?_)
  · skip
    have f2 : i_rd_fault.toInt = 0 := qi_eq c_1 rfl zc_0
    refine lv_iload_n hx hb dX5_readFormula_8 rfl (lv_at hl 1 rfl) ?_
    refine lv_iconst (v := 5) hx hb dX5_readFormula_9 (by decide) ?_
    refine lv_icmp_lt (tgt := 19) hx hb dX5_readFormula_10 (by decide) (fun c_3 => ?_) (fun c_3 => absurd (by decide) c_3)
    refine lv_iload_n hx hb dX5_readFormula_19 rfl (lv_at hl 1 rfl) ?_
    refine lv_iconst (v := 2) hx hb dX5_readFormula_20 (by decide) ?_
    refine lv_icmp_ne (tgt := 39) hx hb dX5_readFormula_21 (by decide) (fun c_4 => ?_) (fun c_4 => absurd c_4 (by decide))
    refine lv_aload_n hx hb dX5_readFormula_39 rfl (lv_at hl 0 rfl) ?_
    refine lv_iload_n hx hb dX5_readFormula_40 rfl (lv_at hl 1 rfl) ?_
    refine lv_iconst (v := 1) hx hb dX5_readFormula_41 (by decide) ?_
    refine lv_iadd hx hb dX5_readFormula_42 ?_
    refine wt_c (v := 2) (by decide) ?_
    refine lv_iload_n hx hb dX5_readFormula_43 rfl (lv_at hl 2 rfl) ?_
    have hFc := frA hD hS hA
    refine va_callv (va_runV (As := [.int 2, .int 7]) (rest := []) ⟨hx, hb, hml, hown, hG⟩ (kX5_readFormula_v44 l dC dI r ct i_tapeLength i_time i_lyingCount i_rd_fault i_rd_token i_rd_kind i_sc_count i_sc_at i_A_tunes i_A_houses i_fA_length i_B_tunes i_B_houses i_fB_length i_acts_done i_acts_undone i_kn_count f_boxes f_boxKept f_trial f_offers f_A_noteCounts f_A_notes f_B_noteCounts f_B_notes f_now_where f_now_worn f_ahead_where f_ahead_worn f_acts_rows f_kn_tunes f_kn_noteTimes J L s.heap.size hI) (cwV 2 hG (goodV gw660 gw662 gw17 gw130 gw663) rfl rfl rfl hd_X5_readFormula ⟨(Nat.le_of_ble_eq_true rfl), (Nat.le_of_ble_eq_true rfl)⟩) ⟨fbW, va_recv hK hP (ci := 4) (q0 := 1) rfl rfl, pW_in hP hK hD⟩ rfl rfl hl.1 rfl (lv_room (Nat.le_of_ble_eq_true rfl)) dX5_readFormula_44 ⟨(Nat.le_of_ble_eq_true rfl), (Nat.le_of_ble_eq_true rfl)⟩) hS (fun q _ h => hFc q h) hFc (fun _ t_ H5 locs ht hvm hw hB hz1 hk1 hS => ?_)
    obtain ⟨x7, x8, x9, x10, J11, hP1, hD1, hI12⟩ := hB
    rw [ht] at hP1
    have hP := hP1
    have hD := dW hFc hD1
    obtain ⟨im13, im14, im15, im16, im17, im18, im19, im20, im21, im22, im23, im24, im25, im26, im27, im28, im29, im30, im31, im32, im33, im34, im35, im36, im37, im38, im39, im40, im41, im42, im43, im44, im45, im46, im47, im48, im49, im50, im51, im52⟩ := id hI12
    refine lv_iload_n hx hb dX5_readFormula_47 rfl (lv_at hl 1 rfl) ?_
    refine lv_iconst (v := 2) hx hb dX5_readFormula_48 (by decide) ?_
    refine lv_icmp_ne (tgt := 56) hx hb dX5_readFormula_49 (by decide) (fun c_53 => ?_) (fun c_53 => absurd c_53 (by decide))
    refine lv_sipush (v := 1600) hx hb dX5_readFormula_56 (by decide) ?_
    refine lv_istore_n (lv' := [(3, .int 1600), (0, .ref (r 1)), (1, .int 1), (2, .int 7)]) hx hb dX5_readFormula_59 rfl hl (by decide) rfl (fun ls hl => ?_)
    refine lv_iconst (v := 0) hx hb dX5_readFormula_60 (by decide) ?_
    refine lv_istore (lv' := [(4, .int 0), (3, .int 1600), (0, .ref (r 1)), (1, .int 1), (2, .int 7)]) hx hb dX5_readFormula_61 hl (by decide) rfl (fun ls hl => ?_)
    have L63 : ∀ (N63 : Nat) (y63_4 : Int32) (m63_i_rd_fault m63_i_rd_token m63_i_rd_kind m63_i_fB_length : Int32) (m63_J : Nat → Nat → Int32) (H63 : Heap) (locs : List Loc) (ls : Array Slot) (g63_0 : (0 : Int) ≤ y63_4.toInt) (g63_1 : y63_4.toInt ≤ (1600 : Int)) (g63_2 : (0 : Int) ≤ m63_i_rd_token.toInt) (g63_3 : m63_i_rd_token.toInt ≤ (1600 : Int)) (g63_4 : (0 : Int) ≤ m63_i_fB_length.toInt) (g63_5 : m63_i_fB_length.toInt ≤ (300 : Int)) (gi63_i_rd_token_lo : (0 : Int) ≤ m63_i_rd_token.toInt) (gi63_i_rd_token_hi : m63_i_rd_token.toInt ≤ (1600 : Int)) (gi63_i_fB_length_lo : (0 : Int) ≤ m63_i_fB_length.toInt) (gi63_i_fB_length_hi : m63_i_fB_length.toInt ≤ (300 : Int)) (hP : va_P (dC, dI) vwCl (WX r ct i_tapeLength i_time i_lyingCount m63_i_rd_fault m63_i_rd_token m63_i_rd_kind i_sc_count i_sc_at i_A_tunes i_A_houses i_fA_length i_B_tunes i_B_houses m63_i_fB_length i_acts_done i_acts_undone i_kn_count f_boxes f_boxKept f_trial f_offers f_A_noteCounts f_A_notes f_B_noteCounts f_B_notes f_now_where f_now_worn f_ahead_where f_ahead_worn f_acts_rows f_kn_tunes f_kn_noteTimes m63_J L) H63) (hD : va_D A (WX r ct i_tapeLength i_time i_lyingCount m63_i_rd_fault m63_i_rd_token m63_i_rd_kind i_sc_count i_sc_at i_A_tunes i_A_houses i_fA_length i_B_tunes i_B_houses m63_i_fB_length i_acts_done i_acts_undone i_kn_count f_boxes f_boxKept f_trial f_offers f_A_noteCounts f_A_notes f_B_noteCounts f_B_notes f_now_where f_now_worn f_ahead_where f_ahead_worn f_acts_rows f_kn_tunes f_kn_noteTimes m63_J L)) (hS : va_S A s.heap H63 locs) (hl : lv_has ls 6 [(0, .ref (r 1)), (1, .int 1), (2, .int 7), (3, .int 1600), (4, .int y63_4)]) (hM : -1 * y63_4.toInt + 1600 < (N63 : Int)), W p l e { frames := 16, cells := 0, slots := 0, locals := 545 } s m ([.ref (r 1), .int 1, .int 7] : List Value).toArray below meth c0 H63 locs 0 0 Q (F0 m 63 ls []) := by
      intro N63
      induction N63 with
      | zero =>
        intro y63_4 m63_i_rd_fault m63_i_rd_token m63_i_rd_kind m63_i_fB_length m63_J H63 locs ls g63_0 g63_1 g63_2 g63_3 g63_4 g63_5 gi63_i_rd_token_lo gi63_i_rd_token_hi gi63_i_fB_length_lo gi63_i_fB_length_hi hP hD hS hl hM
        exact ((ox_794 hM g63_0 g63_1)).elim
      | succ N63 ih63 =>
        intro y63_4 m63_i_rd_fault m63_i_rd_token m63_i_rd_kind m63_i_fB_length m63_J H63 locs ls g63_0 g63_1 g63_2 g63_3 g63_4 g63_5 gi63_i_rd_token_lo gi63_i_rd_token_hi gi63_i_fB_length_lo gi63_i_fB_length_hi hP hD hS hl hM
        have hM63 := msucc hM
        refine lv_iload hx hb dX5_readFormula_63 (lv_at hl 4 rfl) ?_
        refine lv_iload_n hx hb dX5_readFormula_65 rfl (lv_at hl 3 rfl) ?_
        refine lv_icmp_ge (tgt := 123) hx hb dX5_readFormula_66 (by decide) (fun c_54 => ?_) (fun c_54 => ?_)
        · skip
          have f55 : 1600 ≤ y63_4.toInt := qi_le c_54 zc_1600 rfl
          rw [hQ]
          exact W.vret hx hb hr (fun t ht hW => ⟨⟨(), rfl, trivial, ⟨m63_i_rd_fault, m63_i_rd_token, m63_i_rd_kind, m63_i_fB_length, m63_J, by rw [ht]; exact hP, hD, ⟨ie0, ie1, ie2, ie3, ie4, ie5, gi63_i_rd_token_lo, gi63_i_rd_token_hi, ie8, ie9, ie10, ie11, ie12, ie13, ie14, ie15, ie16, ie17, ie18, ie19, ie20, ie21, gi63_i_fB_length_lo, gi63_i_fB_length_hi, ie24, ie25, ie26, ie27, ie28, ie29, ie30, ie31, ie32, ie33, ie34, ie35, ie36, ie37, ie38, ie39⟩⟩⟩, hS.F ht⟩) hS.2.2 dX5_readFormula_123
        · skip
          have f56 : y63_4.toInt < 1600 := qi_nle c_54 zc_1600 rfl
          refine lv_aload_n hx hb dX5_readFormula_69 rfl (lv_at hl 0 rfl) ?_
          refine gX_X5_43_1 hx hb hG hown hK hP dX5_readFormula_70 ?_
          refine lv_if_ne (tgt := 123) hx hb dX5_readFormula_73 (by decide) (fun c_57 => ?_) (fun c_57 => ?_)
          · skip
            have f58 : m63_i_rd_fault.toInt ≠ 0 := qi_ne c_57 rfl zc_0
            rw [hQ]
            exact W.vret hx hb hr (fun t ht hW => ⟨⟨(), rfl, trivial, ⟨m63_i_rd_fault, m63_i_rd_token, m63_i_rd_kind, m63_i_fB_length, m63_J, by rw [ht]; exact hP, hD, ⟨ie0, ie1, ie2, ie3, ie4, ie5, gi63_i_rd_token_lo, gi63_i_rd_token_hi, ie8, ie9, ie10, ie11, ie12, ie13, ie14, ie15, ie16, ie17, ie18, ie19, ie20, ie21, gi63_i_fB_length_lo, gi63_i_fB_length_hi, ie24, ie25, ie26, ie27, ie28, ie29, ie30, ie31, ie32, ie33, ie34, ie35, ie36, ie37, ie38, ie39⟩⟩⟩, hS.F ht⟩) hS.2.2 dX5_readFormula_123
          · skip
            have f59 : m63_i_rd_fault.toInt = 0 := qi_eq c_57 rfl zc_0
            refine lv_aload_n hx hb dX5_readFormula_76 rfl (lv_at hl 0 rfl) ?_
            refine gX_X5_66_1 hx hb hG hown hK hP dX5_readFormula_77 ?_
            refine va_calli (va_runS (As := [.int m63_i_rd_kind]) (rest := []) ⟨hx, hb, hml, hown, hG⟩ (kX2_levelOf l dC dI m63_i_rd_kind H63.size) (va_cwS 1 hG (goodS gw678 gw613 gw144 gw614) rfl rfl rfl hd_X2_levelOf ⟨(Nat.le_of_ble_eq_true rfl), (Nat.le_of_ble_eq_true rfl)⟩) ⟨fbR, pR_in emptyP (emptyK hK)⟩ rfl rfl hl.1 rfl (lv_room (Nat.le_of_ble_eq_true rfl)) dX5_readFormula_80 ⟨(Nat.le_of_ble_eq_true rfl), (Nat.le_of_ble_eq_true rfl)⟩) hS (fun q hq h => absurd hq (Nat.not_lt.mpr h)) (fun q h => hA q (Nat.le_trans hS.1 h)) (fun r_61 u_ t_ H60 locs ht hvm hw hB hz1 hk1 hS => ?_)
            subst hw
            have hP := wk hP hk1
            obtain ⟨f62, f63⟩ := hB
            refine lv_iload_n hx hb dX5_readFormula_83 rfl (lv_at hl 1 rfl) ?_
            refine lv_icmp_ne (tgt := 123) hx hb dX5_readFormula_84 (by decide) (fun c_64 => ?_) (fun c_64 => ?_)
            · skip
              have f65 : r_61.toInt ≠ 1 := qi_ne c_64 rfl zc_1
              rw [hQ]
              exact W.vret hx hb hr (fun t ht hW => ⟨⟨(), rfl, trivial, ⟨m63_i_rd_fault, m63_i_rd_token, m63_i_rd_kind, m63_i_fB_length, m63_J, by rw [ht]; exact hP, hD, ⟨ie0, ie1, ie2, ie3, ie4, ie5, gi63_i_rd_token_lo, gi63_i_rd_token_hi, ie8, ie9, ie10, ie11, ie12, ie13, ie14, ie15, ie16, ie17, ie18, ie19, ie20, ie21, gi63_i_fB_length_lo, gi63_i_fB_length_hi, ie24, ie25, ie26, ie27, ie28, ie29, ie30, ie31, ie32, ie33, ie34, ie35, ie36, ie37, ie38, ie39⟩⟩⟩, hS.F ht⟩) hS.2.2 dX5_readFormula_123
            · skip
              have f66 : r_61.toInt = 1 := qi_eq c_64 rfl zc_1
              refine lv_aload_n hx hb dX5_readFormula_87 rfl (lv_at hl 0 rfl) ?_
              refine gX_X5_66_1 hx hb hG hown hK hP dX5_readFormula_88 ?_
              refine lv_istore (lv' := [(5, .int m63_i_rd_kind), (0, .ref (r 1)), (1, .int 1), (2, .int 7), (3, .int 1600), (4, .int y63_4)]) hx hb dX5_readFormula_91 hl (by decide) rfl (fun ls hl => ?_)
              refine lv_aload_n hx hb dX5_readFormula_93 rfl (lv_at hl 1 rfl) ?_
              have hFc := frA hD hS hA
              refine va_callv (va_runV (As := []) (rest := []) ⟨hx, hb, hml, hown, hG⟩ (kX5_advance l dC dI r ct i_tapeLength i_time i_lyingCount m63_i_rd_fault m63_i_rd_token m63_i_rd_kind i_sc_count i_sc_at i_A_tunes i_A_houses i_fA_length i_B_tunes i_B_houses m63_i_fB_length i_acts_done i_acts_undone i_kn_count f_boxes f_boxKept f_trial f_offers f_A_noteCounts f_A_notes f_B_noteCounts f_B_notes f_now_where f_now_worn f_ahead_where f_ahead_worn f_acts_rows f_kn_tunes f_kn_noteTimes m63_J L H60.size ⟨ie0, ie1, ie2, ie3, ie4, ie5, gi63_i_rd_token_lo, gi63_i_rd_token_hi, ie8, ie9, ie10, ie11, ie12, ie13, ie14, ie15, ie16, ie17, ie18, ie19, ie20, ie21, gi63_i_fB_length_lo, gi63_i_fB_length_hi, ie24, ie25, ie26, ie27, ie28, ie29, ie30, ie31, ie32, ie33, ie34, ie35, ie36, ie37, ie38, ie39⟩) (cwV 0 hG (goodV gw635 gw637 gw11 gw130 gw638) rfl rfl rfl hd_X5_advance ⟨(Nat.le_of_ble_eq_true rfl), (Nat.le_of_ble_eq_true rfl)⟩) ⟨fbW, va_recv hK hP (ci := 4) (q0 := 1) rfl rfl, pW_in hP hK hD⟩ rfl rfl hl.1 rfl (lv_room (Nat.le_of_ble_eq_true rfl)) dX5_readFormula_94 ⟨(Nat.le_of_ble_eq_true rfl), (Nat.le_of_ble_eq_true rfl)⟩) hS (fun q _ h => hFc q h) hFc (fun _ t_ H67 locs ht hvm hw hB hz1 hk1 hS => ?_)
              obtain ⟨x69, x70, hP1, hD1, hI71⟩ := hB
              rw [ht] at hP1
              have hP := hP1
              have hD := dW hFc hD1
              obtain ⟨im72, im73, im74, im75, im76, im77, im78, im79, im80, im81, im82, im83, im84, im85, im86, im87, im88, im89, im90, im91, im92, im93, im94, im95, im96, im97, im98, im99, im100, im101, im102, im103, im104, im105, im106, im107, im108, im109, im110, im111⟩ := id hI71
              refine lv_aload_n hx hb dX5_readFormula_97 rfl (lv_at hl 1 rfl) ?_
              refine lv_iload_n hx hb dX5_readFormula_98 rfl (lv_at hl 2 rfl) ?_
              refine lv_iconst (v := 1) hx hb dX5_readFormula_99 (by decide) ?_
              refine lv_iadd hx hb dX5_readFormula_100 ?_
              refine wt_c (v := 2) (by decide) ?_
              refine lv_iload_n hx hb dX5_readFormula_101 rfl (lv_at hl 3 rfl) ?_
              have hFc := frA hD hS hA
              refine va_callv (va_runV (As := [.int 2, .int 7]) (rest := []) ⟨hx, hb, hml, hown, hG⟩ (kX5_readFormula_v44 l dC dI r ct i_tapeLength i_time i_lyingCount m63_i_rd_fault x69 x70 i_sc_count i_sc_at i_A_tunes i_A_houses i_fA_length i_B_tunes i_B_houses m63_i_fB_length i_acts_done i_acts_undone i_kn_count f_boxes f_boxKept f_trial f_offers f_A_noteCounts f_A_notes f_B_noteCounts f_B_notes f_now_where f_now_worn f_ahead_where f_ahead_worn f_acts_rows f_kn_tunes f_kn_noteTimes m63_J L H67.size hI71) (cwV 2 hG (goodV gw660 gw662 gw17 gw130 gw663) rfl rfl rfl hd_X5_readFormula ⟨(Nat.le_of_ble_eq_true rfl), (Nat.le_of_ble_eq_true rfl)⟩) ⟨fbW, va_recv hK hP (ci := 4) (q0 := 1) rfl rfl, pW_in hP hK hD⟩ rfl rfl hl.1 rfl (lv_room (Nat.le_of_ble_eq_true rfl)) dX5_readFormula_102 ⟨(Nat.le_of_ble_eq_true rfl), (Nat.le_of_ble_eq_true rfl)⟩) hS (fun q _ h => hFc q h) hFc (fun _ t_ H112 locs ht hvm hw hB hz1 hk1 hS => ?_)
              obtain ⟨x114, x115, x116, x117, J118, hP1, hD1, hI119⟩ := hB
              rw [ht] at hP1
              have hP := hP1
              have hD := dW hFc hD1
              obtain ⟨im120, im121, im122, im123, im124, im125, im126, im127, im128, im129, im130, im131, im132, im133, im134, im135, im136, im137, im138, im139, im140, im141, im142, im143, im144, im145, im146, im147, im148, im149, im150, im151, im152, im153, im154, im155, im156, im157, im158, im159⟩ := id hI119
              refine lv_aload_n hx hb dX5_readFormula_105 rfl (lv_at hl 1 rfl) ?_
              refine gX_X5_25_1 hx hb hG hown hK hP dX5_readFormula_106 ?_
              refine gX_X5_104_5 hx hb hG hown hK hP dX5_readFormula_109 ?_
              refine lv_iload hx hb dX5_readFormula_112 (lv_at hl 0 rfl) ?_
              have hFc := frA hD hS hA
              refine va_callv (va_runV (As := [.int m63_i_rd_kind]) (rest := []) ⟨hx, hb, hml, hown, hG⟩ (kX1_addOperator l dC dI r ct i_tapeLength i_time i_lyingCount x114 x115 x116 i_sc_count i_sc_at i_A_tunes i_A_houses i_fA_length i_B_tunes i_B_houses x117 i_acts_done i_acts_undone i_kn_count f_boxes f_boxKept f_trial f_offers f_A_noteCounts f_A_notes f_B_noteCounts f_B_notes f_now_where f_now_worn f_ahead_where f_ahead_worn f_acts_rows f_kn_tunes f_kn_noteTimes J118 L m63_i_rd_kind H112.size hI119) (cwV 1 hG (goodV gw677 gw231 gw232 gw133 gw233) rfl rfl rfl hd_X1_addOperator ⟨(Nat.le_of_ble_eq_true rfl), (Nat.le_of_ble_eq_true rfl)⟩) ⟨fbW, va_recv hK hP (ci := 1) (q0 := 6) rfl rfl, pW_in hP hK hD⟩ rfl rfl hl.1 rfl (lv_room (Nat.le_of_ble_eq_true rfl)) dX5_readFormula_114 ⟨(Nat.le_of_ble_eq_true rfl), (Nat.le_of_ble_eq_true rfl)⟩) hS (fun q _ h => hFc q h) hFc (fun _ t_ H160 locs ht hvm hw hB hz1 hk1 hS => ?_)
              obtain ⟨x162, J163, hP1, hD1, hI164⟩ := hB
              rw [ht] at hP1
              have hP := hP1
              have hD := dW hFc hD1
              obtain ⟨im165, im166, im167, im168, im169, im170, im171, im172, im173, im174, im175, im176, im177, im178, im179, im180, im181, im182, im183, im184, im185, im186, im187, im188, im189, im190, im191, im192, im193, im194, im195, im196, im197, im198, im199, im200, im201, im202, im203, im204⟩ := id hI164
              obtain ⟨x205, ex205⟩ : ∃ y : Int32, y = y63_4 + Int32.ofInt 1 := ⟨_, rfl⟩
              have f206 : x205.toInt = y63_4.toInt + 1 := (ox_13 (qi_add ex205 rfl (by decide) (ox_11 g63_0) (ox_12 g63_1)))
              refine lv_iinc (v := x205) (lv' := [(4, .int x205), (5, .int m63_i_rd_kind), (0, .ref (r 1)), (1, .int 1), (2, .int 7), (3, .int 1600)]) hx hb dX5_readFormula_117 hl (k := 5) rfl ex205.symm (by decide) rfl (fun ls hl => ?_)
              refine lv_goto (tgt := 63) hx hb dX5_readFormula_120 (by decide) ?_
              exact ih63 x205 x114 x115 x116 x162 J163 H160 _ _ (ox_14 g63_0 f206) (ox_15 f56 f206) (ox_18 im126 im127) (ox_19 im126 im127) (ox_973 im187 im188) (ox_974 im187 im188) im126 im127 im187 im188 hP hD hS (lv_sub hl [2, 3, 4, 5, 0] rfl) (ox_810 hM63 f206)
    exact L63 (-1 * (0 : Int32).toInt + 1600 + 1).toNat 0 x7 x8 x9 x10 J11 H5 _ _ (ox_27 zc_0) (ox_811 zc_0) (ox_18 im19 im20) (ox_19 im19 im20) (ox_973 im35 im36) (ox_974 im35 im36) im19 im20 im35 im36 hP hD hS (lv_sub hl [2, 3, 4, 1, 0] rfl) (mlt (ox_812 zc_0))
  · skip
    have f207 : i_rd_fault.toInt ≠ 0 := qi_ne c_1 rfl zc_0
    rw [hQ]
    exact W.vret hx hb hr (fun t ht hW => ⟨⟨(), rfl, trivial, ⟨i_rd_fault, i_rd_token, i_rd_kind, i_fB_length, J, by rw [ht]; exact hP, hD, hI⟩⟩, hS.F ht⟩) hS.2.2 dX5_readFormula_7
