set_option maxHeartbeats 4000000 in
set_option maxRecDepth 100000 in
theorem kX7_readFrom (l : Launch) (dC : Nat → ClassId) (dI : Nat → Nat → Nat) (r : Nat → Nat) (ct : Nat → ClassId) (i_tapeLength i_time i_lyingCount i_rd_fault i_rd_token i_rd_kind i_sc_count i_sc_at i_A_tunes i_A_houses i_fA_length i_B_tunes i_B_houses i_fB_length i_acts_done i_acts_undone i_kn_count : Int32) (f_boxes f_boxKept f_trial f_offers f_A_noteCounts f_A_notes f_B_noteCounts f_B_notes f_now_where f_now_worn f_ahead_where f_ahead_worn f_acts_rows f_kn_tunes f_kn_noteTimes : Nat → Int32) (J : Nat → Nat → Int32) (L : Nat → Nat → Int64) (p1 : Int32) (sz : Nat) (hI : (IX i_tapeLength i_time i_lyingCount i_rd_token i_sc_count i_sc_at i_A_tunes i_A_houses i_fA_length i_B_tunes i_B_houses i_fB_length i_acts_done i_acts_undone i_kn_count f_boxes f_A_noteCounts f_A_notes f_B_noteCounts f_B_notes f_now_worn f_ahead_worn f_acts_rows f_kn_tunes)) (hp0 : (0 : Int) ≤ p1.toInt) (hp1 : p1.toInt ≤ (40 : Int)) (hp2 : RR i_A_tunes p1.toInt f_acts_rows) : Met l yX7_readFrom (.code yX7_readFrom cX7_readFrom 4 none :: GW) { frames := 4, cells := 0, slots := 0, locals := 160 } (va_Pc [.ref (r 7), .ref (r 51), .int p1] (pW (dC, dI) (WX r ct i_tapeLength i_time i_lyingCount i_rd_fault i_rd_token i_rd_kind i_sc_count i_sc_at i_A_tunes i_A_houses i_fA_length i_B_tunes i_B_houses i_fB_length i_acts_done i_acts_undone i_kn_count f_boxes f_boxKept f_trial f_offers f_A_noteCounts f_A_notes f_B_noteCounts f_B_notes f_now_where f_now_worn f_ahead_where f_ahead_worn f_acts_rows f_kn_tunes f_kn_noteTimes J L) (TX ct) sz)) (va_Qv (fun _ : Unit => True) (fun (_ : Unit) (t : State) => ∃ (n_f_now_where n_f_now_worn : Nat → Int32) (n_J : Nat → Nat → Int32), va_P (dC, dI) vwCl (WX r ct i_tapeLength i_time i_lyingCount i_rd_fault i_rd_token i_rd_kind i_sc_count i_sc_at i_A_tunes i_A_houses i_fA_length i_B_tunes i_B_houses i_fB_length i_acts_done i_acts_undone i_kn_count f_boxes f_boxKept f_trial f_offers f_A_noteCounts f_A_notes f_B_noteCounts f_B_notes n_f_now_where n_f_now_worn f_ahead_where f_ahead_worn f_acts_rows f_kn_tunes f_kn_noteTimes n_J L) t.heap ∧ va_D (va_A (WX r ct i_tapeLength i_time i_lyingCount i_rd_fault i_rd_token i_rd_kind i_sc_count i_sc_at i_A_tunes i_A_houses i_fA_length i_B_tunes i_B_houses i_fB_length i_acts_done i_acts_undone i_kn_count f_boxes f_boxKept f_trial f_offers f_A_noteCounts f_A_notes f_B_noteCounts f_B_notes f_now_where f_now_worn f_ahead_where f_ahead_worn f_acts_rows f_kn_tunes f_kn_noteTimes J L) sz) (WX r ct i_tapeLength i_time i_lyingCount i_rd_fault i_rd_token i_rd_kind i_sc_count i_sc_at i_A_tunes i_A_houses i_fA_length i_B_tunes i_B_houses i_fB_length i_acts_done i_acts_undone i_kn_count f_boxes f_boxKept f_trial f_offers f_A_noteCounts f_A_notes f_B_noteCounts f_B_notes n_f_now_where n_f_now_worn f_ahead_where f_ahead_worn f_acts_rows f_kn_tunes f_kn_noteTimes n_J L) ∧ (IX i_tapeLength i_time i_lyingCount i_rd_token i_sc_count i_sc_at i_A_tunes i_A_houses i_fA_length i_B_tunes i_B_houses i_fB_length i_acts_done i_acts_undone i_kn_count f_boxes f_A_noteCounts f_A_notes f_B_noteCounts f_B_notes n_f_now_worn f_ahead_worn f_acts_rows f_kn_tunes) ∧ (WB i_A_tunes n_f_now_where)) (va_A (WX r ct i_tapeLength i_time i_lyingCount i_rd_fault i_rd_token i_rd_kind i_sc_count i_sc_at i_A_tunes i_A_houses i_fA_length i_B_tunes i_B_houses i_fB_length i_acts_done i_acts_undone i_kn_count f_boxes f_boxKept f_trial f_offers f_A_noteCounts f_A_notes f_B_noteCounts f_B_notes f_now_where f_now_worn f_ahead_where f_ahead_worn f_acts_rows f_kn_tunes f_kn_noteTimes J L) sz)) 0 0 (va_A (WX r ct i_tapeLength i_time i_lyingCount i_rd_fault i_rd_token i_rd_kind i_sc_count i_sc_at i_A_tunes i_A_houses i_fA_length i_B_tunes i_B_houses i_fB_length i_acts_done i_acts_undone i_kn_count f_boxes f_boxKept f_trial f_offers f_A_noteCounts f_A_notes f_B_noteCounts f_B_notes f_now_where f_now_worn f_ahead_where f_ahead_worn f_acts_rows f_kn_tunes f_kn_noteTimes J L) sz) := by
  refine Met.ofW (cc := cX7_readFrom) (maxL := 4) (ret := none) (by decide) rfl ?_
  intro p e s m args below meth c0 s₁ B hml hv
  obtain ⟨rfl, hsz, hP, hK, hD0⟩ := hv
  have hx := B.exec
  have hb := B.bytes
  have hr := B.returns
  have hts := atoms_spec (ws := .code yX7_readFrom cX7_readFrom 4 none :: GW) B.pre
  have hG : ∀ w ∈ GW, w.before _ s = true := fun w h => hts w (List.mem_cons_of_mem _ h)
  have hown : s.vm.findClass RX7 = some m.cls := findClass_of_methodNamed B.named
  subst hsz
  have hD := hD0.self (sz := s.heap.size)
  generalize hAe : va_A (WX r ct i_tapeLength i_time i_lyingCount i_rd_fault i_rd_token i_rd_kind i_sc_count i_sc_at i_A_tunes i_A_houses i_fA_length i_B_tunes i_B_houses i_fB_length i_acts_done i_acts_undone i_kn_count f_boxes f_boxKept f_trial f_offers f_A_noteCounts f_A_notes f_B_noteCounts f_B_notes f_now_where f_now_worn f_ahead_where f_ahead_worn f_acts_rows f_kn_tunes f_kn_noteTimes J L) s.heap.size = A at hD ⊢
  have hA : ∀ q : Nat, s.heap.size ≤ q → A q := fun q h => by rw [← hAe]; exact Or.inr h
  have hS : va_S A s.heap s.heap [] := va_S.rf
  have hP : va_P (dC, dI) vwCl (WX r ct i_tapeLength i_time i_lyingCount i_rd_fault i_rd_token i_rd_kind i_sc_count i_sc_at i_A_tunes i_A_houses i_fA_length i_B_tunes i_B_houses i_fB_length i_acts_done i_acts_undone i_kn_count f_boxes f_boxKept f_trial f_offers f_A_noteCounts f_A_notes f_B_noteCounts f_B_notes f_now_where f_now_worn f_ahead_where f_ahead_worn f_acts_rows f_kn_tunes f_kn_noteTimes J L) s.heap := hP
  have hl := lv_entry ([.ref (r 7), .ref (r 51), .int p1]) (n := 4) (Nat.le_of_ble_eq_true rfl)
  rw [lg_entry_eq]
  generalize (lg_sl ([.ref (r 7), .ref (r 51), .int p1]) ++ List.replicate (4 - (lg_sl ([.ref (r 7), .ref (r 51), .int p1])).length) Slot.unset).toArray = ls at hl ⊢
  have hl : lv_has ls 4 [(0, .ref (r 7)), (1, .ref (r 51)), (2, .int p1)] := hl
  refine nameQ (fun Q hQ => ?_)
  obtain ⟨ie0, ie1, ie2, ie3, ie4, ie5, ie6, ie7, ie8, ie9, ie10, ie11, ie12, ie13, ie14, ie15, ie16, ie17, ie18, ie19, ie20, ie21, ie22, ie23, ie24, ie25, ie26, ie27, ie28, ie29, ie30, ie31, ie32, ie33, ie34, ie35, ie36, ie37, ie38, ie39⟩ := id hI
  refine lv_iload_n hx hb dX7_readFrom_0 rfl (lv_at hl 2 rfl) ?_
  refine lv_bipush (v := 26) hx hb dX7_readFrom_1 (by decide) ?_
  refine lv_imul hx hb dX7_readFrom_3 ?_
  refine lv_topi (fun x1 ex1 => ?_)
  have f2 : x1.toInt = 26 * p1.toInt := (ox_228 (qi_mul ex1 rfl zc_26 (ox_226 hp0 hp1) (ox_227 hp0 hp1)))
  refine lv_istore_n (lv' := [(3, .int x1), (0, .ref (r 7)), (1, .ref (r 51)), (2, .int p1)]) hx hb dX7_readFrom_4 rfl hl (by decide) rfl (fun ls hl => ?_)
  refine lv_iload_n hx hb dX7_readFrom_5 rfl (lv_at hl 0 rfl) ?_
  refine lv_if_lt (tgt := 18) hx hb dX7_readFrom_6 (by decide) (fun c_3 => ((ox_229 (qi_lt c_3 rfl zc_0) hp0 hp1 f2)).elim) (fun c_3 => ?_)
  have f4 : 0 ≤ x1.toInt := qi_nlt c_3 rfl zc_0
  refine lv_iload_n hx hb dX7_readFrom_9 rfl (lv_at hl 0 rfl) ?_
  refine lv_bipush (v := 26) hx hb dX7_readFrom_10 (by decide) ?_
  refine lv_iadd hx hb dX7_readFrom_12 ?_
  refine lv_topi (fun x5 ex5 => ?_)
  have f6 : x5.toInt = 26 * p1.toInt + 26 := (ox_232 (qi_add ex5 rfl zc_26 (ox_230 hp0 hp1 f4 f2) (ox_231 hp0 hp1 f4 f2)) f2)
  refine lv_aload_n hx hb dX7_readFrom_13 rfl (lv_at hl 2 rfl) ?_
  refine va_alen (v := 1066) hx hb hK hP 51 40 rfl rfl (show Int32.ofNat 1066 = 1066 by decide) dX7_readFrom_14 ?_
  refine lv_icmp_le (tgt := 19) hx hb dX7_readFrom_15 (by decide) (fun c_7 => ?_) (fun c_7 => ((ox_233 (qi_nle c_7 rfl zc_1066) hp0 hp1 f4 f2 f6)).elim)
  have f8 : x5.toInt ≤ 1066 := qi_le c_7 rfl zc_1066
  refine lv_aload_n hx hb dX7_readFrom_19 rfl (lv_at hl 2 rfl) ?_
  refine lv_iload_n hx hb dX7_readFrom_20 rfl (lv_at hl 0 rfl) ?_
  refine lv_aload_n hx hb dX7_readFrom_21 rfl (lv_at hl 1 rfl) ?_
  refine gX_X7_9_7 hx hb hG hown hK hP dX7_readFrom_22 ?_
  refine lv_iconst (v := 0) hx hb dX7_readFrom_25 (by decide) ?_
  refine lv_iconst (v := 5) hx hb dX7_readFrom_26 (by decide) ?_
  refine cpX_51_41 (a := 26 * p1.toInt) (b := (0 : Int)) (d := (5 : Int)) hx hb (hml.trans hl.1.symm) hown (hG _ gw465) (hG _ gw467) (hG _ gw466) (hG _ gw137) hK hP hD hS f2 zc_0 zc_5 (ox_234 hp0) (ox_143) (ox_186) (ox_236 hp1) (ox_235) (Nat.le_of_ble_eq_true rfl) (Nat.le_of_ble_eq_true rfl) dX7_readFrom_27 (fun z10 H9 locs ez10 hP hD hS => ?_)
  refine lv_aload_n hx hb dX7_readFrom_30 rfl (lv_at hl 2 rfl) ?_
  refine lv_iload_n hx hb dX7_readFrom_31 rfl (lv_at hl 0 rfl) ?_
  refine lv_iconst (v := 5) hx hb dX7_readFrom_32 (by decide) ?_
  refine lv_iadd hx hb dX7_readFrom_33 ?_
  refine lv_topi (fun x11 ex11 => ?_)
  have f12 : x11.toInt = 26 * p1.toInt + 5 := (ox_240 (qi_add ex11 rfl zc_5 (ox_238 hp0 f2) (ox_239 hp1 f2)) f2)
  refine lv_aload_n hx hb dX7_readFrom_34 rfl (lv_at hl 1 rfl) ?_
  refine gX_X7_15_7 hx hb hG hown hK hP dX7_readFrom_35 ?_
  refine lv_iconst (v := 0) hx hb dX7_readFrom_38 (by decide) ?_
  refine lv_iconst (v := 5) hx hb dX7_readFrom_39 (by decide) ?_
  refine cpX_51_42 (a := 26 * p1.toInt + 5) (b := (0 : Int)) (d := (5 : Int)) hx hb (hml.trans hl.1.symm) hown (hG _ gw465) (hG _ gw467) (hG _ gw466) (hG _ gw137) hK hP hD hS f12 zc_0 zc_5 (ox_241 hp0) (ox_143) (ox_186) (ox_242 hp1) (ox_235) (Nat.le_of_ble_eq_true rfl) (Nat.le_of_ble_eq_true rfl) dX7_readFrom_40 (fun J14 H13 locs hP hD hS => ?_)
  refine lv_aload_n hx hb dX7_readFrom_43 rfl (lv_at hl 2 rfl) ?_
  refine lv_iload_n hx hb dX7_readFrom_44 rfl (lv_at hl 0 rfl) ?_
  refine lv_bipush (v := 10) hx hb dX7_readFrom_45 (by decide) ?_
  refine lv_iadd hx hb dX7_readFrom_47 ?_
  refine lv_topi (fun x15 ex15 => ?_)
  have f16 : x15.toInt = 26 * p1.toInt + 10 := (ox_246 (qi_add ex15 rfl zc_10 (ox_244 hp0 f2) (ox_245 hp1 f2)) f2)
  refine lv_aload_n hx hb dX7_readFrom_48 rfl (lv_at hl 1 rfl) ?_
  refine gX_X7_18_7 hx hb hG hown hK hP dX7_readFrom_49 ?_
  refine lv_iconst (v := 0) hx hb dX7_readFrom_52 (by decide) ?_
  refine lv_iconst (v := 5) hx hb dX7_readFrom_53 (by decide) ?_
  refine cpX_51_43 (a := 26 * p1.toInt + 10) (b := (0 : Int)) (d := (5 : Int)) hx hb (hml.trans hl.1.symm) hown (hG _ gw465) (hG _ gw467) (hG _ gw466) (hG _ gw137) hK hP hD hS f16 zc_0 zc_5 (ox_247 hp0) (ox_143) (ox_186) (ox_248 hp1) (ox_235) (Nat.le_of_ble_eq_true rfl) (Nat.le_of_ble_eq_true rfl) dX7_readFrom_54 (fun z18 H17 locs ez18 hP hD hS => ?_)
  have g19 : EB 0 99 z18 := EB_cpy ez18 ie36 (ox_247 hp0) (ox_143) (ox_186) (fun k k0 k1 => ie30 (26 * p1.toInt + 10 + k) (by have := (ox_247 hp0); omega) (by have := (ox_301 hp0 hp1 f4 f8 f6 f2); omega) (by have := (ox_301 hp0 hp1 f4 f8 f6 f2); omega))
  refine lv_aload_n hx hb dX7_readFrom_57 rfl (lv_at hl 2 rfl) ?_
  refine lv_iload_n hx hb dX7_readFrom_58 rfl (lv_at hl 0 rfl) ?_
  refine lv_bipush (v := 15) hx hb dX7_readFrom_59 (by decide) ?_
  refine lv_iadd hx hb dX7_readFrom_61 ?_
  refine lv_topi (fun x20 ex20 => ?_)
  have f21 : x20.toInt = 26 * p1.toInt + 15 := (ox_251 (qi_add ex20 rfl zc_15 (ox_249 hp0 f2) (ox_250 hp1 f2)) f2)
  refine lv_aload_n hx hb dX7_readFrom_62 rfl (lv_at hl 1 rfl) ?_
  refine gX_X7_21_7 hx hb hG hown hK hP dX7_readFrom_63 ?_
  refine lv_iconst (v := 0) hx hb dX7_readFrom_66 (by decide) ?_
  refine lv_iconst (v := 5) hx hb dX7_readFrom_67 (by decide) ?_
  refine cpX_51_44 (a := 26 * p1.toInt + 15) (b := (0 : Int)) (d := (5 : Int)) hx hb (hml.trans hl.1.symm) hown (hG _ gw465) (hG _ gw467) (hG _ gw466) (hG _ gw137) hK hP hD hS f21 zc_0 zc_5 (ox_252 hp0) (ox_143) (ox_186) (ox_253 hp1) (ox_235) (Nat.le_of_ble_eq_true rfl) (Nat.le_of_ble_eq_true rfl) dX7_readFrom_68 (fun J23 H22 locs hP hD hS => ?_)
  refine lv_aload_n hx hb dX7_readFrom_71 rfl (lv_at hl 2 rfl) ?_
  refine lv_iload_n hx hb dX7_readFrom_72 rfl (lv_at hl 0 rfl) ?_
  refine lv_bipush (v := 20) hx hb dX7_readFrom_73 (by decide) ?_
  refine lv_iadd hx hb dX7_readFrom_75 ?_
  refine lv_topi (fun x24 ex24 => ?_)
  have f25 : x24.toInt = 26 * p1.toInt + 20 := (ox_257 (qi_add ex24 rfl zc_20 (ox_255 hp0 f2) (ox_256 hp1 f2)) f2)
  refine lv_aload_n hx hb dX7_readFrom_76 rfl (lv_at hl 1 rfl) ?_
  refine gX_X7_24_7 hx hb hG hown hK hP dX7_readFrom_77 ?_
  refine lv_iconst (v := 0) hx hb dX7_readFrom_80 (by decide) ?_
  refine lv_iconst (v := 4) hx hb dX7_readFrom_81 (by decide) ?_
  refine cpX_51_45 (a := 26 * p1.toInt + 20) (b := (0 : Int)) (d := (4 : Int)) hx hb (hml.trans hl.1.symm) hown (hG _ gw465) (hG _ gw467) (hG _ gw466) (hG _ gw137) hK hP hD hS f25 zc_0 zc_4 (ox_258 hp0) (ox_143) (ox_184) (ox_260 hp1) (ox_259) (Nat.le_of_ble_eq_true rfl) (Nat.le_of_ble_eq_true rfl) dX7_readFrom_82 (fun J27 H26 locs hP hD hS => ?_)
  refine lv_aload_n hx hb dX7_readFrom_85 rfl (lv_at hl 1 rfl) ?_
  refine lv_aload_n hx hb dX7_readFrom_86 rfl (lv_at hl 2 rfl) ?_
  refine lv_iload_n hx hb dX7_readFrom_87 rfl (lv_at hl 0 rfl) ?_
  refine lv_bipush (v := 26) hx hb dX7_readFrom_88 (by decide) ?_
  refine lv_iadd hx hb dX7_readFrom_90 ?_
  refine lv_topi (fun x28 ex28 => ?_)
  have f29 : x28.toInt = 26 * p1.toInt + 26 := (ox_232 (qi_add ex28 rfl zc_26 (ox_262 hp0 f2) (ox_263 hp1 f2)) f2)
  refine lv_iconst (v := 2) hx hb dX7_readFrom_91 (by decide) ?_
  refine lv_isub hx hb dX7_readFrom_92 ?_
  refine lv_topi (fun x30 ex30 => ?_)
  have f31 : x30.toInt = 26 * p1.toInt + 24 := (ox_266 (qi_sub ex30 rfl zc_2 (ox_264 hp0 f29) (ox_265 hp1 f29)) f29)
  refine ldX_51 (mm := 26 * p1.toInt + 24) hx hb hK hP f31 (ox_267 hp0) (ox_268 hp1) dX7_readFrom_93 ?_
  refine pX_X7_38_7 hx hb hG hown hK hP hD hS dX7_readFrom_94 (fun J33 H32 locs hP hD hS => ?_)
  refine lv_aload_n hx hb dX7_readFrom_97 rfl (lv_at hl 1 rfl) ?_
  refine lv_aload_n hx hb dX7_readFrom_98 rfl (lv_at hl 2 rfl) ?_
  refine lv_iload_n hx hb dX7_readFrom_99 rfl (lv_at hl 0 rfl) ?_
  refine lv_bipush (v := 26) hx hb dX7_readFrom_100 (by decide) ?_
  refine lv_iadd hx hb dX7_readFrom_102 ?_
  refine lv_topi (fun x34 ex34 => ?_)
  have f35 : x34.toInt = 26 * p1.toInt + 26 := (ox_232 (qi_add ex34 rfl zc_26 (ox_262 hp0 f2) (ox_263 hp1 f2)) f2)
  refine lv_iconst (v := 1) hx hb dX7_readFrom_103 (by decide) ?_
  refine lv_isub hx hb dX7_readFrom_104 ?_
  refine lv_topi (fun x36 ex36 => ?_)
  have f37 : x36.toInt = 26 * p1.toInt + 25 := (ox_272 (qi_sub ex36 rfl zc_1 (ox_270 hp0 f35) (ox_271 hp1 f35)) f35)
  refine ldX_51 (mm := 26 * p1.toInt + 25) hx hb hK hP f37 (ox_273 hp0) (ox_274 hp1) dX7_readFrom_105 ?_
  refine pX_X7_44_7 hx hb hG hown hK hP hD hS dX7_readFrom_106 (fun J39 H38 locs hP hD hS => ?_)
  rw [hQ]
  exact W.vret hx hb hr (fun t ht hW => ⟨⟨(), rfl, trivial, ⟨z10, z18, J39, by rw [ht]; exact hP, hD, ⟨ie0, ie1, ie2, ie3, ie4, ie5, ie6, ie7, ie8, ie9, ie10, ie11, ie12, ie13, ie14, ie15, ie16, ie17, ie18, ie19, ie20, ie21, ie22, ie23, ie24, ie25, ie26, ie27, ie28, ie29, ie30, ie31, ie32, ie33, ie34, ie35, g19, ie37, ie38, ie39⟩, (WB_rr hp2 (ox_276 ie12 ie13) (ox_9 hp0) (ox_283) ez10)⟩⟩, hS.F ht⟩) hS.2.2 dX7_readFrom_109
set_option maxHeartbeats 4000000 in
set_option maxRecDepth 100000 in
theorem kX0_stepBack (l : Launch) (dC : Nat → ClassId) (dI : Nat → Nat → Nat) (r : Nat → Nat) (ct : Nat → ClassId) (i_tapeLength i_time i_lyingCount i_rd_fault i_rd_token i_rd_kind i_sc_count i_sc_at i_A_tunes i_A_houses i_fA_length i_B_tunes i_B_houses i_fB_length i_acts_done i_acts_undone i_kn_count : Int32) (f_boxes f_boxKept f_trial f_offers f_A_noteCounts f_A_notes f_B_noteCounts f_B_notes f_now_where f_now_worn f_ahead_where f_ahead_worn f_acts_rows f_kn_tunes f_kn_noteTimes : Nat → Int32) (J : Nat → Nat → Int32) (L : Nat → Nat → Int64) (sz : Nat) (hI : (IX i_tapeLength i_time i_lyingCount i_rd_token i_sc_count i_sc_at i_A_tunes i_A_houses i_fA_length i_B_tunes i_B_houses i_fB_length i_acts_done i_acts_undone i_kn_count f_boxes f_A_noteCounts f_A_notes f_B_noteCounts f_B_notes f_now_worn f_ahead_worn f_acts_rows f_kn_tunes)) (hp0 : WB i_A_tunes f_now_where) (hp1 : RB i_A_tunes i_acts_done i_acts_undone f_acts_rows) : Met l yX0_stepBack (.code yX0_stepBack cX0_stepBack 2 (some .boolean) :: GW) { frames := 6, cells := 0, slots := 0, locals := 223 } (va_Pc [.ref (r 9), .ref (r 7)] (pW (dC, dI) (WX r ct i_tapeLength i_time i_lyingCount i_rd_fault i_rd_token i_rd_kind i_sc_count i_sc_at i_A_tunes i_A_houses i_fA_length i_B_tunes i_B_houses i_fB_length i_acts_done i_acts_undone i_kn_count f_boxes f_boxKept f_trial f_offers f_A_noteCounts f_A_notes f_B_noteCounts f_B_notes f_now_where f_now_worn f_ahead_where f_ahead_worn f_acts_rows f_kn_tunes f_kn_noteTimes J L) (TX ct) sz)) (va_Qi (fun (r0 : Int32) (u : Int32) => r0 = u) (fun (u : Int32) (t : State) => ∃ (n_i_acts_done n_i_acts_undone : Int32) (n_f_now_where n_f_now_worn : Nat → Int32) (n_J : Nat → Nat → Int32), va_P (dC, dI) vwCl (WX r ct i_tapeLength i_time i_lyingCount i_rd_fault i_rd_token i_rd_kind i_sc_count i_sc_at i_A_tunes i_A_houses i_fA_length i_B_tunes i_B_houses i_fB_length n_i_acts_done n_i_acts_undone i_kn_count f_boxes f_boxKept f_trial f_offers f_A_noteCounts f_A_notes f_B_noteCounts f_B_notes n_f_now_where n_f_now_worn f_ahead_where f_ahead_worn f_acts_rows f_kn_tunes f_kn_noteTimes n_J L) t.heap ∧ va_D (va_A (WX r ct i_tapeLength i_time i_lyingCount i_rd_fault i_rd_token i_rd_kind i_sc_count i_sc_at i_A_tunes i_A_houses i_fA_length i_B_tunes i_B_houses i_fB_length i_acts_done i_acts_undone i_kn_count f_boxes f_boxKept f_trial f_offers f_A_noteCounts f_A_notes f_B_noteCounts f_B_notes f_now_where f_now_worn f_ahead_where f_ahead_worn f_acts_rows f_kn_tunes f_kn_noteTimes J L) sz) (WX r ct i_tapeLength i_time i_lyingCount i_rd_fault i_rd_token i_rd_kind i_sc_count i_sc_at i_A_tunes i_A_houses i_fA_length i_B_tunes i_B_houses i_fB_length n_i_acts_done n_i_acts_undone i_kn_count f_boxes f_boxKept f_trial f_offers f_A_noteCounts f_A_notes f_B_noteCounts f_B_notes n_f_now_where n_f_now_worn f_ahead_where f_ahead_worn f_acts_rows f_kn_tunes f_kn_noteTimes n_J L) ∧ (IX i_tapeLength i_time i_lyingCount i_rd_token i_sc_count i_sc_at i_A_tunes i_A_houses i_fA_length i_B_tunes i_B_houses i_fB_length n_i_acts_done n_i_acts_undone i_kn_count f_boxes f_A_noteCounts f_A_notes f_B_noteCounts f_B_notes n_f_now_worn f_ahead_worn f_acts_rows f_kn_tunes) ∧ (((i_acts_done.toInt ≠ (0 : Int)) ∧ ((1 : Int) ≤ i_acts_done.toInt) ∧ (u.toInt = (1 : Int))) ∨ ((i_acts_done.toInt = (0 : Int)) ∧ (u.toInt = (0 : Int)))) ∧ ((0 : Int) ≤ u.toInt) ∧ (u.toInt ≤ (1 : Int)) ∧ (WB i_A_tunes n_f_now_where) ∧ (RB i_A_tunes n_i_acts_done n_i_acts_undone f_acts_rows)) (va_A (WX r ct i_tapeLength i_time i_lyingCount i_rd_fault i_rd_token i_rd_kind i_sc_count i_sc_at i_A_tunes i_A_houses i_fA_length i_B_tunes i_B_houses i_fB_length i_acts_done i_acts_undone i_kn_count f_boxes f_boxKept f_trial f_offers f_A_noteCounts f_A_notes f_B_noteCounts f_B_notes f_now_where f_now_worn f_ahead_where f_ahead_worn f_acts_rows f_kn_tunes f_kn_noteTimes J L) sz)) 0 0 (va_A (WX r ct i_tapeLength i_time i_lyingCount i_rd_fault i_rd_token i_rd_kind i_sc_count i_sc_at i_A_tunes i_A_houses i_fA_length i_B_tunes i_B_houses i_fB_length i_acts_done i_acts_undone i_kn_count f_boxes f_boxKept f_trial f_offers f_A_noteCounts f_A_notes f_B_noteCounts f_B_notes f_now_where f_now_worn f_ahead_where f_ahead_worn f_acts_rows f_kn_tunes f_kn_noteTimes J L) sz) := by
  refine Met.ofW (cc := cX0_stepBack) (maxL := 2) (ret := (some .boolean)) (by decide) rfl ?_
  intro p e s m args below meth c0 s₁ B hml hv
  obtain ⟨rfl, hsz, hP, hK, hD0⟩ := hv
  have hx := B.exec
  have hb := B.bytes
  have hr := B.returns
  have hts := atoms_spec (ws := .code yX0_stepBack cX0_stepBack 2 (some .boolean) :: GW) B.pre
  have hG : ∀ w ∈ GW, w.before _ s = true := fun w h => hts w (List.mem_cons_of_mem _ h)
  have hown : s.vm.findClass RX0 = some m.cls := findClass_of_methodNamed B.named
  subst hsz
  have hD := hD0.self (sz := s.heap.size)
  generalize hAe : va_A (WX r ct i_tapeLength i_time i_lyingCount i_rd_fault i_rd_token i_rd_kind i_sc_count i_sc_at i_A_tunes i_A_houses i_fA_length i_B_tunes i_B_houses i_fB_length i_acts_done i_acts_undone i_kn_count f_boxes f_boxKept f_trial f_offers f_A_noteCounts f_A_notes f_B_noteCounts f_B_notes f_now_where f_now_worn f_ahead_where f_ahead_worn f_acts_rows f_kn_tunes f_kn_noteTimes J L) s.heap.size = A at hD ⊢
  have hA : ∀ q : Nat, s.heap.size ≤ q → A q := fun q h => by rw [← hAe]; exact Or.inr h
  have hS : va_S A s.heap s.heap [] := va_S.rf
  have hP : va_P (dC, dI) vwCl (WX r ct i_tapeLength i_time i_lyingCount i_rd_fault i_rd_token i_rd_kind i_sc_count i_sc_at i_A_tunes i_A_houses i_fA_length i_B_tunes i_B_houses i_fB_length i_acts_done i_acts_undone i_kn_count f_boxes f_boxKept f_trial f_offers f_A_noteCounts f_A_notes f_B_noteCounts f_B_notes f_now_where f_now_worn f_ahead_where f_ahead_worn f_acts_rows f_kn_tunes f_kn_noteTimes J L) s.heap := hP
  have hl := lv_entry ([.ref (r 9), .ref (r 7)]) (n := 2) (Nat.le_of_ble_eq_true rfl)
  rw [lg_entry_eq]
  generalize (lg_sl ([.ref (r 9), .ref (r 7)]) ++ List.replicate (2 - (lg_sl ([.ref (r 9), .ref (r 7)])).length) Slot.unset).toArray = ls at hl ⊢
  have hl : lv_has ls 2 [(0, .ref (r 9)), (1, .ref (r 7))] := hl
  refine nameQ (fun Q hQ => ?_)
  obtain ⟨ie0, ie1, ie2, ie3, ie4, ie5, ie6, ie7, ie8, ie9, ie10, ie11, ie12, ie13, ie14, ie15, ie16, ie17, ie18, ie19, ie20, ie21, ie22, ie23, ie24, ie25, ie26, ie27, ie28, ie29, ie30, ie31, ie32, ie33, ie34, ie35, ie36, ie37, ie38, ie39⟩ := id hI
  refine lv_aload_n hx hb dX0_stepBack_0 rfl (lv_at hl 0 rfl) ?_
  refine gX_X0_17_9 hx hb hG hown hK hP dX0_stepBack_1 ?_
  refine lv_if_ne (tgt := 9) hx hb dX0_stepBack_4 (by decide) (fun c_1 => ?_) (fun c_1 => ?_)
  · skip
    have f2 : i_acts_done.toInt ≠ 0 := qi_ne c_1 rfl zc_0
    have f3 : (1 : Int) ≤ i_acts_done.toInt := (ox_302 ie26 ie28 f2)
    refine lv_aload_n hx hb dX0_stepBack_9 rfl (lv_at hl 0 rfl) ?_
    refine lv_dup hx hb dX0_stepBack_10 rfl ?_
    refine gX_X0_17_9 hx hb hG hown hK hP dX0_stepBack_11 ?_
    refine lv_iconst (v := 1) hx hb dX0_stepBack_14 (by decide) ?_
    refine lv_isub hx hb dX0_stepBack_15 ?_
    refine lv_topi (fun x4 ex4 => ?_)
    have f5 : x4.toInt = i_acts_done.toInt + (-1) := (ox_167 (qi_sub ex4 rfl zc_1 (ox_303 ie26 ie28 f3) (ox_304 ie27 ie28)))
    refine pX_X0_17_9 hx hb hG hown hK hP hD hS dX0_stepBack_16 (fun H6 locs hP hD hS => ?_)
    refine lv_aload_n hx hb dX0_stepBack_19 rfl (lv_at hl 0 rfl) ?_
    refine lv_dup hx hb dX0_stepBack_20 rfl ?_
    refine gX_X0_21_9 hx hb hG hown hK hP dX0_stepBack_21 ?_
    refine lv_iconst (v := 1) hx hb dX0_stepBack_24 (by decide) ?_
    refine lv_iadd hx hb dX0_stepBack_25 ?_
    refine lv_topi (fun x7 ex7 => ?_)
    have f8 : x7.toInt = i_acts_undone.toInt + 1 := (ox_13 (qi_add ex7 rfl zc_1 (ox_305 ie27 ie28) (ox_306 ie26 ie28)))
    refine pX_X0_21_9 hx hb hG hown hK hP hD hS dX0_stepBack_26 (fun H9 locs hP hD hS => ?_)
    refine lv_aload_n hx hb dX0_stepBack_29 rfl (lv_at hl 1 rfl) ?_
    refine lv_aload_n hx hb dX0_stepBack_30 rfl (lv_at hl 0 rfl) ?_
    refine gX_X0_11_9 hx hb hG hown hK hP dX0_stepBack_31 ?_
    refine lv_aload_n hx hb dX0_stepBack_34 rfl (lv_at hl 0 rfl) ?_
    refine gX_X0_17_9 hx hb hG hown hK hP dX0_stepBack_35 ?_
    have hFc := frA hD hS hA
    refine va_callv (va_runV (As := [.ref (r 51), .int x4]) (rest := []) ⟨hx, hb, hml, hown, hG⟩ (kX7_readFrom l dC dI r ct i_tapeLength i_time i_lyingCount i_rd_fault i_rd_token i_rd_kind i_sc_count i_sc_at i_A_tunes i_A_houses i_fA_length i_B_tunes i_B_houses i_fB_length x4 x7 i_kn_count f_boxes f_boxKept f_trial f_offers f_A_noteCounts f_A_notes f_B_noteCounts f_B_notes f_now_where f_now_worn f_ahead_where f_ahead_worn f_acts_rows f_kn_tunes f_kn_noteTimes J L x4 H9.size ⟨ie0, ie1, ie2, ie3, ie4, ie5, ie6, ie7, ie8, ie9, ie10, ie11, ie12, ie13, ie14, ie15, ie16, ie17, ie18, ie19, ie20, ie21, ie22, ie23, ie24, ie25, (ox_307 ie26 ie28 f3 f5), (ox_311 ie27 ie28 f8), (ox_312 ie28 f8 f5), ie29, ie30, ie31, ie32, ie33, ie34, ie35, ie36, ie37, ie38, ie39⟩ (ox_307 ie26 ie28 f3 f5) (ox_308 ie27 ie28 f5) (hp1 x4.toInt (ox_309 ie26 ie28 f3 f5) (ox_310 ie27 ie28 f5))) (cwV 2 hG (goodV gw826 gw827 gw828 gw134 gw829) rfl rfl rfl hd_X7_readFrom ⟨(Nat.le_of_ble_eq_true rfl), (Nat.le_of_ble_eq_true rfl)⟩) ⟨fbW, va_recv hK hP (ci := 6) (q0 := 7) rfl rfl, pW_in hP hK hD⟩ rfl rfl hl.1 rfl (lv_room (Nat.le_of_ble_eq_true rfl)) dX0_stepBack_38 ⟨(Nat.le_of_ble_eq_true rfl), (Nat.le_of_ble_eq_true rfl)⟩) hS (fun q _ h => hFc q h) hFc (fun _ t_ H10 locs ht hvm hw hB hz1 hk1 hS => ?_)
    obtain ⟨z12, z13, J14, hP1, hD1, hI16, f15⟩ := hB
    rw [ht] at hP1
    have hP := hP1
    have hD := dW hFc hD1
    obtain ⟨im17, im18, im19, im20, im21, im22, im23, im24, im25, im26, im27, im28, im29, im30, im31, im32, im33, im34, im35, im36, im37, im38, im39, im40, im41, im42, im43, im44, im45, im46, im47, im48, im49, im50, im51, im52, im53, im54, im55, im56⟩ := id hI16
    refine lv_iconst (v := 1) hx hb dX0_stepBack_41 (by decide) ?_
    rw [hQ]
    exact W.zret (v := 1) hx hb hr (by decide) (fun t ht hW => ⟨⟨1, 1, rfl, rfl, ⟨x4, x7, z12, z13, J14, by rw [ht]; exact hP, hD, hI16, (ox_313 ie26 ie28 f3 zc_1), (ox_31 zc_1), (ox_32 zc_1), f15, (RB_sh hp1 (ox_314 f8 f5))⟩⟩, hS.F ht⟩) hS.2.2 dX0_stepBack_42
  · skip
    have f57 : i_acts_done.toInt = 0 := qi_eq c_1 rfl zc_0
    refine lv_iconst (v := 0) hx hb dX0_stepBack_7 (by decide) ?_
    rw [hQ]
    exact W.zret (v := 0) hx hb hr (by decide) (fun t ht hW => ⟨⟨0, 0, rfl, rfl, ⟨i_acts_done, i_acts_undone, f_now_where, f_now_worn, J, by rw [ht]; exact hP, hD, hI, (ox_315 ie26 ie28 f57 zc_0), (ox_27 zc_0), (ox_28 zc_0), hp0, hp1⟩⟩, hS.F ht⟩) hS.2.2 dX0_stepBack_8
set_option maxHeartbeats 4000000 in
set_option maxRecDepth 100000 in
theorem kX8_undo (l : Launch) (dC : Nat → ClassId) (dI : Nat → Nat → Nat) (r : Nat → Nat) (ct : Nat → ClassId) (i_tapeLength i_time i_lyingCount i_rd_fault i_rd_token i_rd_kind i_sc_count i_sc_at i_A_tunes i_A_houses i_fA_length i_B_tunes i_B_houses i_fB_length i_acts_done i_acts_undone i_kn_count : Int32) (f_boxes f_boxKept f_trial f_offers f_A_noteCounts f_A_notes f_B_noteCounts f_B_notes f_now_where f_now_worn f_ahead_where f_ahead_worn f_acts_rows f_kn_tunes f_kn_noteTimes : Nat → Int32) (J : Nat → Nat → Int32) (L : Nat → Nat → Int64) (sz : Nat) (hI : (IX i_tapeLength i_time i_lyingCount i_rd_token i_sc_count i_sc_at i_A_tunes i_A_houses i_fA_length i_B_tunes i_B_houses i_fB_length i_acts_done i_acts_undone i_kn_count f_boxes f_A_noteCounts f_A_notes f_B_noteCounts f_B_notes f_now_worn f_ahead_worn f_acts_rows f_kn_tunes)) (hp0 : WB i_A_tunes f_now_where) (hp1 : RB i_A_tunes i_acts_done i_acts_undone f_acts_rows) : Met l yX8_undo (.code yX8_undo cX8_undo 1 (some .boolean) :: GW) { frames := 8, cells := 0, slots := 0, locals := 284 } (va_Pc [.ref (r 0)] (pW (dC, dI) (WX r ct i_tapeLength i_time i_lyingCount i_rd_fault i_rd_token i_rd_kind i_sc_count i_sc_at i_A_tunes i_A_houses i_fA_length i_B_tunes i_B_houses i_fB_length i_acts_done i_acts_undone i_kn_count f_boxes f_boxKept f_trial f_offers f_A_noteCounts f_A_notes f_B_noteCounts f_B_notes f_now_where f_now_worn f_ahead_where f_ahead_worn f_acts_rows f_kn_tunes f_kn_noteTimes J L) (TX ct) sz)) (va_Qi (fun (r0 : Int32) (u : Int32) => r0 = u) (fun (u : Int32) (t : State) => ∃ (n_i_acts_done n_i_acts_undone : Int32) (n_f_now_where n_f_now_worn : Nat → Int32) (n_J : Nat → Nat → Int32), va_P (dC, dI) vwCl (WX r ct i_tapeLength i_time i_lyingCount i_rd_fault i_rd_token i_rd_kind i_sc_count i_sc_at i_A_tunes i_A_houses i_fA_length i_B_tunes i_B_houses i_fB_length n_i_acts_done n_i_acts_undone i_kn_count f_boxes f_boxKept f_trial f_offers f_A_noteCounts f_A_notes f_B_noteCounts f_B_notes n_f_now_where n_f_now_worn f_ahead_where f_ahead_worn f_acts_rows f_kn_tunes f_kn_noteTimes n_J L) t.heap ∧ va_D (va_A (WX r ct i_tapeLength i_time i_lyingCount i_rd_fault i_rd_token i_rd_kind i_sc_count i_sc_at i_A_tunes i_A_houses i_fA_length i_B_tunes i_B_houses i_fB_length i_acts_done i_acts_undone i_kn_count f_boxes f_boxKept f_trial f_offers f_A_noteCounts f_A_notes f_B_noteCounts f_B_notes f_now_where f_now_worn f_ahead_where f_ahead_worn f_acts_rows f_kn_tunes f_kn_noteTimes J L) sz) (WX r ct i_tapeLength i_time i_lyingCount i_rd_fault i_rd_token i_rd_kind i_sc_count i_sc_at i_A_tunes i_A_houses i_fA_length i_B_tunes i_B_houses i_fB_length n_i_acts_done n_i_acts_undone i_kn_count f_boxes f_boxKept f_trial f_offers f_A_noteCounts f_A_notes f_B_noteCounts f_B_notes n_f_now_where n_f_now_worn f_ahead_where f_ahead_worn f_acts_rows f_kn_tunes f_kn_noteTimes n_J L) ∧ (IX i_tapeLength i_time i_lyingCount i_rd_token i_sc_count i_sc_at i_A_tunes i_A_houses i_fA_length i_B_tunes i_B_houses i_fB_length n_i_acts_done n_i_acts_undone i_kn_count f_boxes f_A_noteCounts f_A_notes f_B_noteCounts f_B_notes n_f_now_worn f_ahead_worn f_acts_rows f_kn_tunes) ∧ (WB i_A_tunes n_f_now_where) ∧ (RB i_A_tunes n_i_acts_done n_i_acts_undone f_acts_rows)) (va_A (WX r ct i_tapeLength i_time i_lyingCount i_rd_fault i_rd_token i_rd_kind i_sc_count i_sc_at i_A_tunes i_A_houses i_fA_length i_B_tunes i_B_houses i_fB_length i_acts_done i_acts_undone i_kn_count f_boxes f_boxKept f_trial f_offers f_A_noteCounts f_A_notes f_B_noteCounts f_B_notes f_now_where f_now_worn f_ahead_where f_ahead_worn f_acts_rows f_kn_tunes f_kn_noteTimes J L) sz)) 0 0 (va_A (WX r ct i_tapeLength i_time i_lyingCount i_rd_fault i_rd_token i_rd_kind i_sc_count i_sc_at i_A_tunes i_A_houses i_fA_length i_B_tunes i_B_houses i_fB_length i_acts_done i_acts_undone i_kn_count f_boxes f_boxKept f_trial f_offers f_A_noteCounts f_A_notes f_B_noteCounts f_B_notes f_now_where f_now_worn f_ahead_where f_ahead_worn f_acts_rows f_kn_tunes f_kn_noteTimes J L) sz) := by
  refine Met.ofW (cc := cX8_undo) (maxL := 1) (ret := (some .boolean)) (by decide) rfl ?_
  intro p e s m args below meth c0 s₁ B hml hv
  obtain ⟨rfl, hsz, hP, hK, hD0⟩ := hv
  have hx := B.exec
  have hb := B.bytes
  have hr := B.returns
  have hts := atoms_spec (ws := .code yX8_undo cX8_undo 1 (some .boolean) :: GW) B.pre
  have hG : ∀ w ∈ GW, w.before _ s = true := fun w h => hts w (List.mem_cons_of_mem _ h)
  have hown : s.vm.findClass RX8 = some m.cls := findClass_of_methodNamed B.named
  subst hsz
  have hD := hD0.self (sz := s.heap.size)
  generalize hAe : va_A (WX r ct i_tapeLength i_time i_lyingCount i_rd_fault i_rd_token i_rd_kind i_sc_count i_sc_at i_A_tunes i_A_houses i_fA_length i_B_tunes i_B_houses i_fB_length i_acts_done i_acts_undone i_kn_count f_boxes f_boxKept f_trial f_offers f_A_noteCounts f_A_notes f_B_noteCounts f_B_notes f_now_where f_now_worn f_ahead_where f_ahead_worn f_acts_rows f_kn_tunes f_kn_noteTimes J L) s.heap.size = A at hD ⊢
  have hA : ∀ q : Nat, s.heap.size ≤ q → A q := fun q h => by rw [← hAe]; exact Or.inr h
  have hS : va_S A s.heap s.heap [] := va_S.rf
  have hP : va_P (dC, dI) vwCl (WX r ct i_tapeLength i_time i_lyingCount i_rd_fault i_rd_token i_rd_kind i_sc_count i_sc_at i_A_tunes i_A_houses i_fA_length i_B_tunes i_B_houses i_fB_length i_acts_done i_acts_undone i_kn_count f_boxes f_boxKept f_trial f_offers f_A_noteCounts f_A_notes f_B_noteCounts f_B_notes f_now_where f_now_worn f_ahead_where f_ahead_worn f_acts_rows f_kn_tunes f_kn_noteTimes J L) s.heap := hP
  have hl := lv_entry ([.ref (r 0)]) (n := 1) (Nat.le_of_ble_eq_true rfl)
  rw [lg_entry_eq]
  generalize (lg_sl ([.ref (r 0)]) ++ List.replicate (1 - (lg_sl ([.ref (r 0)])).length) Slot.unset).toArray = ls at hl ⊢
  have hl : lv_has ls 1 [(0, .ref (r 0))] := hl
  refine nameQ (fun Q hQ => ?_)
  obtain ⟨ie0, ie1, ie2, ie3, ie4, ie5, ie6, ie7, ie8, ie9, ie10, ie11, ie12, ie13, ie14, ie15, ie16, ie17, ie18, ie19, ie20, ie21, ie22, ie23, ie24, ie25, ie26, ie27, ie28, ie29, ie30, ie31, ie32, ie33, ie34, ie35, ie36, ie37, ie38, ie39⟩ := id hI
  refine lv_aload_n hx hb dX8_undo_0 rfl (lv_at hl 0 rfl) ?_
  refine gX_X8_40_0 hx hb hG hown hK hP dX8_undo_1 ?_
  refine lv_aload_n hx hb dX8_undo_4 rfl (lv_at hl 0 rfl) ?_
  refine gX_X8_30_0 hx hb hG hown hK hP dX8_undo_5 ?_
  have hFc := frA hD hS hA
  refine va_calli (va_runV (As := [.ref (r 7)]) (rest := []) ⟨hx, hb, hml, hown, hG⟩ (kX0_stepBack l dC dI r ct i_tapeLength i_time i_lyingCount i_rd_fault i_rd_token i_rd_kind i_sc_count i_sc_at i_A_tunes i_A_houses i_fA_length i_B_tunes i_B_houses i_fB_length i_acts_done i_acts_undone i_kn_count f_boxes f_boxKept f_trial f_offers f_A_noteCounts f_A_notes f_B_noteCounts f_B_notes f_now_where f_now_worn f_ahead_where f_ahead_worn f_acts_rows f_kn_tunes f_kn_noteTimes J L s.heap.size hI hp0 hp1) (cwV 1 hG (goodV gw822 gw823 gw824 gw135 gw825) rfl rfl rfl hd_X0_stepBack ⟨(Nat.le_of_ble_eq_true rfl), (Nat.le_of_ble_eq_true rfl)⟩) ⟨fbW, va_recv hK hP (ci := 0) (q0 := 9) rfl rfl, pW_in hP hK hD⟩ rfl rfl hl.1 rfl (lv_room (Nat.le_of_ble_eq_true rfl)) dX8_undo_8 ⟨(Nat.le_of_ble_eq_true rfl), (Nat.le_of_ble_eq_true rfl)⟩) hS (fun q _ h => hFc q h) hFc (fun r_2 u_ t_ H1 locs ht hvm hw hB hz1 hk1 hS => ?_)
  subst hw
  obtain ⟨x3, x4, z5, z6, J7, hP1, hD1, hI13, f8, f9, f10, f11, f12⟩ := hB
  rw [ht] at hP1
  have hP := hP1
  have hD := dW hFc hD1
  obtain ⟨im14, im15, im16, im17, im18, im19, im20, im21, im22, im23, im24, im25, im26, im27, im28, im29, im30, im31, im32, im33, im34, im35, im36, im37, im38, im39, im40, im41, im42, im43, im44, im45, im46, im47, im48, im49, im50, im51, im52, im53⟩ := id hI13
  rw [hQ]
  exact W.zret (v := r_2) hx hb hr (zn (ox_316 f9 f10) (ox_317 f9 f10)) (fun t ht hW => ⟨⟨r_2, r_2, rfl, rfl, ⟨x3, x4, z5, z6, J7, by rw [ht]; exact hP, hD, hI13, f11, f12⟩⟩, hS.F ht⟩) hS.2.2 dX8_undo_11
set_option maxHeartbeats 4000000 in
set_option maxRecDepth 100000 in
theorem kX0_stepOn (l : Launch) (dC : Nat → ClassId) (dI : Nat → Nat → Nat) (r : Nat → Nat) (ct : Nat → ClassId) (i_tapeLength i_time i_lyingCount i_rd_fault i_rd_token i_rd_kind i_sc_count i_sc_at i_A_tunes i_A_houses i_fA_length i_B_tunes i_B_houses i_fB_length i_acts_done i_acts_undone i_kn_count : Int32) (f_boxes f_boxKept f_trial f_offers f_A_noteCounts f_A_notes f_B_noteCounts f_B_notes f_now_where f_now_worn f_ahead_where f_ahead_worn f_acts_rows f_kn_tunes f_kn_noteTimes : Nat → Int32) (J : Nat → Nat → Int32) (L : Nat → Nat → Int64) (sz : Nat) (hI : (IX i_tapeLength i_time i_lyingCount i_rd_token i_sc_count i_sc_at i_A_tunes i_A_houses i_fA_length i_B_tunes i_B_houses i_fB_length i_acts_done i_acts_undone i_kn_count f_boxes f_A_noteCounts f_A_notes f_B_noteCounts f_B_notes f_now_worn f_ahead_worn f_acts_rows f_kn_tunes)) (hp0 : WB i_A_tunes f_now_where) (hp1 : RB i_A_tunes i_acts_done i_acts_undone f_acts_rows) : Met l yX0_stepOn (.code yX0_stepOn cX0_stepOn 2 (some .boolean) :: GW) { frames := 6, cells := 0, slots := 0, locals := 223 } (va_Pc [.ref (r 9), .ref (r 7)] (pW (dC, dI) (WX r ct i_tapeLength i_time i_lyingCount i_rd_fault i_rd_token i_rd_kind i_sc_count i_sc_at i_A_tunes i_A_houses i_fA_length i_B_tunes i_B_houses i_fB_length i_acts_done i_acts_undone i_kn_count f_boxes f_boxKept f_trial f_offers f_A_noteCounts f_A_notes f_B_noteCounts f_B_notes f_now_where f_now_worn f_ahead_where f_ahead_worn f_acts_rows f_kn_tunes f_kn_noteTimes J L) (TX ct) sz)) (va_Qi (fun (r0 : Int32) (u : Int32) => r0 = u) (fun (u : Int32) (t : State) => ∃ (n_i_acts_done n_i_acts_undone : Int32) (n_f_now_where n_f_now_worn : Nat → Int32) (n_J : Nat → Nat → Int32), va_P (dC, dI) vwCl (WX r ct i_tapeLength i_time i_lyingCount i_rd_fault i_rd_token i_rd_kind i_sc_count i_sc_at i_A_tunes i_A_houses i_fA_length i_B_tunes i_B_houses i_fB_length n_i_acts_done n_i_acts_undone i_kn_count f_boxes f_boxKept f_trial f_offers f_A_noteCounts f_A_notes f_B_noteCounts f_B_notes n_f_now_where n_f_now_worn f_ahead_where f_ahead_worn f_acts_rows f_kn_tunes f_kn_noteTimes n_J L) t.heap ∧ va_D (va_A (WX r ct i_tapeLength i_time i_lyingCount i_rd_fault i_rd_token i_rd_kind i_sc_count i_sc_at i_A_tunes i_A_houses i_fA_length i_B_tunes i_B_houses i_fB_length i_acts_done i_acts_undone i_kn_count f_boxes f_boxKept f_trial f_offers f_A_noteCounts f_A_notes f_B_noteCounts f_B_notes f_now_where f_now_worn f_ahead_where f_ahead_worn f_acts_rows f_kn_tunes f_kn_noteTimes J L) sz) (WX r ct i_tapeLength i_time i_lyingCount i_rd_fault i_rd_token i_rd_kind i_sc_count i_sc_at i_A_tunes i_A_houses i_fA_length i_B_tunes i_B_houses i_fB_length n_i_acts_done n_i_acts_undone i_kn_count f_boxes f_boxKept f_trial f_offers f_A_noteCounts f_A_notes f_B_noteCounts f_B_notes n_f_now_where n_f_now_worn f_ahead_where f_ahead_worn f_acts_rows f_kn_tunes f_kn_noteTimes n_J L) ∧ (IX i_tapeLength i_time i_lyingCount i_rd_token i_sc_count i_sc_at i_A_tunes i_A_houses i_fA_length i_B_tunes i_B_houses i_fB_length n_i_acts_done n_i_acts_undone i_kn_count f_boxes f_A_noteCounts f_A_notes f_B_noteCounts f_B_notes n_f_now_worn f_ahead_worn f_acts_rows f_kn_tunes) ∧ (((i_acts_undone.toInt ≠ (0 : Int)) ∧ ((1 : Int) ≤ i_acts_undone.toInt) ∧ (u.toInt = (1 : Int))) ∨ ((i_acts_undone.toInt = (0 : Int)) ∧ (u.toInt = (0 : Int)))) ∧ ((0 : Int) ≤ u.toInt) ∧ (u.toInt ≤ (1 : Int)) ∧ (WB i_A_tunes n_f_now_where) ∧ (RB i_A_tunes n_i_acts_done n_i_acts_undone f_acts_rows)) (va_A (WX r ct i_tapeLength i_time i_lyingCount i_rd_fault i_rd_token i_rd_kind i_sc_count i_sc_at i_A_tunes i_A_houses i_fA_length i_B_tunes i_B_houses i_fB_length i_acts_done i_acts_undone i_kn_count f_boxes f_boxKept f_trial f_offers f_A_noteCounts f_A_notes f_B_noteCounts f_B_notes f_now_where f_now_worn f_ahead_where f_ahead_worn f_acts_rows f_kn_tunes f_kn_noteTimes J L) sz)) 0 0 (va_A (WX r ct i_tapeLength i_time i_lyingCount i_rd_fault i_rd_token i_rd_kind i_sc_count i_sc_at i_A_tunes i_A_houses i_fA_length i_B_tunes i_B_houses i_fB_length i_acts_done i_acts_undone i_kn_count f_boxes f_boxKept f_trial f_offers f_A_noteCounts f_A_notes f_B_noteCounts f_B_notes f_now_where f_now_worn f_ahead_where f_ahead_worn f_acts_rows f_kn_tunes f_kn_noteTimes J L) sz) := by
  refine Met.ofW (cc := cX0_stepOn) (maxL := 2) (ret := (some .boolean)) (by decide) rfl ?_
  intro p e s m args below meth c0 s₁ B hml hv
  obtain ⟨rfl, hsz, hP, hK, hD0⟩ := hv
  have hx := B.exec
  have hb := B.bytes
  have hr := B.returns
  have hts := atoms_spec (ws := .code yX0_stepOn cX0_stepOn 2 (some .boolean) :: GW) B.pre
  have hG : ∀ w ∈ GW, w.before _ s = true := fun w h => hts w (List.mem_cons_of_mem _ h)
  have hown : s.vm.findClass RX0 = some m.cls := findClass_of_methodNamed B.named
  subst hsz
  have hD := hD0.self (sz := s.heap.size)
  generalize hAe : va_A (WX r ct i_tapeLength i_time i_lyingCount i_rd_fault i_rd_token i_rd_kind i_sc_count i_sc_at i_A_tunes i_A_houses i_fA_length i_B_tunes i_B_houses i_fB_length i_acts_done i_acts_undone i_kn_count f_boxes f_boxKept f_trial f_offers f_A_noteCounts f_A_notes f_B_noteCounts f_B_notes f_now_where f_now_worn f_ahead_where f_ahead_worn f_acts_rows f_kn_tunes f_kn_noteTimes J L) s.heap.size = A at hD ⊢
  have hA : ∀ q : Nat, s.heap.size ≤ q → A q := fun q h => by rw [← hAe]; exact Or.inr h
  have hS : va_S A s.heap s.heap [] := va_S.rf
  have hP : va_P (dC, dI) vwCl (WX r ct i_tapeLength i_time i_lyingCount i_rd_fault i_rd_token i_rd_kind i_sc_count i_sc_at i_A_tunes i_A_houses i_fA_length i_B_tunes i_B_houses i_fB_length i_acts_done i_acts_undone i_kn_count f_boxes f_boxKept f_trial f_offers f_A_noteCounts f_A_notes f_B_noteCounts f_B_notes f_now_where f_now_worn f_ahead_where f_ahead_worn f_acts_rows f_kn_tunes f_kn_noteTimes J L) s.heap := hP
  have hl := lv_entry ([.ref (r 9), .ref (r 7)]) (n := 2) (Nat.le_of_ble_eq_true rfl)
  rw [lg_entry_eq]
  generalize (lg_sl ([.ref (r 9), .ref (r 7)]) ++ List.replicate (2 - (lg_sl ([.ref (r 9), .ref (r 7)])).length) Slot.unset).toArray = ls at hl ⊢
  have hl : lv_has ls 2 [(0, .ref (r 9)), (1, .ref (r 7))] := hl
  refine nameQ (fun Q hQ => ?_)
  obtain ⟨ie0, ie1, ie2, ie3, ie4, ie5, ie6, ie7, ie8, ie9, ie10, ie11, ie12, ie13, ie14, ie15, ie16, ie17, ie18, ie19, ie20, ie21, ie22, ie23, ie24, ie25, ie26, ie27, ie28, ie29, ie30, ie31, ie32, ie33, ie34, ie35, ie36, ie37, ie38, ie39⟩ := id hI
  refine lv_aload_n hx hb dX0_stepOn_0 rfl (lv_at hl 0 rfl) ?_
  refine gX_X0_21_9 hx hb hG hown hK hP dX0_stepOn_1 ?_
  refine lv_if_ne (tgt := 9) hx hb dX0_stepOn_4 (by decide) (fun c_1 => ?_) (fun c_1 => ?_)
  · skip
    have f2 : i_acts_undone.toInt ≠ 0 := qi_ne c_1 rfl zc_0
    have f3 : (1 : Int) ≤ i_acts_undone.toInt := (ox_318 ie27 ie28 f2)
    refine lv_aload_n hx hb dX0_stepOn_9 rfl (lv_at hl 0 rfl) ?_
    refine lv_dup hx hb dX0_stepOn_10 rfl ?_
    refine gX_X0_17_9 hx hb hG hown hK hP dX0_stepOn_11 ?_
    refine lv_iconst (v := 1) hx hb dX0_stepOn_14 (by decide) ?_
    refine lv_iadd hx hb dX0_stepOn_15 ?_
    refine lv_topi (fun x4 ex4 => ?_)
    have f5 : x4.toInt = i_acts_done.toInt + 1 := (ox_13 (qi_add ex4 rfl zc_1 (ox_319 ie26 ie28) (ox_320 ie27 ie28)))
    refine pX_X0_17_9 hx hb hG hown hK hP hD hS dX0_stepOn_16 (fun H6 locs hP hD hS => ?_)
    refine lv_aload_n hx hb dX0_stepOn_19 rfl (lv_at hl 0 rfl) ?_
    refine lv_dup hx hb dX0_stepOn_20 rfl ?_
    refine gX_X0_21_9 hx hb hG hown hK hP dX0_stepOn_21 ?_
    refine lv_iconst (v := 1) hx hb dX0_stepOn_24 (by decide) ?_
    refine lv_isub hx hb dX0_stepOn_25 ?_
    refine lv_topi (fun x7 ex7 => ?_)
    have f8 : x7.toInt = i_acts_undone.toInt + (-1) := (ox_167 (qi_sub ex7 rfl zc_1 (ox_321 ie27 ie28 f3) (ox_322 ie26 ie28)))
    refine pX_X0_21_9 hx hb hG hown hK hP hD hS dX0_stepOn_26 (fun H9 locs hP hD hS => ?_)
    refine lv_aload_n hx hb dX0_stepOn_29 rfl (lv_at hl 1 rfl) ?_
    refine lv_aload_n hx hb dX0_stepOn_30 rfl (lv_at hl 0 rfl) ?_
    refine gX_X0_11_9 hx hb hG hown hK hP dX0_stepOn_31 ?_
    refine lv_aload_n hx hb dX0_stepOn_34 rfl (lv_at hl 0 rfl) ?_
    refine gX_X0_17_9 hx hb hG hown hK hP dX0_stepOn_35 ?_
    have hFc := frA hD hS hA
    refine va_callv (va_runV (As := [.ref (r 51), .int x4]) (rest := []) ⟨hx, hb, hml, hown, hG⟩ (kX7_readFrom l dC dI r ct i_tapeLength i_time i_lyingCount i_rd_fault i_rd_token i_rd_kind i_sc_count i_sc_at i_A_tunes i_A_houses i_fA_length i_B_tunes i_B_houses i_fB_length x4 x7 i_kn_count f_boxes f_boxKept f_trial f_offers f_A_noteCounts f_A_notes f_B_noteCounts f_B_notes f_now_where f_now_worn f_ahead_where f_ahead_worn f_acts_rows f_kn_tunes f_kn_noteTimes J L x4 H9.size ⟨ie0, ie1, ie2, ie3, ie4, ie5, ie6, ie7, ie8, ie9, ie10, ie11, ie12, ie13, ie14, ie15, ie16, ie17, ie18, ie19, ie20, ie21, ie22, ie23, ie24, ie25, (ox_323 ie26 ie28 f5), (ox_327 ie27 ie28 f3 f8), (ox_328 ie28 f8 f5), ie29, ie30, ie31, ie32, ie33, ie34, ie35, ie36, ie37, ie38, ie39⟩ (ox_323 ie26 ie28 f5) (ox_324 ie28 f3 f5) (hp1 x4.toInt (ox_325 ie26 ie28 f5) (ox_326 ie27 ie28 f3 f5))) (cwV 2 hG (goodV gw826 gw827 gw828 gw134 gw829) rfl rfl rfl hd_X7_readFrom ⟨(Nat.le_of_ble_eq_true rfl), (Nat.le_of_ble_eq_true rfl)⟩) ⟨fbW, va_recv hK hP (ci := 6) (q0 := 7) rfl rfl, pW_in hP hK hD⟩ rfl rfl hl.1 rfl (lv_room (Nat.le_of_ble_eq_true rfl)) dX0_stepOn_38 ⟨(Nat.le_of_ble_eq_true rfl), (Nat.le_of_ble_eq_true rfl)⟩) hS (fun q _ h => hFc q h) hFc (fun _ t_ H10 locs ht hvm hw hB hz1 hk1 hS => ?_)
    obtain ⟨z12, z13, J14, hP1, hD1, hI16, f15⟩ := hB
    rw [ht] at hP1
    have hP := hP1
    have hD := dW hFc hD1
    obtain ⟨im17, im18, im19, im20, im21, im22, im23, im24, im25, im26, im27, im28, im29, im30, im31, im32, im33, im34, im35, im36, im37, im38, im39, im40, im41, im42, im43, im44, im45, im46, im47, im48, im49, im50, im51, im52, im53, im54, im55, im56⟩ := id hI16
    refine lv_iconst (v := 1) hx hb dX0_stepOn_41 (by decide) ?_
    rw [hQ]
    exact W.zret (v := 1) hx hb hr (by decide) (fun t ht hW => ⟨⟨1, 1, rfl, rfl, ⟨x4, x7, z12, z13, J14, by rw [ht]; exact hP, hD, hI16, (ox_329 ie27 ie28 f3 zc_1), (ox_31 zc_1), (ox_32 zc_1), f15, (RB_sh hp1 (ox_330 f8 f5))⟩⟩, hS.F ht⟩) hS.2.2 dX0_stepOn_42
  · skip
    have f57 : i_acts_undone.toInt = 0 := qi_eq c_1 rfl zc_0
    refine lv_iconst (v := 0) hx hb dX0_stepOn_7 (by decide) ?_
    rw [hQ]
    exact W.zret (v := 0) hx hb hr (by decide) (fun t ht hW => ⟨⟨0, 0, rfl, rfl, ⟨i_acts_done, i_acts_undone, f_now_where, f_now_worn, J, by rw [ht]; exact hP, hD, hI, (ox_331 ie27 ie28 f57 zc_0), (ox_27 zc_0), (ox_28 zc_0), hp0, hp1⟩⟩, hS.F ht⟩) hS.2.2 dX0_stepOn_8
set_option maxHeartbeats 4000000 in
set_option maxRecDepth 100000 in
theorem kX8_redo (l : Launch) (dC : Nat → ClassId) (dI : Nat → Nat → Nat) (r : Nat → Nat) (ct : Nat → ClassId) (i_tapeLength i_time i_lyingCount i_rd_fault i_rd_token i_rd_kind i_sc_count i_sc_at i_A_tunes i_A_houses i_fA_length i_B_tunes i_B_houses i_fB_length i_acts_done i_acts_undone i_kn_count : Int32) (f_boxes f_boxKept f_trial f_offers f_A_noteCounts f_A_notes f_B_noteCounts f_B_notes f_now_where f_now_worn f_ahead_where f_ahead_worn f_acts_rows f_kn_tunes f_kn_noteTimes : Nat → Int32) (J : Nat → Nat → Int32) (L : Nat → Nat → Int64) (sz : Nat) (hI : (IX i_tapeLength i_time i_lyingCount i_rd_token i_sc_count i_sc_at i_A_tunes i_A_houses i_fA_length i_B_tunes i_B_houses i_fB_length i_acts_done i_acts_undone i_kn_count f_boxes f_A_noteCounts f_A_notes f_B_noteCounts f_B_notes f_now_worn f_ahead_worn f_acts_rows f_kn_tunes)) (hp0 : WB i_A_tunes f_now_where) (hp1 : RB i_A_tunes i_acts_done i_acts_undone f_acts_rows) : Met l yX8_redo (.code yX8_redo cX8_redo 1 (some .boolean) :: GW) { frames := 8, cells := 0, slots := 0, locals := 284 } (va_Pc [.ref (r 0)] (pW (dC, dI) (WX r ct i_tapeLength i_time i_lyingCount i_rd_fault i_rd_token i_rd_kind i_sc_count i_sc_at i_A_tunes i_A_houses i_fA_length i_B_tunes i_B_houses i_fB_length i_acts_done i_acts_undone i_kn_count f_boxes f_boxKept f_trial f_offers f_A_noteCounts f_A_notes f_B_noteCounts f_B_notes f_now_where f_now_worn f_ahead_where f_ahead_worn f_acts_rows f_kn_tunes f_kn_noteTimes J L) (TX ct) sz)) (va_Qi (fun (r0 : Int32) (u : Int32) => r0 = u) (fun (u : Int32) (t : State) => ∃ (n_i_acts_done n_i_acts_undone : Int32) (n_f_now_where n_f_now_worn : Nat → Int32) (n_J : Nat → Nat → Int32), va_P (dC, dI) vwCl (WX r ct i_tapeLength i_time i_lyingCount i_rd_fault i_rd_token i_rd_kind i_sc_count i_sc_at i_A_tunes i_A_houses i_fA_length i_B_tunes i_B_houses i_fB_length n_i_acts_done n_i_acts_undone i_kn_count f_boxes f_boxKept f_trial f_offers f_A_noteCounts f_A_notes f_B_noteCounts f_B_notes n_f_now_where n_f_now_worn f_ahead_where f_ahead_worn f_acts_rows f_kn_tunes f_kn_noteTimes n_J L) t.heap ∧ va_D (va_A (WX r ct i_tapeLength i_time i_lyingCount i_rd_fault i_rd_token i_rd_kind i_sc_count i_sc_at i_A_tunes i_A_houses i_fA_length i_B_tunes i_B_houses i_fB_length i_acts_done i_acts_undone i_kn_count f_boxes f_boxKept f_trial f_offers f_A_noteCounts f_A_notes f_B_noteCounts f_B_notes f_now_where f_now_worn f_ahead_where f_ahead_worn f_acts_rows f_kn_tunes f_kn_noteTimes J L) sz) (WX r ct i_tapeLength i_time i_lyingCount i_rd_fault i_rd_token i_rd_kind i_sc_count i_sc_at i_A_tunes i_A_houses i_fA_length i_B_tunes i_B_houses i_fB_length n_i_acts_done n_i_acts_undone i_kn_count f_boxes f_boxKept f_trial f_offers f_A_noteCounts f_A_notes f_B_noteCounts f_B_notes n_f_now_where n_f_now_worn f_ahead_where f_ahead_worn f_acts_rows f_kn_tunes f_kn_noteTimes n_J L) ∧ (IX i_tapeLength i_time i_lyingCount i_rd_token i_sc_count i_sc_at i_A_tunes i_A_houses i_fA_length i_B_tunes i_B_houses i_fB_length n_i_acts_done n_i_acts_undone i_kn_count f_boxes f_A_noteCounts f_A_notes f_B_noteCounts f_B_notes n_f_now_worn f_ahead_worn f_acts_rows f_kn_tunes) ∧ (WB i_A_tunes n_f_now_where) ∧ (RB i_A_tunes n_i_acts_done n_i_acts_undone f_acts_rows)) (va_A (WX r ct i_tapeLength i_time i_lyingCount i_rd_fault i_rd_token i_rd_kind i_sc_count i_sc_at i_A_tunes i_A_houses i_fA_length i_B_tunes i_B_houses i_fB_length i_acts_done i_acts_undone i_kn_count f_boxes f_boxKept f_trial f_offers f_A_noteCounts f_A_notes f_B_noteCounts f_B_notes f_now_where f_now_worn f_ahead_where f_ahead_worn f_acts_rows f_kn_tunes f_kn_noteTimes J L) sz)) 0 0 (va_A (WX r ct i_tapeLength i_time i_lyingCount i_rd_fault i_rd_token i_rd_kind i_sc_count i_sc_at i_A_tunes i_A_houses i_fA_length i_B_tunes i_B_houses i_fB_length i_acts_done i_acts_undone i_kn_count f_boxes f_boxKept f_trial f_offers f_A_noteCounts f_A_notes f_B_noteCounts f_B_notes f_now_where f_now_worn f_ahead_where f_ahead_worn f_acts_rows f_kn_tunes f_kn_noteTimes J L) sz) := by
  refine Met.ofW (cc := cX8_redo) (maxL := 1) (ret := (some .boolean)) (by decide) rfl ?_
  intro p e s m args below meth c0 s₁ B hml hv
  obtain ⟨rfl, hsz, hP, hK, hD0⟩ := hv
  have hx := B.exec
  have hb := B.bytes
  have hr := B.returns
  have hts := atoms_spec (ws := .code yX8_redo cX8_redo 1 (some .boolean) :: GW) B.pre
  have hG : ∀ w ∈ GW, w.before _ s = true := fun w h => hts w (List.mem_cons_of_mem _ h)
  have hown : s.vm.findClass RX8 = some m.cls := findClass_of_methodNamed B.named
  subst hsz
  have hD := hD0.self (sz := s.heap.size)
  generalize hAe : va_A (WX r ct i_tapeLength i_time i_lyingCount i_rd_fault i_rd_token i_rd_kind i_sc_count i_sc_at i_A_tunes i_A_houses i_fA_length i_B_tunes i_B_houses i_fB_length i_acts_done i_acts_undone i_kn_count f_boxes f_boxKept f_trial f_offers f_A_noteCounts f_A_notes f_B_noteCounts f_B_notes f_now_where f_now_worn f_ahead_where f_ahead_worn f_acts_rows f_kn_tunes f_kn_noteTimes J L) s.heap.size = A at hD ⊢
  have hA : ∀ q : Nat, s.heap.size ≤ q → A q := fun q h => by rw [← hAe]; exact Or.inr h
  have hS : va_S A s.heap s.heap [] := va_S.rf
  have hP : va_P (dC, dI) vwCl (WX r ct i_tapeLength i_time i_lyingCount i_rd_fault i_rd_token i_rd_kind i_sc_count i_sc_at i_A_tunes i_A_houses i_fA_length i_B_tunes i_B_houses i_fB_length i_acts_done i_acts_undone i_kn_count f_boxes f_boxKept f_trial f_offers f_A_noteCounts f_A_notes f_B_noteCounts f_B_notes f_now_where f_now_worn f_ahead_where f_ahead_worn f_acts_rows f_kn_tunes f_kn_noteTimes J L) s.heap := hP
  have hl := lv_entry ([.ref (r 0)]) (n := 1) (Nat.le_of_ble_eq_true rfl)
  rw [lg_entry_eq]
  generalize (lg_sl ([.ref (r 0)]) ++ List.replicate (1 - (lg_sl ([.ref (r 0)])).length) Slot.unset).toArray = ls at hl ⊢
  have hl : lv_has ls 1 [(0, .ref (r 0))] := hl
  refine nameQ (fun Q hQ => ?_)
  obtain ⟨ie0, ie1, ie2, ie3, ie4, ie5, ie6, ie7, ie8, ie9, ie10, ie11, ie12, ie13, ie14, ie15, ie16, ie17, ie18, ie19, ie20, ie21, ie22, ie23, ie24, ie25, ie26, ie27, ie28, ie29, ie30, ie31, ie32, ie33, ie34, ie35, ie36, ie37, ie38, ie39⟩ := id hI
  refine lv_aload_n hx hb dX8_redo_0 rfl (lv_at hl 0 rfl) ?_
  refine gX_X8_40_0 hx hb hG hown hK hP dX8_redo_1 ?_
  refine lv_aload_n hx hb dX8_redo_4 rfl (lv_at hl 0 rfl) ?_
  refine gX_X8_30_0 hx hb hG hown hK hP dX8_redo_5 ?_
  have hFc := frA hD hS hA
  refine va_calli (va_runV (As := [.ref (r 7)]) (rest := []) ⟨hx, hb, hml, hown, hG⟩ (kX0_stepOn l dC dI r ct i_tapeLength i_time i_lyingCount i_rd_fault i_rd_token i_rd_kind i_sc_count i_sc_at i_A_tunes i_A_houses i_fA_length i_B_tunes i_B_houses i_fB_length i_acts_done i_acts_undone i_kn_count f_boxes f_boxKept f_trial f_offers f_A_noteCounts f_A_notes f_B_noteCounts f_B_notes f_now_where f_now_worn f_ahead_where f_ahead_worn f_acts_rows f_kn_tunes f_kn_noteTimes J L s.heap.size hI hp0 hp1) (cwV 1 hG (goodV gw834 gw835 gw836 gw135 gw837) rfl rfl rfl hd_X0_stepOn ⟨(Nat.le_of_ble_eq_true rfl), (Nat.le_of_ble_eq_true rfl)⟩) ⟨fbW, va_recv hK hP (ci := 0) (q0 := 9) rfl rfl, pW_in hP hK hD⟩ rfl rfl hl.1 rfl (lv_room (Nat.le_of_ble_eq_true rfl)) dX8_redo_8 ⟨(Nat.le_of_ble_eq_true rfl), (Nat.le_of_ble_eq_true rfl)⟩) hS (fun q _ h => hFc q h) hFc (fun r_2 u_ t_ H1 locs ht hvm hw hB hz1 hk1 hS => ?_)
  subst hw
  obtain ⟨x3, x4, z5, z6, J7, hP1, hD1, hI13, f8, f9, f10, f11, f12⟩ := hB
  rw [ht] at hP1
  have hP := hP1
  have hD := dW hFc hD1
  obtain ⟨im14, im15, im16, im17, im18, im19, im20, im21, im22, im23, im24, im25, im26, im27, im28, im29, im30, im31, im32, im33, im34, im35, im36, im37, im38, im39, im40, im41, im42, im43, im44, im45, im46, im47, im48, im49, im50, im51, im52, im53⟩ := id hI13
  rw [hQ]
  exact W.zret (v := r_2) hx hb hr (zn (ox_316 f9 f10) (ox_317 f9 f10)) (fun t ht hW => ⟨⟨r_2, r_2, rfl, rfl, ⟨x3, x4, z5, z6, J7, by rw [ht]; exact hP, hD, hI13, f11, f12⟩⟩, hS.F ht⟩) hS.2.2 dX8_redo_11
set_option maxHeartbeats 4000000 in
set_option maxRecDepth 100000 in
theorem kX8_isWeeksAhead (l : Launch) (dC : Nat → ClassId) (dI : Nat → Nat → Nat) (p0 : Int32) (sz : Nat) : Met l yX8_isWeeksAhead (.code yX8_isWeeksAhead cX8_isWeeksAhead 1 (some .boolean) :: GW) { frames := 2, cells := 0, slots := 0, locals := 100 } (va_Pc [.int p0] (pR (dC, dI) [] [] sz)) (va_Qi (fun (r0 : Int32) (u : Int32) => r0 = u) (fun (u : Int32) (t : State) => (((p0.toInt + 1 ≤ (0 : Int)) ∧ (u.toInt = (0 : Int))) ∨ (((0 : Int) ≤ p0.toInt) ∧ ((61 : Int) ≤ p0.toInt) ∧ (u.toInt = (0 : Int))) ∨ (((0 : Int) ≤ p0.toInt) ∧ (p0.toInt ≤ (60 : Int)) ∧ (u.toInt = (1 : Int)))) ∧ ((0 : Int) ≤ u.toInt) ∧ (u.toInt ≤ (1 : Int))) (fun q => sz ≤ q)) 0 0 (fun q => sz ≤ q) := by
  refine Met.ofW (cc := cX8_isWeeksAhead) (maxL := 1) (ret := (some .boolean)) (by decide) rfl ?_
  intro p e s m args below meth c0 s₁ B hml hv
  obtain ⟨rfl, hsz, hP, hK⟩ := hv
  have hx := B.exec
  have hb := B.bytes
  have hr := B.returns
  have hts := atoms_spec (ws := .code yX8_isWeeksAhead cX8_isWeeksAhead 1 (some .boolean) :: GW) B.pre
  have hG : ∀ w ∈ GW, w.before _ s = true := fun w h => hts w (List.mem_cons_of_mem _ h)
  have hown : s.vm.findClass RX8 = some m.cls := findClass_of_methodNamed B.named
  subst hsz
  have hS : va_S (fun q => s.heap.size ≤ q) s.heap s.heap [] := va_S.rf
  have hP : va_P (dC, dI) vwCl [] s.heap := hP
  have hl := lv_entry ([.int p0]) (n := 1) (Nat.le_of_ble_eq_true rfl)
  rw [lg_entry_eq]
  generalize (lg_sl ([.int p0]) ++ List.replicate (1 - (lg_sl ([.int p0])).length) Slot.unset).toArray = ls at hl ⊢
  have hl : lv_has ls 1 [(0, .int p0)] := hl
  refine nameQ (fun Q hQ => ?_)
  refine lv_iload_n hx hb dX8_isWeeksAhead_0 rfl (lv_at hl 0 rfl) ?_
  refine lv_if_lt (tgt := 14) hx hb dX8_isWeeksAhead_1 (by decide) (fun c_1 => ?_) (fun c_1 => ?_)
  · skip
    have f2 : p0.toInt < 0 := qi_lt c_1 rfl zc_0
    refine lv_iconst (v := 0) hx hb dX8_isWeeksAhead_14 (by decide) ?_
    rw [hQ]
    exact W.zret (v := 0) hx hb hr (by decide) (fun t ht hW => ⟨⟨0, 0, rfl, rfl, ⟨(ox_332 f2 zc_0), (ox_27 zc_0), (ox_28 zc_0)⟩⟩, hS.F ht⟩) hS.2.2 dX8_isWeeksAhead_15
  · skip
    have f3 : 0 ≤ p0.toInt := qi_nlt c_1 rfl zc_0
    refine lv_iload_n hx hb dX8_isWeeksAhead_4 rfl (lv_at hl 0 rfl) ?_
    refine lv_bipush (v := 60) hx hb dX8_isWeeksAhead_5 (by decide) ?_
    refine lv_icmp_gt (tgt := 14) hx hb dX8_isWeeksAhead_7 (by decide) (fun c_4 => ?_) (fun c_4 => ?_)
    · skip
      have f5 : 60 < p0.toInt := qi_lt c_4 zc_60 rfl
      refine lv_iconst (v := 0) hx hb dX8_isWeeksAhead_14 (by decide) ?_
      rw [hQ]
      exact W.zret (v := 0) hx hb hr (by decide) (fun t ht hW => ⟨⟨0, 0, rfl, rfl, ⟨(ox_333 f3 f5 zc_0), (ox_27 zc_0), (ox_28 zc_0)⟩⟩, hS.F ht⟩) hS.2.2 dX8_isWeeksAhead_15
    · skip
      have f6 : p0.toInt ≤ 60 := qi_nlt c_4 zc_60 rfl
      refine lv_iconst (v := 1) hx hb dX8_isWeeksAhead_10 (by decide) ?_
      refine lv_goto (tgt := 15) hx hb dX8_isWeeksAhead_11 (by decide) ?_
      rw [hQ]
      exact W.zret (v := 1) hx hb hr (by decide) (fun t ht hW => ⟨⟨1, 1, rfl, rfl, ⟨(ox_334 f3 f6 zc_1), (ox_31 zc_1), (ox_32 zc_1)⟩⟩, hS.F ht⟩) hS.2.2 dX8_isWeeksAhead_15
set_option maxHeartbeats 4000000 in
set_option maxRecDepth 100000 in
theorem kX7_copyOf (l : Launch) (dC : Nat → ClassId) (dI : Nat → Nat → Nat) (r : Nat → Nat) (ct : Nat → ClassId) (i_tapeLength i_time i_lyingCount i_rd_fault i_rd_token i_rd_kind i_sc_count i_sc_at i_A_tunes i_A_houses i_fA_length i_B_tunes i_B_houses i_fB_length i_acts_done i_acts_undone i_kn_count : Int32) (f_boxes f_boxKept f_trial f_offers f_A_noteCounts f_A_notes f_B_noteCounts f_B_notes f_now_where f_now_worn f_ahead_where f_ahead_worn f_acts_rows f_kn_tunes f_kn_noteTimes : Nat → Int32) (J : Nat → Nat → Int32) (L : Nat → Nat → Int64) (sz : Nat) (hI : (IX i_tapeLength i_time i_lyingCount i_rd_token i_sc_count i_sc_at i_A_tunes i_A_houses i_fA_length i_B_tunes i_B_houses i_fB_length i_acts_done i_acts_undone i_kn_count f_boxes f_A_noteCounts f_A_notes f_B_noteCounts f_B_notes f_now_worn f_ahead_worn f_acts_rows f_kn_tunes)) (hp0 : WB i_A_tunes f_now_where) : Met l yX7_copyOf (.code yX7_copyOf cX7_copyOf 2 none :: GW) { frames := 4, cells := 0, slots := 0, locals := 160 } (va_Pc [.ref (r 8), .ref (r 7)] (pW (dC, dI) (WX r ct i_tapeLength i_time i_lyingCount i_rd_fault i_rd_token i_rd_kind i_sc_count i_sc_at i_A_tunes i_A_houses i_fA_length i_B_tunes i_B_houses i_fB_length i_acts_done i_acts_undone i_kn_count f_boxes f_boxKept f_trial f_offers f_A_noteCounts f_A_notes f_B_noteCounts f_B_notes f_now_where f_now_worn f_ahead_where f_ahead_worn f_acts_rows f_kn_tunes f_kn_noteTimes J L) (TX ct) sz)) (va_Qv (fun _ : Unit => True) (fun (_ : Unit) (t : State) => ∃ (n_f_ahead_where n_f_ahead_worn : Nat → Int32) (n_J : Nat → Nat → Int32), va_P (dC, dI) vwCl (WX r ct i_tapeLength i_time i_lyingCount i_rd_fault i_rd_token i_rd_kind i_sc_count i_sc_at i_A_tunes i_A_houses i_fA_length i_B_tunes i_B_houses i_fB_length i_acts_done i_acts_undone i_kn_count f_boxes f_boxKept f_trial f_offers f_A_noteCounts f_A_notes f_B_noteCounts f_B_notes f_now_where f_now_worn n_f_ahead_where n_f_ahead_worn f_acts_rows f_kn_tunes f_kn_noteTimes n_J L) t.heap ∧ va_D (va_A (WX r ct i_tapeLength i_time i_lyingCount i_rd_fault i_rd_token i_rd_kind i_sc_count i_sc_at i_A_tunes i_A_houses i_fA_length i_B_tunes i_B_houses i_fB_length i_acts_done i_acts_undone i_kn_count f_boxes f_boxKept f_trial f_offers f_A_noteCounts f_A_notes f_B_noteCounts f_B_notes f_now_where f_now_worn f_ahead_where f_ahead_worn f_acts_rows f_kn_tunes f_kn_noteTimes J L) sz) (WX r ct i_tapeLength i_time i_lyingCount i_rd_fault i_rd_token i_rd_kind i_sc_count i_sc_at i_A_tunes i_A_houses i_fA_length i_B_tunes i_B_houses i_fB_length i_acts_done i_acts_undone i_kn_count f_boxes f_boxKept f_trial f_offers f_A_noteCounts f_A_notes f_B_noteCounts f_B_notes f_now_where f_now_worn n_f_ahead_where n_f_ahead_worn f_acts_rows f_kn_tunes f_kn_noteTimes n_J L) ∧ (IX i_tapeLength i_time i_lyingCount i_rd_token i_sc_count i_sc_at i_A_tunes i_A_houses i_fA_length i_B_tunes i_B_houses i_fB_length i_acts_done i_acts_undone i_kn_count f_boxes f_A_noteCounts f_A_notes f_B_noteCounts f_B_notes f_now_worn n_f_ahead_worn f_acts_rows f_kn_tunes) ∧ (WB i_A_tunes n_f_ahead_where)) (va_A (WX r ct i_tapeLength i_time i_lyingCount i_rd_fault i_rd_token i_rd_kind i_sc_count i_sc_at i_A_tunes i_A_houses i_fA_length i_B_tunes i_B_houses i_fB_length i_acts_done i_acts_undone i_kn_count f_boxes f_boxKept f_trial f_offers f_A_noteCounts f_A_notes f_B_noteCounts f_B_notes f_now_where f_now_worn f_ahead_where f_ahead_worn f_acts_rows f_kn_tunes f_kn_noteTimes J L) sz)) 0 0 (va_A (WX r ct i_tapeLength i_time i_lyingCount i_rd_fault i_rd_token i_rd_kind i_sc_count i_sc_at i_A_tunes i_A_houses i_fA_length i_B_tunes i_B_houses i_fB_length i_acts_done i_acts_undone i_kn_count f_boxes f_boxKept f_trial f_offers f_A_noteCounts f_A_notes f_B_noteCounts f_B_notes f_now_where f_now_worn f_ahead_where f_ahead_worn f_acts_rows f_kn_tunes f_kn_noteTimes J L) sz) := by
  refine Met.ofW (cc := cX7_copyOf) (maxL := 2) (ret := none) (by decide) rfl ?_
  intro p e s m args below meth c0 s₁ B hml hv
  obtain ⟨rfl, hsz, hP, hK, hD0⟩ := hv
  have hx := B.exec
  have hb := B.bytes
  have hr := B.returns
  have hts := atoms_spec (ws := .code yX7_copyOf cX7_copyOf 2 none :: GW) B.pre
  have hG : ∀ w ∈ GW, w.before _ s = true := fun w h => hts w (List.mem_cons_of_mem _ h)
  have hown : s.vm.findClass RX7 = some m.cls := findClass_of_methodNamed B.named
  subst hsz
  have hD := hD0.self (sz := s.heap.size)
  generalize hAe : va_A (WX r ct i_tapeLength i_time i_lyingCount i_rd_fault i_rd_token i_rd_kind i_sc_count i_sc_at i_A_tunes i_A_houses i_fA_length i_B_tunes i_B_houses i_fB_length i_acts_done i_acts_undone i_kn_count f_boxes f_boxKept f_trial f_offers f_A_noteCounts f_A_notes f_B_noteCounts f_B_notes f_now_where f_now_worn f_ahead_where f_ahead_worn f_acts_rows f_kn_tunes f_kn_noteTimes J L) s.heap.size = A at hD ⊢
  have hA : ∀ q : Nat, s.heap.size ≤ q → A q := fun q h => by rw [← hAe]; exact Or.inr h
  have hS : va_S A s.heap s.heap [] := va_S.rf
  have hP : va_P (dC, dI) vwCl (WX r ct i_tapeLength i_time i_lyingCount i_rd_fault i_rd_token i_rd_kind i_sc_count i_sc_at i_A_tunes i_A_houses i_fA_length i_B_tunes i_B_houses i_fB_length i_acts_done i_acts_undone i_kn_count f_boxes f_boxKept f_trial f_offers f_A_noteCounts f_A_notes f_B_noteCounts f_B_notes f_now_where f_now_worn f_ahead_where f_ahead_worn f_acts_rows f_kn_tunes f_kn_noteTimes J L) s.heap := hP
  have hl := lv_entry ([.ref (r 8), .ref (r 7)]) (n := 2) (Nat.le_of_ble_eq_true rfl)
  rw [lg_entry_eq]
  generalize (lg_sl ([.ref (r 8), .ref (r 7)]) ++ List.replicate (2 - (lg_sl ([.ref (r 8), .ref (r 7)])).length) Slot.unset).toArray = ls at hl ⊢
  have hl : lv_has ls 2 [(0, .ref (r 8)), (1, .ref (r 7))] := hl
  refine nameQ (fun Q hQ => ?_)
  obtain ⟨ie0, ie1, ie2, ie3, ie4, ie5, ie6, ie7, ie8, ie9, ie10, ie11, ie12, ie13, ie14, ie15, ie16, ie17, ie18, ie19, ie20, ie21, ie22, ie23, ie24, ie25, ie26, ie27, ie28, ie29, ie30, ie31, ie32, ie33, ie34, ie35, ie36, ie37, ie38, ie39⟩ := id hI
  refine lv_aload_n hx hb dX7_copyOf_0 rfl (lv_at hl 1 rfl) ?_
  refine gX_X7_9_7 hx hb hG hown hK hP dX7_copyOf_1 ?_
  refine lv_iconst (v := 0) hx hb dX7_copyOf_4 (by decide) ?_
  refine lv_aload_n hx hb dX7_copyOf_5 rfl (lv_at hl 0 rfl) ?_
  refine gX_X7_9_8 hx hb hG hown hK hP dX7_copyOf_6 ?_
  refine lv_iconst (v := 0) hx hb dX7_copyOf_9 (by decide) ?_
  refine lv_iconst (v := 5) hx hb dX7_copyOf_10 (by decide) ?_
  refine cpX_41_46 (a := (0 : Int)) (b := (0 : Int)) (d := (5 : Int)) hx hb (hml.trans hl.1.symm) hown (hG _ gw465) (hG _ gw467) (hG _ gw466) (hG _ gw137) hK hP hD hS zc_0 zc_0 zc_5 (ox_143) (ox_143) (ox_186) (ox_235) (ox_235) (Nat.le_of_ble_eq_true rfl) (Nat.le_of_ble_eq_true rfl) dX7_copyOf_11 (fun z2 H1 locs ez2 hP hD hS => ?_)
  refine lv_aload_n hx hb dX7_copyOf_14 rfl (lv_at hl 1 rfl) ?_
  refine gX_X7_15_7 hx hb hG hown hK hP dX7_copyOf_15 ?_
  refine lv_iconst (v := 0) hx hb dX7_copyOf_18 (by decide) ?_
  refine lv_aload_n hx hb dX7_copyOf_19 rfl (lv_at hl 0 rfl) ?_
  refine gX_X7_15_8 hx hb hG hown hK hP dX7_copyOf_20 ?_
  refine lv_iconst (v := 0) hx hb dX7_copyOf_23 (by decide) ?_
  refine lv_iconst (v := 5) hx hb dX7_copyOf_24 (by decide) ?_
  refine cpX_42_47 (a := (0 : Int)) (b := (0 : Int)) (d := (5 : Int)) hx hb (hml.trans hl.1.symm) hown (hG _ gw465) (hG _ gw467) (hG _ gw466) (hG _ gw137) hK hP hD hS zc_0 zc_0 zc_5 (ox_143) (ox_143) (ox_186) (ox_235) (ox_235) (Nat.le_of_ble_eq_true rfl) (Nat.le_of_ble_eq_true rfl) dX7_copyOf_25 (fun J4 H3 locs hP hD hS => ?_)
  refine lv_aload_n hx hb dX7_copyOf_28 rfl (lv_at hl 1 rfl) ?_
  refine gX_X7_18_7 hx hb hG hown hK hP dX7_copyOf_29 ?_
  refine lv_iconst (v := 0) hx hb dX7_copyOf_32 (by decide) ?_
  refine lv_aload_n hx hb dX7_copyOf_33 rfl (lv_at hl 0 rfl) ?_
  refine gX_X7_18_8 hx hb hG hown hK hP dX7_copyOf_34 ?_
  refine lv_iconst (v := 0) hx hb dX7_copyOf_37 (by decide) ?_
  refine lv_iconst (v := 5) hx hb dX7_copyOf_38 (by decide) ?_
  refine cpX_43_48 (a := (0 : Int)) (b := (0 : Int)) (d := (5 : Int)) hx hb (hml.trans hl.1.symm) hown (hG _ gw465) (hG _ gw467) (hG _ gw466) (hG _ gw137) hK hP hD hS zc_0 zc_0 zc_5 (ox_143) (ox_143) (ox_186) (ox_235) (ox_235) (Nat.le_of_ble_eq_true rfl) (Nat.le_of_ble_eq_true rfl) dX7_copyOf_39 (fun z6 H5 locs ez6 hP hD hS => ?_)
  have g7 : EB 0 99 z6 := EB_cpy ez6 ie37 (ox_143) (ox_143) (ox_186) (fun k _ _ => ie36 ((0 : Int) + k))
  refine lv_aload_n hx hb dX7_copyOf_42 rfl (lv_at hl 1 rfl) ?_
  refine gX_X7_21_7 hx hb hG hown hK hP dX7_copyOf_43 ?_
  refine lv_iconst (v := 0) hx hb dX7_copyOf_46 (by decide) ?_
  refine lv_aload_n hx hb dX7_copyOf_47 rfl (lv_at hl 0 rfl) ?_
  refine gX_X7_21_8 hx hb hG hown hK hP dX7_copyOf_48 ?_
  refine lv_iconst (v := 0) hx hb dX7_copyOf_51 (by decide) ?_
  refine lv_iconst (v := 5) hx hb dX7_copyOf_52 (by decide) ?_
  refine cpX_44_49 (a := (0 : Int)) (b := (0 : Int)) (d := (5 : Int)) hx hb (hml.trans hl.1.symm) hown (hG _ gw465) (hG _ gw467) (hG _ gw466) (hG _ gw137) hK hP hD hS zc_0 zc_0 zc_5 (ox_143) (ox_143) (ox_186) (ox_235) (ox_235) (Nat.le_of_ble_eq_true rfl) (Nat.le_of_ble_eq_true rfl) dX7_copyOf_53 (fun J9 H8 locs hP hD hS => ?_)
  refine lv_aload_n hx hb dX7_copyOf_56 rfl (lv_at hl 1 rfl) ?_
  refine gX_X7_24_7 hx hb hG hown hK hP dX7_copyOf_57 ?_
  refine lv_iconst (v := 0) hx hb dX7_copyOf_60 (by decide) ?_
  refine lv_aload_n hx hb dX7_copyOf_61 rfl (lv_at hl 0 rfl) ?_
  refine gX_X7_24_8 hx hb hG hown hK hP dX7_copyOf_62 ?_
  refine lv_iconst (v := 0) hx hb dX7_copyOf_65 (by decide) ?_
  refine lv_iconst (v := 4) hx hb dX7_copyOf_66 (by decide) ?_
  refine cpX_45_50 (a := (0 : Int)) (b := (0 : Int)) (d := (4 : Int)) hx hb (hml.trans hl.1.symm) hown (hG _ gw465) (hG _ gw467) (hG _ gw466) (hG _ gw137) hK hP hD hS zc_0 zc_0 zc_4 (ox_143) (ox_143) (ox_184) (ox_259) (ox_259) (Nat.le_of_ble_eq_true rfl) (Nat.le_of_ble_eq_true rfl) dX7_copyOf_67 (fun J11 H10 locs hP hD hS => ?_)
  refine lv_aload_n hx hb dX7_copyOf_70 rfl (lv_at hl 0 rfl) ?_
  refine lv_aload_n hx hb dX7_copyOf_71 rfl (lv_at hl 1 rfl) ?_
  refine gX_X7_38_7 hx hb hG hown hK hP dX7_copyOf_72 (fun x12 => ?_)
  refine pX_X7_38_8 hx hb hG hown hK hP hD hS dX7_copyOf_75 (fun J14 H13 locs hP hD hS => ?_)
  refine lv_aload_n hx hb dX7_copyOf_78 rfl (lv_at hl 0 rfl) ?_
  refine lv_aload_n hx hb dX7_copyOf_79 rfl (lv_at hl 1 rfl) ?_
  refine gX_X7_44_7 hx hb hG hown hK hP dX7_copyOf_80 (fun x15 => ?_)
  refine pX_X7_44_8 hx hb hG hown hK hP hD hS dX7_copyOf_83 (fun J17 H16 locs hP hD hS => ?_)
  rw [hQ]
  exact W.vret hx hb hr (fun t ht hW => ⟨⟨(), rfl, trivial, ⟨z2, z6, J17, by rw [ht]; exact hP, hD, ⟨ie0, ie1, ie2, ie3, ie4, ie5, ie6, ie7, ie8, ie9, ie10, ie11, ie12, ie13, ie14, ie15, ie16, ie17, ie18, ie19, ie20, ie21, ie22, ie23, ie24, ie25, ie26, ie27, ie28, ie29, ie30, ie31, ie32, ie33, ie34, ie35, ie36, g7, ie38, ie39⟩, (WB_cpy hp0 (ox_276 ie12 ie13) ez2)⟩⟩, hS.F ht⟩) hS.2.2 dX7_copyOf_86
set_option maxHeartbeats 4000000 in
set_option maxRecDepth 100000 in
theorem kX7_isPaid_v1 (l : Launch) (dC : Nat → ClassId) (dI : Nat → Nat → Nat) (r : Nat → Nat) (ct : Nat → ClassId) (i_tapeLength i_time i_lyingCount i_rd_fault i_rd_token i_rd_kind i_sc_count i_sc_at i_A_tunes i_A_houses i_fA_length i_B_tunes i_B_houses i_fB_length i_acts_done i_acts_undone i_kn_count : Int32) (f_boxes f_boxKept f_trial f_offers f_A_noteCounts f_A_notes f_B_noteCounts f_B_notes f_now_where f_now_worn f_ahead_where f_ahead_worn f_acts_rows f_kn_tunes f_kn_noteTimes : Nat → Int32) (J : Nat → Nat → Int32) (L : Nat → Nat → Int64) (p0 : Int32) (sz : Nat) (hI : (IX i_tapeLength i_time i_lyingCount i_rd_token i_sc_count i_sc_at i_A_tunes i_A_houses i_fA_length i_B_tunes i_B_houses i_fB_length i_acts_done i_acts_undone i_kn_count f_boxes f_A_noteCounts f_A_notes f_B_noteCounts f_B_notes f_now_worn f_ahead_worn f_acts_rows f_kn_tunes)) (hp0 : (0 : Int) ≤ p0.toInt) (hp1 : p0.toInt ≤ (4 : Int)) : Met l yX7_isPaid (.code yX7_isPaid cX7_isPaid 2 (some .boolean) :: GW) { frames := 2, cells := 0, slots := 0, locals := 100 } (va_Pc [.ref (r 8), .int p0] (pR (dC, dI) (WX r ct i_tapeLength i_time i_lyingCount i_rd_fault i_rd_token i_rd_kind i_sc_count i_sc_at i_A_tunes i_A_houses i_fA_length i_B_tunes i_B_houses i_fB_length i_acts_done i_acts_undone i_kn_count f_boxes f_boxKept f_trial f_offers f_A_noteCounts f_A_notes f_B_noteCounts f_B_notes f_now_where f_now_worn f_ahead_where f_ahead_worn f_acts_rows f_kn_tunes f_kn_noteTimes J L) (TX ct) sz)) (va_Qi (fun (r0 : Int32) (u : Int32) => r0 = u) (fun (u : Int32) (t : State) => (((u.toInt = (0 : Int))) ∨ ((u.toInt = (1 : Int)))) ∧ ((0 : Int) ≤ u.toInt) ∧ (u.toInt ≤ (1 : Int))) (fun q => sz ≤ q)) 0 0 (fun q => sz ≤ q) := by
  refine Met.ofW (cc := cX7_isPaid) (maxL := 2) (ret := (some .boolean)) (by decide) rfl ?_
  intro p e s m args below meth c0 s₁ B hml hv
  obtain ⟨rfl, hsz, hP, hK⟩ := hv
  have hx := B.exec
  have hb := B.bytes
  have hr := B.returns
  have hts := atoms_spec (ws := .code yX7_isPaid cX7_isPaid 2 (some .boolean) :: GW) B.pre
  have hG : ∀ w ∈ GW, w.before _ s = true := fun w h => hts w (List.mem_cons_of_mem _ h)
  have hown : s.vm.findClass RX7 = some m.cls := findClass_of_methodNamed B.named
  subst hsz
  have hS : va_S (fun q => s.heap.size ≤ q) s.heap s.heap [] := va_S.rf
  have hP : va_P (dC, dI) vwCl (WX r ct i_tapeLength i_time i_lyingCount i_rd_fault i_rd_token i_rd_kind i_sc_count i_sc_at i_A_tunes i_A_houses i_fA_length i_B_tunes i_B_houses i_fB_length i_acts_done i_acts_undone i_kn_count f_boxes f_boxKept f_trial f_offers f_A_noteCounts f_A_notes f_B_noteCounts f_B_notes f_now_where f_now_worn f_ahead_where f_ahead_worn f_acts_rows f_kn_tunes f_kn_noteTimes J L) s.heap := hP
  have hl := lv_entry ([.ref (r 8), .int p0]) (n := 2) (Nat.le_of_ble_eq_true rfl)
  rw [lg_entry_eq]
  generalize (lg_sl ([.ref (r 8), .int p0]) ++ List.replicate (2 - (lg_sl ([.ref (r 8), .int p0])).length) Slot.unset).toArray = ls at hl ⊢
  have hl : lv_has ls 2 [(0, .ref (r 8)), (1, .int p0)] := hl
  refine nameQ (fun Q hQ => ?_)
  obtain ⟨ie0, ie1, ie2, ie3, ie4, ie5, ie6, ie7, ie8, ie9, ie10, ie11, ie12, ie13, ie14, ie15, ie16, ie17, ie18, ie19, ie20, ie21, ie22, ie23, ie24, ie25, ie26, ie27, ie28, ie29, ie30, ie31, ie32, ie33, ie34, ie35, ie36, ie37, ie38, ie39⟩ := id hI
  refine lv_aload_n hx hb dX7_isPaid_0 rfl (lv_at hl 0 rfl) ?_
  refine gX_X7_15_8 hx hb hG hown hK hP dX7_isPaid_1 ?_
  refine lv_iload_n hx hb dX7_isPaid_4 rfl (lv_at hl 1 rfl) ?_
  refine ldX_47 (mm := p0.toInt) hx hb hK hP rfl (ox_78 hp0 hp1) (ox_79 hp0 hp1) dX7_isPaid_5 (fun x1 => ?_)
  refine lv_iconst (v := 1) hx hb dX7_isPaid_6 (by decide) ?_
  refine lv_icmp_ne (tgt := 14) hx hb dX7_isPaid_7 (by decide) (fun c_2 => ?_) (fun c_2 => ?_)
  · skip
    have f3 : x1.toInt ≠ 1 := qi_ne c_2 rfl zc_1
    refine lv_iconst (v := 0) hx hb dX7_isPaid_14 (by decide) ?_
    rw [hQ]
    exact W.zret (v := 0) hx hb hr (by decide) (fun t ht hW => ⟨⟨0, 0, rfl, rfl, ⟨(ox_80 zc_0), (ox_27 zc_0), (ox_28 zc_0)⟩⟩, hS.F ht⟩) hS.2.2 dX7_isPaid_15
  · skip
    have f4 : x1.toInt = 1 := qi_eq c_2 rfl zc_1
    refine lv_iconst (v := 1) hx hb dX7_isPaid_10 (by decide) ?_
    refine lv_goto (tgt := 15) hx hb dX7_isPaid_11 (by decide) ?_
    rw [hQ]
    exact W.zret (v := 1) hx hb hr (by decide) (fun t ht hW => ⟨⟨1, 1, rfl, rfl, ⟨(ox_81 zc_1), (ox_31 zc_1), (ox_32 zc_1)⟩⟩, hS.F ht⟩) hS.2.2 dX7_isPaid_15
set_option maxHeartbeats 4000000 in
set_option maxRecDepth 100000 in
theorem kX7_onApprovalIn_v1 (l : Launch) (dC : Nat → ClassId) (dI : Nat → Nat → Nat) (r : Nat → Nat) (ct : Nat → ClassId) (i_tapeLength i_time i_lyingCount i_rd_fault i_rd_token i_rd_kind i_sc_count i_sc_at i_A_tunes i_A_houses i_fA_length i_B_tunes i_B_houses i_fB_length i_acts_done i_acts_undone i_kn_count : Int32) (f_boxes f_boxKept f_trial f_offers f_A_noteCounts f_A_notes f_B_noteCounts f_B_notes f_now_where f_now_worn f_ahead_where f_ahead_worn f_acts_rows f_kn_tunes f_kn_noteTimes : Nat → Int32) (J : Nat → Nat → Int32) (L : Nat → Nat → Int64) (p0 : Int32) (sz : Nat) (hI : (IX i_tapeLength i_time i_lyingCount i_rd_token i_sc_count i_sc_at i_A_tunes i_A_houses i_fA_length i_B_tunes i_B_houses i_fB_length i_acts_done i_acts_undone i_kn_count f_boxes f_A_noteCounts f_A_notes f_B_noteCounts f_B_notes f_now_worn f_ahead_worn f_acts_rows f_kn_tunes)) (hp0 : (0 : Int) ≤ p0.toInt) (hp1 : WB i_A_tunes f_ahead_where) : Met l yX7_onApprovalIn (.code yX7_onApprovalIn cX7_onApprovalIn 3 (some .int) :: GW) { frames := 4, cells := 0, slots := 0, locals := 161 } (va_Pc [.ref (r 8), .int p0] (pR (dC, dI) (WX r ct i_tapeLength i_time i_lyingCount i_rd_fault i_rd_token i_rd_kind i_sc_count i_sc_at i_A_tunes i_A_houses i_fA_length i_B_tunes i_B_houses i_fB_length i_acts_done i_acts_undone i_kn_count f_boxes f_boxKept f_trial f_offers f_A_noteCounts f_A_notes f_B_noteCounts f_B_notes f_now_where f_now_worn f_ahead_where f_ahead_worn f_acts_rows f_kn_tunes f_kn_noteTimes J L) (TX ct) sz)) (va_Qi (fun (r0 : Int32) (u : Int32) => r0 = u) (fun (u : Int32) (t : State) => ((0 : Int) ≤ u.toInt + 1) ∧ (u.toInt + 1 ≤ i_A_tunes.toInt) ∧ (u.toInt ≤ (4 : Int))) (fun q => sz ≤ q)) 0 0 (fun q => sz ≤ q) := by
  refine Met.ofW (cc := cX7_onApprovalIn) (maxL := 3) (ret := (some .int)) (by decide) rfl ?_
  intro p e s m args below meth c0 s₁ B hml hv
  obtain ⟨rfl, hsz, hP, hK⟩ := hv
  have hx := B.exec
  have hb := B.bytes
  have hr := B.returns
  have hts := atoms_spec (ws := .code yX7_onApprovalIn cX7_onApprovalIn 3 (some .int) :: GW) B.pre
  have hG : ∀ w ∈ GW, w.before _ s = true := fun w h => hts w (List.mem_cons_of_mem _ h)
  have hown : s.vm.findClass RX7 = some m.cls := findClass_of_methodNamed B.named
  subst hsz
  have hS : va_S (fun q => s.heap.size ≤ q) s.heap s.heap [] := va_S.rf
  have hP : va_P (dC, dI) vwCl (WX r ct i_tapeLength i_time i_lyingCount i_rd_fault i_rd_token i_rd_kind i_sc_count i_sc_at i_A_tunes i_A_houses i_fA_length i_B_tunes i_B_houses i_fB_length i_acts_done i_acts_undone i_kn_count f_boxes f_boxKept f_trial f_offers f_A_noteCounts f_A_notes f_B_noteCounts f_B_notes f_now_where f_now_worn f_ahead_where f_ahead_worn f_acts_rows f_kn_tunes f_kn_noteTimes J L) s.heap := hP
  have hl := lv_entry ([.ref (r 8), .int p0]) (n := 3) (Nat.le_of_ble_eq_true rfl)
  rw [lg_entry_eq]
  generalize (lg_sl ([.ref (r 8), .int p0]) ++ List.replicate (3 - (lg_sl ([.ref (r 8), .int p0])).length) Slot.unset).toArray = ls at hl ⊢
  have hl : lv_has ls 3 [(0, .ref (r 8)), (1, .int p0)] := hl
  refine nameQ (fun Q hQ => ?_)
  obtain ⟨ie0, ie1, ie2, ie3, ie4, ie5, ie6, ie7, ie8, ie9, ie10, ie11, ie12, ie13, ie14, ie15, ie16, ie17, ie18, ie19, ie20, ie21, ie22, ie23, ie24, ie25, ie26, ie27, ie28, ie29, ie30, ie31, ie32, ie33, ie34, ie35, ie36, ie37, ie38, ie39⟩ := id hI
  refine lv_iconst (v := 0) hx hb dX7_onApprovalIn_0 (by decide) ?_
  refine lv_istore_n (lv' := [(2, .int 0), (0, .ref (r 8)), (1, .int p0)]) hx hb dX7_onApprovalIn_1 rfl hl (by decide) rfl (fun ls hl => ?_)
  have L2 : ∀ (N2 : Nat) (y2_2 : Int32) (H2 : Heap) (locs : List Loc) (ls : Array Slot) (g2_0 : (0 : Int) ≤ y2_2.toInt) (g2_1 : y2_2.toInt ≤ (5 : Int)) (hP : va_P (dC, dI) vwCl (WX r ct i_tapeLength i_time i_lyingCount i_rd_fault i_rd_token i_rd_kind i_sc_count i_sc_at i_A_tunes i_A_houses i_fA_length i_B_tunes i_B_houses i_fB_length i_acts_done i_acts_undone i_kn_count f_boxes f_boxKept f_trial f_offers f_A_noteCounts f_A_notes f_B_noteCounts f_B_notes f_now_where f_now_worn f_ahead_where f_ahead_worn f_acts_rows f_kn_tunes f_kn_noteTimes J L) H2) (hS : va_S (fun q => s.heap.size ≤ q) s.heap H2 locs) (hl : lv_has ls 3 [(0, .ref (r 8)), (1, .int p0), (2, .int y2_2)]) (hM : -1 * y2_2.toInt + 5 < (N2 : Int)), W p l e { frames := 4, cells := 0, slots := 0, locals := 161 } s m ([.ref (r 8), .int p0] : List Value).toArray below meth c0 H2 locs 0 0 Q (F0 m 2 ls []) := by
    intro N2
    induction N2 with
    | zero =>
      intro y2_2 H2 locs ls g2_0 g2_1 hP hS hl hM
      exact ((ox_82 hM g2_0 g2_1)).elim
    | succ N2 ih2 =>
      intro y2_2 H2 locs ls g2_0 g2_1 hP hS hl hM
      have hM2 := msucc hM
      refine lv_iload_n hx hb dX7_onApprovalIn_2 rfl (lv_at hl 2 rfl) ?_
      refine lv_iconst (v := 5) hx hb dX7_onApprovalIn_3 (by decide) ?_
      refine lv_icmp_ge (tgt := 33) hx hb dX7_onApprovalIn_4 (by decide) (fun c_1 => ?_) (fun c_1 => ?_)
      · skip
        have f2 : 5 ≤ y2_2.toInt := qi_le c_1 zc_5 rfl
        refine lv_iconst (v := (-1)) hx hb dX7_onApprovalIn_33 (by decide) ?_
        rw [hQ]
        exact W.iret (v := (-1)) hx hb hr (fun t ht hW => ⟨⟨(-1), (-1), rfl, rfl, ⟨(ox_83 zc_m1), (ox_84 ie12 ie13 zc_m1), (ox_85 zc_m1)⟩⟩, hS.F ht⟩) hS.2.2 dX7_onApprovalIn_34
      · skip
        have f3 : y2_2.toInt < 5 := qi_nle c_1 zc_5 rfl
        refine lv_aload_n hx hb dX7_onApprovalIn_7 rfl (lv_at hl 0 rfl) ?_
        refine gX_X7_9_8 hx hb hG hown hK hP dX7_onApprovalIn_8 ?_
        refine lv_iload_n hx hb dX7_onApprovalIn_11 rfl (lv_at hl 2 rfl) ?_
        refine ldX_46 (mm := y2_2.toInt) hx hb hK hP rfl (ox_9 g2_0) (ox_86 f3) dX7_onApprovalIn_12 ?_
        have f4 : i_A_tunes.toInt ≤ y2_2.toInt → y2_2.toInt < 5 → (f_ahead_where (y2_2.toInt).toNat).toInt = -1 := hp1 (y2_2.toInt)
        refine lv_iload_n hx hb dX7_onApprovalIn_13 rfl (lv_at hl 1 rfl) ?_
        refine lv_icmp_ne (tgt := 27) hx hb dX7_onApprovalIn_14 (by decide) (fun c_5 => ?_) (fun c_5 => ?_)
        · skip
          have f6 : (f_ahead_where (y2_2.toInt).toNat).toInt ≠ p0.toInt := qi_ne c_5 rfl rfl
          obtain ⟨x7, ex7⟩ : ∃ y : Int32, y = y2_2 + Int32.ofInt 1 := ⟨_, rfl⟩
          have f8 : x7.toInt = y2_2.toInt + 1 := (ox_13 (qi_add ex7 rfl (by decide) (ox_11 g2_0) (ox_87 g2_1)))
          refine lv_iinc (v := x7) (lv' := [(2, .int x7), (0, .ref (r 8)), (1, .int p0)]) hx hb dX7_onApprovalIn_27 hl (k := 2) rfl ex7.symm (by decide) rfl (fun ls hl => ?_)
          refine lv_goto (tgt := 2) hx hb dX7_onApprovalIn_30 (by decide) ?_
          exact ih2 x7 H2 _ _ (ox_14 g2_0 f8) (ox_88 f3 f8) hP hS (lv_sub hl [1, 2, 0] rfl) (ox_89 hM2 f8)
        · skip
          have f9 : (f_ahead_where (y2_2.toInt).toNat).toInt = p0.toInt := qi_eq c_5 rfl rfl
          refine lv_aload_n hx hb dX7_onApprovalIn_17 rfl (lv_at hl 0 rfl) ?_
          refine lv_iload_n hx hb dX7_onApprovalIn_18 rfl (lv_at hl 2 rfl) ?_
          refine va_calli (va_runV (As := [.int y2_2]) (rest := []) ⟨hx, hb, hml, hown, hG⟩ (kX7_isPaid_v1 l dC dI r ct i_tapeLength i_time i_lyingCount i_rd_fault i_rd_token i_rd_kind i_sc_count i_sc_at i_A_tunes i_A_houses i_fA_length i_B_tunes i_B_houses i_fB_length i_acts_done i_acts_undone i_kn_count f_boxes f_boxKept f_trial f_offers f_A_noteCounts f_A_notes f_B_noteCounts f_B_notes f_now_where f_now_worn f_ahead_where f_ahead_worn f_acts_rows f_kn_tunes f_kn_noteTimes J L y2_2 H2.size hI (ox_6 g2_0) (ox_90 f3)) (cwV 1 hG (goodV gw724 gw725 gw726 gw134 gw727) rfl rfl rfl hd_X7_isPaid ⟨(Nat.le_of_ble_eq_true rfl), (Nat.le_of_ble_eq_true rfl)⟩) ⟨fbR, va_recv hK hP (ci := 6) (q0 := 8) rfl rfl, pR_in hP hK⟩ rfl rfl hl.1 rfl (lv_room (Nat.le_of_ble_eq_true rfl)) dX7_onApprovalIn_19 ⟨(Nat.le_of_ble_eq_true rfl), (Nat.le_of_ble_eq_true rfl)⟩) hS (fun q hq h => absurd hq (Nat.not_lt.mpr h)) (fun q h => Nat.le_trans hS.1 h) (fun r_11 u_ t_ H10 locs ht hvm hw hB hz1 hk1 hS => ?_)
          subst hw
          have hP := wk hP hk1
          obtain ⟨f12, f13, f14⟩ := hB
          refine lv_if_ne (tgt := 27) hx hb dX7_onApprovalIn_22 (by decide) (fun c_15 => ?_) (fun c_15 => ?_)
          · skip
            have f16 : r_11.toInt ≠ 0 := qi_ne c_15 rfl zc_0
            have f17 : r_11.toInt = (1 : Int) := (ox_91 f12 f16)
            have f18 : (1 : Int) ≤ r_11.toInt := (ox_53 f13 f14 f17)
            obtain ⟨x19, ex19⟩ : ∃ y : Int32, y = y2_2 + Int32.ofInt 1 := ⟨_, rfl⟩
            have f20 : x19.toInt = y2_2.toInt + 1 := (ox_13 (qi_add ex19 rfl (by decide) (ox_11 g2_0) (ox_87 g2_1)))
            refine lv_iinc (v := x19) (lv' := [(2, .int x19), (0, .ref (r 8)), (1, .int p0)]) hx hb dX7_onApprovalIn_27 hl (k := 2) rfl ex19.symm (by decide) rfl (fun ls hl => ?_)
            refine lv_goto (tgt := 2) hx hb dX7_onApprovalIn_30 (by decide) ?_
            exact ih2 x19 H10 _ _ (ox_14 g2_0 f20) (ox_88 f3 f20) hP hS (lv_sub hl [1, 2, 0] rfl) (ox_89 hM2 f20)
          · skip
            have f21 : r_11.toInt = 0 := qi_eq c_15 rfl zc_0
            have f22 : r_11.toInt = (0 : Int) := (ox_92 f13 f14 f21)
            refine lv_iload_n hx hb dX7_onApprovalIn_25 rfl (lv_at hl 2 rfl) ?_
            rw [hQ]
            exact W.iret (v := y2_2) hx hb hr (fun t ht hW => ⟨⟨y2_2, y2_2, rfl, rfl, ⟨(ox_93 g2_0), (ox_94 hp0 f3 f4 f9), (ox_90 f3)⟩⟩, hS.F ht⟩) hS.2.2 dX7_onApprovalIn_26
  exact L2 (-1 * (0 : Int32).toInt + 5 + 1).toNat 0 s.heap _ _ (ox_27 zc_0) (ox_95 zc_0) hP hS (lv_sub hl [1, 2, 0] rfl) (mlt (ox_96 zc_0))
set_option maxHeartbeats 4000000 in
set_option maxRecDepth 100000 in
theorem kX7_backOnCart_v1 (l : Launch) (dC : Nat → ClassId) (dI : Nat → Nat → Nat) (r : Nat → Nat) (ct : Nat → ClassId) (i_tapeLength i_time i_lyingCount i_rd_fault i_rd_token i_rd_kind i_sc_count i_sc_at i_A_tunes i_A_houses i_fA_length i_B_tunes i_B_houses i_fB_length i_acts_done i_acts_undone i_kn_count : Int32) (f_boxes f_boxKept f_trial f_offers f_A_noteCounts f_A_notes f_B_noteCounts f_B_notes f_now_where f_now_worn f_ahead_where f_ahead_worn f_acts_rows f_kn_tunes f_kn_noteTimes : Nat → Int32) (J : Nat → Nat → Int32) (L : Nat → Nat → Int64) (p0 : Int32) (sz : Nat) (hI : (IX i_tapeLength i_time i_lyingCount i_rd_token i_sc_count i_sc_at i_A_tunes i_A_houses i_fA_length i_B_tunes i_B_houses i_fB_length i_acts_done i_acts_undone i_kn_count f_boxes f_A_noteCounts f_A_notes f_B_noteCounts f_B_notes f_now_worn f_ahead_worn f_acts_rows f_kn_tunes)) (hp0 : (0 : Int) ≤ p0.toInt) (hp1 : p0.toInt ≤ (4 : Int)) : Met l yX7_backOnCart (.code yX7_backOnCart cX7_backOnCart 2 none :: GW) { frames := 2, cells := 0, slots := 0, locals := 100 } (va_Pc [.ref (r 8), .int p0] (pW (dC, dI) (WX r ct i_tapeLength i_time i_lyingCount i_rd_fault i_rd_token i_rd_kind i_sc_count i_sc_at i_A_tunes i_A_houses i_fA_length i_B_tunes i_B_houses i_fB_length i_acts_done i_acts_undone i_kn_count f_boxes f_boxKept f_trial f_offers f_A_noteCounts f_A_notes f_B_noteCounts f_B_notes f_now_where f_now_worn f_ahead_where f_ahead_worn f_acts_rows f_kn_tunes f_kn_noteTimes J L) (TX ct) sz)) (va_Qv (fun _ : Unit => True) (fun (_ : Unit) (t : State) => ∃ (n_f_ahead_where : Nat → Int32) (n_J : Nat → Nat → Int32), va_P (dC, dI) vwCl (WX r ct i_tapeLength i_time i_lyingCount i_rd_fault i_rd_token i_rd_kind i_sc_count i_sc_at i_A_tunes i_A_houses i_fA_length i_B_tunes i_B_houses i_fB_length i_acts_done i_acts_undone i_kn_count f_boxes f_boxKept f_trial f_offers f_A_noteCounts f_A_notes f_B_noteCounts f_B_notes f_now_where f_now_worn n_f_ahead_where f_ahead_worn f_acts_rows f_kn_tunes f_kn_noteTimes n_J L) t.heap ∧ va_D (va_A (WX r ct i_tapeLength i_time i_lyingCount i_rd_fault i_rd_token i_rd_kind i_sc_count i_sc_at i_A_tunes i_A_houses i_fA_length i_B_tunes i_B_houses i_fB_length i_acts_done i_acts_undone i_kn_count f_boxes f_boxKept f_trial f_offers f_A_noteCounts f_A_notes f_B_noteCounts f_B_notes f_now_where f_now_worn f_ahead_where f_ahead_worn f_acts_rows f_kn_tunes f_kn_noteTimes J L) sz) (WX r ct i_tapeLength i_time i_lyingCount i_rd_fault i_rd_token i_rd_kind i_sc_count i_sc_at i_A_tunes i_A_houses i_fA_length i_B_tunes i_B_houses i_fB_length i_acts_done i_acts_undone i_kn_count f_boxes f_boxKept f_trial f_offers f_A_noteCounts f_A_notes f_B_noteCounts f_B_notes f_now_where f_now_worn n_f_ahead_where f_ahead_worn f_acts_rows f_kn_tunes f_kn_noteTimes n_J L) ∧ (IX i_tapeLength i_time i_lyingCount i_rd_token i_sc_count i_sc_at i_A_tunes i_A_houses i_fA_length i_B_tunes i_B_houses i_fB_length i_acts_done i_acts_undone i_kn_count f_boxes f_A_noteCounts f_A_notes f_B_noteCounts f_B_notes f_now_worn f_ahead_worn f_acts_rows f_kn_tunes) ∧ (n_f_ahead_where = upd f_ahead_where (p0.toInt).toNat (-1))) (va_A (WX r ct i_tapeLength i_time i_lyingCount i_rd_fault i_rd_token i_rd_kind i_sc_count i_sc_at i_A_tunes i_A_houses i_fA_length i_B_tunes i_B_houses i_fB_length i_acts_done i_acts_undone i_kn_count f_boxes f_boxKept f_trial f_offers f_A_noteCounts f_A_notes f_B_noteCounts f_B_notes f_now_where f_now_worn f_ahead_where f_ahead_worn f_acts_rows f_kn_tunes f_kn_noteTimes J L) sz)) 0 0 (va_A (WX r ct i_tapeLength i_time i_lyingCount i_rd_fault i_rd_token i_rd_kind i_sc_count i_sc_at i_A_tunes i_A_houses i_fA_length i_B_tunes i_B_houses i_fB_length i_acts_done i_acts_undone i_kn_count f_boxes f_boxKept f_trial f_offers f_A_noteCounts f_A_notes f_B_noteCounts f_B_notes f_now_where f_now_worn f_ahead_where f_ahead_worn f_acts_rows f_kn_tunes f_kn_noteTimes J L) sz) := by
  refine Met.ofW (cc := cX7_backOnCart) (maxL := 2) (ret := none) (by decide) rfl ?_
  intro p e s m args below meth c0 s₁ B hml hv
  obtain ⟨rfl, hsz, hP, hK, hD0⟩ := hv
  have hx := B.exec
  have hb := B.bytes
  have hr := B.returns
  have hts := atoms_spec (ws := .code yX7_backOnCart cX7_backOnCart 2 none :: GW) B.pre
  have hG : ∀ w ∈ GW, w.before _ s = true := fun w h => hts w (List.mem_cons_of_mem _ h)
  have hown : s.vm.findClass RX7 = some m.cls := findClass_of_methodNamed B.named
  subst hsz
  have hD := hD0.self (sz := s.heap.size)
  generalize hAe : va_A (WX r ct i_tapeLength i_time i_lyingCount i_rd_fault i_rd_token i_rd_kind i_sc_count i_sc_at i_A_tunes i_A_houses i_fA_length i_B_tunes i_B_houses i_fB_length i_acts_done i_acts_undone i_kn_count f_boxes f_boxKept f_trial f_offers f_A_noteCounts f_A_notes f_B_noteCounts f_B_notes f_now_where f_now_worn f_ahead_where f_ahead_worn f_acts_rows f_kn_tunes f_kn_noteTimes J L) s.heap.size = A at hD ⊢
  have hA : ∀ q : Nat, s.heap.size ≤ q → A q := fun q h => by rw [← hAe]; exact Or.inr h
  have hS : va_S A s.heap s.heap [] := va_S.rf
  have hP : va_P (dC, dI) vwCl (WX r ct i_tapeLength i_time i_lyingCount i_rd_fault i_rd_token i_rd_kind i_sc_count i_sc_at i_A_tunes i_A_houses i_fA_length i_B_tunes i_B_houses i_fB_length i_acts_done i_acts_undone i_kn_count f_boxes f_boxKept f_trial f_offers f_A_noteCounts f_A_notes f_B_noteCounts f_B_notes f_now_where f_now_worn f_ahead_where f_ahead_worn f_acts_rows f_kn_tunes f_kn_noteTimes J L) s.heap := hP
  have hl := lv_entry ([.ref (r 8), .int p0]) (n := 2) (Nat.le_of_ble_eq_true rfl)
  rw [lg_entry_eq]
  generalize (lg_sl ([.ref (r 8), .int p0]) ++ List.replicate (2 - (lg_sl ([.ref (r 8), .int p0])).length) Slot.unset).toArray = ls at hl ⊢
  have hl : lv_has ls 2 [(0, .ref (r 8)), (1, .int p0)] := hl
  refine nameQ (fun Q hQ => ?_)
  obtain ⟨ie0, ie1, ie2, ie3, ie4, ie5, ie6, ie7, ie8, ie9, ie10, ie11, ie12, ie13, ie14, ie15, ie16, ie17, ie18, ie19, ie20, ie21, ie22, ie23, ie24, ie25, ie26, ie27, ie28, ie29, ie30, ie31, ie32, ie33, ie34, ie35, ie36, ie37, ie38, ie39⟩ := id hI
  refine lv_aload_n hx hb dX7_backOnCart_0 rfl (lv_at hl 0 rfl) ?_
  refine gX_X7_9_8 hx hb hG hown hK hP dX7_backOnCart_1 ?_
  refine lv_iload_n hx hb dX7_backOnCart_4 rfl (lv_at hl 1 rfl) ?_
  refine lv_iconst (v := (-1)) hx hb dX7_backOnCart_5 (by decide) ?_
  refine stX_46 (mm := p0.toInt) hx hb hK hP hD hS rfl (ox_78 hp0 hp1) (ox_79 hp0 hp1) dX7_backOnCart_6 (fun z2 H1 locs ez2 hP hD hS => ?_)
  refine lv_aload_n hx hb dX7_backOnCart_7 rfl (lv_at hl 0 rfl) ?_
  refine gX_X7_15_8 hx hb hG hown hK hP dX7_backOnCart_8 ?_
  refine lv_iload_n hx hb dX7_backOnCart_11 rfl (lv_at hl 1 rfl) ?_
  refine lv_iconst (v := 0) hx hb dX7_backOnCart_12 (by decide) ?_
  refine stX_47 (mm := p0.toInt) hx hb hK hP hD hS rfl (ox_78 hp0 hp1) (ox_79 hp0 hp1) dX7_backOnCart_13 (fun J4 H3 locs hP hD hS => ?_)
  refine lv_aload_n hx hb dX7_backOnCart_14 rfl (lv_at hl 0 rfl) ?_
  refine gX_X7_21_8 hx hb hG hown hK hP dX7_backOnCart_15 ?_
  refine lv_iload_n hx hb dX7_backOnCart_18 rfl (lv_at hl 1 rfl) ?_
  refine lv_iconst (v := 0) hx hb dX7_backOnCart_19 (by decide) ?_
  refine stX_49 (mm := p0.toInt) hx hb hK hP hD hS rfl (ox_78 hp0 hp1) (ox_79 hp0 hp1) dX7_backOnCart_20 (fun J6 H5 locs hP hD hS => ?_)
  rw [hQ]
  exact W.vret hx hb hr (fun t ht hW => ⟨⟨(), rfl, trivial, ⟨z2, J6, by rw [ht]; exact hP, hD, hI, ez2⟩⟩, hS.F ht⟩) hS.2.2 dX7_backOnCart_21
set_option maxHeartbeats 4000000 in
set_option maxRecDepth 100000 in
theorem kX7_pay_v1 (l : Launch) (dC : Nat → ClassId) (dI : Nat → Nat → Nat) (r : Nat → Nat) (ct : Nat → ClassId) (i_tapeLength i_time i_lyingCount i_rd_fault i_rd_token i_rd_kind i_sc_count i_sc_at i_A_tunes i_A_houses i_fA_length i_B_tunes i_B_houses i_fB_length i_acts_done i_acts_undone i_kn_count : Int32) (f_boxes f_boxKept f_trial f_offers f_A_noteCounts f_A_notes f_B_noteCounts f_B_notes f_now_where f_now_worn f_ahead_where f_ahead_worn f_acts_rows f_kn_tunes f_kn_noteTimes : Nat → Int32) (J : Nat → Nat → Int32) (L : Nat → Nat → Int64) (p0 : Int32) (sz : Nat) (hI : (IX i_tapeLength i_time i_lyingCount i_rd_token i_sc_count i_sc_at i_A_tunes i_A_houses i_fA_length i_B_tunes i_B_houses i_fB_length i_acts_done i_acts_undone i_kn_count f_boxes f_A_noteCounts f_A_notes f_B_noteCounts f_B_notes f_now_worn f_ahead_worn f_acts_rows f_kn_tunes)) (hp0 : (0 : Int) ≤ p0.toInt) (hp1 : p0.toInt ≤ (4 : Int)) : Met l yX7_pay (.code yX7_pay cX7_pay 2 none :: GW) { frames := 2, cells := 0, slots := 0, locals := 100 } (va_Pc [.ref (r 8), .int p0] (pW (dC, dI) (WX r ct i_tapeLength i_time i_lyingCount i_rd_fault i_rd_token i_rd_kind i_sc_count i_sc_at i_A_tunes i_A_houses i_fA_length i_B_tunes i_B_houses i_fB_length i_acts_done i_acts_undone i_kn_count f_boxes f_boxKept f_trial f_offers f_A_noteCounts f_A_notes f_B_noteCounts f_B_notes f_now_where f_now_worn f_ahead_where f_ahead_worn f_acts_rows f_kn_tunes f_kn_noteTimes J L) (TX ct) sz)) (va_Qv (fun _ : Unit => True) (fun (_ : Unit) (t : State) => ∃ (n_J : Nat → Nat → Int32), va_P (dC, dI) vwCl (WX r ct i_tapeLength i_time i_lyingCount i_rd_fault i_rd_token i_rd_kind i_sc_count i_sc_at i_A_tunes i_A_houses i_fA_length i_B_tunes i_B_houses i_fB_length i_acts_done i_acts_undone i_kn_count f_boxes f_boxKept f_trial f_offers f_A_noteCounts f_A_notes f_B_noteCounts f_B_notes f_now_where f_now_worn f_ahead_where f_ahead_worn f_acts_rows f_kn_tunes f_kn_noteTimes n_J L) t.heap ∧ va_D (va_A (WX r ct i_tapeLength i_time i_lyingCount i_rd_fault i_rd_token i_rd_kind i_sc_count i_sc_at i_A_tunes i_A_houses i_fA_length i_B_tunes i_B_houses i_fB_length i_acts_done i_acts_undone i_kn_count f_boxes f_boxKept f_trial f_offers f_A_noteCounts f_A_notes f_B_noteCounts f_B_notes f_now_where f_now_worn f_ahead_where f_ahead_worn f_acts_rows f_kn_tunes f_kn_noteTimes J L) sz) (WX r ct i_tapeLength i_time i_lyingCount i_rd_fault i_rd_token i_rd_kind i_sc_count i_sc_at i_A_tunes i_A_houses i_fA_length i_B_tunes i_B_houses i_fB_length i_acts_done i_acts_undone i_kn_count f_boxes f_boxKept f_trial f_offers f_A_noteCounts f_A_notes f_B_noteCounts f_B_notes f_now_where f_now_worn f_ahead_where f_ahead_worn f_acts_rows f_kn_tunes f_kn_noteTimes n_J L) ∧ (IX i_tapeLength i_time i_lyingCount i_rd_token i_sc_count i_sc_at i_A_tunes i_A_houses i_fA_length i_B_tunes i_B_houses i_fB_length i_acts_done i_acts_undone i_kn_count f_boxes f_A_noteCounts f_A_notes f_B_noteCounts f_B_notes f_now_worn f_ahead_worn f_acts_rows f_kn_tunes)) (va_A (WX r ct i_tapeLength i_time i_lyingCount i_rd_fault i_rd_token i_rd_kind i_sc_count i_sc_at i_A_tunes i_A_houses i_fA_length i_B_tunes i_B_houses i_fB_length i_acts_done i_acts_undone i_kn_count f_boxes f_boxKept f_trial f_offers f_A_noteCounts f_A_notes f_B_noteCounts f_B_notes f_now_where f_now_worn f_ahead_where f_ahead_worn f_acts_rows f_kn_tunes f_kn_noteTimes J L) sz)) 0 0 (va_A (WX r ct i_tapeLength i_time i_lyingCount i_rd_fault i_rd_token i_rd_kind i_sc_count i_sc_at i_A_tunes i_A_houses i_fA_length i_B_tunes i_B_houses i_fB_length i_acts_done i_acts_undone i_kn_count f_boxes f_boxKept f_trial f_offers f_A_noteCounts f_A_notes f_B_noteCounts f_B_notes f_now_where f_now_worn f_ahead_where f_ahead_worn f_acts_rows f_kn_tunes f_kn_noteTimes J L) sz) := by
  refine Met.ofW (cc := cX7_pay) (maxL := 2) (ret := none) (by decide) rfl ?_
  intro p e s m args below meth c0 s₁ B hml hv
  obtain ⟨rfl, hsz, hP, hK, hD0⟩ := hv
  have hx := B.exec
  have hb := B.bytes
  have hr := B.returns
  have hts := atoms_spec (ws := .code yX7_pay cX7_pay 2 none :: GW) B.pre
  have hG : ∀ w ∈ GW, w.before _ s = true := fun w h => hts w (List.mem_cons_of_mem _ h)
  have hown : s.vm.findClass RX7 = some m.cls := findClass_of_methodNamed B.named
  subst hsz
  have hD := hD0.self (sz := s.heap.size)
  generalize hAe : va_A (WX r ct i_tapeLength i_time i_lyingCount i_rd_fault i_rd_token i_rd_kind i_sc_count i_sc_at i_A_tunes i_A_houses i_fA_length i_B_tunes i_B_houses i_fB_length i_acts_done i_acts_undone i_kn_count f_boxes f_boxKept f_trial f_offers f_A_noteCounts f_A_notes f_B_noteCounts f_B_notes f_now_where f_now_worn f_ahead_where f_ahead_worn f_acts_rows f_kn_tunes f_kn_noteTimes J L) s.heap.size = A at hD ⊢
  have hA : ∀ q : Nat, s.heap.size ≤ q → A q := fun q h => by rw [← hAe]; exact Or.inr h
  have hS : va_S A s.heap s.heap [] := va_S.rf
  have hP : va_P (dC, dI) vwCl (WX r ct i_tapeLength i_time i_lyingCount i_rd_fault i_rd_token i_rd_kind i_sc_count i_sc_at i_A_tunes i_A_houses i_fA_length i_B_tunes i_B_houses i_fB_length i_acts_done i_acts_undone i_kn_count f_boxes f_boxKept f_trial f_offers f_A_noteCounts f_A_notes f_B_noteCounts f_B_notes f_now_where f_now_worn f_ahead_where f_ahead_worn f_acts_rows f_kn_tunes f_kn_noteTimes J L) s.heap := hP
  have hl := lv_entry ([.ref (r 8), .int p0]) (n := 2) (Nat.le_of_ble_eq_true rfl)
  rw [lg_entry_eq]
  generalize (lg_sl ([.ref (r 8), .int p0]) ++ List.replicate (2 - (lg_sl ([.ref (r 8), .int p0])).length) Slot.unset).toArray = ls at hl ⊢
  have hl : lv_has ls 2 [(0, .ref (r 8)), (1, .int p0)] := hl
  refine nameQ (fun Q hQ => ?_)
  obtain ⟨ie0, ie1, ie2, ie3, ie4, ie5, ie6, ie7, ie8, ie9, ie10, ie11, ie12, ie13, ie14, ie15, ie16, ie17, ie18, ie19, ie20, ie21, ie22, ie23, ie24, ie25, ie26, ie27, ie28, ie29, ie30, ie31, ie32, ie33, ie34, ie35, ie36, ie37, ie38, ie39⟩ := id hI
  refine lv_aload_n hx hb dX7_pay_0 rfl (lv_at hl 0 rfl) ?_
  refine gX_X7_15_8 hx hb hG hown hK hP dX7_pay_1 ?_
  refine lv_iload_n hx hb dX7_pay_4 rfl (lv_at hl 1 rfl) ?_
  refine lv_iconst (v := 1) hx hb dX7_pay_5 (by decide) ?_
  refine stX_47 (mm := p0.toInt) hx hb hK hP hD hS rfl (ox_78 hp0 hp1) (ox_79 hp0 hp1) dX7_pay_6 (fun J2 H1 locs hP hD hS => ?_)
  refine lv_aload_n hx hb dX7_pay_7 rfl (lv_at hl 0 rfl) ?_
  refine gX_X7_21_8 hx hb hG hown hK hP dX7_pay_8 ?_
  refine lv_iload_n hx hb dX7_pay_11 rfl (lv_at hl 1 rfl) ?_
  refine lv_iconst (v := 0) hx hb dX7_pay_12 (by decide) ?_
  refine stX_49 (mm := p0.toInt) hx hb hK hP hD hS rfl (ox_78 hp0 hp1) (ox_79 hp0 hp1) dX7_pay_13 (fun J4 H3 locs hP hD hS => ?_)
  rw [hQ]
  exact W.vret hx hb hr (fun t ht hW => ⟨⟨(), rfl, trivial, ⟨J4, by rw [ht]; exact hP, hD, hI⟩⟩, hS.F ht⟩) hS.2.2 dX7_pay_14
set_option maxHeartbeats 4000000 in
set_option maxRecDepth 100000 in
theorem kX8_passWeekIn_v1 (l : Launch) (dC : Nat → ClassId) (dI : Nat → Nat → Nat) (r : Nat → Nat) (ct : Nat → ClassId) (i_tapeLength i_time i_lyingCount i_rd_fault i_rd_token i_rd_kind i_sc_count i_sc_at i_A_tunes i_A_houses i_fA_length i_B_tunes i_B_houses i_fB_length i_acts_done i_acts_undone i_kn_count : Int32) (f_boxes f_boxKept f_trial f_offers f_A_noteCounts f_A_notes f_B_noteCounts f_B_notes f_now_where f_now_worn f_ahead_where f_ahead_worn f_acts_rows f_kn_tunes f_kn_noteTimes : Nat → Int32) (J : Nat → Nat → Int32) (L : Nat → Nat → Int64) (p1 p2 p3 : Int32) (sz : Nat) (hI : (IX i_tapeLength i_time i_lyingCount i_rd_token i_sc_count i_sc_at i_A_tunes i_A_houses i_fA_length i_B_tunes i_B_houses i_fB_length i_acts_done i_acts_undone i_kn_count f_boxes f_A_noteCounts f_A_notes f_B_noteCounts f_B_notes f_now_worn f_ahead_worn f_acts_rows f_kn_tunes)) (hp0 : (0 : Int) ≤ p1.toInt) (hp1 : p1.toInt + 1 ≤ i_A_houses.toInt) (hp2 : (0 : Int) ≤ p2.toInt) (hp3 : p2.toInt + 1 ≤ i_A_tunes.toInt) (hp4 : WB i_A_tunes f_ahead_where) : Met l yX8_passWeekIn (.code yX8_passWeekIn cX8_passWeekIn 9 (some .boolean) :: GW) { frames := 10, cells := 0, slots := 0, locals := 364 } (va_Pc [.ref (r 0), .ref (r 8), .int p1, .int p2, .int p3] (pW (dC, dI) (WX r ct i_tapeLength i_time i_lyingCount i_rd_fault i_rd_token i_rd_kind i_sc_count i_sc_at i_A_tunes i_A_houses i_fA_length i_B_tunes i_B_houses i_fB_length i_acts_done i_acts_undone i_kn_count f_boxes f_boxKept f_trial f_offers f_A_noteCounts f_A_notes f_B_noteCounts f_B_notes f_now_where f_now_worn f_ahead_where f_ahead_worn f_acts_rows f_kn_tunes f_kn_noteTimes J L) (TX ct) sz)) (va_Qi (fun (r0 : Int32) (u : Int32) => r0 = u) (fun (u : Int32) (t : State) => ∃ (n_f_ahead_where n_f_ahead_worn : Nat → Int32) (n_J : Nat → Nat → Int32), va_P (dC, dI) vwCl (WX r ct i_tapeLength i_time i_lyingCount i_rd_fault i_rd_token i_rd_kind i_sc_count i_sc_at i_A_tunes i_A_houses i_fA_length i_B_tunes i_B_houses i_fB_length i_acts_done i_acts_undone i_kn_count f_boxes f_boxKept f_trial f_offers f_A_noteCounts f_A_notes f_B_noteCounts f_B_notes f_now_where f_now_worn n_f_ahead_where n_f_ahead_worn f_acts_rows f_kn_tunes f_kn_noteTimes n_J L) t.heap ∧ va_D (va_A (WX r ct i_tapeLength i_time i_lyingCount i_rd_fault i_rd_token i_rd_kind i_sc_count i_sc_at i_A_tunes i_A_houses i_fA_length i_B_tunes i_B_houses i_fB_length i_acts_done i_acts_undone i_kn_count f_boxes f_boxKept f_trial f_offers f_A_noteCounts f_A_notes f_B_noteCounts f_B_notes f_now_where f_now_worn f_ahead_where f_ahead_worn f_acts_rows f_kn_tunes f_kn_noteTimes J L) sz) (WX r ct i_tapeLength i_time i_lyingCount i_rd_fault i_rd_token i_rd_kind i_sc_count i_sc_at i_A_tunes i_A_houses i_fA_length i_B_tunes i_B_houses i_fB_length i_acts_done i_acts_undone i_kn_count f_boxes f_boxKept f_trial f_offers f_A_noteCounts f_A_notes f_B_noteCounts f_B_notes f_now_where f_now_worn n_f_ahead_where n_f_ahead_worn f_acts_rows f_kn_tunes f_kn_noteTimes n_J L) ∧ (IX i_tapeLength i_time i_lyingCount i_rd_token i_sc_count i_sc_at i_A_tunes i_A_houses i_fA_length i_B_tunes i_B_houses i_fB_length i_acts_done i_acts_undone i_kn_count f_boxes f_A_noteCounts f_A_notes f_B_noteCounts f_B_notes f_now_worn n_f_ahead_worn f_acts_rows f_kn_tunes) ∧ (((u.toInt = (0 : Int))) ∨ ((u.toInt = (1 : Int)))) ∧ ((0 : Int) ≤ u.toInt) ∧ (u.toInt ≤ (1 : Int)) ∧ (WB i_A_tunes n_f_ahead_where)) (va_A (WX r ct i_tapeLength i_time i_lyingCount i_rd_fault i_rd_token i_rd_kind i_sc_count i_sc_at i_A_tunes i_A_houses i_fA_length i_B_tunes i_B_houses i_fB_length i_acts_done i_acts_undone i_kn_count f_boxes f_boxKept f_trial f_offers f_A_noteCounts f_A_notes f_B_noteCounts f_B_notes f_now_where f_now_worn f_ahead_where f_ahead_worn f_acts_rows f_kn_tunes f_kn_noteTimes J L) sz)) 0 0 (va_A (WX r ct i_tapeLength i_time i_lyingCount i_rd_fault i_rd_token i_rd_kind i_sc_count i_sc_at i_A_tunes i_A_houses i_fA_length i_B_tunes i_B_houses i_fB_length i_acts_done i_acts_undone i_kn_count f_boxes f_boxKept f_trial f_offers f_A_noteCounts f_A_notes f_B_noteCounts f_B_notes f_now_where f_now_worn f_ahead_where f_ahead_worn f_acts_rows f_kn_tunes f_kn_noteTimes J L) sz) := by
  refine Met.ofW (cc := cX8_passWeekIn) (maxL := 9) (ret := (some .boolean)) (by decide) rfl ?_
  intro p e s m args below meth c0 s₁ B hml hv
  obtain ⟨rfl, hsz, hP, hK, hD0⟩ := hv
  have hx := B.exec
  have hb := B.bytes
  have hr := B.returns
  have hts := atoms_spec (ws := .code yX8_passWeekIn cX8_passWeekIn 9 (some .boolean) :: GW) B.pre
  have hG : ∀ w ∈ GW, w.before _ s = true := fun w h => hts w (List.mem_cons_of_mem _ h)
  have hown : s.vm.findClass RX8 = some m.cls := findClass_of_methodNamed B.named
  subst hsz
  have hD := hD0.self (sz := s.heap.size)
  generalize hAe : va_A (WX r ct i_tapeLength i_time i_lyingCount i_rd_fault i_rd_token i_rd_kind i_sc_count i_sc_at i_A_tunes i_A_houses i_fA_length i_B_tunes i_B_houses i_fB_length i_acts_done i_acts_undone i_kn_count f_boxes f_boxKept f_trial f_offers f_A_noteCounts f_A_notes f_B_noteCounts f_B_notes f_now_where f_now_worn f_ahead_where f_ahead_worn f_acts_rows f_kn_tunes f_kn_noteTimes J L) s.heap.size = A at hD ⊢
  have hA : ∀ q : Nat, s.heap.size ≤ q → A q := fun q h => by rw [← hAe]; exact Or.inr h
  have hS : va_S A s.heap s.heap [] := va_S.rf
  have hP : va_P (dC, dI) vwCl (WX r ct i_tapeLength i_time i_lyingCount i_rd_fault i_rd_token i_rd_kind i_sc_count i_sc_at i_A_tunes i_A_houses i_fA_length i_B_tunes i_B_houses i_fB_length i_acts_done i_acts_undone i_kn_count f_boxes f_boxKept f_trial f_offers f_A_noteCounts f_A_notes f_B_noteCounts f_B_notes f_now_where f_now_worn f_ahead_where f_ahead_worn f_acts_rows f_kn_tunes f_kn_noteTimes J L) s.heap := hP
  have hl := lv_entry ([.ref (r 0), .ref (r 8), .int p1, .int p2, .int p3]) (n := 9) (Nat.le_of_ble_eq_true rfl)
  rw [lg_entry_eq]
  generalize (lg_sl ([.ref (r 0), .ref (r 8), .int p1, .int p2, .int p3]) ++ List.replicate (9 - (lg_sl ([.ref (r 0), .ref (r 8), .int p1, .int p2, .int p3])).length) Slot.unset).toArray = ls at hl ⊢
  have hl : lv_has ls 9 [(0, .ref (r 0)), (1, .ref (r 8)), (2, .int p1), (3, .int p2), (4, .int p3)] := hl
  refine nameQ (fun Q hQ => ?_)
  obtain ⟨ie0, ie1, ie2, ie3, ie4, ie5, ie6, ie7, ie8, ie9, ie10, ie11, ie12, ie13, ie14, ie15, ie16, ie17, ie18, ie19, ie20, ie21, ie22, ie23, ie24, ie25, ie26, ie27, ie28, ie29, ie30, ie31, ie32, ie33, ie34, ie35, ie36, ie37, ie38, ie39⟩ := id hI
  refine lv_aload_n hx hb dX8_passWeekIn_0 rfl (lv_at hl 1 rfl) ?_
  refine gX_X8_131_8 hx hb hG hown hK hP dX8_passWeekIn_1 ?_
  refine lv_iload_n hx hb dX8_passWeekIn_4 rfl (lv_at hl 3 rfl) ?_
  refine lv_dup2_11 hx hb dX8_passWeekIn_5 rfl rfl ?_
  refine ldX_49 (mm := p2.toInt) hx hb hK hP rfl (ox_33 hp2 hp3) (ox_34 ie13 hp3) dX8_passWeekIn_6 (fun x1 => ?_)
  refine lv_iconst (v := 1) hx hb dX8_passWeekIn_7 (by decide) ?_
  refine lv_iadd hx hb dX8_passWeekIn_8 ?_
  refine lv_topi (fun x2 ex2 => ?_)
  refine stX_49 (mm := p2.toInt) hx hb hK hP hD hS rfl (ox_33 hp2 hp3) (ox_34 ie13 hp3) dX8_passWeekIn_9 (fun J4 H3 locs hP hD hS => ?_)
  refine lv_aload_n hx hb dX8_passWeekIn_10 rfl (lv_at hl 1 rfl) ?_
  refine lv_aload_n hx hb dX8_passWeekIn_11 rfl (lv_at hl 1 rfl) ?_
  refine gX_X8_185_8 hx hb hG hown hK hP dX8_passWeekIn_12 (fun x5 => ?_)
  refine lv_sipush (v := 137) hx hb dX8_passWeekIn_15 (by decide) ?_
  refine lv_imul hx hb dX8_passWeekIn_18 ?_
  refine lv_topi (fun x6 ex6 => ?_)
  refine lv_bipush (v := 71) hx hb dX8_passWeekIn_19 (by decide) ?_
  refine lv_iadd hx hb dX8_passWeekIn_21 ?_
  refine lv_topi (fun x7 ex7 => ?_)
  refine lv_sipush (v := 1000) hx hb dX8_passWeekIn_22 (by decide) ?_
  refine lv_irem hx hb dX8_passWeekIn_25 (by decide) ?_
  refine lv_topi (fun x8 ex8 => ?_)
  refine pX_X8_185_8 hx hb hG hown hK hP hD hS dX8_passWeekIn_26 (fun J10 H9 locs hP hD hS => ?_)
  refine lv_aload_n hx hb dX8_passWeekIn_29 rfl (lv_at hl 1 rfl) ?_
  refine gX_X8_185_8 hx hb hG hown hK hP dX8_passWeekIn_30 (fun x11 => ?_)
  refine lv_bipush (v := 100) hx hb dX8_passWeekIn_33 (by decide) ?_
  refine lv_irem hx hb dX8_passWeekIn_35 (by decide) ?_
  refine lv_topi (fun x12 ex12 => ?_)
  refine lv_iload hx hb dX8_passWeekIn_36 (lv_at hl 4 rfl) ?_
  refine lv_icmp_ge (tgt := 45) hx hb dX8_passWeekIn_38 (by decide) (fun c_13 => ?_) (fun c_13 => ?_)
  · skip
    have f14 : p3.toInt ≤ x12.toInt := qi_le c_13 rfl rfl
    refine lv_iconst (v := 0) hx hb dX8_passWeekIn_45 (by decide) ?_
    refine lv_istore (lv' := [(5, .int 0), (0, .ref (r 0)), (1, .ref (r 8)), (2, .int p1), (3, .int p2), (4, .int p3)]) hx hb dX8_passWeekIn_46 hl (by decide) rfl (fun ls hl => ?_)
    refine lv_iload hx hb dX8_passWeekIn_48 (lv_at hl 0 rfl) ?_
    refine lv_if_ne (tgt := 69) hx hb dX8_passWeekIn_50 (by decide) (fun c_15 => absurd (by decide) c_15) (fun c_15 => ?_)
    refine lv_aload_n hx hb dX8_passWeekIn_53 rfl (lv_at hl 2 rfl) ?_
    refine gX_X8_131_8 hx hb hG hown hK hP dX8_passWeekIn_54 ?_
    refine lv_iload_n hx hb dX8_passWeekIn_57 rfl (lv_at hl 4 rfl) ?_
    refine ldX_49 (mm := p2.toInt) hx hb hK hP rfl (ox_33 hp2 hp3) (ox_34 ie13 hp3) dX8_passWeekIn_58 (fun x16 => ?_)
    refine lv_aload_n hx hb dX8_passWeekIn_59 rfl (lv_at hl 1 rfl) ?_
    refine gX_X8_23_0 hx hb hG hown hK hP dX8_passWeekIn_60 ?_
    refine gX_X8_188_3 hx hb hG hown hK hP dX8_passWeekIn_63 (fun x17 => ?_)
    refine lv_icmp_ge (tgt := 71) hx hb dX8_passWeekIn_66 (by decide) (fun c_18 => ?_) (fun c_18 => ?_)
    · skip
      have f19 : x17.toInt ≤ x16.toInt := qi_le c_18 rfl rfl
      refine lv_aload_n hx hb dX8_passWeekIn_71 rfl (lv_at hl 1 rfl) ?_
      refine gX_X8_23_0 hx hb hG hown hK hP dX8_passWeekIn_72 ?_
      refine gX_X8_115_3 hx hb hG hown hK hP dX8_passWeekIn_75 ?_
      refine lv_iload_n hx hb dX8_passWeekIn_78 rfl (lv_at hl 4 rfl) ?_
      refine ldX_23 (mm := p2.toInt) hx hb hK hP rfl (ox_33 hp2 hp3) (ox_34 ie13 hp3) dX8_passWeekIn_79 (fun x20 => ?_)
      refine lv_istore (lv' := [(6, .int x20), (5, .int 0), (0, .ref (r 0)), (1, .ref (r 8)), (2, .int p1), (3, .int p2), (4, .int p3)]) hx hb dX8_passWeekIn_80 hl (by decide) rfl (fun ls hl => ?_)
      refine lv_aload_n hx hb dX8_passWeekIn_82 rfl (lv_at hl 3 rfl) ?_
      refine gX_X8_144_8 hx hb hG hown hK hP dX8_passWeekIn_83 ?_
      refine lv_iload_n hx hb dX8_passWeekIn_86 rfl (lv_at hl 4 rfl) ?_
      refine ldX_50 (mm := p1.toInt) hx hb hK hP rfl (ox_33 hp0 hp1) (ox_100 ie15 hp1) dX8_passWeekIn_87 (fun x21 => ?_)
      refine lv_istore (lv' := [(7, .int x21), (6, .int x20), (5, .int 0), (0, .ref (r 0)), (1, .ref (r 8)), (2, .int p1), (3, .int p2), (4, .int p3)]) hx hb dX8_passWeekIn_88 hl (by decide) rfl (fun ls hl => ?_)
      refine lv_aload_n hx hb dX8_passWeekIn_90 rfl (lv_at hl 3 rfl) ?_
      refine gX_X8_23_0 hx hb hG hown hK hP dX8_passWeekIn_91 ?_
      refine lv_iload_n hx hb dX8_passWeekIn_94 rfl (lv_at hl 5 rfl) ?_
      refine lv_iload_n hx hb dX8_passWeekIn_95 rfl (lv_at hl 6 rfl) ?_
      refine lv_aload_n hx hb dX8_passWeekIn_96 rfl (lv_at hl 4 rfl) ?_
      refine gX_X8_118_8 hx hb hG hown hK hP dX8_passWeekIn_97 ?_
      refine lv_iload_n hx hb dX8_passWeekIn_100 rfl (lv_at hl 6 rfl) ?_
      refine ldX_48 (mm := p2.toInt) hx hb hK hP rfl (ox_33 hp2 hp3) (ox_34 ie13 hp3) dX8_passWeekIn_101 ?_
      have f22 : 0 ≤ (f_ahead_worn (p2.toInt).toNat).toInt ∧ (f_ahead_worn (p2.toInt).toNat).toInt ≤ 99 := ie37 (p2.toInt)
      refine lv_aload_n hx hb dX8_passWeekIn_102 rfl (lv_at hl 4 rfl) ?_
      refine gX_X8_131_8 hx hb hG hown hK hP dX8_passWeekIn_103 ?_
      refine lv_iload_n hx hb dX8_passWeekIn_106 rfl (lv_at hl 6 rfl) ?_
      refine ldX_49 (mm := p2.toInt) hx hb hK hP rfl (ox_33 hp2 hp3) (ox_34 ie13 hp3) dX8_passWeekIn_107 (fun x23 => ?_)
      refine lv_iload hx hb dX8_passWeekIn_108 (lv_at hl 0 rfl) ?_
      have hFc := frA hD hS hA
      refine va_calli (va_runV (As := [.int p1, .int p2, .int (f_ahead_worn (p2.toInt).toNat), .int x23, .int x21]) (rest := []) ⟨hx, hb, hml, hown, hG⟩ (kX4_gladness l dC dI r ct i_tapeLength i_time i_lyingCount i_rd_fault i_rd_token i_rd_kind i_sc_count i_sc_at i_A_tunes i_A_houses i_fA_length i_B_tunes i_B_houses i_fB_length i_acts_done i_acts_undone i_kn_count f_boxes f_boxKept f_trial f_offers f_A_noteCounts f_A_notes f_B_noteCounts f_B_notes f_now_where f_now_worn f_ahead_where f_ahead_worn f_acts_rows f_kn_tunes f_kn_noteTimes J10 L p1 p2 (f_ahead_worn (p2.toInt).toNat) x23 x21 H9.size hI (ox_54 hp0 hp1) (ox_55 hp1) (ox_54 hp2 hp3) (ox_55 hp3) (ox_56 f22) (ox_57 f22)) (cwV 5 hG (goodV gw749 gw750 gw751 gw132 gw752) rfl rfl rfl hd_X4_gladness ⟨(Nat.le_of_ble_eq_true rfl), (Nat.le_of_ble_eq_true rfl)⟩) ⟨fbW, va_recv hK hP (ci := 3) (q0 := 3) rfl rfl, pW_in hP hK hD⟩ rfl rfl hl.1 rfl (lv_room (Nat.le_of_ble_eq_true rfl)) dX8_passWeekIn_110 ⟨(Nat.le_of_ble_eq_true rfl), (Nat.le_of_ble_eq_true rfl)⟩) hS (fun q _ h => hFc q h) hFc (fun r_25 u_ t_ H24 locs ht hvm hw hB hz1 hk1 hS => ?_)
      subst hw
      obtain ⟨J26, hP1, hD1, hI27⟩ := hB
      rw [ht] at hP1
      have hP := hP1
      have hD := dW hFc hD1
      obtain ⟨im28, im29, im30, im31, im32, im33, im34, im35, im36, im37, im38, im39, im40, im41, im42, im43, im44, im45, im46, im47, im48, im49, im50, im51, im52, im53, im54, im55, im56, im57, im58, im59, im60, im61, im62, im63, im64, im65, im66, im67⟩ := id hI27
      refine lv_istore (lv' := [(8, .int r_25), (7, .int x21), (6, .int x20), (5, .int 0), (0, .ref (r 0)), (1, .ref (r 8)), (2, .int p1), (3, .int p2), (4, .int p3)]) hx hb dX8_passWeekIn_113 hl (by decide) rfl (fun ls hl => ?_)
      refine lv_iload hx hb dX8_passWeekIn_115 (lv_at hl 0 rfl) ?_
      refine lv_if_le (tgt := 145) hx hb dX8_passWeekIn_117 (by decide) (fun c_68 => ?_) (fun c_68 => ?_)
      · skip
        have f69 : r_25.toInt ≤ 0 := qi_le c_68 rfl zc_0
        refine lv_aload_n hx hb dX8_passWeekIn_145 rfl (lv_at hl 5 rfl) ?_
        refine lv_iload_n hx hb dX8_passWeekIn_146 rfl (lv_at hl 7 rfl) ?_
        have hFc := frA hD hS hA
        refine va_callv (va_runV (As := [.int p2]) (rest := []) ⟨hx, hb, hml, hown, hG⟩ (kX7_backOnCart_v1 l dC dI r ct i_tapeLength i_time i_lyingCount i_rd_fault i_rd_token i_rd_kind i_sc_count i_sc_at i_A_tunes i_A_houses i_fA_length i_B_tunes i_B_houses i_fB_length i_acts_done i_acts_undone i_kn_count f_boxes f_boxKept f_trial f_offers f_A_noteCounts f_A_notes f_B_noteCounts f_B_notes f_now_where f_now_worn f_ahead_where f_ahead_worn f_acts_rows f_kn_tunes f_kn_noteTimes J26 L p2 H24.size hI27 (ox_54 hp2 hp3) (ox_211 ie13 hp3)) (cwV 1 hG (goodV gw794 gw454 gw455 gw134 gw456) rfl rfl rfl hd_X7_backOnCart ⟨(Nat.le_of_ble_eq_true rfl), (Nat.le_of_ble_eq_true rfl)⟩) ⟨fbW, va_recv hK hP (ci := 6) (q0 := 8) rfl rfl, pW_in hP hK hD⟩ rfl rfl hl.1 rfl (lv_room (Nat.le_of_ble_eq_true rfl)) dX8_passWeekIn_147 ⟨(Nat.le_of_ble_eq_true rfl), (Nat.le_of_ble_eq_true rfl)⟩) hS (fun q _ h => hFc q h) hFc (fun _ t_ H70 locs ht hvm hw hB hz1 hk1 hS => ?_)
        obtain ⟨z72, J73, hP1, hD1, hI75, f74⟩ := hB
        rw [ht] at hP1
        have hP := hP1
        have hD := dW hFc hD1
        obtain ⟨im76, im77, im78, im79, im80, im81, im82, im83, im84, im85, im86, im87, im88, im89, im90, im91, im92, im93, im94, im95, im96, im97, im98, im99, im100, im101, im102, im103, im104, im105, im106, im107, im108, im109, im110, im111, im112, im113, im114, im115⟩ := id hI75
        refine lv_aload_n hx hb dX8_passWeekIn_150 rfl (lv_at hl 5 rfl) ?_
        refine gX_X8_118_8 hx hb hG hown hK hP dX8_passWeekIn_151 ?_
        refine lv_iload_n hx hb dX8_passWeekIn_154 rfl (lv_at hl 7 rfl) ?_
        refine lv_bipush (v := 99) hx hb dX8_passWeekIn_155 (by decide) ?_
        refine lv_aload_n hx hb dX8_passWeekIn_157 rfl (lv_at hl 5 rfl) ?_
        refine gX_X8_118_8 hx hb hG hown hK hP dX8_passWeekIn_158 ?_
        refine lv_iload_n hx hb dX8_passWeekIn_161 rfl (lv_at hl 7 rfl) ?_
        refine ldX_48 (mm := p2.toInt) hx hb hK hP rfl (ox_33 hp2 hp3) (ox_34 ie13 hp3) dX8_passWeekIn_162 ?_
        refine lv_iconst (v := 1) hx hb dX8_passWeekIn_163 (by decide) ?_
        refine lv_iadd hx hb dX8_passWeekIn_164 ?_
        refine lv_topi (fun x116 ex116 => ?_)
        have f117 : x116.toInt = (f_ahead_worn (p2.toInt).toNat).toInt + 1 := (ox_13 (qi_add ex116 rfl zc_1 (ox_214 f22) (ox_215 f22)))
        refine va_mmin hx hb (hml.trans hl.1.symm) hown (hG _ gw795) (hG _ gw542) (hG _ gw139) (hG _ gw543) (Nat.le_of_ble_eq_true rfl) (Nat.le_of_ble_eq_true rfl) (Nat.le_of_ble_eq_true rfl) (Nat.le_of_ble_eq_true rfl) dX8_passWeekIn_165 ?_
        refine lv_topi (fun x118 ex118 => ?_)
        have f119 : (99 ≤ x116.toInt ∧ x118.toInt = 99) ∨ (x116.toInt ≤ 99 ∧ x118.toInt = x116.toInt) := mmin_or2 ex118 zc_99 rfl
        refine stX_48 (mm := p2.toInt) hx hb hK hP hD hS rfl (ox_33 hp2 hp3) (ox_34 ie13 hp3) dX8_passWeekIn_168 (fun z121 H120 locs ez121 hP hD hS => ?_)
        have g122 : EB 0 99 z121 := ez121 ▸ EB_upd ie37 (ox_216 f22 f119 f117) (ox_217 f119 f117)
        refine lv_iconst (v := 0) hx hb dX8_passWeekIn_169 (by decide) ?_
        rw [hQ]
        exact W.zret (v := 0) hx hb hr (by decide) (fun t ht hW => ⟨⟨0, 0, rfl, rfl, ⟨z72, z121, J73, by rw [ht]; exact hP, hD, ⟨ie0, ie1, ie2, ie3, ie4, ie5, ie6, ie7, ie8, ie9, ie10, ie11, ie12, ie13, ie14, ie15, ie16, ie17, ie18, ie19, ie20, ie21, ie22, ie23, ie24, ie25, ie26, ie27, ie28, ie29, ie30, ie31, ie32, ie33, ie34, ie35, ie36, g122, ie38, ie39⟩, (ox_80 zc_0), (ox_27 zc_0), (ox_28 zc_0), (WB_m1 hp4 f74 zc_m1)⟩⟩, hS.F ht⟩) hS.2.2 dX8_passWeekIn_170
      · skip
        have f123 : 0 < r_25.toInt := qi_nle c_68 rfl zc_0
        refine lv_iload hx hb dX8_passWeekIn_120 (lv_at hl 1 rfl) ?_
        refine lv_iload hx hb dX8_passWeekIn_122 (lv_at hl 2 rfl) ?_
        refine lv_icmp_lt (tgt := 145) hx hb dX8_passWeekIn_124 (by decide) (fun c_124 => ?_) (fun c_124 => ?_)
        · skip
          have f125 : x21.toInt < x20.toInt := qi_lt c_124 rfl rfl
          refine lv_aload_n hx hb dX8_passWeekIn_145 rfl (lv_at hl 5 rfl) ?_
          refine lv_iload_n hx hb dX8_passWeekIn_146 rfl (lv_at hl 7 rfl) ?_
          have hFc := frA hD hS hA
          refine va_callv (va_runV (As := [.int p2]) (rest := []) ⟨hx, hb, hml, hown, hG⟩ (kX7_backOnCart_v1 l dC dI r ct i_tapeLength i_time i_lyingCount i_rd_fault i_rd_token i_rd_kind i_sc_count i_sc_at i_A_tunes i_A_houses i_fA_length i_B_tunes i_B_houses i_fB_length i_acts_done i_acts_undone i_kn_count f_boxes f_boxKept f_trial f_offers f_A_noteCounts f_A_notes f_B_noteCounts f_B_notes f_now_where f_now_worn f_ahead_where f_ahead_worn f_acts_rows f_kn_tunes f_kn_noteTimes J26 L p2 H24.size hI27 (ox_54 hp2 hp3) (ox_211 ie13 hp3)) (cwV 1 hG (goodV gw794 gw454 gw455 gw134 gw456) rfl rfl rfl hd_X7_backOnCart ⟨(Nat.le_of_ble_eq_true rfl), (Nat.le_of_ble_eq_true rfl)⟩) ⟨fbW, va_recv hK hP (ci := 6) (q0 := 8) rfl rfl, pW_in hP hK hD⟩ rfl rfl hl.1 rfl (lv_room (Nat.le_of_ble_eq_true rfl)) dX8_passWeekIn_147 ⟨(Nat.le_of_ble_eq_true rfl), (Nat.le_of_ble_eq_true rfl)⟩) hS (fun q _ h => hFc q h) hFc (fun _ t_ H126 locs ht hvm hw hB hz1 hk1 hS => ?_)
          obtain ⟨z128, J129, hP1, hD1, hI131, f130⟩ := hB
          rw [ht] at hP1
          have hP := hP1
          have hD := dW hFc hD1
          obtain ⟨im132, im133, im134, im135, im136, im137, im138, im139, im140, im141, im142, im143, im144, im145, im146, im147, im148, im149, im150, im151, im152, im153, im154, im155, im156, im157, im158, im159, im160, im161, im162, im163, im164, im165, im166, im167, im168, im169, im170, im171⟩ := id hI131
          refine lv_aload_n hx hb dX8_passWeekIn_150 rfl (lv_at hl 5 rfl) ?_
          refine gX_X8_118_8 hx hb hG hown hK hP dX8_passWeekIn_151 ?_
          refine lv_iload_n hx hb dX8_passWeekIn_154 rfl (lv_at hl 7 rfl) ?_
          refine lv_bipush (v := 99) hx hb dX8_passWeekIn_155 (by decide) ?_
          refine lv_aload_n hx hb dX8_passWeekIn_157 rfl (lv_at hl 5 rfl) ?_
          refine gX_X8_118_8 hx hb hG hown hK hP dX8_passWeekIn_158 ?_
          refine lv_iload_n hx hb dX8_passWeekIn_161 rfl (lv_at hl 7 rfl) ?_
          refine ldX_48 (mm := p2.toInt) hx hb hK hP rfl (ox_33 hp2 hp3) (ox_34 ie13 hp3) dX8_passWeekIn_162 ?_
          refine lv_iconst (v := 1) hx hb dX8_passWeekIn_163 (by decide) ?_
          refine lv_iadd hx hb dX8_passWeekIn_164 ?_
          refine lv_topi (fun x172 ex172 => ?_)
          have f173 : x172.toInt = (f_ahead_worn (p2.toInt).toNat).toInt + 1 := (ox_13 (qi_add ex172 rfl zc_1 (ox_214 f22) (ox_215 f22)))
          refine va_mmin hx hb (hml.trans hl.1.symm) hown (hG _ gw795) (hG _ gw542) (hG _ gw139) (hG _ gw543) (Nat.le_of_ble_eq_true rfl) (Nat.le_of_ble_eq_true rfl) (Nat.le_of_ble_eq_true rfl) (Nat.le_of_ble_eq_true rfl) dX8_passWeekIn_165 ?_
          refine lv_topi (fun x174 ex174 => ?_)
          have f175 : (99 ≤ x172.toInt ∧ x174.toInt = 99) ∨ (x172.toInt ≤ 99 ∧ x174.toInt = x172.toInt) := mmin_or2 ex174 zc_99 rfl
          refine stX_48 (mm := p2.toInt) hx hb hK hP hD hS rfl (ox_33 hp2 hp3) (ox_34 ie13 hp3) dX8_passWeekIn_168 (fun z177 H176 locs ez177 hP hD hS => ?_)
          have g178 : EB 0 99 z177 := ez177 ▸ EB_upd ie37 (ox_216 f22 f175 f173) (ox_217 f175 f173)
          refine lv_iconst (v := 0) hx hb dX8_passWeekIn_169 (by decide) ?_
          rw [hQ]
          exact W.zret (v := 0) hx hb hr (by decide) (fun t ht hW => ⟨⟨0, 0, rfl, rfl, ⟨z128, z177, J129, by rw [ht]; exact hP, hD, ⟨ie0, ie1, ie2, ie3, ie4, ie5, ie6, ie7, ie8, ie9, ie10, ie11, ie12, ie13, ie14, ie15, ie16, ie17, ie18, ie19, ie20, ie21, ie22, ie23, ie24, ie25, ie26, ie27, ie28, ie29, ie30, ie31, ie32, ie33, ie34, ie35, ie36, g178, ie38, ie39⟩, (ox_80 zc_0), (ox_27 zc_0), (ox_28 zc_0), (WB_m1 hp4 f130 zc_m1)⟩⟩, hS.F ht⟩) hS.2.2 dX8_passWeekIn_170
        · skip
          have f179 : x20.toInt ≤ x21.toInt := qi_nlt c_124 rfl rfl
          refine lv_aload_n hx hb dX8_passWeekIn_127 rfl (lv_at hl 5 rfl) ?_
          refine gX_X8_144_8 hx hb hG hown hK hP dX8_passWeekIn_128 ?_
          refine lv_iload_n hx hb dX8_passWeekIn_131 rfl (lv_at hl 6 rfl) ?_
          refine lv_iload hx hb dX8_passWeekIn_132 (lv_at hl 1 rfl) ?_
          refine lv_iload hx hb dX8_passWeekIn_134 (lv_at hl 2 rfl) ?_
          refine lv_isub hx hb dX8_passWeekIn_136 ?_
          refine lv_topi (fun x180 ex180 => ?_)
          refine stX_50 (mm := p1.toInt) hx hb hK hP hD hS rfl (ox_33 hp0 hp1) (ox_100 ie15 hp1) dX8_passWeekIn_137 (fun J182 H181 locs hP hD hS => ?_)
          refine lv_aload_n hx hb dX8_passWeekIn_138 rfl (lv_at hl 5 rfl) ?_
          refine lv_iload_n hx hb dX8_passWeekIn_139 rfl (lv_at hl 7 rfl) ?_
          have hFc := frA hD hS hA
          refine va_callv (va_runV (As := [.int p2]) (rest := []) ⟨hx, hb, hml, hown, hG⟩ (kX7_pay_v1 l dC dI r ct i_tapeLength i_time i_lyingCount i_rd_fault i_rd_token i_rd_kind i_sc_count i_sc_at i_A_tunes i_A_houses i_fA_length i_B_tunes i_B_houses i_fB_length i_acts_done i_acts_undone i_kn_count f_boxes f_boxKept f_trial f_offers f_A_noteCounts f_A_notes f_B_noteCounts f_B_notes f_now_where f_now_worn f_ahead_where f_ahead_worn f_acts_rows f_kn_tunes f_kn_noteTimes J182 L p2 H181.size hI27 (ox_54 hp2 hp3) (ox_211 ie13 hp3)) (cwV 1 hG (goodV gw790 gw791 gw792 gw134 gw793) rfl rfl rfl hd_X7_pay ⟨(Nat.le_of_ble_eq_true rfl), (Nat.le_of_ble_eq_true rfl)⟩) ⟨fbW, va_recv hK hP (ci := 6) (q0 := 8) rfl rfl, pW_in hP hK hD⟩ rfl rfl hl.1 rfl (lv_room (Nat.le_of_ble_eq_true rfl)) dX8_passWeekIn_140 ⟨(Nat.le_of_ble_eq_true rfl), (Nat.le_of_ble_eq_true rfl)⟩) hS (fun q _ h => hFc q h) hFc (fun _ t_ H183 locs ht hvm hw hB hz1 hk1 hS => ?_)
          obtain ⟨J185, hP1, hD1, hI186⟩ := hB
          rw [ht] at hP1
          have hP := hP1
          have hD := dW hFc hD1
          obtain ⟨im187, im188, im189, im190, im191, im192, im193, im194, im195, im196, im197, im198, im199, im200, im201, im202, im203, im204, im205, im206, im207, im208, im209, im210, im211, im212, im213, im214, im215, im216, im217, im218, im219, im220, im221, im222, im223, im224, im225, im226⟩ := id hI186
          refine lv_iconst (v := 1) hx hb dX8_passWeekIn_143 (by decide) ?_
          rw [hQ]
          exact W.zret (v := 1) hx hb hr (by decide) (fun t ht hW => ⟨⟨1, 1, rfl, rfl, ⟨f_ahead_where, f_ahead_worn, J185, by rw [ht]; exact hP, hD, hI186, (ox_81 zc_1), (ox_31 zc_1), (ox_32 zc_1), hp4⟩⟩, hS.F ht⟩) hS.2.2 dX8_passWeekIn_144
    · skip
      have f227 : x16.toInt < x17.toInt := qi_nle c_18 rfl rfl
      refine lv_iconst (v := 0) hx hb dX8_passWeekIn_69 (by decide) ?_
      rw [hQ]
      exact W.zret (v := 0) hx hb hr (by decide) (fun t ht hW => ⟨⟨0, 0, rfl, rfl, ⟨f_ahead_where, f_ahead_worn, J10, by rw [ht]; exact hP, hD, hI, (ox_80 zc_0), (ox_27 zc_0), (ox_28 zc_0), hp4⟩⟩, hS.F ht⟩) hS.2.2 dX8_passWeekIn_70
  · skip
    have f228 : x12.toInt < p3.toInt := qi_nle c_13 rfl rfl
    refine lv_iconst (v := 1) hx hb dX8_passWeekIn_41 (by decide) ?_
    refine lv_goto (tgt := 46) hx hb dX8_passWeekIn_42 (by decide) ?_
    refine lv_istore (lv' := [(5, .int 1), (0, .ref (r 0)), (1, .ref (r 8)), (2, .int p1), (3, .int p2), (4, .int p3)]) hx hb dX8_passWeekIn_46 hl (by decide) rfl (fun ls hl => ?_)
    refine lv_iload hx hb dX8_passWeekIn_48 (lv_at hl 0 rfl) ?_
    refine lv_if_ne (tgt := 69) hx hb dX8_passWeekIn_50 (by decide) (fun c_229 => ?_) (fun c_229 => absurd c_229 (by decide))
    refine lv_iconst (v := 0) hx hb dX8_passWeekIn_69 (by decide) ?_
    rw [hQ]
    exact W.zret (v := 0) hx hb hr (by decide) (fun t ht hW => ⟨⟨0, 0, rfl, rfl, ⟨f_ahead_where, f_ahead_worn, J10, by rw [ht]; exact hP, hD, hI, (ox_80 zc_0), (ox_27 zc_0), (ox_28 zc_0), hp4⟩⟩, hS.F ht⟩) hS.2.2 dX8_passWeekIn_70
set_option maxHeartbeats 4000000 in
set_option maxRecDepth 100000 in
theorem kX8_passWeek_v1 (l : Launch) (dC : Nat → ClassId) (dI : Nat → Nat → Nat) (r : Nat → Nat) (ct : Nat → ClassId) (i_tapeLength i_time i_lyingCount i_rd_fault i_rd_token i_rd_kind i_sc_count i_sc_at i_A_tunes i_A_houses i_fA_length i_B_tunes i_B_houses i_fB_length i_acts_done i_acts_undone i_kn_count : Int32) (f_boxes f_boxKept f_trial f_offers f_A_noteCounts f_A_notes f_B_noteCounts f_B_notes f_now_where f_now_worn f_ahead_where f_ahead_worn f_acts_rows f_kn_tunes f_kn_noteTimes : Nat → Int32) (J : Nat → Nat → Int32) (L : Nat → Nat → Int64) (p1 : Int32) (sz : Nat) (hI : (IX i_tapeLength i_time i_lyingCount i_rd_token i_sc_count i_sc_at i_A_tunes i_A_houses i_fA_length i_B_tunes i_B_houses i_fB_length i_acts_done i_acts_undone i_kn_count f_boxes f_A_noteCounts f_A_notes f_B_noteCounts f_B_notes f_now_worn f_ahead_worn f_acts_rows f_kn_tunes)) (hp0 : WB i_A_tunes f_ahead_where) : Met l yX8_passWeek (.code yX8_passWeek cX8_passWeek 6 (some .int) :: GW) { frames := 12, cells := 0, slots := 0, locals := 432 } (va_Pc [.ref (r 0), .ref (r 8), .int p1] (pW (dC, dI) (WX r ct i_tapeLength i_time i_lyingCount i_rd_fault i_rd_token i_rd_kind i_sc_count i_sc_at i_A_tunes i_A_houses i_fA_length i_B_tunes i_B_houses i_fB_length i_acts_done i_acts_undone i_kn_count f_boxes f_boxKept f_trial f_offers f_A_noteCounts f_A_notes f_B_noteCounts f_B_notes f_now_where f_now_worn f_ahead_where f_ahead_worn f_acts_rows f_kn_tunes f_kn_noteTimes J L) (TX ct) sz)) (va_Qi (fun (r0 : Int32) (u : Int32) => r0 = u) (fun (u : Int32) (t : State) => ∃ (n_f_ahead_where n_f_ahead_worn : Nat → Int32) (n_J : Nat → Nat → Int32), va_P (dC, dI) vwCl (WX r ct i_tapeLength i_time i_lyingCount i_rd_fault i_rd_token i_rd_kind i_sc_count i_sc_at i_A_tunes i_A_houses i_fA_length i_B_tunes i_B_houses i_fB_length i_acts_done i_acts_undone i_kn_count f_boxes f_boxKept f_trial f_offers f_A_noteCounts f_A_notes f_B_noteCounts f_B_notes f_now_where f_now_worn n_f_ahead_where n_f_ahead_worn f_acts_rows f_kn_tunes f_kn_noteTimes n_J L) t.heap ∧ va_D (va_A (WX r ct i_tapeLength i_time i_lyingCount i_rd_fault i_rd_token i_rd_kind i_sc_count i_sc_at i_A_tunes i_A_houses i_fA_length i_B_tunes i_B_houses i_fB_length i_acts_done i_acts_undone i_kn_count f_boxes f_boxKept f_trial f_offers f_A_noteCounts f_A_notes f_B_noteCounts f_B_notes f_now_where f_now_worn f_ahead_where f_ahead_worn f_acts_rows f_kn_tunes f_kn_noteTimes J L) sz) (WX r ct i_tapeLength i_time i_lyingCount i_rd_fault i_rd_token i_rd_kind i_sc_count i_sc_at i_A_tunes i_A_houses i_fA_length i_B_tunes i_B_houses i_fB_length i_acts_done i_acts_undone i_kn_count f_boxes f_boxKept f_trial f_offers f_A_noteCounts f_A_notes f_B_noteCounts f_B_notes f_now_where f_now_worn n_f_ahead_where n_f_ahead_worn f_acts_rows f_kn_tunes f_kn_noteTimes n_J L) ∧ (IX i_tapeLength i_time i_lyingCount i_rd_token i_sc_count i_sc_at i_A_tunes i_A_houses i_fA_length i_B_tunes i_B_houses i_fB_length i_acts_done i_acts_undone i_kn_count f_boxes f_A_noteCounts f_A_notes f_B_noteCounts f_B_notes f_now_worn n_f_ahead_worn f_acts_rows f_kn_tunes) ∧ (WB i_A_tunes n_f_ahead_where)) (va_A (WX r ct i_tapeLength i_time i_lyingCount i_rd_fault i_rd_token i_rd_kind i_sc_count i_sc_at i_A_tunes i_A_houses i_fA_length i_B_tunes i_B_houses i_fB_length i_acts_done i_acts_undone i_kn_count f_boxes f_boxKept f_trial f_offers f_A_noteCounts f_A_notes f_B_noteCounts f_B_notes f_now_where f_now_worn f_ahead_where f_ahead_worn f_acts_rows f_kn_tunes f_kn_noteTimes J L) sz)) 0 0 (va_A (WX r ct i_tapeLength i_time i_lyingCount i_rd_fault i_rd_token i_rd_kind i_sc_count i_sc_at i_A_tunes i_A_houses i_fA_length i_B_tunes i_B_houses i_fB_length i_acts_done i_acts_undone i_kn_count f_boxes f_boxKept f_trial f_offers f_A_noteCounts f_A_notes f_B_noteCounts f_B_notes f_now_where f_now_worn f_ahead_where f_ahead_worn f_acts_rows f_kn_tunes f_kn_noteTimes J L) sz) := by
  refine Met.ofW (cc := cX8_passWeek) (maxL := 6) (ret := (some .int)) (by decide) rfl ?_
  intro p e s m args below meth c0 s₁ B hml hv
  obtain ⟨rfl, hsz, hP, hK, hD0⟩ := hv
  have hx := B.exec
  have hb := B.bytes
  have hr := B.returns
  have hts := atoms_spec (ws := .code yX8_passWeek cX8_passWeek 6 (some .int) :: GW) B.pre
  have hG : ∀ w ∈ GW, w.before _ s = true := fun w h => hts w (List.mem_cons_of_mem _ h)
  have hown : s.vm.findClass RX8 = some m.cls := findClass_of_methodNamed B.named
  subst hsz
  have hD := hD0.self (sz := s.heap.size)
  generalize hAe : va_A (WX r ct i_tapeLength i_time i_lyingCount i_rd_fault i_rd_token i_rd_kind i_sc_count i_sc_at i_A_tunes i_A_houses i_fA_length i_B_tunes i_B_houses i_fB_length i_acts_done i_acts_undone i_kn_count f_boxes f_boxKept f_trial f_offers f_A_noteCounts f_A_notes f_B_noteCounts f_B_notes f_now_where f_now_worn f_ahead_where f_ahead_worn f_acts_rows f_kn_tunes f_kn_noteTimes J L) s.heap.size = A at hD ⊢
  have hA : ∀ q : Nat, s.heap.size ≤ q → A q := fun q h => by rw [← hAe]; exact Or.inr h
  have hS : va_S A s.heap s.heap [] := va_S.rf
  have hP : va_P (dC, dI) vwCl (WX r ct i_tapeLength i_time i_lyingCount i_rd_fault i_rd_token i_rd_kind i_sc_count i_sc_at i_A_tunes i_A_houses i_fA_length i_B_tunes i_B_houses i_fB_length i_acts_done i_acts_undone i_kn_count f_boxes f_boxKept f_trial f_offers f_A_noteCounts f_A_notes f_B_noteCounts f_B_notes f_now_where f_now_worn f_ahead_where f_ahead_worn f_acts_rows f_kn_tunes f_kn_noteTimes J L) s.heap := hP
  have hl := lv_entry ([.ref (r 0), .ref (r 8), .int p1]) (n := 6) (Nat.le_of_ble_eq_true rfl)
  rw [lg_entry_eq]
  generalize (lg_sl ([.ref (r 0), .ref (r 8), .int p1]) ++ List.replicate (6 - (lg_sl ([.ref (r 0), .ref (r 8), .int p1])).length) Slot.unset).toArray = ls at hl ⊢
  have hl : lv_has ls 6 [(0, .ref (r 0)), (1, .ref (r 8)), (2, .int p1)] := hl
  refine nameQ (fun Q hQ => ?_)
  obtain ⟨ie0, ie1, ie2, ie3, ie4, ie5, ie6, ie7, ie8, ie9, ie10, ie11, ie12, ie13, ie14, ie15, ie16, ie17, ie18, ie19, ie20, ie21, ie22, ie23, ie24, ie25, ie26, ie27, ie28, ie29, ie30, ie31, ie32, ie33, ie34, ie35, ie36, ie37, ie38, ie39⟩ := id hI
  refine lv_iconst (v := 0) hx hb dX8_passWeek_0 (by decide) ?_
  refine lv_istore_n (lv' := [(3, .int 0), (0, .ref (r 0)), (1, .ref (r 8)), (2, .int p1)]) hx hb dX8_passWeek_1 rfl hl (by decide) rfl (fun ls hl => ?_)
  refine lv_iconst (v := 0) hx hb dX8_passWeek_2 (by decide) ?_
  refine lv_istore (lv' := [(4, .int 0), (3, .int 0), (0, .ref (r 0)), (1, .ref (r 8)), (2, .int p1)]) hx hb dX8_passWeek_3 hl (by decide) rfl (fun ls hl => ?_)
  have L5 : ∀ (N5 : Nat) (y5_3 y5_4 : Int32) (m5_f_ahead_where m5_f_ahead_worn : Nat → Int32) (m5_J : Nat → Nat → Int32) (H5 : Heap) (locs : List Loc) (ls : Array Slot) (g5_0 : (0 : Int) ≤ y5_4.toInt) (g5_1 : y5_4.toInt ≤ (4 : Int)) (gi5_f_ahead_worn_p : EB 0 99 m5_f_ahead_worn) (gr5_0 : WB i_A_tunes m5_f_ahead_where) (hP : va_P (dC, dI) vwCl (WX r ct i_tapeLength i_time i_lyingCount i_rd_fault i_rd_token i_rd_kind i_sc_count i_sc_at i_A_tunes i_A_houses i_fA_length i_B_tunes i_B_houses i_fB_length i_acts_done i_acts_undone i_kn_count f_boxes f_boxKept f_trial f_offers f_A_noteCounts f_A_notes f_B_noteCounts f_B_notes f_now_where f_now_worn m5_f_ahead_where m5_f_ahead_worn f_acts_rows f_kn_tunes f_kn_noteTimes m5_J L) H5) (hD : va_D A (WX r ct i_tapeLength i_time i_lyingCount i_rd_fault i_rd_token i_rd_kind i_sc_count i_sc_at i_A_tunes i_A_houses i_fA_length i_B_tunes i_B_houses i_fB_length i_acts_done i_acts_undone i_kn_count f_boxes f_boxKept f_trial f_offers f_A_noteCounts f_A_notes f_B_noteCounts f_B_notes f_now_where f_now_worn m5_f_ahead_where m5_f_ahead_worn f_acts_rows f_kn_tunes f_kn_noteTimes m5_J L)) (hS : va_S A s.heap H5 locs) (hl : lv_has ls 6 [(0, .ref (r 0)), (1, .ref (r 8)), (2, .int p1), (3, .int y5_3), (4, .int y5_4)]) (hM : -1 * y5_4.toInt + 4 < (N5 : Int)), W p l e { frames := 12, cells := 0, slots := 0, locals := 432 } s m ([.ref (r 0), .ref (r 8), .int p1] : List Value).toArray below meth c0 H5 locs 0 0 Q (F0 m 5 ls []) := by
    intro N5
    induction N5 with
    | zero =>
      intro y5_3 y5_4 m5_f_ahead_where m5_f_ahead_worn m5_J H5 locs ls g5_0 g5_1 gi5_f_ahead_worn_p gr5_0 hP hD hS hl hM
      exact ((ox_218 hM g5_0 g5_1)).elim
    | succ N5 ih5 =>
      intro y5_3 y5_4 m5_f_ahead_where m5_f_ahead_worn m5_J H5 locs ls g5_0 g5_1 gi5_f_ahead_worn_p gr5_0 hP hD hS hl hM
      have hM5 := msucc hM
      refine lv_iload hx hb dX8_passWeek_5 (lv_at hl 4 rfl) ?_
      refine lv_aload_n hx hb dX8_passWeek_7 rfl (lv_at hl 0 rfl) ?_
      refine gX_X8_23_0 hx hb hG hown hK hP dX8_passWeek_8 ?_
      refine gX_X8_99_3 hx hb hG hown hK hP dX8_passWeek_11 ?_
      refine lv_icmp_ge (tgt := 53) hx hb dX8_passWeek_14 (by decide) (fun c_1 => ?_) (fun c_1 => ?_)
      · skip
        have f2 : i_A_houses.toInt ≤ y5_4.toInt := qi_le c_1 rfl rfl
        refine lv_aload_n hx hb dX8_passWeek_53 rfl (lv_at hl 1 rfl) ?_
        refine lv_dup hx hb dX8_passWeek_54 rfl ?_
        refine gX_X8_168_8 hx hb hG hown hK hP dX8_passWeek_55 (fun x3 => ?_)
        refine lv_iconst (v := 1) hx hb dX8_passWeek_58 (by decide) ?_
        refine lv_iadd hx hb dX8_passWeek_59 ?_
        refine lv_topi (fun x4 ex4 => ?_)
        refine pX_X8_168_8 hx hb hG hown hK hP hD hS dX8_passWeek_60 (fun J6 H5 locs hP hD hS => ?_)
        refine lv_iload_n hx hb dX8_passWeek_63 rfl (lv_at hl 3 rfl) ?_
        rw [hQ]
        exact W.iret (v := y5_3) hx hb hr (fun t ht hW => ⟨⟨y5_3, y5_3, rfl, rfl, ⟨m5_f_ahead_where, m5_f_ahead_worn, J6, by rw [ht]; exact hP, hD, ⟨ie0, ie1, ie2, ie3, ie4, ie5, ie6, ie7, ie8, ie9, ie10, ie11, ie12, ie13, ie14, ie15, ie16, ie17, ie18, ie19, ie20, ie21, ie22, ie23, ie24, ie25, ie26, ie27, ie28, ie29, ie30, ie31, ie32, ie33, ie34, ie35, ie36, gi5_f_ahead_worn_p, ie38, ie39⟩, gr5_0⟩⟩, hS.F ht⟩) hS.2.2 dX8_passWeek_64
      · skip
        have f7 : y5_4.toInt < i_A_houses.toInt := qi_nle c_1 rfl rfl
        refine lv_aload_n hx hb dX8_passWeek_17 rfl (lv_at hl 1 rfl) ?_
        refine lv_iload hx hb dX8_passWeek_18 (lv_at hl 4 rfl) ?_
        refine va_calli (va_runV (As := [.int y5_4]) (rest := []) ⟨hx, hb, hml, hown, hG⟩ (kX7_onApprovalIn_v1 l dC dI r ct i_tapeLength i_time i_lyingCount i_rd_fault i_rd_token i_rd_kind i_sc_count i_sc_at i_A_tunes i_A_houses i_fA_length i_B_tunes i_B_houses i_fB_length i_acts_done i_acts_undone i_kn_count f_boxes f_boxKept f_trial f_offers f_A_noteCounts f_A_notes f_B_noteCounts f_B_notes f_now_where f_now_worn m5_f_ahead_where m5_f_ahead_worn f_acts_rows f_kn_tunes f_kn_noteTimes m5_J L y5_4 H5.size ⟨ie0, ie1, ie2, ie3, ie4, ie5, ie6, ie7, ie8, ie9, ie10, ie11, ie12, ie13, ie14, ie15, ie16, ie17, ie18, ie19, ie20, ie21, ie22, ie23, ie24, ie25, ie26, ie27, ie28, ie29, ie30, ie31, ie32, ie33, ie34, ie35, ie36, gi5_f_ahead_worn_p, ie38, ie39⟩ (ox_6 g5_0) gr5_0) (cwV 1 hG (goodV gw720 gw721 gw722 gw134 gw723) rfl rfl rfl hd_X7_onApprovalIn ⟨(Nat.le_of_ble_eq_true rfl), (Nat.le_of_ble_eq_true rfl)⟩) ⟨fbR, va_recv hK hP (ci := 6) (q0 := 8) rfl rfl, pR_in hP hK⟩ rfl rfl hl.1 rfl (lv_room (Nat.le_of_ble_eq_true rfl)) dX8_passWeek_20 ⟨(Nat.le_of_ble_eq_true rfl), (Nat.le_of_ble_eq_true rfl)⟩) hS (fun q hq h => absurd hq (Nat.not_lt.mpr h)) (fun q h => hA q (Nat.le_trans hS.1 h)) (fun r_9 u_ t_ H8 locs ht hvm hw hB hz1 hk1 hS => ?_)
        subst hw
        have hP := wk hP hk1
        obtain ⟨f10, f11, f12⟩ := hB
        refine lv_istore (lv' := [(5, .int r_9), (0, .ref (r 0)), (1, .ref (r 8)), (2, .int p1), (3, .int y5_3), (4, .int y5_4)]) hx hb dX8_passWeek_23 hl (by decide) rfl (fun ls hl => ?_)
        refine lv_iload hx hb dX8_passWeek_25 (lv_at hl 0 rfl) ?_
        refine lv_iconst (v := (-1)) hx hb dX8_passWeek_27 (by decide) ?_
        refine lv_icmp_eq (tgt := 47) hx hb dX8_passWeek_28 (by decide) (fun c_13 => ?_) (fun c_13 => ?_)
        · skip
          have f14 : r_9.toInt = (-1) := qi_eq c_13 rfl zc_m1
          obtain ⟨x15, ex15⟩ : ∃ y : Int32, y = y5_4 + Int32.ofInt 1 := ⟨_, rfl⟩
          have f16 : x15.toInt = y5_4.toInt + 1 := (ox_13 (qi_add ex15 rfl (by decide) (ox_11 g5_0) (ox_219 g5_1)))
          refine lv_iinc (v := x15) (lv' := [(4, .int x15), (5, .int r_9), (0, .ref (r 0)), (1, .ref (r 8)), (2, .int p1), (3, .int y5_3)]) hx hb dX8_passWeek_47 hl (k := 5) rfl ex15.symm (by decide) rfl (fun ls hl => ?_)
          refine lv_goto (tgt := 5) hx hb dX8_passWeek_50 (by decide) ?_
          exact ih5 y5_3 x15 m5_f_ahead_where m5_f_ahead_worn m5_J H8 _ _ (ox_14 g5_0 f16) (ox_220 ie15 f7 f16) gi5_f_ahead_worn_p gr5_0 hP hD hS (lv_sub hl [2, 3, 4, 5, 0] rfl) (ox_221 hM5 f16)
        · skip
          have f17 : r_9.toInt ≠ (-1) := qi_ne c_13 rfl zc_m1
          have f18 : (0 : Int) ≤ r_9.toInt := (ox_222 f10 f17)
          refine lv_aload_n hx hb dX8_passWeek_31 rfl (lv_at hl 1 rfl) ?_
          refine lv_aload_n hx hb dX8_passWeek_32 rfl (lv_at hl 2 rfl) ?_
          refine lv_iload hx hb dX8_passWeek_33 (lv_at hl 5 rfl) ?_
          refine lv_iload hx hb dX8_passWeek_35 (lv_at hl 0 rfl) ?_
          refine lv_iload_n hx hb dX8_passWeek_37 rfl (lv_at hl 3 rfl) ?_
          have hFc := frA hD hS hA
          refine va_calli (va_runV (As := [.ref (r 8), .int y5_4, .int r_9, .int p1]) (rest := []) ⟨hx, hb, hml, hown, hG⟩ (kX8_passWeekIn_v1 l dC dI r ct i_tapeLength i_time i_lyingCount i_rd_fault i_rd_token i_rd_kind i_sc_count i_sc_at i_A_tunes i_A_houses i_fA_length i_B_tunes i_B_houses i_fB_length i_acts_done i_acts_undone i_kn_count f_boxes f_boxKept f_trial f_offers f_A_noteCounts f_A_notes f_B_noteCounts f_B_notes f_now_where f_now_worn m5_f_ahead_where m5_f_ahead_worn f_acts_rows f_kn_tunes f_kn_noteTimes m5_J L y5_4 r_9 p1 H8.size ⟨ie0, ie1, ie2, ie3, ie4, ie5, ie6, ie7, ie8, ie9, ie10, ie11, ie12, ie13, ie14, ie15, ie16, ie17, ie18, ie19, ie20, ie21, ie22, ie23, ie24, ie25, ie26, ie27, ie28, ie29, ie30, ie31, ie32, ie33, ie34, ie35, ie36, gi5_f_ahead_worn_p, ie38, ie39⟩ (ox_6 g5_0) (ox_223 f7) (ox_6 f18) (ox_55 f11) gr5_0) (cwV 4 hG (goodV gw786 gw788 gw25 gw129 gw789) rfl rfl rfl hd_X8_passWeekIn ⟨(Nat.le_of_ble_eq_true rfl), (Nat.le_of_ble_eq_true rfl)⟩) ⟨fbW, va_recv hK hP (ci := 7) (q0 := 0) rfl rfl, pW_in hP hK hD⟩ rfl rfl hl.1 rfl (lv_room (Nat.le_of_ble_eq_true rfl)) dX8_passWeek_38 ⟨(Nat.le_of_ble_eq_true rfl), (Nat.le_of_ble_eq_true rfl)⟩) hS (fun q _ h => hFc q h) hFc (fun r_20 u_ t_ H19 locs ht hvm hw hB hz1 hk1 hS => ?_)
          subst hw
          obtain ⟨z21, z22, J23, hP1, hD1, hI28, f24, f25, f26, f27⟩ := hB
          rw [ht] at hP1
          have hP := hP1
          have hD := dW hFc hD1
          obtain ⟨im29, im30, im31, im32, im33, im34, im35, im36, im37, im38, im39, im40, im41, im42, im43, im44, im45, im46, im47, im48, im49, im50, im51, im52, im53, im54, im55, im56, im57, im58, im59, im60, im61, im62, im63, im64, im65, im66, im67, im68⟩ := id hI28
          refine lv_if_eq (tgt := 47) hx hb dX8_passWeek_41 (by decide) (fun c_69 => ?_) (fun c_69 => ?_)
          · skip
            have f70 : r_20.toInt = 0 := qi_eq c_69 rfl zc_0
            have f71 : r_20.toInt = (0 : Int) := (ox_92 f25 f26 f70)
            obtain ⟨x72, ex72⟩ : ∃ y : Int32, y = y5_4 + Int32.ofInt 1 := ⟨_, rfl⟩
            have f73 : x72.toInt = y5_4.toInt + 1 := (ox_13 (qi_add ex72 rfl (by decide) (ox_11 g5_0) (ox_219 g5_1)))
            refine lv_iinc (v := x72) (lv' := [(4, .int x72), (5, .int r_9), (0, .ref (r 0)), (1, .ref (r 8)), (2, .int p1), (3, .int y5_3)]) hx hb dX8_passWeek_47 hl (k := 5) rfl ex72.symm (by decide) rfl (fun ls hl => ?_)
            refine lv_goto (tgt := 5) hx hb dX8_passWeek_50 (by decide) ?_
            exact ih5 y5_3 x72 z21 z22 J23 H19 _ _ (ox_14 g5_0 f73) (ox_220 ie15 f7 f73) im66 f27 hP hD hS (lv_sub hl [2, 3, 4, 5, 0] rfl) (ox_221 hM5 f73)
          · skip
            have f74 : r_20.toInt ≠ 0 := qi_ne c_69 rfl zc_0
            have f75 : r_20.toInt = (1 : Int) := (ox_91 f24 f74)
            have f76 : (1 : Int) ≤ r_20.toInt := (ox_53 f25 f26 f75)
            obtain ⟨x77, ex77⟩ : ∃ y : Int32, y = y5_3 + Int32.ofInt 1 := ⟨_, rfl⟩
            have f78 : (-2147483648) ≤ y5_3.toInt ∧ y5_3.toInt ≤ 2147483647 := i32_rg _
            refine lv_iinc (v := x77) (lv' := [(3, .int x77), (5, .int r_9), (0, .ref (r 0)), (1, .ref (r 8)), (2, .int p1), (4, .int y5_4)]) hx hb dX8_passWeek_44 hl (k := 4) rfl ex77.symm (by decide) rfl (fun ls hl => ?_)
            obtain ⟨x79, ex79⟩ : ∃ y : Int32, y = y5_4 + Int32.ofInt 1 := ⟨_, rfl⟩
            have f80 : x79.toInt = y5_4.toInt + 1 := (ox_13 (qi_add ex79 rfl (by decide) (ox_11 g5_0) (ox_219 g5_1)))
            refine lv_iinc (v := x79) (lv' := [(4, .int x79), (3, .int x77), (5, .int r_9), (0, .ref (r 0)), (1, .ref (r 8)), (2, .int p1)]) hx hb dX8_passWeek_47 hl (k := 5) rfl ex79.symm (by decide) rfl (fun ls hl => ?_)
            refine lv_goto (tgt := 5) hx hb dX8_passWeek_50 (by decide) ?_
            exact ih5 x77 x79 z21 z22 J23 H19 _ _ (ox_14 g5_0 f80) (ox_220 ie15 f7 f80) im66 f27 hP hD hS (lv_sub hl [3, 4, 5, 1, 0] rfl) (ox_221 hM5 f80)
  exact L5 (-1 * (0 : Int32).toInt + 4 + 1).toNat 0 0 f_ahead_where f_ahead_worn J s.heap _ _ (ox_27 zc_0) (ox_224 zc_0) ie37 hp0 hP hD hS (lv_sub hl [2, 3, 4, 1, 0] rfl) (mlt (ox_225 zc_0))
