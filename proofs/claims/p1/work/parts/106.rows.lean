set_option maxHeartbeats 4000000 in
set_option maxRecDepth 100000 in
theorem kX6_scan (l : Launch) (dC : Nat → ClassId) (dI : Nat → Nat → Nat) (a0 a2 a3 a4 a1 : Nat) (c1 c2 c3 : ClassId) (sz : Nat) : Met l yX6_scan (.code yX6_scan cX6_scan 5 none :: GW) { frames := 4, cells := 0, slots := 0, locals := 163 } (va_Pc [.ref a0, .ref a1, .int 0] (pW (dC, dI) [(a0, .inr (5, [.ref a2, .ref a3, .ref a4, .int 0, .int 0])), (a1, .inl (c1, 1600, .inl (fun _ => 0))), (a2, .inl (c2, 1601, .inl (fun _ => 0))), (a3, .inl (c3, 1601, .inl (fun _ => 0)))] [(c1, .byte), (c2, .int), (c3, .int)] sz)) (va_Qv (fun _ : Unit => True) (fun (_ : Unit) (t : State) => ∃ (F0 F1 : Nat → Int32), va_P (dC, dI) vwCl [(a0, .inr (5, [.ref a2, .ref a3, .ref a4, .int 1, .int 0])), (a1, .inl (c1, 1600, .inl (fun _ => 0))), (a2, .inl (c2, 1601, .inl F0)), (a3, .inl (c3, 1601, .inl F1))] t.heap ∧ va_D (va_A [(a0, .inr (5, [.ref a2, .ref a3, .ref a4, .int 0, .int 0])), (a1, .inl (c1, 1600, .inl (fun _ => 0))), (a2, .inl (c2, 1601, .inl (fun _ => 0))), (a3, .inl (c3, 1601, .inl (fun _ => 0)))] sz) [(a0, .inr (5, [.ref a2, .ref a3, .ref a4, .int 1, .int 0])), (a1, .inl (c1, 1600, .inl (fun _ => 0))), (a2, .inl (c2, 1601, .inl F0)), (a3, .inl (c3, 1601, .inl F1))] ∧ F0 0 = 1) (va_A [(a0, .inr (5, [.ref a2, .ref a3, .ref a4, .int 0, .int 0])), (a1, .inl (c1, 1600, .inl (fun _ => 0))), (a2, .inl (c2, 1601, .inl (fun _ => 0))), (a3, .inl (c3, 1601, .inl (fun _ => 0)))] sz)) 0 0 (va_A [(a0, .inr (5, [.ref a2, .ref a3, .ref a4, .int 0, .int 0])), (a1, .inl (c1, 1600, .inl (fun _ => 0))), (a2, .inl (c2, 1601, .inl (fun _ => 0))), (a3, .inl (c3, 1601, .inl (fun _ => 0)))] sz) := by
  refine Met.ofW (cc := cX6_scan) (maxL := 5) (ret := none) (by decide) rfl ?_
  intro p e s m args below meth c0 s₁ B hml hv
  obtain ⟨rfl, hsz, hP, hK, hD0⟩ := hv
  have hx := B.exec
  have hb := B.bytes
  have hr := B.returns
  have hts := atoms_spec (ws := .code yX6_scan cX6_scan 5 none :: GW) B.pre
  have hG : ∀ w ∈ GW, w.before _ s = true := fun w h => hts w (List.mem_cons_of_mem _ h)
  have hown : s.vm.findClass RX6 = some m.cls := findClass_of_methodNamed B.named
  have hlocks := B.notSynchronized
  subst hsz
  have hD := hD0.self (sz := s.heap.size)
  generalize hAe : va_A [(a0, .inr (5, [.ref a2, .ref a3, .ref a4, .int 0, .int 0])), (a1, .inl (c1, 1600, .inl (fun _ => 0))), (a2, .inl (c2, 1601, .inl (fun _ => 0))), (a3, .inl (c3, 1601, .inl (fun _ => 0)))] s.heap.size = A at hD ⊢
  have hA : ∀ q : Nat, s.heap.size ≤ q → A q := fun q h => by rw [← hAe]; exact Or.inr h
  have hS : va_S A s.heap s.heap [] := va_S.rf
  have hP : va_P (dC, dI) vwCl [(a0, .inr (5, [.ref a2, .ref a3, .ref a4, .int 0, .int 0])), (a1, .inl (c1, 1600, .inl (fun _ => 0))), (a2, .inl (c2, 1601, .inl (fun _ => 0))), (a3, .inl (c3, 1601, .inl (fun _ => 0)))] s.heap := hP
  have hl := lv_entry ([.ref a0, .ref a1, .int 0]) (n := 5) (Nat.le_of_ble_eq_true rfl)
  rw [lg_entry_eq]
  generalize (lg_sl ([.ref a0, .ref a1, .int 0]) ++ List.replicate (5 - (lg_sl ([.ref a0, .ref a1, .int 0])).length) Slot.unset).toArray = ls at hl ⊢
  have hl : lv_has ls 5 [(0, .ref a0), (1, .ref a1), (2, .int 0)] := hl
  refine lv_aload_n hx hb dX6_scan_0 rfl (lv_at hl 0 rfl) ?_
  refine lv_iconst (v := 0) hx hb dX6_scan_1 (by decide) ?_
  refine va_put (D := (dC, dI)) (ci := 5) (v := .int 0) (ty := .int) (C := RX6) (T := TX6) (N := 5) hx hb hG inX6 tyX6 tyX6_ok nmX6 hown hK hP hD hS 0 rfl rfl 3 (by decide) (hG _ gw172) (fun _ h9 => h9) rfl (by decide +kernel) rfl rfl (Nat.le_of_ble_eq_true rfl) dX6_scan_2 (fun H1 locs hP hD hS => ?_)
  have hP : va_P (dC, dI) vwCl [(a0, .inr (5, [.ref a2, .ref a3, .ref a4, .int 0, .int 0])), (a1, .inl (c1, 1600, .inl (fun _ => 0))), (a2, .inl (c2, 1601, .inl (fun _ => 0))), (a3, .inl (c3, 1601, .inl (fun _ => 0)))] H1 := hP
  have hD : va_D A [(a0, .inr (5, [.ref a2, .ref a3, .ref a4, .int 0, .int 0])), (a1, .inl (c1, 1600, .inl (fun _ => 0))), (a2, .inl (c2, 1601, .inl (fun _ => 0))), (a3, .inl (c3, 1601, .inl (fun _ => 0)))] := hD
  refine lv_aload_n hx hb dX6_scan_5 rfl (lv_at hl 0 rfl) ?_
  refine lv_iconst (v := 0) hx hb dX6_scan_6 (by decide) ?_
  refine va_put (D := (dC, dI)) (ci := 5) (v := .int 0) (ty := .int) (C := RX6) (T := TX6) (N := 5) hx hb hG inX6 tyX6 tyX6_ok nmX6 hown hK hP hD hS 0 rfl rfl 4 (by decide) (hG _ gw173) (fun _ h9 => h9) rfl (by decide +kernel) rfl rfl (Nat.le_of_ble_eq_true rfl) dX6_scan_7 (fun H2 locs hP hD hS => ?_)
  have hP : va_P (dC, dI) vwCl [(a0, .inr (5, [.ref a2, .ref a3, .ref a4, .int 0, .int 0])), (a1, .inl (c1, 1600, .inl (fun _ => 0))), (a2, .inl (c2, 1601, .inl (fun _ => 0))), (a3, .inl (c3, 1601, .inl (fun _ => 0)))] H2 := hP
  have hD : va_D A [(a0, .inr (5, [.ref a2, .ref a3, .ref a4, .int 0, .int 0])), (a1, .inl (c1, 1600, .inl (fun _ => 0))), (a2, .inl (c2, 1601, .inl (fun _ => 0))), (a3, .inl (c3, 1601, .inl (fun _ => 0)))] := hD
  refine lv_iconst (v := 3) hx hb dX6_scan_10 (by decide) ?_
  refine lv_istore_n (lv' := [(3, .int 3), (0, .ref a0), (1, .ref a1), (2, .int 0)]) hx hb dX6_scan_11 rfl hl (by decide) rfl (fun ls hl => ?_)
  refine lv_iconst (v := 0) hx hb dX6_scan_12 (by decide) ?_
  refine lv_istore (lv' := [(4, .int 0), (3, .int 3), (0, .ref a0), (1, .ref a1), (2, .int 0)]) hx hb dX6_scan_13 hl (by decide) rfl (fun ls hl => ?_)
  refine lv_iload hx hb dX6_scan_15 (lv_at hl 0 rfl) ?_
  refine lv_sipush (v := 1600) hx hb dX6_scan_17 (by decide) ?_
  refine lv_icmp_gt (tgt := 66) hx hb dX6_scan_20 (by decide) (fun c_3 => absurd c_3 (by decide)) (fun c_3 => ?_)
  refine lv_iload_n hx hb dX6_scan_23 rfl (lv_at hl 1 rfl) ?_
  refine lv_iconst (v := 1) hx hb dX6_scan_24 (by decide) ?_
  refine lv_icmp_eq (tgt := 66) hx hb dX6_scan_25 (by decide) (fun c_4 => absurd c_4 (by decide)) (fun c_4 => ?_)
  refine lv_iload_n hx hb dX6_scan_28 rfl (lv_at hl 1 rfl) ?_
  refine lv_if_eq (tgt := 66) hx hb dX6_scan_29 (by decide) (fun c_5 => absurd c_5 (by decide)) (fun c_5 => ?_)
  refine lv_aload_n hx hb dX6_scan_32 rfl (lv_at hl 2 rfl) ?_
  refine lv_aload_n hx hb dX6_scan_33 rfl (lv_at hl 3 rfl) ?_
  refine lv_iload_n hx hb dX6_scan_34 rfl (lv_at hl 4 rfl) ?_
  refine lv_aload_n hx hb dX6_scan_35 rfl (lv_at hl 3 rfl) ?_
  refine va_alen (v := 1600) hx hb hK hP 1 0 rfl rfl (show Int32.ofNat 1600 = 1600 by decide) dX6_scan_36 ?_
  refine va_mmin hx hb (hml.trans hl.1.symm) hown (hG _ gw541) (hG _ gw542) (hG _ gw139) (hG _ gw543) (Nat.le_of_ble_eq_true rfl) (Nat.le_of_ble_eq_true rfl) (Nat.le_of_ble_eq_true rfl) (Nat.le_of_ble_eq_true rfl) dX6_scan_37 ?_
  refine wt_c (v := 0) (by decide) ?_
  have hPc := hP.sub (ws' := [(a0, .inr (5, [.ref a2, .ref a3, .ref a4, .int 0, .int 0])), (a3, .inl (c3, 1601, .inl (fun _ => 0)))]) [0, 3] rfl
  have hKc := hK.sub (tys' := [(c3, .int)]) [2] rfl
  have hDc := hD.sub (ws' := [(a0, .inr (5, [.ref a2, .ref a3, .ref a4, .int 0, .int 0])), (a3, .inl (c3, 1601, .inl (fun _ => 0)))]) [0, 3] (by decide) rfl
  have hFc := va_free (wc := [(a0, .inr (5, [.ref a2, .ref a3, .ref a4, .int 0, .int 0])), (a3, .inl (c3, 1601, .inl (fun _ => 0)))]) hD hS hA [0, 3] rfl
  refine va_calli (va_runV (As := [.ref a1, .int 0]) (rest := []) ⟨hx, hb, hml, hown, hG⟩ (kX6_scanToken l dC dI a0 a2 a3 a4 a1 c3 H2.size ) (cwV 2 hG (goodV gw544 gw546 gw3 gw131 gw547) rfl rfl rfl hd_X6_scanToken ⟨(Nat.le_of_ble_eq_true rfl), (Nat.le_of_ble_eq_true rfl)⟩) ⟨fbW, va_recv hKc hPc (ci := 5) (q0 := 0) rfl rfl, pW_in hPc hKc hDc⟩ rfl rfl hl.1 rfl (lv_room (Nat.le_of_ble_eq_true rfl)) dX6_scan_40 ⟨(Nat.le_of_ble_eq_true rfl), (Nat.le_of_ble_eq_true rfl)⟩) hS (fun q _ h => hFc q h) hFc (fun r_7 u t H6 locs ht hvm hw hB hz1 hk1 hS => ?_)
  obtain ⟨zf8, hP1, hD1⟩ := hB
  rw [ht] at hP1
  obtain ⟨hP, hD⟩ := va_join (wr := [(a1, .inl (c1, 1600, .inl (fun _ => 0))), (a2, .inl (c2, 1601, .inl (fun _ => 0)))]) (w1 := [(a0, .inr (5, [.ref a2, .ref a3, .ref a4, .int 0, .int 0])), (a3, .inl (c3, 1601, .inl zf8))]) hP hD [0, 3] [1, 2] rfl rfl (by decide) (by decide) hk1 hFc hP1 hD1
  have hP : va_P (dC, dI) vwCl [(a1, .inl (c1, 1600, .inl (fun _ => 0))), (a2, .inl (c2, 1601, .inl (fun _ => 0))), (a0, .inr (5, [.ref a2, .ref a3, .ref a4, .int 0, .int 0])), (a3, .inl (c3, 1601, .inl zf8))] H6 := hP
  have hD : va_D A [(a1, .inl (c1, 1600, .inl (fun _ => 0))), (a2, .inl (c2, 1601, .inl (fun _ => 0))), (a0, .inr (5, [.ref a2, .ref a3, .ref a4, .int 0, .int 0])), (a3, .inl (c3, 1601, .inl zf8))] := hD
  refine wt_c (v := 1) hw ?_
  refine lv_istore_n (lv' := [(3, .int 1), (4, .int 0), (0, .ref a0), (1, .ref a1), (2, .int 0)]) hx hb dX6_scan_43 rfl hl (by decide) rfl (fun ls hl => ?_)
  refine lv_aload_n hx hb dX6_scan_44 rfl (lv_at hl 2 rfl) ?_
  refine va_get (D := (dC, dI)) (ci := 5) (v := .ref a2) (C := RX6) (T := TX6) (N := 5) hx hb hG inX6 hown hK hP 2 rfl rfl 0 (by decide) (hG _ gw166) (fun _ h9 => h9) rfl dX6_scan_45 ?_
  refine lv_iload hx hb dX6_scan_48 (lv_at hl 1 rfl) ?_
  refine lv_iload_n hx hb dX6_scan_50 rfl (lv_at hl 0 rfl) ?_
  refine va_iast hx hb hK hP hD hS 1 1 rfl rfl (vin (by decide)) dX6_scan_51 (fun H9 locs hP hD hS => ?_)
  obtain ⟨zf10, ezf10⟩ : ∃ z : Nat → Int32, z = upd (fun _ => 0) (0 : Int32).toNatClampNeg 1 := ⟨_, rfl⟩
  have hP : va_P (dC, dI) vwCl [(a1, .inl (c1, 1600, .inl (fun _ => 0))), (a2, .inl (c2, 1601, .inl zf10)), (a0, .inr (5, [.ref a2, .ref a3, .ref a4, .int 0, .int 0])), (a3, .inl (c3, 1601, .inl zf8))] H9 := by rw [ezf10]; exact hP
  have hD : va_D A [(a1, .inl (c1, 1600, .inl (fun _ => 0))), (a2, .inl (c2, 1601, .inl zf10)), (a0, .inr (5, [.ref a2, .ref a3, .ref a4, .int 0, .int 0])), (a3, .inl (c3, 1601, .inl zf8))] := by rw [ezf10]; exact hD
  have g11 : zf10 0 = 1 := ((congrFun ezf10 0).trans ((upd_eq1 (by decide)).trans (by decide)))
  refine lv_aload_n hx hb dX6_scan_52 rfl (lv_at hl 2 rfl) ?_
  refine lv_iload hx hb dX6_scan_53 (lv_at hl 1 rfl) ?_
  refine lv_iconst (v := 1) hx hb dX6_scan_55 (by decide) ?_
  refine lv_iadd hx hb dX6_scan_56 ?_
  refine wt_c (v := 1) (by decide) ?_
  refine va_put (D := (dC, dI)) (ci := 5) (v := .int 1) (ty := .int) (C := RX6) (T := TX6) (N := 5) hx hb hG inX6 tyX6 tyX6_ok nmX6 hown hK hP hD hS 2 rfl rfl 3 (by decide) (hG _ gw172) (fun _ h9 => h9) rfl (by decide +kernel) rfl rfl (Nat.le_of_ble_eq_true rfl) dX6_scan_57 (fun H12 locs hP hD hS => ?_)
  have hP : va_P (dC, dI) vwCl [(a1, .inl (c1, 1600, .inl (fun _ => 0))), (a2, .inl (c2, 1601, .inl zf10)), (a0, .inr (5, [.ref a2, .ref a3, .ref a4, .int 1, .int 0])), (a3, .inl (c3, 1601, .inl zf8))] H12 := hP
  have hD : va_D A [(a1, .inl (c1, 1600, .inl (fun _ => 0))), (a2, .inl (c2, 1601, .inl zf10)), (a0, .inr (5, [.ref a2, .ref a3, .ref a4, .int 1, .int 0])), (a3, .inl (c3, 1601, .inl zf8))] := hD
  refine lv_iinc (v := 1) (lv' := [(4, .int 1), (3, .int 1), (0, .ref a0), (1, .ref a1), (2, .int 0)]) hx hb dX6_scan_60 hl (k := 1) rfl (by decide) (by decide) rfl (fun ls hl => ?_)
  refine lv_goto (tgt := 15) hx hb dX6_scan_63 (by decide) ?_
  refine lv_iload hx hb dX6_scan_15 (lv_at hl 0 rfl) ?_
  refine lv_sipush (v := 1600) hx hb dX6_scan_17 (by decide) ?_
  refine lv_icmp_gt (tgt := 66) hx hb dX6_scan_20 (by decide) (fun c_13 => absurd c_13 (by decide)) (fun c_13 => ?_)
  refine lv_iload_n hx hb dX6_scan_23 rfl (lv_at hl 1 rfl) ?_
  refine lv_iconst (v := 1) hx hb dX6_scan_24 (by decide) ?_
  refine lv_icmp_eq (tgt := 66) hx hb dX6_scan_25 (by decide) (fun c_14 => ?_) (fun c_14 => absurd (by decide) c_14)
  have hP9 := hP.sub (ws' := [(a0, .inr (5, [.ref a2, .ref a3, .ref a4, .int 1, .int 0])), (a1, .inl (c1, 1600, .inl (fun _ => 0))), (a2, .inl (c2, 1601, .inl zf10)), (a3, .inl (c3, 1601, .inl zf8))]) [2, 0, 1, 3] rfl
  have hD9 := hD.sub (ws' := [(a0, .inr (5, [.ref a2, .ref a3, .ref a4, .int 1, .int 0])), (a1, .inl (c1, 1600, .inl (fun _ => 0))), (a2, .inl (c2, 1601, .inl zf10)), (a3, .inl (c3, 1601, .inl zf8))]) [2, 0, 1, 3] (by decide) rfl
  exact W.vret hx hb hr (fun t ht hW => ⟨⟨(), rfl, trivial, ⟨zf10, zf8, by rw [ht]; exact hP9, hD9, g11⟩⟩, hS.F ht⟩) hS.2.2 dX6_scan_66
set_option maxHeartbeats 4000000 in
set_option maxRecDepth 100000 in
theorem kX1_empty_v1 (l : Launch) (dC : Nat → ClassId) (dI : Nat → Nat → Nat) (a0 a1 a2 : Nat) (sz : Nat) : Met l yX1_empty (.code yX1_empty cX1_empty 1 none :: GW) { frames := 2, cells := 0, slots := 0, locals := 100 } (va_Pc [.ref a0] (pW (dC, dI) [(a0, .inr (1, [.ref a1, .int 7, .ref a2]))] [] sz)) (va_Qv (fun _ : Unit => True) (fun (_ : Unit) (t : State) => va_P (dC, dI) vwCl [(a0, .inr (1, [.ref a1, .int 0, .ref a2]))] t.heap ∧ va_D (va_A [(a0, .inr (1, [.ref a1, .int 7, .ref a2]))] sz) [(a0, .inr (1, [.ref a1, .int 0, .ref a2]))]) (va_A [(a0, .inr (1, [.ref a1, .int 7, .ref a2]))] sz)) 0 0 (va_A [(a0, .inr (1, [.ref a1, .int 7, .ref a2]))] sz) := by
  refine Met.ofW (cc := cX1_empty) (maxL := 1) (ret := none) (by decide) rfl ?_
  intro p e s m args below meth c0 s₁ B hml hv
  obtain ⟨rfl, hsz, hP, hK, hD0⟩ := hv
  have hx := B.exec
  have hb := B.bytes
  have hr := B.returns
  have hts := atoms_spec (ws := .code yX1_empty cX1_empty 1 none :: GW) B.pre
  have hG : ∀ w ∈ GW, w.before _ s = true := fun w h => hts w (List.mem_cons_of_mem _ h)
  have hown : s.vm.findClass RX1 = some m.cls := findClass_of_methodNamed B.named
  have hlocks := B.notSynchronized
  subst hsz
  have hD := hD0.self (sz := s.heap.size)
  generalize hAe : va_A [(a0, .inr (1, [.ref a1, .int 7, .ref a2]))] s.heap.size = A at hD ⊢
  have hA : ∀ q : Nat, s.heap.size ≤ q → A q := fun q h => by rw [← hAe]; exact Or.inr h
  have hS : va_S A s.heap s.heap [] := va_S.rf
  have hP : va_P (dC, dI) vwCl [(a0, .inr (1, [.ref a1, .int 7, .ref a2]))] s.heap := hP
  have hl := lv_entry ([.ref a0]) (n := 1) (Nat.le_of_ble_eq_true rfl)
  rw [lg_entry_eq]
  generalize (lg_sl ([.ref a0]) ++ List.replicate (1 - (lg_sl ([.ref a0])).length) Slot.unset).toArray = ls at hl ⊢
  have hl : lv_has ls 1 [(0, .ref a0)] := hl
  refine lv_aload_n hx hb dX1_empty_0 rfl (lv_at hl 0 rfl) ?_
  refine lv_iconst (v := 0) hx hb dX1_empty_1 (by decide) ?_
  refine va_put (D := (dC, dI)) (ci := 1) (v := .int 0) (ty := .int) (C := RX1) (T := TX1) (N := 3) hx hb hG inX1 tyX1 tyX1_ok nmX1 hown hK hP hD hS 0 rfl rfl 1 (by decide) (hG _ gw201) (fun _ h9 => h9) rfl (by decide +kernel) rfl rfl (Nat.le_of_ble_eq_true rfl) dX1_empty_2 (fun H1 locs hP hD hS => ?_)
  have hP : va_P (dC, dI) vwCl [(a0, .inr (1, [.ref a1, .int 0, .ref a2]))] H1 := hP
  have hD : va_D A [(a0, .inr (1, [.ref a1, .int 0, .ref a2]))] := hD
  have hP9 := hP.sub (ws' := [(a0, .inr (1, [.ref a1, .int 0, .ref a2]))]) [0] rfl
  have hD9 := hD.sub (ws' := [(a0, .inr (1, [.ref a1, .int 0, .ref a2]))]) [0] (by decide) rfl
  exact W.vret hx hb hr (fun t ht hW => ⟨⟨(), rfl, trivial, ⟨by rw [ht]; exact hP9, hD9⟩⟩, hS.F ht⟩) hS.2.2 dX1_empty_5
set_option maxHeartbeats 4000000 in
set_option maxRecDepth 100000 in
theorem kX1_addStep_v7 (l : Launch) (dC : Nat → ClassId) (dI : Nat → Nat → Nat) (a0 a1 a2 : Nat) (c1 : ClassId) (f1 : Nat → Int32) (sz : Nat) : Met l yX1_addStep (.code yX1_addStep cX1_addStep 2 none :: GW) { frames := 2, cells := 0, slots := 0, locals := 100 } (va_Pc [.ref a0, .int 10000] (pW (dC, dI) [(a0, .inr (1, [.ref a1, .int 0, .ref a2])), (a1, .inl (c1, 300, .inl f1))] [(c1, .int)] sz)) (va_Qv (fun _ : Unit => True) (fun (_ : Unit) (t : State) => ∃ (F0 : Nat → Int32), va_P (dC, dI) vwCl [(a0, .inr (1, [.ref a1, .int 1, .ref a2])), (a1, .inl (c1, 300, .inl F0))] t.heap ∧ va_D (va_A [(a0, .inr (1, [.ref a1, .int 0, .ref a2])), (a1, .inl (c1, 300, .inl f1))] sz) [(a0, .inr (1, [.ref a1, .int 1, .ref a2])), (a1, .inl (c1, 300, .inl F0))]) (va_A [(a0, .inr (1, [.ref a1, .int 0, .ref a2])), (a1, .inl (c1, 300, .inl f1))] sz)) 0 0 (va_A [(a0, .inr (1, [.ref a1, .int 0, .ref a2])), (a1, .inl (c1, 300, .inl f1))] sz) := by
  refine Met.ofW (cc := cX1_addStep) (maxL := 2) (ret := none) (by decide) rfl ?_
  intro p e s m args below meth c0 s₁ B hml hv
  obtain ⟨rfl, hsz, hP, hK, hD0⟩ := hv
  have hx := B.exec
  have hb := B.bytes
  have hr := B.returns
  have hts := atoms_spec (ws := .code yX1_addStep cX1_addStep 2 none :: GW) B.pre
  have hG : ∀ w ∈ GW, w.before _ s = true := fun w h => hts w (List.mem_cons_of_mem _ h)
  have hown : s.vm.findClass RX1 = some m.cls := findClass_of_methodNamed B.named
  have hlocks := B.notSynchronized
  subst hsz
  have hD := hD0.self (sz := s.heap.size)
  generalize hAe : va_A [(a0, .inr (1, [.ref a1, .int 0, .ref a2])), (a1, .inl (c1, 300, .inl f1))] s.heap.size = A at hD ⊢
  have hA : ∀ q : Nat, s.heap.size ≤ q → A q := fun q h => by rw [← hAe]; exact Or.inr h
  have hS : va_S A s.heap s.heap [] := va_S.rf
  have hP : va_P (dC, dI) vwCl [(a0, .inr (1, [.ref a1, .int 0, .ref a2])), (a1, .inl (c1, 300, .inl f1))] s.heap := hP
  have hl := lv_entry ([.ref a0, .int 10000]) (n := 2) (Nat.le_of_ble_eq_true rfl)
  rw [lg_entry_eq]
  generalize (lg_sl ([.ref a0, .int 10000]) ++ List.replicate (2 - (lg_sl ([.ref a0, .int 10000])).length) Slot.unset).toArray = ls at hl ⊢
  have hl : lv_has ls 2 [(0, .ref a0), (1, .int 10000)] := hl
  refine lv_aload_n hx hb dX1_addStep_0 rfl (lv_at hl 0 rfl) ?_
  refine va_get (D := (dC, dI)) (ci := 1) (v := .int 0) (C := RX1) (T := TX1) (N := 3) hx hb hG inX1 hown hK hP 0 rfl rfl 1 (by decide) (hG _ gw201) (fun _ h9 => h9) rfl dX1_addStep_1 ?_
  refine lv_sipush (v := 300) hx hb dX1_addStep_4 (by decide) ?_
  refine lv_icmp_ge (tgt := 30) hx hb dX1_addStep_7 (by decide) (fun c_1 => absurd c_1 (by decide)) (fun c_1 => ?_)
  refine lv_aload_n hx hb dX1_addStep_10 rfl (lv_at hl 0 rfl) ?_
  refine va_get (D := (dC, dI)) (ci := 1) (v := .ref a1) (C := RX1) (T := TX1) (N := 3) hx hb hG inX1 hown hK hP 0 rfl rfl 0 (by decide) (hG _ gw200) (fun _ h9 => h9) rfl dX1_addStep_11 ?_
  refine lv_aload_n hx hb dX1_addStep_14 rfl (lv_at hl 0 rfl) ?_
  refine va_get (D := (dC, dI)) (ci := 1) (v := .int 0) (C := RX1) (T := TX1) (N := 3) hx hb hG inX1 hown hK hP 0 rfl rfl 1 (by decide) (hG _ gw201) (fun _ h9 => h9) rfl dX1_addStep_15 ?_
  refine lv_iload_n hx hb dX1_addStep_18 rfl (lv_at hl 1 rfl) ?_
  refine va_iast hx hb hK hP hD hS 1 0 rfl rfl (vin (by decide)) dX1_addStep_19 (fun H2 locs hP hD hS => ?_)
  obtain ⟨zf3, ezf3⟩ : ∃ z : Nat → Int32, z = upd f1 (0 : Int32).toNatClampNeg 10000 := ⟨_, rfl⟩
  have hP : va_P (dC, dI) vwCl [(a0, .inr (1, [.ref a1, .int 0, .ref a2])), (a1, .inl (c1, 300, .inl zf3))] H2 := by rw [ezf3]; exact hP
  have hD : va_D A [(a0, .inr (1, [.ref a1, .int 0, .ref a2])), (a1, .inl (c1, 300, .inl zf3))] := by rw [ezf3]; exact hD
  refine lv_aload_n hx hb dX1_addStep_20 rfl (lv_at hl 0 rfl) ?_
  refine lv_dup hx hb dX1_addStep_21 rfl ?_
  refine va_get (D := (dC, dI)) (ci := 1) (v := .int 0) (C := RX1) (T := TX1) (N := 3) hx hb hG inX1 hown hK hP 0 rfl rfl 1 (by decide) (hG _ gw201) (fun _ h9 => h9) rfl dX1_addStep_22 ?_
  refine lv_iconst (v := 1) hx hb dX1_addStep_25 (by decide) ?_
  refine lv_iadd hx hb dX1_addStep_26 ?_
  refine wt_c (v := 1) (by decide) ?_
  refine va_put (D := (dC, dI)) (ci := 1) (v := .int 1) (ty := .int) (C := RX1) (T := TX1) (N := 3) hx hb hG inX1 tyX1 tyX1_ok nmX1 hown hK hP hD hS 0 rfl rfl 1 (by decide) (hG _ gw201) (fun _ h9 => h9) rfl (by decide +kernel) rfl rfl (Nat.le_of_ble_eq_true rfl) dX1_addStep_27 (fun H4 locs hP hD hS => ?_)
  have hP : va_P (dC, dI) vwCl [(a0, .inr (1, [.ref a1, .int 1, .ref a2])), (a1, .inl (c1, 300, .inl zf3))] H4 := hP
  have hD : va_D A [(a0, .inr (1, [.ref a1, .int 1, .ref a2])), (a1, .inl (c1, 300, .inl zf3))] := hD
  have hP9 := hP.sub (ws' := [(a0, .inr (1, [.ref a1, .int 1, .ref a2])), (a1, .inl (c1, 300, .inl zf3))]) [0, 1] rfl
  have hD9 := hD.sub (ws' := [(a0, .inr (1, [.ref a1, .int 1, .ref a2])), (a1, .inl (c1, 300, .inl zf3))]) [0, 1] (by decide) rfl
  exact W.vret hx hb hr (fun t ht hW => ⟨⟨(), rfl, trivial, ⟨zf3, by rw [ht]; exact hP9, hD9⟩⟩, hS.F ht⟩) hS.2.2 dX1_addStep_30
set_option maxHeartbeats 4000000 in
set_option maxRecDepth 100000 in
theorem kX1_addFact_v3 (l : Launch) (dC : Nat → ClassId) (dI : Nat → Nat → Nat) (a0 a1 a2 : Nat) (c1 : ClassId) (f1 : Nat → Int32) (sz : Nat) : Met l yX1_addFact (.code yX1_addFact cX1_addFact 2 none :: GW) { frames := 4, cells := 0, slots := 0, locals := 161 } (va_Pc [.ref a0, .int 112] (pW (dC, dI) [(a0, .inr (1, [.ref a1, .int 0, .ref a2])), (a1, .inl (c1, 300, .inl f1))] [(c1, .int)] sz)) (va_Qv (fun _ : Unit => True) (fun (_ : Unit) (t : State) => ∃ (F0 : Nat → Int32), va_P (dC, dI) vwCl [(a0, .inr (1, [.ref a1, .int 1, .ref a2])), (a1, .inl (c1, 300, .inl F0))] t.heap ∧ va_D (va_A [(a0, .inr (1, [.ref a1, .int 0, .ref a2])), (a1, .inl (c1, 300, .inl f1))] sz) [(a0, .inr (1, [.ref a1, .int 1, .ref a2])), (a1, .inl (c1, 300, .inl F0))]) (va_A [(a0, .inr (1, [.ref a1, .int 0, .ref a2])), (a1, .inl (c1, 300, .inl f1))] sz)) 0 0 (va_A [(a0, .inr (1, [.ref a1, .int 0, .ref a2])), (a1, .inl (c1, 300, .inl f1))] sz) := by
  refine Met.ofW (cc := cX1_addFact) (maxL := 2) (ret := none) (by decide) rfl ?_
  intro p e s m args below meth c0 s₁ B hml hv
  obtain ⟨rfl, hsz, hP, hK, hD0⟩ := hv
  have hx := B.exec
  have hb := B.bytes
  have hr := B.returns
  have hts := atoms_spec (ws := .code yX1_addFact cX1_addFact 2 none :: GW) B.pre
  have hG : ∀ w ∈ GW, w.before _ s = true := fun w h => hts w (List.mem_cons_of_mem _ h)
  have hown : s.vm.findClass RX1 = some m.cls := findClass_of_methodNamed B.named
  have hlocks := B.notSynchronized
  subst hsz
  have hD := hD0.self (sz := s.heap.size)
  generalize hAe : va_A [(a0, .inr (1, [.ref a1, .int 0, .ref a2])), (a1, .inl (c1, 300, .inl f1))] s.heap.size = A at hD ⊢
  have hA : ∀ q : Nat, s.heap.size ≤ q → A q := fun q h => by rw [← hAe]; exact Or.inr h
  have hS : va_S A s.heap s.heap [] := va_S.rf
  have hP : va_P (dC, dI) vwCl [(a0, .inr (1, [.ref a1, .int 0, .ref a2])), (a1, .inl (c1, 300, .inl f1))] s.heap := hP
  have hl := lv_entry ([.ref a0, .int 112]) (n := 2) (Nat.le_of_ble_eq_true rfl)
  rw [lg_entry_eq]
  generalize (lg_sl ([.ref a0, .int 112]) ++ List.replicate (2 - (lg_sl ([.ref a0, .int 112])).length) Slot.unset).toArray = ls at hl ⊢
  have hl : lv_has ls 2 [(0, .ref a0), (1, .int 112)] := hl
  refine lv_aload_n hx hb dX1_addFact_0 rfl (lv_at hl 0 rfl) ?_
  refine lv_sipush (v := 10000) hx hb dX1_addFact_1 (by decide) ?_
  refine lv_iload_n hx hb dX1_addFact_4 rfl (lv_at hl 1 rfl) ?_
  refine lv_iadd hx hb dX1_addFact_5 ?_
  refine wt_c (v := 10112) (by decide) ?_
  refine lv_bipush (v := 112) hx hb dX1_addFact_6 (by decide) ?_
  refine lv_isub hx hb dX1_addFact_8 ?_
  refine wt_c (v := 10000) (by decide) ?_
  have hPc := hP.sub (ws' := [(a0, .inr (1, [.ref a1, .int 0, .ref a2])), (a1, .inl (c1, 300, .inl f1))]) [0, 1] rfl
  have hKc := hK.sub (tys' := [(c1, .int)]) [0] rfl
  have hDc := hD.sub (ws' := [(a0, .inr (1, [.ref a1, .int 0, .ref a2])), (a1, .inl (c1, 300, .inl f1))]) [0, 1] (by decide) rfl
  have hFc := va_free (wc := [(a0, .inr (1, [.ref a1, .int 0, .ref a2])), (a1, .inl (c1, 300, .inl f1))]) hD hS hA [0, 1] rfl
  refine va_callv (va_runV (As := [.int 10000]) (rest := []) ⟨hx, hb, hml, hown, hG⟩ (kX1_addStep_v7 l dC dI a0 a1 a2 c1 f1 s.heap.size ) (cwV 1 hG (goodV gw222 gw224 gw1 gw133 gw225) rfl rfl rfl hd_X1_addStep ⟨(Nat.le_of_ble_eq_true rfl), (Nat.le_of_ble_eq_true rfl)⟩) ⟨fbW, va_recv hKc hPc (ci := 1) (q0 := 0) rfl rfl, pW_in hPc hKc hDc⟩ rfl rfl hl.1 rfl (lv_room (Nat.le_of_ble_eq_true rfl)) dX1_addFact_9 ⟨(Nat.le_of_ble_eq_true rfl), (Nat.le_of_ble_eq_true rfl)⟩) hS (fun q _ h => hFc q h) hFc (fun u t H1 locs ht hvm hw hB hz1 hk1 hS => ?_)
  obtain ⟨zf3, hP1, hD1⟩ := hB
  rw [ht] at hP1
  obtain ⟨hP, hD⟩ := va_join (wr := []) (w1 := [(a0, .inr (1, [.ref a1, .int 1, .ref a2])), (a1, .inl (c1, 300, .inl zf3))]) hP hD [0, 1] [] rfl rfl (by decide) (by decide) hk1 hFc hP1 hD1
  have hP : va_P (dC, dI) vwCl [(a0, .inr (1, [.ref a1, .int 1, .ref a2])), (a1, .inl (c1, 300, .inl zf3))] H1 := hP
  have hD : va_D A [(a0, .inr (1, [.ref a1, .int 1, .ref a2])), (a1, .inl (c1, 300, .inl zf3))] := hD
  have hP9 := hP.sub (ws' := [(a0, .inr (1, [.ref a1, .int 1, .ref a2])), (a1, .inl (c1, 300, .inl zf3))]) [0, 1] rfl
  have hD9 := hD.sub (ws' := [(a0, .inr (1, [.ref a1, .int 1, .ref a2])), (a1, .inl (c1, 300, .inl zf3))]) [0, 1] (by decide) rfl
  exact W.vret hx hb hr (fun t ht hW => ⟨⟨(), rfl, trivial, ⟨zf3, by rw [ht]; exact hP9, hD9⟩⟩, hS.F ht⟩) hS.2.2 dX1_addFact_12
set_option maxHeartbeats 4000000 in
set_option maxRecDepth 100000 in
theorem kX4_tellUsualGladness_v1 (l : Launch) (dC : Nat → ClassId) (dI : Nat → Nat → Nat) (a0 a1 a2 a3 a4 a5 a6 a7 a8 a9 a10 : Nat) (c9 : ClassId) (f9 : Nat → Int32) (sz : Nat) : Met l yX4_tellUsualGladness (.code yX4_tellUsualGladness cX4_tellUsualGladness 1 none :: GW) { frames := 6, cells := 0, slots := 0, locals := 222 } (va_Pc [.ref a0] (pW (dC, dI) [(a0, .inr (3, [.int 1, .int 0, .int 0, .int 0, .ref a1, .ref a2, .ref a3, .int 0, .ref a4, .ref a5, .ref a6, .int 0, .ref a7, .ref a8])), (a7, .inr (1, [.ref a9, .int 7, .ref a10])), (a9, .inl (c9, 300, .inl f9))] [(c9, .int)] sz)) (va_Qv (fun _ : Unit => True) (fun (_ : Unit) (t : State) => ∃ (F0 : Nat → Int32), va_P (dC, dI) vwCl [(a0, .inr (3, [.int 1, .int 0, .int 0, .int 0, .ref a1, .ref a2, .ref a3, .int 0, .ref a4, .ref a5, .ref a6, .int 0, .ref a7, .ref a8])), (a7, .inr (1, [.ref a9, .int 7, .ref a10])), (a9, .inl (c9, 300, .inl F0))] t.heap ∧ va_D (va_A [(a0, .inr (3, [.int 1, .int 0, .int 0, .int 0, .ref a1, .ref a2, .ref a3, .int 0, .ref a4, .ref a5, .ref a6, .int 0, .ref a7, .ref a8])), (a7, .inr (1, [.ref a9, .int 7, .ref a10])), (a9, .inl (c9, 300, .inl f9))] sz) [(a0, .inr (3, [.int 1, .int 0, .int 0, .int 0, .ref a1, .ref a2, .ref a3, .int 0, .ref a4, .ref a5, .ref a6, .int 0, .ref a7, .ref a8])), (a7, .inr (1, [.ref a9, .int 7, .ref a10])), (a9, .inl (c9, 300, .inl F0))]) (va_A [(a0, .inr (3, [.int 1, .int 0, .int 0, .int 0, .ref a1, .ref a2, .ref a3, .int 0, .ref a4, .ref a5, .ref a6, .int 0, .ref a7, .ref a8])), (a7, .inr (1, [.ref a9, .int 7, .ref a10])), (a9, .inl (c9, 300, .inl f9))] sz)) 0 0 (va_A [(a0, .inr (3, [.int 1, .int 0, .int 0, .int 0, .ref a1, .ref a2, .ref a3, .int 0, .ref a4, .ref a5, .ref a6, .int 0, .ref a7, .ref a8])), (a7, .inr (1, [.ref a9, .int 7, .ref a10])), (a9, .inl (c9, 300, .inl f9))] sz) := by
  refine Met.ofW (cc := cX4_tellUsualGladness) (maxL := 1) (ret := none) (by decide) rfl ?_
  intro p e s m args below meth c0 s₁ B hml hv
  obtain ⟨rfl, hsz, hP, hK, hD0⟩ := hv
  have hx := B.exec
  have hb := B.bytes
  have hr := B.returns
  have hts := atoms_spec (ws := .code yX4_tellUsualGladness cX4_tellUsualGladness 1 none :: GW) B.pre
  have hG : ∀ w ∈ GW, w.before _ s = true := fun w h => hts w (List.mem_cons_of_mem _ h)
  have hown : s.vm.findClass RX4 = some m.cls := findClass_of_methodNamed B.named
  have hlocks := B.notSynchronized
  subst hsz
  have hD := hD0.self (sz := s.heap.size)
  generalize hAe : va_A [(a0, .inr (3, [.int 1, .int 0, .int 0, .int 0, .ref a1, .ref a2, .ref a3, .int 0, .ref a4, .ref a5, .ref a6, .int 0, .ref a7, .ref a8])), (a7, .inr (1, [.ref a9, .int 7, .ref a10])), (a9, .inl (c9, 300, .inl f9))] s.heap.size = A at hD ⊢
  have hA : ∀ q : Nat, s.heap.size ≤ q → A q := fun q h => by rw [← hAe]; exact Or.inr h
  have hS : va_S A s.heap s.heap [] := va_S.rf
  have hP : va_P (dC, dI) vwCl [(a0, .inr (3, [.int 1, .int 0, .int 0, .int 0, .ref a1, .ref a2, .ref a3, .int 0, .ref a4, .ref a5, .ref a6, .int 0, .ref a7, .ref a8])), (a7, .inr (1, [.ref a9, .int 7, .ref a10])), (a9, .inl (c9, 300, .inl f9))] s.heap := hP
  have hl := lv_entry ([.ref a0]) (n := 1) (Nat.le_of_ble_eq_true rfl)
  rw [lg_entry_eq]
  generalize (lg_sl ([.ref a0]) ++ List.replicate (1 - (lg_sl ([.ref a0])).length) Slot.unset).toArray = ls at hl ⊢
  have hl : lv_has ls 1 [(0, .ref a0)] := hl
  refine lv_aload_n hx hb dX4_tellUsualGladness_0 rfl (lv_at hl 0 rfl) ?_
  refine va_get (D := (dC, dI)) (ci := 3) (v := .ref a7) (C := RX4) (T := TX4) (N := 14) hx hb hG inX4 hown hK hP 0 rfl rfl 12 (by decide) (hG _ gw272) (fun _ h9 => h9) rfl dX4_tellUsualGladness_1 ?_
  have hPc := hP.sub (ws' := [(a7, .inr (1, [.ref a9, .int 7, .ref a10]))]) [1] rfl
  have hKc := hK.sub (tys' := []) [] rfl
  have hDc := hD.sub (ws' := [(a7, .inr (1, [.ref a9, .int 7, .ref a10]))]) [1] (by decide) rfl
  have hFc := va_free (wc := [(a7, .inr (1, [.ref a9, .int 7, .ref a10]))]) hD hS hA [1] rfl
  refine va_callv (va_runV (As := []) (rest := []) ⟨hx, hb, hml, hown, hG⟩ (kX1_empty_v1 l dC dI a7 a9 a10 s.heap.size ) (cwV 0 hG (goodV gw214 gw215 gw216 gw133 gw217) rfl rfl rfl hd_X1_empty ⟨(Nat.le_of_ble_eq_true rfl), (Nat.le_of_ble_eq_true rfl)⟩) ⟨fbW, va_recv hKc hPc (ci := 1) (q0 := 0) rfl rfl, pW_in hPc hKc hDc⟩ rfl rfl hl.1 rfl (lv_room (Nat.le_of_ble_eq_true rfl)) dX4_tellUsualGladness_4 ⟨(Nat.le_of_ble_eq_true rfl), (Nat.le_of_ble_eq_true rfl)⟩) hS (fun q _ h => hFc q h) hFc (fun u t H1 locs ht hvm hw hB hz1 hk1 hS => ?_)
  obtain ⟨hP1, hD1⟩ := hB
  rw [ht] at hP1
  obtain ⟨hP, hD⟩ := va_join (wr := [(a0, .inr (3, [.int 1, .int 0, .int 0, .int 0, .ref a1, .ref a2, .ref a3, .int 0, .ref a4, .ref a5, .ref a6, .int 0, .ref a7, .ref a8])), (a9, .inl (c9, 300, .inl f9))]) (w1 := [(a7, .inr (1, [.ref a9, .int 0, .ref a10]))]) hP hD [1] [0, 2] rfl rfl (by decide) (by decide) hk1 hFc hP1 hD1
  have hP : va_P (dC, dI) vwCl [(a0, .inr (3, [.int 1, .int 0, .int 0, .int 0, .ref a1, .ref a2, .ref a3, .int 0, .ref a4, .ref a5, .ref a6, .int 0, .ref a7, .ref a8])), (a9, .inl (c9, 300, .inl f9)), (a7, .inr (1, [.ref a9, .int 0, .ref a10]))] H1 := hP
  have hD : va_D A [(a0, .inr (3, [.int 1, .int 0, .int 0, .int 0, .ref a1, .ref a2, .ref a3, .int 0, .ref a4, .ref a5, .ref a6, .int 0, .ref a7, .ref a8])), (a9, .inl (c9, 300, .inl f9)), (a7, .inr (1, [.ref a9, .int 0, .ref a10]))] := hD
  refine lv_aload_n hx hb dX4_tellUsualGladness_7 rfl (lv_at hl 0 rfl) ?_
  refine va_get (D := (dC, dI)) (ci := 3) (v := .ref a7) (C := RX4) (T := TX4) (N := 14) hx hb hG inX4 hown hK hP 0 rfl rfl 12 (by decide) (hG _ gw272) (fun _ h9 => h9) rfl dX4_tellUsualGladness_8 ?_
  refine lv_bipush (v := 112) hx hb dX4_tellUsualGladness_11 (by decide) ?_
  have hPc := hP.sub (ws' := [(a7, .inr (1, [.ref a9, .int 0, .ref a10])), (a9, .inl (c9, 300, .inl f9))]) [2, 1] rfl
  have hKc := hK.sub (tys' := [(c9, .int)]) [0] rfl
  have hDc := hD.sub (ws' := [(a7, .inr (1, [.ref a9, .int 0, .ref a10])), (a9, .inl (c9, 300, .inl f9))]) [2, 1] (by decide) rfl
  have hFc := va_free (wc := [(a7, .inr (1, [.ref a9, .int 0, .ref a10])), (a9, .inl (c9, 300, .inl f9))]) hD hS hA [2, 1] rfl
  refine va_callv (va_runV (As := [.int 112]) (rest := []) ⟨hx, hb, hml, hown, hG⟩ (kX1_addFact_v3 l dC dI a7 a9 a10 c9 f9 H1.size ) (cwV 1 hG (goodV gw218 gw219 gw220 gw133 gw221) rfl rfl rfl hd_X1_addFact ⟨(Nat.le_of_ble_eq_true rfl), (Nat.le_of_ble_eq_true rfl)⟩) ⟨fbW, va_recv hKc hPc (ci := 1) (q0 := 0) rfl rfl, pW_in hPc hKc hDc⟩ rfl rfl hl.1 rfl (lv_room (Nat.le_of_ble_eq_true rfl)) dX4_tellUsualGladness_13 ⟨(Nat.le_of_ble_eq_true rfl), (Nat.le_of_ble_eq_true rfl)⟩) hS (fun q _ h => hFc q h) hFc (fun u t H3 locs ht hvm hw hB hz1 hk1 hS => ?_)
  obtain ⟨zf5, hP1, hD1⟩ := hB
  rw [ht] at hP1
  obtain ⟨hP, hD⟩ := va_join (wr := [(a0, .inr (3, [.int 1, .int 0, .int 0, .int 0, .ref a1, .ref a2, .ref a3, .int 0, .ref a4, .ref a5, .ref a6, .int 0, .ref a7, .ref a8]))]) (w1 := [(a7, .inr (1, [.ref a9, .int 1, .ref a10])), (a9, .inl (c9, 300, .inl zf5))]) hP hD [2, 1] [0] rfl rfl (by decide) (by decide) hk1 hFc hP1 hD1
  have hP : va_P (dC, dI) vwCl [(a0, .inr (3, [.int 1, .int 0, .int 0, .int 0, .ref a1, .ref a2, .ref a3, .int 0, .ref a4, .ref a5, .ref a6, .int 0, .ref a7, .ref a8])), (a7, .inr (1, [.ref a9, .int 1, .ref a10])), (a9, .inl (c9, 300, .inl zf5))] H3 := hP
  have hD : va_D A [(a0, .inr (3, [.int 1, .int 0, .int 0, .int 0, .ref a1, .ref a2, .ref a3, .int 0, .ref a4, .ref a5, .ref a6, .int 0, .ref a7, .ref a8])), (a7, .inr (1, [.ref a9, .int 1, .ref a10])), (a9, .inl (c9, 300, .inl zf5))] := hD
  refine lv_aload_n hx hb dX4_tellUsualGladness_16 rfl (lv_at hl 0 rfl) ?_
  refine va_get (D := (dC, dI)) (ci := 3) (v := .ref a7) (C := RX4) (T := TX4) (N := 14) hx hb hG inX4 hown hK hP 0 rfl rfl 12 (by decide) (hG _ gw272) (fun _ h9 => h9) rfl dX4_tellUsualGladness_17 ?_
  refine lv_bipush (v := 113) hx hb dX4_tellUsualGladness_20 (by decide) ?_
  have hPc := hP.sub (ws' := [(a7, .inr (1, [.ref a9, .int 1, .ref a10])), (a9, .inl (c9, 300, .inl zf5))]) [1, 2] rfl
  have hKc := hK.sub (tys' := [(c9, .int)]) [0] rfl
  have hDc := hD.sub (ws' := [(a7, .inr (1, [.ref a9, .int 1, .ref a10])), (a9, .inl (c9, 300, .inl zf5))]) [1, 2] (by decide) rfl
  have hFc := va_free (wc := [(a7, .inr (1, [.ref a9, .int 1, .ref a10])), (a9, .inl (c9, 300, .inl zf5))]) hD hS hA [1, 2] rfl
  refine va_callv (va_runV (As := [.int 113]) (rest := []) ⟨hx, hb, hml, hown, hG⟩ (kX1_addFact_v1 l dC dI a7 a9 a10 c9 zf5 H3.size ) (cwV 1 hG (goodV gw218 gw219 gw220 gw133 gw221) rfl rfl rfl hd_X1_addFact ⟨(Nat.le_of_ble_eq_true rfl), (Nat.le_of_ble_eq_true rfl)⟩) ⟨fbW, va_recv hKc hPc (ci := 1) (q0 := 0) rfl rfl, pW_in hPc hKc hDc⟩ rfl rfl hl.1 rfl (lv_room (Nat.le_of_ble_eq_true rfl)) dX4_tellUsualGladness_22 ⟨(Nat.le_of_ble_eq_true rfl), (Nat.le_of_ble_eq_true rfl)⟩) hS (fun q _ h => hFc q h) hFc (fun u t H6 locs ht hvm hw hB hz1 hk1 hS => ?_)
  obtain ⟨zf8, hP1, hD1⟩ := hB
  rw [ht] at hP1
  obtain ⟨hP, hD⟩ := va_join (wr := [(a0, .inr (3, [.int 1, .int 0, .int 0, .int 0, .ref a1, .ref a2, .ref a3, .int 0, .ref a4, .ref a5, .ref a6, .int 0, .ref a7, .ref a8]))]) (w1 := [(a7, .inr (1, [.ref a9, .int 2, .ref a10])), (a9, .inl (c9, 300, .inl zf8))]) hP hD [1, 2] [0] rfl rfl (by decide) (by decide) hk1 hFc hP1 hD1
  have hP : va_P (dC, dI) vwCl [(a0, .inr (3, [.int 1, .int 0, .int 0, .int 0, .ref a1, .ref a2, .ref a3, .int 0, .ref a4, .ref a5, .ref a6, .int 0, .ref a7, .ref a8])), (a7, .inr (1, [.ref a9, .int 2, .ref a10])), (a9, .inl (c9, 300, .inl zf8))] H6 := hP
  have hD : va_D A [(a0, .inr (3, [.int 1, .int 0, .int 0, .int 0, .ref a1, .ref a2, .ref a3, .int 0, .ref a4, .ref a5, .ref a6, .int 0, .ref a7, .ref a8])), (a7, .inr (1, [.ref a9, .int 2, .ref a10])), (a9, .inl (c9, 300, .inl zf8))] := hD
  refine lv_aload_n hx hb dX4_tellUsualGladness_25 rfl (lv_at hl 0 rfl) ?_
  refine va_get (D := (dC, dI)) (ci := 3) (v := .ref a7) (C := RX4) (T := TX4) (N := 14) hx hb hG inX4 hown hK hP 0 rfl rfl 12 (by decide) (hG _ gw272) (fun _ h9 => h9) rfl dX4_tellUsualGladness_26 ?_
  refine lv_iconst (v := 3) hx hb dX4_tellUsualGladness_29 (by decide) ?_
  have hPc := hP.sub (ws' := [(a7, .inr (1, [.ref a9, .int 2, .ref a10])), (a9, .inl (c9, 300, .inl zf8))]) [1, 2] rfl
  have hKc := hK.sub (tys' := [(c9, .int)]) [0] rfl
  have hDc := hD.sub (ws' := [(a7, .inr (1, [.ref a9, .int 2, .ref a10])), (a9, .inl (c9, 300, .inl zf8))]) [1, 2] (by decide) rfl
  have hFc := va_free (wc := [(a7, .inr (1, [.ref a9, .int 2, .ref a10])), (a9, .inl (c9, 300, .inl zf8))]) hD hS hA [1, 2] rfl
  refine va_callv (va_runV (As := [.int 3]) (rest := []) ⟨hx, hb, hml, hown, hG⟩ (kX1_addNumber l dC dI a7 a9 a10 c9 zf8 H6.size ) (cwV 1 hG (goodV gw226 gw227 gw228 gw133 gw229) rfl rfl rfl hd_X1_addNumber ⟨(Nat.le_of_ble_eq_true rfl), (Nat.le_of_ble_eq_true rfl)⟩) ⟨fbW, va_recv hKc hPc (ci := 1) (q0 := 0) rfl rfl, pW_in hPc hKc hDc⟩ rfl rfl hl.1 rfl (lv_room (Nat.le_of_ble_eq_true rfl)) dX4_tellUsualGladness_30 ⟨(Nat.le_of_ble_eq_true rfl), (Nat.le_of_ble_eq_true rfl)⟩) hS (fun q _ h => hFc q h) hFc (fun u t H9 locs ht hvm hw hB hz1 hk1 hS => ?_)
  obtain ⟨zf11, hP1, hD1⟩ := hB
  rw [ht] at hP1
  obtain ⟨hP, hD⟩ := va_join (wr := [(a0, .inr (3, [.int 1, .int 0, .int 0, .int 0, .ref a1, .ref a2, .ref a3, .int 0, .ref a4, .ref a5, .ref a6, .int 0, .ref a7, .ref a8]))]) (w1 := [(a7, .inr (1, [.ref a9, .int 3, .ref a10])), (a9, .inl (c9, 300, .inl zf11))]) hP hD [1, 2] [0] rfl rfl (by decide) (by decide) hk1 hFc hP1 hD1
  have hP : va_P (dC, dI) vwCl [(a0, .inr (3, [.int 1, .int 0, .int 0, .int 0, .ref a1, .ref a2, .ref a3, .int 0, .ref a4, .ref a5, .ref a6, .int 0, .ref a7, .ref a8])), (a7, .inr (1, [.ref a9, .int 3, .ref a10])), (a9, .inl (c9, 300, .inl zf11))] H9 := hP
  have hD : va_D A [(a0, .inr (3, [.int 1, .int 0, .int 0, .int 0, .ref a1, .ref a2, .ref a3, .int 0, .ref a4, .ref a5, .ref a6, .int 0, .ref a7, .ref a8])), (a7, .inr (1, [.ref a9, .int 3, .ref a10])), (a9, .inl (c9, 300, .inl zf11))] := hD
  refine lv_aload_n hx hb dX4_tellUsualGladness_33 rfl (lv_at hl 0 rfl) ?_
  refine va_get (D := (dC, dI)) (ci := 3) (v := .ref a7) (C := RX4) (T := TX4) (N := 14) hx hb hG inX4 hown hK hP 0 rfl rfl 12 (by decide) (hG _ gw272) (fun _ h9 => h9) rfl dX4_tellUsualGladness_34 ?_
  refine lv_bipush (v := 42) hx hb dX4_tellUsualGladness_37 (by decide) ?_
  have hPc := hP.sub (ws' := [(a7, .inr (1, [.ref a9, .int 3, .ref a10])), (a9, .inl (c9, 300, .inl zf11))]) [1, 2] rfl
  have hKc := hK.sub (tys' := [(c9, .int)]) [0] rfl
  have hDc := hD.sub (ws' := [(a7, .inr (1, [.ref a9, .int 3, .ref a10])), (a9, .inl (c9, 300, .inl zf11))]) [1, 2] (by decide) rfl
  have hFc := va_free (wc := [(a7, .inr (1, [.ref a9, .int 3, .ref a10])), (a9, .inl (c9, 300, .inl zf11))]) hD hS hA [1, 2] rfl
  refine va_callv (va_runV (As := [.int 42]) (rest := []) ⟨hx, hb, hml, hown, hG⟩ (kX1_addOperator l dC dI a7 a9 a10 c9 zf11 H9.size ) (cwV 1 hG (goodV gw230 gw231 gw232 gw133 gw233) rfl rfl rfl hd_X1_addOperator ⟨(Nat.le_of_ble_eq_true rfl), (Nat.le_of_ble_eq_true rfl)⟩) ⟨fbW, va_recv hKc hPc (ci := 1) (q0 := 0) rfl rfl, pW_in hPc hKc hDc⟩ rfl rfl hl.1 rfl (lv_room (Nat.le_of_ble_eq_true rfl)) dX4_tellUsualGladness_39 ⟨(Nat.le_of_ble_eq_true rfl), (Nat.le_of_ble_eq_true rfl)⟩) hS (fun q _ h => hFc q h) hFc (fun u t H12 locs ht hvm hw hB hz1 hk1 hS => ?_)
  obtain ⟨zf14, hP1, hD1⟩ := hB
  rw [ht] at hP1
  obtain ⟨hP, hD⟩ := va_join (wr := [(a0, .inr (3, [.int 1, .int 0, .int 0, .int 0, .ref a1, .ref a2, .ref a3, .int 0, .ref a4, .ref a5, .ref a6, .int 0, .ref a7, .ref a8]))]) (w1 := [(a7, .inr (1, [.ref a9, .int 4, .ref a10])), (a9, .inl (c9, 300, .inl zf14))]) hP hD [1, 2] [0] rfl rfl (by decide) (by decide) hk1 hFc hP1 hD1
  have hP : va_P (dC, dI) vwCl [(a0, .inr (3, [.int 1, .int 0, .int 0, .int 0, .ref a1, .ref a2, .ref a3, .int 0, .ref a4, .ref a5, .ref a6, .int 0, .ref a7, .ref a8])), (a7, .inr (1, [.ref a9, .int 4, .ref a10])), (a9, .inl (c9, 300, .inl zf14))] H12 := hP
  have hD : va_D A [(a0, .inr (3, [.int 1, .int 0, .int 0, .int 0, .ref a1, .ref a2, .ref a3, .int 0, .ref a4, .ref a5, .ref a6, .int 0, .ref a7, .ref a8])), (a7, .inr (1, [.ref a9, .int 4, .ref a10])), (a9, .inl (c9, 300, .inl zf14))] := hD
  refine lv_aload_n hx hb dX4_tellUsualGladness_42 rfl (lv_at hl 0 rfl) ?_
  refine va_get (D := (dC, dI)) (ci := 3) (v := .ref a7) (C := RX4) (T := TX4) (N := 14) hx hb hG inX4 hown hK hP 0 rfl rfl 12 (by decide) (hG _ gw272) (fun _ h9 => h9) rfl dX4_tellUsualGladness_43 ?_
  refine lv_bipush (v := 43) hx hb dX4_tellUsualGladness_46 (by decide) ?_
  have hPc := hP.sub (ws' := [(a7, .inr (1, [.ref a9, .int 4, .ref a10])), (a9, .inl (c9, 300, .inl zf14))]) [1, 2] rfl
  have hKc := hK.sub (tys' := [(c9, .int)]) [0] rfl
  have hDc := hD.sub (ws' := [(a7, .inr (1, [.ref a9, .int 4, .ref a10])), (a9, .inl (c9, 300, .inl zf14))]) [1, 2] (by decide) rfl
  have hFc := va_free (wc := [(a7, .inr (1, [.ref a9, .int 4, .ref a10])), (a9, .inl (c9, 300, .inl zf14))]) hD hS hA [1, 2] rfl
  refine va_callv (va_runV (As := [.int 43]) (rest := []) ⟨hx, hb, hml, hown, hG⟩ (kX1_addOperator_v1 l dC dI a7 a9 a10 c9 zf14 H12.size ) (cwV 1 hG (goodV gw230 gw231 gw232 gw133 gw233) rfl rfl rfl hd_X1_addOperator ⟨(Nat.le_of_ble_eq_true rfl), (Nat.le_of_ble_eq_true rfl)⟩) ⟨fbW, va_recv hKc hPc (ci := 1) (q0 := 0) rfl rfl, pW_in hPc hKc hDc⟩ rfl rfl hl.1 rfl (lv_room (Nat.le_of_ble_eq_true rfl)) dX4_tellUsualGladness_48 ⟨(Nat.le_of_ble_eq_true rfl), (Nat.le_of_ble_eq_true rfl)⟩) hS (fun q _ h => hFc q h) hFc (fun u t H15 locs ht hvm hw hB hz1 hk1 hS => ?_)
  obtain ⟨zf17, hP1, hD1⟩ := hB
  rw [ht] at hP1
  obtain ⟨hP, hD⟩ := va_join (wr := [(a0, .inr (3, [.int 1, .int 0, .int 0, .int 0, .ref a1, .ref a2, .ref a3, .int 0, .ref a4, .ref a5, .ref a6, .int 0, .ref a7, .ref a8]))]) (w1 := [(a7, .inr (1, [.ref a9, .int 5, .ref a10])), (a9, .inl (c9, 300, .inl zf17))]) hP hD [1, 2] [0] rfl rfl (by decide) (by decide) hk1 hFc hP1 hD1
  have hP : va_P (dC, dI) vwCl [(a0, .inr (3, [.int 1, .int 0, .int 0, .int 0, .ref a1, .ref a2, .ref a3, .int 0, .ref a4, .ref a5, .ref a6, .int 0, .ref a7, .ref a8])), (a7, .inr (1, [.ref a9, .int 5, .ref a10])), (a9, .inl (c9, 300, .inl zf17))] H15 := hP
  have hD : va_D A [(a0, .inr (3, [.int 1, .int 0, .int 0, .int 0, .ref a1, .ref a2, .ref a3, .int 0, .ref a4, .ref a5, .ref a6, .int 0, .ref a7, .ref a8])), (a7, .inr (1, [.ref a9, .int 5, .ref a10])), (a9, .inl (c9, 300, .inl zf17))] := hD
  refine lv_aload_n hx hb dX4_tellUsualGladness_51 rfl (lv_at hl 0 rfl) ?_
  refine va_get (D := (dC, dI)) (ci := 3) (v := .ref a7) (C := RX4) (T := TX4) (N := 14) hx hb hG inX4 hown hK hP 0 rfl rfl 12 (by decide) (hG _ gw272) (fun _ h9 => h9) rfl dX4_tellUsualGladness_52 ?_
  refine lv_bipush (v := 115) hx hb dX4_tellUsualGladness_55 (by decide) ?_
  have hPc := hP.sub (ws' := [(a7, .inr (1, [.ref a9, .int 5, .ref a10])), (a9, .inl (c9, 300, .inl zf17))]) [1, 2] rfl
  have hKc := hK.sub (tys' := [(c9, .int)]) [0] rfl
  have hDc := hD.sub (ws' := [(a7, .inr (1, [.ref a9, .int 5, .ref a10])), (a9, .inl (c9, 300, .inl zf17))]) [1, 2] (by decide) rfl
  have hFc := va_free (wc := [(a7, .inr (1, [.ref a9, .int 5, .ref a10])), (a9, .inl (c9, 300, .inl zf17))]) hD hS hA [1, 2] rfl
  refine va_callv (va_runV (As := [.int 115]) (rest := []) ⟨hx, hb, hml, hown, hG⟩ (kX1_addFact_v2 l dC dI a7 a9 a10 c9 zf17 H15.size ) (cwV 1 hG (goodV gw218 gw219 gw220 gw133 gw221) rfl rfl rfl hd_X1_addFact ⟨(Nat.le_of_ble_eq_true rfl), (Nat.le_of_ble_eq_true rfl)⟩) ⟨fbW, va_recv hKc hPc (ci := 1) (q0 := 0) rfl rfl, pW_in hPc hKc hDc⟩ rfl rfl hl.1 rfl (lv_room (Nat.le_of_ble_eq_true rfl)) dX4_tellUsualGladness_57 ⟨(Nat.le_of_ble_eq_true rfl), (Nat.le_of_ble_eq_true rfl)⟩) hS (fun q _ h => hFc q h) hFc (fun u t H18 locs ht hvm hw hB hz1 hk1 hS => ?_)
  obtain ⟨zf20, hP1, hD1⟩ := hB
  rw [ht] at hP1
  obtain ⟨hP, hD⟩ := va_join (wr := [(a0, .inr (3, [.int 1, .int 0, .int 0, .int 0, .ref a1, .ref a2, .ref a3, .int 0, .ref a4, .ref a5, .ref a6, .int 0, .ref a7, .ref a8]))]) (w1 := [(a7, .inr (1, [.ref a9, .int 6, .ref a10])), (a9, .inl (c9, 300, .inl zf20))]) hP hD [1, 2] [0] rfl rfl (by decide) (by decide) hk1 hFc hP1 hD1
  have hP : va_P (dC, dI) vwCl [(a0, .inr (3, [.int 1, .int 0, .int 0, .int 0, .ref a1, .ref a2, .ref a3, .int 0, .ref a4, .ref a5, .ref a6, .int 0, .ref a7, .ref a8])), (a7, .inr (1, [.ref a9, .int 6, .ref a10])), (a9, .inl (c9, 300, .inl zf20))] H18 := hP
  have hD : va_D A [(a0, .inr (3, [.int 1, .int 0, .int 0, .int 0, .ref a1, .ref a2, .ref a3, .int 0, .ref a4, .ref a5, .ref a6, .int 0, .ref a7, .ref a8])), (a7, .inr (1, [.ref a9, .int 6, .ref a10])), (a9, .inl (c9, 300, .inl zf20))] := hD
  refine lv_aload_n hx hb dX4_tellUsualGladness_60 rfl (lv_at hl 0 rfl) ?_
  refine va_get (D := (dC, dI)) (ci := 3) (v := .ref a7) (C := RX4) (T := TX4) (N := 14) hx hb hG inX4 hown hK hP 0 rfl rfl 12 (by decide) (hG _ gw272) (fun _ h9 => h9) rfl dX4_tellUsualGladness_61 ?_
  refine lv_bipush (v := 45) hx hb dX4_tellUsualGladness_64 (by decide) ?_
  have hPc := hP.sub (ws' := [(a7, .inr (1, [.ref a9, .int 6, .ref a10])), (a9, .inl (c9, 300, .inl zf20))]) [1, 2] rfl
  have hKc := hK.sub (tys' := [(c9, .int)]) [0] rfl
  have hDc := hD.sub (ws' := [(a7, .inr (1, [.ref a9, .int 6, .ref a10])), (a9, .inl (c9, 300, .inl zf20))]) [1, 2] (by decide) rfl
  have hFc := va_free (wc := [(a7, .inr (1, [.ref a9, .int 6, .ref a10])), (a9, .inl (c9, 300, .inl zf20))]) hD hS hA [1, 2] rfl
  refine va_callv (va_runV (As := [.int 45]) (rest := []) ⟨hx, hb, hml, hown, hG⟩ (kX1_addOperator_v2 l dC dI a7 a9 a10 c9 zf20 H18.size ) (cwV 1 hG (goodV gw230 gw231 gw232 gw133 gw233) rfl rfl rfl hd_X1_addOperator ⟨(Nat.le_of_ble_eq_true rfl), (Nat.le_of_ble_eq_true rfl)⟩) ⟨fbW, va_recv hKc hPc (ci := 1) (q0 := 0) rfl rfl, pW_in hPc hKc hDc⟩ rfl rfl hl.1 rfl (lv_room (Nat.le_of_ble_eq_true rfl)) dX4_tellUsualGladness_66 ⟨(Nat.le_of_ble_eq_true rfl), (Nat.le_of_ble_eq_true rfl)⟩) hS (fun q _ h => hFc q h) hFc (fun u t H21 locs ht hvm hw hB hz1 hk1 hS => ?_)
  obtain ⟨zf23, hP1, hD1⟩ := hB
  rw [ht] at hP1
  obtain ⟨hP, hD⟩ := va_join (wr := [(a0, .inr (3, [.int 1, .int 0, .int 0, .int 0, .ref a1, .ref a2, .ref a3, .int 0, .ref a4, .ref a5, .ref a6, .int 0, .ref a7, .ref a8]))]) (w1 := [(a7, .inr (1, [.ref a9, .int 7, .ref a10])), (a9, .inl (c9, 300, .inl zf23))]) hP hD [1, 2] [0] rfl rfl (by decide) (by decide) hk1 hFc hP1 hD1
  have hP : va_P (dC, dI) vwCl [(a0, .inr (3, [.int 1, .int 0, .int 0, .int 0, .ref a1, .ref a2, .ref a3, .int 0, .ref a4, .ref a5, .ref a6, .int 0, .ref a7, .ref a8])), (a7, .inr (1, [.ref a9, .int 7, .ref a10])), (a9, .inl (c9, 300, .inl zf23))] H21 := hP
  have hD : va_D A [(a0, .inr (3, [.int 1, .int 0, .int 0, .int 0, .ref a1, .ref a2, .ref a3, .int 0, .ref a4, .ref a5, .ref a6, .int 0, .ref a7, .ref a8])), (a7, .inr (1, [.ref a9, .int 7, .ref a10])), (a9, .inl (c9, 300, .inl zf23))] := hD
  have hP9 := hP.sub (ws' := [(a0, .inr (3, [.int 1, .int 0, .int 0, .int 0, .ref a1, .ref a2, .ref a3, .int 0, .ref a4, .ref a5, .ref a6, .int 0, .ref a7, .ref a8])), (a7, .inr (1, [.ref a9, .int 7, .ref a10])), (a9, .inl (c9, 300, .inl zf23))]) [0, 1, 2] rfl
  have hD9 := hD.sub (ws' := [(a0, .inr (3, [.int 1, .int 0, .int 0, .int 0, .ref a1, .ref a2, .ref a3, .int 0, .ref a4, .ref a5, .ref a6, .int 0, .ref a7, .ref a8])), (a7, .inr (1, [.ref a9, .int 7, .ref a10])), (a9, .inl (c9, 300, .inl zf23))]) [0, 1, 2] (by decide) rfl
  exact W.vret hx hb hr (fun t ht hW => ⟨⟨(), rfl, trivial, ⟨zf23, by rw [ht]; exact hP9, hD9⟩⟩, hS.F ht⟩) hS.2.2 dX4_tellUsualGladness_69
set_option maxHeartbeats 4000000 in
set_option maxRecDepth 100000 in
theorem kX4_clear (l : Launch) (dC : Nat → ClassId) (dI : Nat → Nat → Nat) (a0 a1 a2 a3 a4 a5 a6 a7 a8 a9 a10 : Nat) (c9 : ClassId) (f9 : Nat → Int32) (sz : Nat) : Met l yX4_clear (.code yX4_clear cX4_clear 1 none :: GW) { frames := 8, cells := 0, slots := 0, locals := 282 } (va_Pc [.ref a0] (pW (dC, dI) [(a0, .inr (3, [.int 1, .int 0, .int 0, .int 0, .ref a1, .ref a2, .ref a3, .int 0, .ref a4, .ref a5, .ref a6, .int 0, .ref a7, .ref a8])), (a7, .inr (1, [.ref a9, .int 7, .ref a10])), (a9, .inl (c9, 300, .inl f9))] [(c9, .int)] sz)) (va_Qv (fun _ : Unit => True) (fun (_ : Unit) (t : State) => ∃ (F0 : Nat → Int32), va_P (dC, dI) vwCl [(a0, .inr (3, [.int 1, .int 0, .int 0, .int 0, .ref a1, .ref a2, .ref a3, .int 0, .ref a4, .ref a5, .ref a6, .int 0, .ref a7, .ref a8])), (a7, .inr (1, [.ref a9, .int 7, .ref a10])), (a9, .inl (c9, 300, .inl F0))] t.heap ∧ va_D (va_A [(a0, .inr (3, [.int 1, .int 0, .int 0, .int 0, .ref a1, .ref a2, .ref a3, .int 0, .ref a4, .ref a5, .ref a6, .int 0, .ref a7, .ref a8])), (a7, .inr (1, [.ref a9, .int 7, .ref a10])), (a9, .inl (c9, 300, .inl f9))] sz) [(a0, .inr (3, [.int 1, .int 0, .int 0, .int 0, .ref a1, .ref a2, .ref a3, .int 0, .ref a4, .ref a5, .ref a6, .int 0, .ref a7, .ref a8])), (a7, .inr (1, [.ref a9, .int 7, .ref a10])), (a9, .inl (c9, 300, .inl F0))]) (va_A [(a0, .inr (3, [.int 1, .int 0, .int 0, .int 0, .ref a1, .ref a2, .ref a3, .int 0, .ref a4, .ref a5, .ref a6, .int 0, .ref a7, .ref a8])), (a7, .inr (1, [.ref a9, .int 7, .ref a10])), (a9, .inl (c9, 300, .inl f9))] sz)) 0 0 (va_A [(a0, .inr (3, [.int 1, .int 0, .int 0, .int 0, .ref a1, .ref a2, .ref a3, .int 0, .ref a4, .ref a5, .ref a6, .int 0, .ref a7, .ref a8])), (a7, .inr (1, [.ref a9, .int 7, .ref a10])), (a9, .inl (c9, 300, .inl f9))] sz) := by
  refine Met.ofW (cc := cX4_clear) (maxL := 1) (ret := none) (by decide) rfl ?_
  intro p e s m args below meth c0 s₁ B hml hv
  obtain ⟨rfl, hsz, hP, hK, hD0⟩ := hv
  have hx := B.exec
  have hb := B.bytes
  have hr := B.returns
  have hts := atoms_spec (ws := .code yX4_clear cX4_clear 1 none :: GW) B.pre
  have hG : ∀ w ∈ GW, w.before _ s = true := fun w h => hts w (List.mem_cons_of_mem _ h)
  have hown : s.vm.findClass RX4 = some m.cls := findClass_of_methodNamed B.named
  have hlocks := B.notSynchronized
  subst hsz
  have hD := hD0.self (sz := s.heap.size)
  generalize hAe : va_A [(a0, .inr (3, [.int 1, .int 0, .int 0, .int 0, .ref a1, .ref a2, .ref a3, .int 0, .ref a4, .ref a5, .ref a6, .int 0, .ref a7, .ref a8])), (a7, .inr (1, [.ref a9, .int 7, .ref a10])), (a9, .inl (c9, 300, .inl f9))] s.heap.size = A at hD ⊢
  have hA : ∀ q : Nat, s.heap.size ≤ q → A q := fun q h => by rw [← hAe]; exact Or.inr h
  have hS : va_S A s.heap s.heap [] := va_S.rf
  have hP : va_P (dC, dI) vwCl [(a0, .inr (3, [.int 1, .int 0, .int 0, .int 0, .ref a1, .ref a2, .ref a3, .int 0, .ref a4, .ref a5, .ref a6, .int 0, .ref a7, .ref a8])), (a7, .inr (1, [.ref a9, .int 7, .ref a10])), (a9, .inl (c9, 300, .inl f9))] s.heap := hP
  have hl := lv_entry ([.ref a0]) (n := 1) (Nat.le_of_ble_eq_true rfl)
  rw [lg_entry_eq]
  generalize (lg_sl ([.ref a0]) ++ List.replicate (1 - (lg_sl ([.ref a0])).length) Slot.unset).toArray = ls at hl ⊢
  have hl : lv_has ls 1 [(0, .ref a0)] := hl
  refine lv_aload_n hx hb dX4_clear_0 rfl (lv_at hl 0 rfl) ?_
  refine lv_iconst (v := 1) hx hb dX4_clear_1 (by decide) ?_
  refine va_put (D := (dC, dI)) (ci := 3) (v := .int 1) (ty := .int) (C := RX4) (T := TX4) (N := 14) hx hb hG inX4 tyX4 tyX4_ok nmX4 hown hK hP hD hS 0 rfl rfl 0 (by decide) (hG _ gw234) (fun _ h9 => h9) rfl (by decide +kernel) rfl rfl (Nat.le_of_ble_eq_true rfl) dX4_clear_2 (fun H1 locs hP hD hS => ?_)
  have hP : va_P (dC, dI) vwCl [(a0, .inr (3, [.int 1, .int 0, .int 0, .int 0, .ref a1, .ref a2, .ref a3, .int 0, .ref a4, .ref a5, .ref a6, .int 0, .ref a7, .ref a8])), (a7, .inr (1, [.ref a9, .int 7, .ref a10])), (a9, .inl (c9, 300, .inl f9))] H1 := hP
  have hD : va_D A [(a0, .inr (3, [.int 1, .int 0, .int 0, .int 0, .ref a1, .ref a2, .ref a3, .int 0, .ref a4, .ref a5, .ref a6, .int 0, .ref a7, .ref a8])), (a7, .inr (1, [.ref a9, .int 7, .ref a10])), (a9, .inl (c9, 300, .inl f9))] := hD
  refine lv_aload_n hx hb dX4_clear_5 rfl (lv_at hl 0 rfl) ?_
  refine lv_iconst (v := 0) hx hb dX4_clear_6 (by decide) ?_
  refine va_put (D := (dC, dI)) (ci := 3) (v := .int 0) (ty := .int) (C := RX4) (T := TX4) (N := 14) hx hb hG inX4 tyX4 tyX4_ok nmX4 hown hK hP hD hS 0 rfl rfl 1 (by decide) (hG _ gw237) (fun _ h9 => h9) rfl (by decide +kernel) rfl rfl (Nat.le_of_ble_eq_true rfl) dX4_clear_7 (fun H2 locs hP hD hS => ?_)
  have hP : va_P (dC, dI) vwCl [(a0, .inr (3, [.int 1, .int 0, .int 0, .int 0, .ref a1, .ref a2, .ref a3, .int 0, .ref a4, .ref a5, .ref a6, .int 0, .ref a7, .ref a8])), (a7, .inr (1, [.ref a9, .int 7, .ref a10])), (a9, .inl (c9, 300, .inl f9))] H2 := hP
  have hD : va_D A [(a0, .inr (3, [.int 1, .int 0, .int 0, .int 0, .ref a1, .ref a2, .ref a3, .int 0, .ref a4, .ref a5, .ref a6, .int 0, .ref a7, .ref a8])), (a7, .inr (1, [.ref a9, .int 7, .ref a10])), (a9, .inl (c9, 300, .inl f9))] := hD
  refine lv_aload_n hx hb dX4_clear_10 rfl (lv_at hl 0 rfl) ?_
  refine lv_iconst (v := 0) hx hb dX4_clear_11 (by decide) ?_
  refine va_put (D := (dC, dI)) (ci := 3) (v := .int 0) (ty := .int) (C := RX4) (T := TX4) (N := 14) hx hb hG inX4 tyX4 tyX4_ok nmX4 hown hK hP hD hS 0 rfl rfl 2 (by decide) (hG _ gw240) (fun _ h9 => h9) rfl (by decide +kernel) rfl rfl (Nat.le_of_ble_eq_true rfl) dX4_clear_12 (fun H3 locs hP hD hS => ?_)
  have hP : va_P (dC, dI) vwCl [(a0, .inr (3, [.int 1, .int 0, .int 0, .int 0, .ref a1, .ref a2, .ref a3, .int 0, .ref a4, .ref a5, .ref a6, .int 0, .ref a7, .ref a8])), (a7, .inr (1, [.ref a9, .int 7, .ref a10])), (a9, .inl (c9, 300, .inl f9))] H3 := hP
  have hD : va_D A [(a0, .inr (3, [.int 1, .int 0, .int 0, .int 0, .ref a1, .ref a2, .ref a3, .int 0, .ref a4, .ref a5, .ref a6, .int 0, .ref a7, .ref a8])), (a7, .inr (1, [.ref a9, .int 7, .ref a10])), (a9, .inl (c9, 300, .inl f9))] := hD
  refine lv_aload_n hx hb dX4_clear_15 rfl (lv_at hl 0 rfl) ?_
  refine lv_iconst (v := 0) hx hb dX4_clear_16 (by decide) ?_
  refine va_put (D := (dC, dI)) (ci := 3) (v := .int 0) (ty := .int) (C := RX4) (T := TX4) (N := 14) hx hb hG inX4 tyX4 tyX4_ok nmX4 hown hK hP hD hS 0 rfl rfl 3 (by decide) (hG _ gw243) (fun _ h9 => h9) rfl (by decide +kernel) rfl rfl (Nat.le_of_ble_eq_true rfl) dX4_clear_17 (fun H4 locs hP hD hS => ?_)
  have hP : va_P (dC, dI) vwCl [(a0, .inr (3, [.int 1, .int 0, .int 0, .int 0, .ref a1, .ref a2, .ref a3, .int 0, .ref a4, .ref a5, .ref a6, .int 0, .ref a7, .ref a8])), (a7, .inr (1, [.ref a9, .int 7, .ref a10])), (a9, .inl (c9, 300, .inl f9))] H4 := hP
  have hD : va_D A [(a0, .inr (3, [.int 1, .int 0, .int 0, .int 0, .ref a1, .ref a2, .ref a3, .int 0, .ref a4, .ref a5, .ref a6, .int 0, .ref a7, .ref a8])), (a7, .inr (1, [.ref a9, .int 7, .ref a10])), (a9, .inl (c9, 300, .inl f9))] := hD
  refine lv_aload_n hx hb dX4_clear_20 rfl (lv_at hl 0 rfl) ?_
  refine lv_iconst (v := 0) hx hb dX4_clear_21 (by decide) ?_
  refine va_put (D := (dC, dI)) (ci := 3) (v := .int 0) (ty := .int) (C := RX4) (T := TX4) (N := 14) hx hb hG inX4 tyX4 tyX4_ok nmX4 hown hK hP hD hS 0 rfl rfl 7 (by decide) (hG _ gw255) (fun _ h9 => h9) rfl (by decide +kernel) rfl rfl (Nat.le_of_ble_eq_true rfl) dX4_clear_22 (fun H5 locs hP hD hS => ?_)
  have hP : va_P (dC, dI) vwCl [(a0, .inr (3, [.int 1, .int 0, .int 0, .int 0, .ref a1, .ref a2, .ref a3, .int 0, .ref a4, .ref a5, .ref a6, .int 0, .ref a7, .ref a8])), (a7, .inr (1, [.ref a9, .int 7, .ref a10])), (a9, .inl (c9, 300, .inl f9))] H5 := hP
  have hD : va_D A [(a0, .inr (3, [.int 1, .int 0, .int 0, .int 0, .ref a1, .ref a2, .ref a3, .int 0, .ref a4, .ref a5, .ref a6, .int 0, .ref a7, .ref a8])), (a7, .inr (1, [.ref a9, .int 7, .ref a10])), (a9, .inl (c9, 300, .inl f9))] := hD
  refine lv_aload_n hx hb dX4_clear_25 rfl (lv_at hl 0 rfl) ?_
  refine lv_iconst (v := 0) hx hb dX4_clear_26 (by decide) ?_
  refine va_put (D := (dC, dI)) (ci := 3) (v := .int 0) (ty := .int) (C := RX4) (T := TX4) (N := 14) hx hb hG inX4 tyX4 tyX4_ok nmX4 hown hK hP hD hS 0 rfl rfl 11 (by decide) (hG _ gw269) (fun _ h9 => h9) rfl (by decide +kernel) rfl rfl (Nat.le_of_ble_eq_true rfl) dX4_clear_27 (fun H6 locs hP hD hS => ?_)
  have hP : va_P (dC, dI) vwCl [(a0, .inr (3, [.int 1, .int 0, .int 0, .int 0, .ref a1, .ref a2, .ref a3, .int 0, .ref a4, .ref a5, .ref a6, .int 0, .ref a7, .ref a8])), (a7, .inr (1, [.ref a9, .int 7, .ref a10])), (a9, .inl (c9, 300, .inl f9))] H6 := hP
  have hD : va_D A [(a0, .inr (3, [.int 1, .int 0, .int 0, .int 0, .ref a1, .ref a2, .ref a3, .int 0, .ref a4, .ref a5, .ref a6, .int 0, .ref a7, .ref a8])), (a7, .inr (1, [.ref a9, .int 7, .ref a10])), (a9, .inl (c9, 300, .inl f9))] := hD
  refine lv_aload_n hx hb dX4_clear_30 rfl (lv_at hl 0 rfl) ?_
  have hPc := hP.sub (ws' := [(a0, .inr (3, [.int 1, .int 0, .int 0, .int 0, .ref a1, .ref a2, .ref a3, .int 0, .ref a4, .ref a5, .ref a6, .int 0, .ref a7, .ref a8])), (a7, .inr (1, [.ref a9, .int 7, .ref a10])), (a9, .inl (c9, 300, .inl f9))]) [0, 1, 2] rfl
  have hKc := hK.sub (tys' := [(c9, .int)]) [0] rfl
  have hDc := hD.sub (ws' := [(a0, .inr (3, [.int 1, .int 0, .int 0, .int 0, .ref a1, .ref a2, .ref a3, .int 0, .ref a4, .ref a5, .ref a6, .int 0, .ref a7, .ref a8])), (a7, .inr (1, [.ref a9, .int 7, .ref a10])), (a9, .inl (c9, 300, .inl f9))]) [0, 1, 2] (by decide) rfl
  have hFc := va_free (wc := [(a0, .inr (3, [.int 1, .int 0, .int 0, .int 0, .ref a1, .ref a2, .ref a3, .int 0, .ref a4, .ref a5, .ref a6, .int 0, .ref a7, .ref a8])), (a7, .inr (1, [.ref a9, .int 7, .ref a10])), (a9, .inl (c9, 300, .inl f9))]) hD hS hA [0, 1, 2] rfl
  refine va_callv (va_runV (As := []) (rest := []) ⟨hx, hb, hml, hown, hG⟩ (kX4_tellUsualGladness_v1 l dC dI a0 a1 a2 a3 a4 a5 a6 a7 a8 a9 a10 c9 f9 H6.size ) (cwV 0 hG (goodV gw210 gw212 gw0 gw132 gw213) rfl rfl rfl hd_X4_tellUsualGladness ⟨(Nat.le_of_ble_eq_true rfl), (Nat.le_of_ble_eq_true rfl)⟩) ⟨fbW, va_recv hKc hPc (ci := 3) (q0 := 0) rfl rfl, pW_in hPc hKc hDc⟩ rfl rfl hl.1 rfl (lv_room (Nat.le_of_ble_eq_true rfl)) dX4_clear_31 ⟨(Nat.le_of_ble_eq_true rfl), (Nat.le_of_ble_eq_true rfl)⟩) hS (fun q _ h => hFc q h) hFc (fun u t H7 locs ht hvm hw hB hz1 hk1 hS => ?_)
  obtain ⟨zf9, hP1, hD1⟩ := hB
  rw [ht] at hP1
  obtain ⟨hP, hD⟩ := va_join (wr := []) (w1 := [(a0, .inr (3, [.int 1, .int 0, .int 0, .int 0, .ref a1, .ref a2, .ref a3, .int 0, .ref a4, .ref a5, .ref a6, .int 0, .ref a7, .ref a8])), (a7, .inr (1, [.ref a9, .int 7, .ref a10])), (a9, .inl (c9, 300, .inl zf9))]) hP hD [0, 1, 2] [] rfl rfl (by decide) (by decide) hk1 hFc hP1 hD1
  have hP : va_P (dC, dI) vwCl [(a0, .inr (3, [.int 1, .int 0, .int 0, .int 0, .ref a1, .ref a2, .ref a3, .int 0, .ref a4, .ref a5, .ref a6, .int 0, .ref a7, .ref a8])), (a7, .inr (1, [.ref a9, .int 7, .ref a10])), (a9, .inl (c9, 300, .inl zf9))] H7 := hP
  have hD : va_D A [(a0, .inr (3, [.int 1, .int 0, .int 0, .int 0, .ref a1, .ref a2, .ref a3, .int 0, .ref a4, .ref a5, .ref a6, .int 0, .ref a7, .ref a8])), (a7, .inr (1, [.ref a9, .int 7, .ref a10])), (a9, .inl (c9, 300, .inl zf9))] := hD
  have hP9 := hP.sub (ws' := [(a0, .inr (3, [.int 1, .int 0, .int 0, .int 0, .ref a1, .ref a2, .ref a3, .int 0, .ref a4, .ref a5, .ref a6, .int 0, .ref a7, .ref a8])), (a7, .inr (1, [.ref a9, .int 7, .ref a10])), (a9, .inl (c9, 300, .inl zf9))]) [0, 1, 2] rfl
  have hD9 := hD.sub (ws' := [(a0, .inr (3, [.int 1, .int 0, .int 0, .int 0, .ref a1, .ref a2, .ref a3, .int 0, .ref a4, .ref a5, .ref a6, .int 0, .ref a7, .ref a8])), (a7, .inr (1, [.ref a9, .int 7, .ref a10])), (a9, .inl (c9, 300, .inl zf9))]) [0, 1, 2] (by decide) rfl
  exact W.vret hx hb hr (fun t ht hW => ⟨⟨(), rfl, trivial, ⟨zf9, by rw [ht]; exact hP9, hD9⟩⟩, hS.F ht⟩) hS.2.2 dX4_clear_34
set_option maxHeartbeats 4000000 in
set_option maxRecDepth 100000 in
theorem kX5_read (l : Launch) (dC : Nat → ClassId) (dI : Nat → Nat → Nat) (a0 a2 a3 a4 a5 a1 a6 a7 a8 a9 a10 a11 a12 a13 a14 a15 a16 a17 a18 : Nat) (c1 c6 c7 c17 : ClassId) (f17 : Nat → Int32) (sz : Nat) : Met l yX5_read (.code yX5_read cX5_read 4 (some .boolean) :: GW) { frames := 10, cells := 0, slots := 0, locals := 342 } (va_Pc [.ref a0, .ref a1, .int 0] (pW (dC, dI) [(a0, .inr (4, [.int 0, .int (-1), .ref a2, .ref a3, .int 0, .int 0, .ref a4, .ref a5, .int 0, .int 0, .int 0, .int 0])), (a1, .inl (c1, 1600, .inl (fun _ => 0))), (a2, .inr (5, [.ref a6, .ref a7, .ref a8, .int 0, .int 0])), (a3, .inr (3, [.int 1, .int 0, .int 0, .int 0, .ref a9, .ref a10, .ref a11, .int 0, .ref a12, .ref a13, .ref a14, .int 0, .ref a15, .ref a16])), (a6, .inl (c6, 1601, .inl (fun _ => 0))), (a7, .inl (c7, 1601, .inl (fun _ => 0))), (a15, .inr (1, [.ref a17, .int 7, .ref a18])), (a17, .inl (c17, 300, .inl f17))] [(c1, .byte), (c6, .int), (c7, .int), (c17, .int)] sz)) (va_Qi (fun (r0 : Int32) (_ : Unit) => r0 = 1) (fun (_ : Unit) (t : State) => ∃ (F0 F1 F2 : Nat → Int32), va_P (dC, dI) vwCl [(a0, .inr (4, [.int 0, .int (-1), .ref a2, .ref a3, .int 0, .int 1, .ref a4, .ref a5, .int 0, .int 0, .int 0, .int 0])), (a1, .inl (c1, 1600, .inl (fun _ => 0))), (a2, .inr (5, [.ref a6, .ref a7, .ref a8, .int 1, .int 0])), (a3, .inr (3, [.int 1, .int 0, .int 0, .int 0, .ref a9, .ref a10, .ref a11, .int 0, .ref a12, .ref a13, .ref a14, .int 0, .ref a15, .ref a16])), (a6, .inl (c6, 1601, .inl F0)), (a7, .inl (c7, 1601, .inl F1)), (a15, .inr (1, [.ref a17, .int 7, .ref a18])), (a17, .inl (c17, 300, .inl F2))] t.heap ∧ va_D (va_A [(a0, .inr (4, [.int 0, .int (-1), .ref a2, .ref a3, .int 0, .int 0, .ref a4, .ref a5, .int 0, .int 0, .int 0, .int 0])), (a1, .inl (c1, 1600, .inl (fun _ => 0))), (a2, .inr (5, [.ref a6, .ref a7, .ref a8, .int 0, .int 0])), (a3, .inr (3, [.int 1, .int 0, .int 0, .int 0, .ref a9, .ref a10, .ref a11, .int 0, .ref a12, .ref a13, .ref a14, .int 0, .ref a15, .ref a16])), (a6, .inl (c6, 1601, .inl (fun _ => 0))), (a7, .inl (c7, 1601, .inl (fun _ => 0))), (a15, .inr (1, [.ref a17, .int 7, .ref a18])), (a17, .inl (c17, 300, .inl f17))] sz) [(a0, .inr (4, [.int 0, .int (-1), .ref a2, .ref a3, .int 0, .int 1, .ref a4, .ref a5, .int 0, .int 0, .int 0, .int 0])), (a1, .inl (c1, 1600, .inl (fun _ => 0))), (a2, .inr (5, [.ref a6, .ref a7, .ref a8, .int 1, .int 0])), (a3, .inr (3, [.int 1, .int 0, .int 0, .int 0, .ref a9, .ref a10, .ref a11, .int 0, .ref a12, .ref a13, .ref a14, .int 0, .ref a15, .ref a16])), (a6, .inl (c6, 1601, .inl F0)), (a7, .inl (c7, 1601, .inl F1)), (a15, .inr (1, [.ref a17, .int 7, .ref a18])), (a17, .inl (c17, 300, .inl F2))] ∧ F0 0 = 1) (va_A [(a0, .inr (4, [.int 0, .int (-1), .ref a2, .ref a3, .int 0, .int 0, .ref a4, .ref a5, .int 0, .int 0, .int 0, .int 0])), (a1, .inl (c1, 1600, .inl (fun _ => 0))), (a2, .inr (5, [.ref a6, .ref a7, .ref a8, .int 0, .int 0])), (a3, .inr (3, [.int 1, .int 0, .int 0, .int 0, .ref a9, .ref a10, .ref a11, .int 0, .ref a12, .ref a13, .ref a14, .int 0, .ref a15, .ref a16])), (a6, .inl (c6, 1601, .inl (fun _ => 0))), (a7, .inl (c7, 1601, .inl (fun _ => 0))), (a15, .inr (1, [.ref a17, .int 7, .ref a18])), (a17, .inl (c17, 300, .inl f17))] sz)) 0 0 (va_A [(a0, .inr (4, [.int 0, .int (-1), .ref a2, .ref a3, .int 0, .int 0, .ref a4, .ref a5, .int 0, .int 0, .int 0, .int 0])), (a1, .inl (c1, 1600, .inl (fun _ => 0))), (a2, .inr (5, [.ref a6, .ref a7, .ref a8, .int 0, .int 0])), (a3, .inr (3, [.int 1, .int 0, .int 0, .int 0, .ref a9, .ref a10, .ref a11, .int 0, .ref a12, .ref a13, .ref a14, .int 0, .ref a15, .ref a16])), (a6, .inl (c6, 1601, .inl (fun _ => 0))), (a7, .inl (c7, 1601, .inl (fun _ => 0))), (a15, .inr (1, [.ref a17, .int 7, .ref a18])), (a17, .inl (c17, 300, .inl f17))] sz) := by
  refine Met.ofW (cc := cX5_read) (maxL := 4) (ret := (some .boolean)) (by decide) rfl ?_
  intro p e s m args below meth c0 s₁ B hml hv
  obtain ⟨rfl, hsz, hP, hK, hD0⟩ := hv
  have hx := B.exec
  have hb := B.bytes
  have hr := B.returns
  have hts := atoms_spec (ws := .code yX5_read cX5_read 4 (some .boolean) :: GW) B.pre
  have hG : ∀ w ∈ GW, w.before _ s = true := fun w h => hts w (List.mem_cons_of_mem _ h)
  have hown : s.vm.findClass RX5 = some m.cls := findClass_of_methodNamed B.named
  have hlocks := B.notSynchronized
  subst hsz
  have hD := hD0.self (sz := s.heap.size)
  generalize hAe : va_A [(a0, .inr (4, [.int 0, .int (-1), .ref a2, .ref a3, .int 0, .int 0, .ref a4, .ref a5, .int 0, .int 0, .int 0, .int 0])), (a1, .inl (c1, 1600, .inl (fun _ => 0))), (a2, .inr (5, [.ref a6, .ref a7, .ref a8, .int 0, .int 0])), (a3, .inr (3, [.int 1, .int 0, .int 0, .int 0, .ref a9, .ref a10, .ref a11, .int 0, .ref a12, .ref a13, .ref a14, .int 0, .ref a15, .ref a16])), (a6, .inl (c6, 1601, .inl (fun _ => 0))), (a7, .inl (c7, 1601, .inl (fun _ => 0))), (a15, .inr (1, [.ref a17, .int 7, .ref a18])), (a17, .inl (c17, 300, .inl f17))] s.heap.size = A at hD ⊢
  have hA : ∀ q : Nat, s.heap.size ≤ q → A q := fun q h => by rw [← hAe]; exact Or.inr h
  have hS : va_S A s.heap s.heap [] := va_S.rf
  have hP : va_P (dC, dI) vwCl [(a0, .inr (4, [.int 0, .int (-1), .ref a2, .ref a3, .int 0, .int 0, .ref a4, .ref a5, .int 0, .int 0, .int 0, .int 0])), (a1, .inl (c1, 1600, .inl (fun _ => 0))), (a2, .inr (5, [.ref a6, .ref a7, .ref a8, .int 0, .int 0])), (a3, .inr (3, [.int 1, .int 0, .int 0, .int 0, .ref a9, .ref a10, .ref a11, .int 0, .ref a12, .ref a13, .ref a14, .int 0, .ref a15, .ref a16])), (a6, .inl (c6, 1601, .inl (fun _ => 0))), (a7, .inl (c7, 1601, .inl (fun _ => 0))), (a15, .inr (1, [.ref a17, .int 7, .ref a18])), (a17, .inl (c17, 300, .inl f17))] s.heap := hP
  have hl := lv_entry ([.ref a0, .ref a1, .int 0]) (n := 4) (Nat.le_of_ble_eq_true rfl)
  rw [lg_entry_eq]
  generalize (lg_sl ([.ref a0, .ref a1, .int 0]) ++ List.replicate (4 - (lg_sl ([.ref a0, .ref a1, .int 0])).length) Slot.unset).toArray = ls at hl ⊢
  have hl : lv_has ls 4 [(0, .ref a0), (1, .ref a1), (2, .int 0)] := hl
  refine lv_aload_n hx hb dX5_read_0 rfl (lv_at hl 0 rfl) ?_
  refine va_get (D := (dC, dI)) (ci := 4) (v := .ref a2) (C := RX5) (T := TX5) (N := 12) hx hb hG inX5 hown hK hP 0 rfl rfl 2 (by decide) (hG _ gw308) (fun _ h9 => h9) rfl dX5_read_1 ?_
  refine lv_aload_n hx hb dX5_read_4 rfl (lv_at hl 1 rfl) ?_
  refine lv_iload_n hx hb dX5_read_5 rfl (lv_at hl 2 rfl) ?_
  have hPc := hP.sub (ws' := [(a2, .inr (5, [.ref a6, .ref a7, .ref a8, .int 0, .int 0])), (a1, .inl (c1, 1600, .inl (fun _ => 0))), (a6, .inl (c6, 1601, .inl (fun _ => 0))), (a7, .inl (c7, 1601, .inl (fun _ => 0)))]) [2, 1, 4, 5] rfl
  have hKc := hK.sub (tys' := [(c1, .byte), (c6, .int), (c7, .int)]) [0, 1, 2] rfl
  have hDc := hD.sub (ws' := [(a2, .inr (5, [.ref a6, .ref a7, .ref a8, .int 0, .int 0])), (a1, .inl (c1, 1600, .inl (fun _ => 0))), (a6, .inl (c6, 1601, .inl (fun _ => 0))), (a7, .inl (c7, 1601, .inl (fun _ => 0)))]) [2, 1, 4, 5] (by decide) rfl
  have hFc := va_free (wc := [(a2, .inr (5, [.ref a6, .ref a7, .ref a8, .int 0, .int 0])), (a1, .inl (c1, 1600, .inl (fun _ => 0))), (a6, .inl (c6, 1601, .inl (fun _ => 0))), (a7, .inl (c7, 1601, .inl (fun _ => 0)))]) hD hS hA [2, 1, 4, 5] rfl
  refine va_callv (va_runV (As := [.ref a1, .int 0]) (rest := []) ⟨hx, hb, hml, hown, hG⟩ (kX6_scan l dC dI a2 a6 a7 a8 a1 c1 c6 c7 s.heap.size ) (cwV 2 hG (goodV gw537 gw538 gw539 gw131 gw540) rfl rfl rfl hd_X6_scan ⟨(Nat.le_of_ble_eq_true rfl), (Nat.le_of_ble_eq_true rfl)⟩) ⟨fbW, va_recv hKc hPc (ci := 5) (q0 := 0) rfl rfl, pW_in hPc hKc hDc⟩ rfl rfl hl.1 rfl (lv_room (Nat.le_of_ble_eq_true rfl)) dX5_read_6 ⟨(Nat.le_of_ble_eq_true rfl), (Nat.le_of_ble_eq_true rfl)⟩) hS (fun q _ h => hFc q h) hFc (fun u t H1 locs ht hvm hw hB hz1 hk1 hS => ?_)
  obtain ⟨zf3, zf4, hP1, hD1, g5⟩ := hB
  rw [ht] at hP1
  obtain ⟨hP, hD⟩ := va_join (wr := [(a0, .inr (4, [.int 0, .int (-1), .ref a2, .ref a3, .int 0, .int 0, .ref a4, .ref a5, .int 0, .int 0, .int 0, .int 0])), (a3, .inr (3, [.int 1, .int 0, .int 0, .int 0, .ref a9, .ref a10, .ref a11, .int 0, .ref a12, .ref a13, .ref a14, .int 0, .ref a15, .ref a16])), (a15, .inr (1, [.ref a17, .int 7, .ref a18])), (a17, .inl (c17, 300, .inl f17))]) (w1 := [(a2, .inr (5, [.ref a6, .ref a7, .ref a8, .int 1, .int 0])), (a1, .inl (c1, 1600, .inl (fun _ => 0))), (a6, .inl (c6, 1601, .inl zf3)), (a7, .inl (c7, 1601, .inl zf4))]) hP hD [2, 1, 4, 5] [0, 3, 6, 7] rfl rfl (by decide) (by decide) hk1 hFc hP1 hD1
  have hP : va_P (dC, dI) vwCl [(a0, .inr (4, [.int 0, .int (-1), .ref a2, .ref a3, .int 0, .int 0, .ref a4, .ref a5, .int 0, .int 0, .int 0, .int 0])), (a3, .inr (3, [.int 1, .int 0, .int 0, .int 0, .ref a9, .ref a10, .ref a11, .int 0, .ref a12, .ref a13, .ref a14, .int 0, .ref a15, .ref a16])), (a15, .inr (1, [.ref a17, .int 7, .ref a18])), (a17, .inl (c17, 300, .inl f17)), (a2, .inr (5, [.ref a6, .ref a7, .ref a8, .int 1, .int 0])), (a1, .inl (c1, 1600, .inl (fun _ => 0))), (a6, .inl (c6, 1601, .inl zf3)), (a7, .inl (c7, 1601, .inl zf4))] H1 := hP
  have hD : va_D A [(a0, .inr (4, [.int 0, .int (-1), .ref a2, .ref a3, .int 0, .int 0, .ref a4, .ref a5, .int 0, .int 0, .int 0, .int 0])), (a3, .inr (3, [.int 1, .int 0, .int 0, .int 0, .ref a9, .ref a10, .ref a11, .int 0, .ref a12, .ref a13, .ref a14, .int 0, .ref a15, .ref a16])), (a15, .inr (1, [.ref a17, .int 7, .ref a18])), (a17, .inl (c17, 300, .inl f17)), (a2, .inr (5, [.ref a6, .ref a7, .ref a8, .int 1, .int 0])), (a1, .inl (c1, 1600, .inl (fun _ => 0))), (a6, .inl (c6, 1601, .inl zf3)), (a7, .inl (c7, 1601, .inl zf4))] := hD
  refine lv_aload_n hx hb dX5_read_9 rfl (lv_at hl 0 rfl) ?_
  refine va_get (D := (dC, dI)) (ci := 4) (v := .ref a3) (C := RX5) (T := TX5) (N := 12) hx hb hG inX5 hown hK hP 0 rfl rfl 3 (by decide) (hG _ gw309) (fun _ h9 => h9) rfl dX5_read_10 ?_
  have hPc := hP.sub (ws' := [(a3, .inr (3, [.int 1, .int 0, .int 0, .int 0, .ref a9, .ref a10, .ref a11, .int 0, .ref a12, .ref a13, .ref a14, .int 0, .ref a15, .ref a16])), (a15, .inr (1, [.ref a17, .int 7, .ref a18])), (a17, .inl (c17, 300, .inl f17))]) [1, 2, 3] rfl
  have hKc := hK.sub (tys' := [(c17, .int)]) [3] rfl
  have hDc := hD.sub (ws' := [(a3, .inr (3, [.int 1, .int 0, .int 0, .int 0, .ref a9, .ref a10, .ref a11, .int 0, .ref a12, .ref a13, .ref a14, .int 0, .ref a15, .ref a16])), (a15, .inr (1, [.ref a17, .int 7, .ref a18])), (a17, .inl (c17, 300, .inl f17))]) [1, 2, 3] (by decide) rfl
  have hFc := va_free (wc := [(a3, .inr (3, [.int 1, .int 0, .int 0, .int 0, .ref a9, .ref a10, .ref a11, .int 0, .ref a12, .ref a13, .ref a14, .int 0, .ref a15, .ref a16])), (a15, .inr (1, [.ref a17, .int 7, .ref a18])), (a17, .inl (c17, 300, .inl f17))]) hD hS hA [1, 2, 3] rfl
  refine va_callv (va_runV (As := []) (rest := []) ⟨hx, hb, hml, hown, hG⟩ (kX4_clear l dC dI a3 a9 a10 a11 a12 a13 a14 a15 a16 a17 a18 c17 f17 H1.size ) (cwV 0 hG (goodV gw615 gw616 gw617 gw132 gw618) rfl rfl rfl hd_X4_clear ⟨(Nat.le_of_ble_eq_true rfl), (Nat.le_of_ble_eq_true rfl)⟩) ⟨fbW, va_recv hKc hPc (ci := 3) (q0 := 0) rfl rfl, pW_in hPc hKc hDc⟩ rfl rfl hl.1 rfl (lv_room (Nat.le_of_ble_eq_true rfl)) dX5_read_13 ⟨(Nat.le_of_ble_eq_true rfl), (Nat.le_of_ble_eq_true rfl)⟩) hS (fun q _ h => hFc q h) hFc (fun u t H6 locs ht hvm hw hB hz1 hk1 hS => ?_)
  obtain ⟨zf8, hP1, hD1⟩ := hB
  rw [ht] at hP1
  obtain ⟨hP, hD⟩ := va_join (wr := [(a0, .inr (4, [.int 0, .int (-1), .ref a2, .ref a3, .int 0, .int 0, .ref a4, .ref a5, .int 0, .int 0, .int 0, .int 0])), (a2, .inr (5, [.ref a6, .ref a7, .ref a8, .int 1, .int 0])), (a1, .inl (c1, 1600, .inl (fun _ => 0))), (a6, .inl (c6, 1601, .inl zf3)), (a7, .inl (c7, 1601, .inl zf4))]) (w1 := [(a3, .inr (3, [.int 1, .int 0, .int 0, .int 0, .ref a9, .ref a10, .ref a11, .int 0, .ref a12, .ref a13, .ref a14, .int 0, .ref a15, .ref a16])), (a15, .inr (1, [.ref a17, .int 7, .ref a18])), (a17, .inl (c17, 300, .inl zf8))]) hP hD [1, 2, 3] [0, 4, 5, 6, 7] rfl rfl (by decide) (by decide) hk1 hFc hP1 hD1
  have hP : va_P (dC, dI) vwCl [(a0, .inr (4, [.int 0, .int (-1), .ref a2, .ref a3, .int 0, .int 0, .ref a4, .ref a5, .int 0, .int 0, .int 0, .int 0])), (a2, .inr (5, [.ref a6, .ref a7, .ref a8, .int 1, .int 0])), (a1, .inl (c1, 1600, .inl (fun _ => 0))), (a6, .inl (c6, 1601, .inl zf3)), (a7, .inl (c7, 1601, .inl zf4)), (a3, .inr (3, [.int 1, .int 0, .int 0, .int 0, .ref a9, .ref a10, .ref a11, .int 0, .ref a12, .ref a13, .ref a14, .int 0, .ref a15, .ref a16])), (a15, .inr (1, [.ref a17, .int 7, .ref a18])), (a17, .inl (c17, 300, .inl zf8))] H6 := hP
  have hD : va_D A [(a0, .inr (4, [.int 0, .int (-1), .ref a2, .ref a3, .int 0, .int 0, .ref a4, .ref a5, .int 0, .int 0, .int 0, .int 0])), (a2, .inr (5, [.ref a6, .ref a7, .ref a8, .int 1, .int 0])), (a1, .inl (c1, 1600, .inl (fun _ => 0))), (a6, .inl (c6, 1601, .inl zf3)), (a7, .inl (c7, 1601, .inl zf4)), (a3, .inr (3, [.int 1, .int 0, .int 0, .int 0, .ref a9, .ref a10, .ref a11, .int 0, .ref a12, .ref a13, .ref a14, .int 0, .ref a15, .ref a16])), (a15, .inr (1, [.ref a17, .int 7, .ref a18])), (a17, .inl (c17, 300, .inl zf8))] := hD
  refine lv_aload_n hx hb dX5_read_16 rfl (lv_at hl 0 rfl) ?_
  refine lv_iconst (v := 0) hx hb dX5_read_17 (by decide) ?_
  refine va_put (D := (dC, dI)) (ci := 4) (v := .int 0) (ty := .int) (C := RX5) (T := TX5) (N := 12) hx hb hG inX5 tyX5 tyX5_ok nmX5 hown hK hP hD hS 0 rfl rfl 0 (by decide) (hG _ gw304) (fun _ h9 => h9) rfl (by decide +kernel) rfl rfl (Nat.le_of_ble_eq_true rfl) dX5_read_18 (fun H9 locs hP hD hS => ?_)
  have hP : va_P (dC, dI) vwCl [(a0, .inr (4, [.int 0, .int (-1), .ref a2, .ref a3, .int 0, .int 0, .ref a4, .ref a5, .int 0, .int 0, .int 0, .int 0])), (a2, .inr (5, [.ref a6, .ref a7, .ref a8, .int 1, .int 0])), (a1, .inl (c1, 1600, .inl (fun _ => 0))), (a6, .inl (c6, 1601, .inl zf3)), (a7, .inl (c7, 1601, .inl zf4)), (a3, .inr (3, [.int 1, .int 0, .int 0, .int 0, .ref a9, .ref a10, .ref a11, .int 0, .ref a12, .ref a13, .ref a14, .int 0, .ref a15, .ref a16])), (a15, .inr (1, [.ref a17, .int 7, .ref a18])), (a17, .inl (c17, 300, .inl zf8))] H9 := hP
  have hD : va_D A [(a0, .inr (4, [.int 0, .int (-1), .ref a2, .ref a3, .int 0, .int 0, .ref a4, .ref a5, .int 0, .int 0, .int 0, .int 0])), (a2, .inr (5, [.ref a6, .ref a7, .ref a8, .int 1, .int 0])), (a1, .inl (c1, 1600, .inl (fun _ => 0))), (a6, .inl (c6, 1601, .inl zf3)), (a7, .inl (c7, 1601, .inl zf4)), (a3, .inr (3, [.int 1, .int 0, .int 0, .int 0, .ref a9, .ref a10, .ref a11, .int 0, .ref a12, .ref a13, .ref a14, .int 0, .ref a15, .ref a16])), (a15, .inr (1, [.ref a17, .int 7, .ref a18])), (a17, .inl (c17, 300, .inl zf8))] := hD
  refine lv_aload_n hx hb dX5_read_21 rfl (lv_at hl 0 rfl) ?_
  refine lv_iconst (v := (-1)) hx hb dX5_read_22 (by decide) ?_
  refine va_put (D := (dC, dI)) (ci := 4) (v := .int (-1)) (ty := .int) (C := RX5) (T := TX5) (N := 12) hx hb hG inX5 tyX5 tyX5_ok nmX5 hown hK hP hD hS 0 rfl rfl 1 (by decide) (hG _ gw306) (fun _ h9 => h9) rfl (by decide +kernel) rfl rfl (Nat.le_of_ble_eq_true rfl) dX5_read_23 (fun H10 locs hP hD hS => ?_)
  have hP : va_P (dC, dI) vwCl [(a0, .inr (4, [.int 0, .int (-1), .ref a2, .ref a3, .int 0, .int 0, .ref a4, .ref a5, .int 0, .int 0, .int 0, .int 0])), (a2, .inr (5, [.ref a6, .ref a7, .ref a8, .int 1, .int 0])), (a1, .inl (c1, 1600, .inl (fun _ => 0))), (a6, .inl (c6, 1601, .inl zf3)), (a7, .inl (c7, 1601, .inl zf4)), (a3, .inr (3, [.int 1, .int 0, .int 0, .int 0, .ref a9, .ref a10, .ref a11, .int 0, .ref a12, .ref a13, .ref a14, .int 0, .ref a15, .ref a16])), (a15, .inr (1, [.ref a17, .int 7, .ref a18])), (a17, .inl (c17, 300, .inl zf8))] H10 := hP
  have hD : va_D A [(a0, .inr (4, [.int 0, .int (-1), .ref a2, .ref a3, .int 0, .int 0, .ref a4, .ref a5, .int 0, .int 0, .int 0, .int 0])), (a2, .inr (5, [.ref a6, .ref a7, .ref a8, .int 1, .int 0])), (a1, .inl (c1, 1600, .inl (fun _ => 0))), (a6, .inl (c6, 1601, .inl zf3)), (a7, .inl (c7, 1601, .inl zf4)), (a3, .inr (3, [.int 1, .int 0, .int 0, .int 0, .ref a9, .ref a10, .ref a11, .int 0, .ref a12, .ref a13, .ref a14, .int 0, .ref a15, .ref a16])), (a15, .inr (1, [.ref a17, .int 7, .ref a18])), (a17, .inl (c17, 300, .inl zf8))] := hD
  refine lv_aload_n hx hb dX5_read_26 rfl (lv_at hl 0 rfl) ?_
  refine lv_iconst (v := 0) hx hb dX5_read_27 (by decide) ?_
  refine va_put (D := (dC, dI)) (ci := 4) (v := .int 0) (ty := .boolean) (C := RX5) (T := TX5) (N := 12) hx hb hG inX5 tyX5 tyX5_ok nmX5 hown hK hP hD hS 0 rfl rfl 8 (by decide) (hG _ gw314) (fun _ h9 => h9) rfl (by decide +kernel) rfl rfl (Nat.le_of_ble_eq_true rfl) dX5_read_28 (fun H11 locs hP hD hS => ?_)
  have hP : va_P (dC, dI) vwCl [(a0, .inr (4, [.int 0, .int (-1), .ref a2, .ref a3, .int 0, .int 0, .ref a4, .ref a5, .int 0, .int 0, .int 0, .int 0])), (a2, .inr (5, [.ref a6, .ref a7, .ref a8, .int 1, .int 0])), (a1, .inl (c1, 1600, .inl (fun _ => 0))), (a6, .inl (c6, 1601, .inl zf3)), (a7, .inl (c7, 1601, .inl zf4)), (a3, .inr (3, [.int 1, .int 0, .int 0, .int 0, .ref a9, .ref a10, .ref a11, .int 0, .ref a12, .ref a13, .ref a14, .int 0, .ref a15, .ref a16])), (a15, .inr (1, [.ref a17, .int 7, .ref a18])), (a17, .inl (c17, 300, .inl zf8))] H11 := hP
  have hD : va_D A [(a0, .inr (4, [.int 0, .int (-1), .ref a2, .ref a3, .int 0, .int 0, .ref a4, .ref a5, .int 0, .int 0, .int 0, .int 0])), (a2, .inr (5, [.ref a6, .ref a7, .ref a8, .int 1, .int 0])), (a1, .inl (c1, 1600, .inl (fun _ => 0))), (a6, .inl (c6, 1601, .inl zf3)), (a7, .inl (c7, 1601, .inl zf4)), (a3, .inr (3, [.int 1, .int 0, .int 0, .int 0, .ref a9, .ref a10, .ref a11, .int 0, .ref a12, .ref a13, .ref a14, .int 0, .ref a15, .ref a16])), (a15, .inr (1, [.ref a17, .int 7, .ref a18])), (a17, .inl (c17, 300, .inl zf8))] := hD
  refine lv_aload_n hx hb dX5_read_31 rfl (lv_at hl 0 rfl) ?_
  refine lv_iconst (v := 0) hx hb dX5_read_32 (by decide) ?_
  refine va_put (D := (dC, dI)) (ci := 4) (v := .int 0) (ty := .boolean) (C := RX5) (T := TX5) (N := 12) hx hb hG inX5 tyX5 tyX5_ok nmX5 hown hK hP hD hS 0 rfl rfl 9 (by decide) (hG _ gw315) (fun _ h9 => h9) rfl (by decide +kernel) rfl rfl (Nat.le_of_ble_eq_true rfl) dX5_read_33 (fun H12 locs hP hD hS => ?_)
  have hP : va_P (dC, dI) vwCl [(a0, .inr (4, [.int 0, .int (-1), .ref a2, .ref a3, .int 0, .int 0, .ref a4, .ref a5, .int 0, .int 0, .int 0, .int 0])), (a2, .inr (5, [.ref a6, .ref a7, .ref a8, .int 1, .int 0])), (a1, .inl (c1, 1600, .inl (fun _ => 0))), (a6, .inl (c6, 1601, .inl zf3)), (a7, .inl (c7, 1601, .inl zf4)), (a3, .inr (3, [.int 1, .int 0, .int 0, .int 0, .ref a9, .ref a10, .ref a11, .int 0, .ref a12, .ref a13, .ref a14, .int 0, .ref a15, .ref a16])), (a15, .inr (1, [.ref a17, .int 7, .ref a18])), (a17, .inl (c17, 300, .inl zf8))] H12 := hP
  have hD : va_D A [(a0, .inr (4, [.int 0, .int (-1), .ref a2, .ref a3, .int 0, .int 0, .ref a4, .ref a5, .int 0, .int 0, .int 0, .int 0])), (a2, .inr (5, [.ref a6, .ref a7, .ref a8, .int 1, .int 0])), (a1, .inl (c1, 1600, .inl (fun _ => 0))), (a6, .inl (c6, 1601, .inl zf3)), (a7, .inl (c7, 1601, .inl zf4)), (a3, .inr (3, [.int 1, .int 0, .int 0, .int 0, .ref a9, .ref a10, .ref a11, .int 0, .ref a12, .ref a13, .ref a14, .int 0, .ref a15, .ref a16])), (a15, .inr (1, [.ref a17, .int 7, .ref a18])), (a17, .inl (c17, 300, .inl zf8))] := hD
  refine lv_aload_n hx hb dX5_read_36 rfl (lv_at hl 0 rfl) ?_
  refine lv_iconst (v := 0) hx hb dX5_read_37 (by decide) ?_
  refine va_put (D := (dC, dI)) (ci := 4) (v := .int 0) (ty := .boolean) (C := RX5) (T := TX5) (N := 12) hx hb hG inX5 tyX5 tyX5_ok nmX5 hown hK hP hD hS 0 rfl rfl 10 (by decide) (hG _ gw316) (fun _ h9 => h9) rfl (by decide +kernel) rfl rfl (Nat.le_of_ble_eq_true rfl) dX5_read_38 (fun H13 locs hP hD hS => ?_)
  have hP : va_P (dC, dI) vwCl [(a0, .inr (4, [.int 0, .int (-1), .ref a2, .ref a3, .int 0, .int 0, .ref a4, .ref a5, .int 0, .int 0, .int 0, .int 0])), (a2, .inr (5, [.ref a6, .ref a7, .ref a8, .int 1, .int 0])), (a1, .inl (c1, 1600, .inl (fun _ => 0))), (a6, .inl (c6, 1601, .inl zf3)), (a7, .inl (c7, 1601, .inl zf4)), (a3, .inr (3, [.int 1, .int 0, .int 0, .int 0, .ref a9, .ref a10, .ref a11, .int 0, .ref a12, .ref a13, .ref a14, .int 0, .ref a15, .ref a16])), (a15, .inr (1, [.ref a17, .int 7, .ref a18])), (a17, .inl (c17, 300, .inl zf8))] H13 := hP
  have hD : va_D A [(a0, .inr (4, [.int 0, .int (-1), .ref a2, .ref a3, .int 0, .int 0, .ref a4, .ref a5, .int 0, .int 0, .int 0, .int 0])), (a2, .inr (5, [.ref a6, .ref a7, .ref a8, .int 1, .int 0])), (a1, .inl (c1, 1600, .inl (fun _ => 0))), (a6, .inl (c6, 1601, .inl zf3)), (a7, .inl (c7, 1601, .inl zf4)), (a3, .inr (3, [.int 1, .int 0, .int 0, .int 0, .ref a9, .ref a10, .ref a11, .int 0, .ref a12, .ref a13, .ref a14, .int 0, .ref a15, .ref a16])), (a15, .inr (1, [.ref a17, .int 7, .ref a18])), (a17, .inl (c17, 300, .inl zf8))] := hD
  refine lv_aload_n hx hb dX5_read_41 rfl (lv_at hl 0 rfl) ?_
  refine lv_iconst (v := 0) hx hb dX5_read_42 (by decide) ?_
  refine va_put (D := (dC, dI)) (ci := 4) (v := .int 0) (ty := .boolean) (C := RX5) (T := TX5) (N := 12) hx hb hG inX5 tyX5 tyX5_ok nmX5 hown hK hP hD hS 0 rfl rfl 11 (by decide) (hG _ gw317) (fun _ h9 => h9) rfl (by decide +kernel) rfl rfl (Nat.le_of_ble_eq_true rfl) dX5_read_43 (fun H14 locs hP hD hS => ?_)
  have hP : va_P (dC, dI) vwCl [(a0, .inr (4, [.int 0, .int (-1), .ref a2, .ref a3, .int 0, .int 0, .ref a4, .ref a5, .int 0, .int 0, .int 0, .int 0])), (a2, .inr (5, [.ref a6, .ref a7, .ref a8, .int 1, .int 0])), (a1, .inl (c1, 1600, .inl (fun _ => 0))), (a6, .inl (c6, 1601, .inl zf3)), (a7, .inl (c7, 1601, .inl zf4)), (a3, .inr (3, [.int 1, .int 0, .int 0, .int 0, .ref a9, .ref a10, .ref a11, .int 0, .ref a12, .ref a13, .ref a14, .int 0, .ref a15, .ref a16])), (a15, .inr (1, [.ref a17, .int 7, .ref a18])), (a17, .inl (c17, 300, .inl zf8))] H14 := hP
  have hD : va_D A [(a0, .inr (4, [.int 0, .int (-1), .ref a2, .ref a3, .int 0, .int 0, .ref a4, .ref a5, .int 0, .int 0, .int 0, .int 0])), (a2, .inr (5, [.ref a6, .ref a7, .ref a8, .int 1, .int 0])), (a1, .inl (c1, 1600, .inl (fun _ => 0))), (a6, .inl (c6, 1601, .inl zf3)), (a7, .inl (c7, 1601, .inl zf4)), (a3, .inr (3, [.int 1, .int 0, .int 0, .int 0, .ref a9, .ref a10, .ref a11, .int 0, .ref a12, .ref a13, .ref a14, .int 0, .ref a15, .ref a16])), (a15, .inr (1, [.ref a17, .int 7, .ref a18])), (a17, .inl (c17, 300, .inl zf8))] := hD
  refine lv_aload_n hx hb dX5_read_46 rfl (lv_at hl 0 rfl) ?_
  refine lv_iconst (v := 0) hx hb dX5_read_47 (by decide) ?_
  refine va_put (D := (dC, dI)) (ci := 4) (v := .int 0) (ty := .int) (C := RX5) (T := TX5) (N := 12) hx hb hG inX5 tyX5 tyX5_ok nmX5 hown hK hP hD hS 0 rfl rfl 4 (by decide) (hG _ gw310) (fun _ h9 => h9) rfl (by decide +kernel) rfl rfl (Nat.le_of_ble_eq_true rfl) dX5_read_48 (fun H15 locs hP hD hS => ?_)
  have hP : va_P (dC, dI) vwCl [(a0, .inr (4, [.int 0, .int (-1), .ref a2, .ref a3, .int 0, .int 0, .ref a4, .ref a5, .int 0, .int 0, .int 0, .int 0])), (a2, .inr (5, [.ref a6, .ref a7, .ref a8, .int 1, .int 0])), (a1, .inl (c1, 1600, .inl (fun _ => 0))), (a6, .inl (c6, 1601, .inl zf3)), (a7, .inl (c7, 1601, .inl zf4)), (a3, .inr (3, [.int 1, .int 0, .int 0, .int 0, .ref a9, .ref a10, .ref a11, .int 0, .ref a12, .ref a13, .ref a14, .int 0, .ref a15, .ref a16])), (a15, .inr (1, [.ref a17, .int 7, .ref a18])), (a17, .inl (c17, 300, .inl zf8))] H15 := hP
  have hD : va_D A [(a0, .inr (4, [.int 0, .int (-1), .ref a2, .ref a3, .int 0, .int 0, .ref a4, .ref a5, .int 0, .int 0, .int 0, .int 0])), (a2, .inr (5, [.ref a6, .ref a7, .ref a8, .int 1, .int 0])), (a1, .inl (c1, 1600, .inl (fun _ => 0))), (a6, .inl (c6, 1601, .inl zf3)), (a7, .inl (c7, 1601, .inl zf4)), (a3, .inr (3, [.int 1, .int 0, .int 0, .int 0, .ref a9, .ref a10, .ref a11, .int 0, .ref a12, .ref a13, .ref a14, .int 0, .ref a15, .ref a16])), (a15, .inr (1, [.ref a17, .int 7, .ref a18])), (a17, .inl (c17, 300, .inl zf8))] := hD
  refine lv_aload_n hx hb dX5_read_51 rfl (lv_at hl 0 rfl) ?_
  refine lv_aload_n hx hb dX5_read_52 rfl (lv_at hl 0 rfl) ?_
  refine va_get (D := (dC, dI)) (ci := 4) (v := .ref a2) (C := RX5) (T := TX5) (N := 12) hx hb hG inX5 hown hK hP 0 rfl rfl 2 (by decide) (hG _ gw308) (fun _ h9 => h9) rfl dX5_read_53 ?_
  refine va_get (D := (dC, dI)) (ci := 5) (v := .ref a6) (C := RX6) (T := TX6) (N := 5) hx hb hG inX6 hown hK hP 1 rfl rfl 0 (by decide) (hG _ gw167) (fun _ h9 => h9) rfl dX5_read_56 ?_
  refine lv_iconst (v := 0) hx hb dX5_read_59 (by decide) ?_
  refine va_iald hx hb hK hP 3 1 rfl rfl (vin (by decide)) dX5_read_60 ?_
  refine wt_c (v := 1) g5 ?_
  refine va_put (D := (dC, dI)) (ci := 4) (v := .int 1) (ty := .int) (C := RX5) (T := TX5) (N := 12) hx hb hG inX5 tyX5 tyX5_ok nmX5 hown hK hP hD hS 0 rfl rfl 5 (by decide) (hG _ gw311) (fun _ h9 => h9) rfl (by decide +kernel) rfl rfl (Nat.le_of_ble_eq_true rfl) dX5_read_61 (fun H16 locs hP hD hS => ?_)
  have hP : va_P (dC, dI) vwCl [(a0, .inr (4, [.int 0, .int (-1), .ref a2, .ref a3, .int 0, .int 1, .ref a4, .ref a5, .int 0, .int 0, .int 0, .int 0])), (a2, .inr (5, [.ref a6, .ref a7, .ref a8, .int 1, .int 0])), (a1, .inl (c1, 1600, .inl (fun _ => 0))), (a6, .inl (c6, 1601, .inl zf3)), (a7, .inl (c7, 1601, .inl zf4)), (a3, .inr (3, [.int 1, .int 0, .int 0, .int 0, .ref a9, .ref a10, .ref a11, .int 0, .ref a12, .ref a13, .ref a14, .int 0, .ref a15, .ref a16])), (a15, .inr (1, [.ref a17, .int 7, .ref a18])), (a17, .inl (c17, 300, .inl zf8))] H16 := hP
  have hD : va_D A [(a0, .inr (4, [.int 0, .int (-1), .ref a2, .ref a3, .int 0, .int 1, .ref a4, .ref a5, .int 0, .int 0, .int 0, .int 0])), (a2, .inr (5, [.ref a6, .ref a7, .ref a8, .int 1, .int 0])), (a1, .inl (c1, 1600, .inl (fun _ => 0))), (a6, .inl (c6, 1601, .inl zf3)), (a7, .inl (c7, 1601, .inl zf4)), (a3, .inr (3, [.int 1, .int 0, .int 0, .int 0, .ref a9, .ref a10, .ref a11, .int 0, .ref a12, .ref a13, .ref a14, .int 0, .ref a15, .ref a16])), (a15, .inr (1, [.ref a17, .int 7, .ref a18])), (a17, .inl (c17, 300, .inl zf8))] := hD
  refine lv_iconst (v := 0) hx hb dX5_read_64 (by decide) ?_
  refine lv_istore_n (lv' := [(3, .int 0), (0, .ref a0), (1, .ref a1), (2, .int 0)]) hx hb dX5_read_65 rfl hl (by decide) rfl (fun ls hl => ?_)
  refine lv_iload_n hx hb dX5_read_66 rfl (lv_at hl 0 rfl) ?_
  refine lv_sipush (v := 1600) hx hb dX5_read_67 (by decide) ?_
  refine lv_icmp_ge (tgt := 98) hx hb dX5_read_70 (by decide) (fun c_17 => absurd c_17 (by decide)) (fun c_17 => ?_)
  refine lv_aload_n hx hb dX5_read_73 rfl (lv_at hl 1 rfl) ?_
  refine va_get (D := (dC, dI)) (ci := 4) (v := .int 0) (C := RX5) (T := TX5) (N := 12) hx hb hG inX5 hown hK hP 0 rfl rfl 0 (by decide) (hG _ gw304) (fun _ h9 => h9) rfl dX5_read_74 ?_
  refine lv_if_ne (tgt := 98) hx hb dX5_read_77 (by decide) (fun c_18 => absurd (by decide) c_18) (fun c_18 => ?_)
  refine lv_aload_n hx hb dX5_read_80 rfl (lv_at hl 1 rfl) ?_
  refine va_get (D := (dC, dI)) (ci := 4) (v := .int 1) (C := RX5) (T := TX5) (N := 12) hx hb hG inX5 hown hK hP 0 rfl rfl 5 (by decide) (hG _ gw311) (fun _ h9 => h9) rfl dX5_read_81 ?_
  refine lv_iconst (v := 1) hx hb dX5_read_84 (by decide) ?_
  refine lv_icmp_eq (tgt := 98) hx hb dX5_read_85 (by decide) (fun c_19 => ?_) (fun c_19 => absurd (by decide) c_19)
  refine lv_aload_n hx hb dX5_read_98 rfl (lv_at hl 1 rfl) ?_
  refine va_get (D := (dC, dI)) (ci := 4) (v := .int 0) (C := RX5) (T := TX5) (N := 12) hx hb hG inX5 hown hK hP 0 rfl rfl 0 (by decide) (hG _ gw304) (fun _ h9 => h9) rfl dX5_read_99 ?_
  refine lv_if_ne (tgt := 109) hx hb dX5_read_102 (by decide) (fun c_20 => absurd (by decide) c_20) (fun c_20 => ?_)
  refine lv_iconst (v := 1) hx hb dX5_read_105 (by decide) ?_
  refine lv_goto (tgt := 110) hx hb dX5_read_106 (by decide) ?_
  have hP9 := hP.sub (ws' := [(a0, .inr (4, [.int 0, .int (-1), .ref a2, .ref a3, .int 0, .int 1, .ref a4, .ref a5, .int 0, .int 0, .int 0, .int 0])), (a1, .inl (c1, 1600, .inl (fun _ => 0))), (a2, .inr (5, [.ref a6, .ref a7, .ref a8, .int 1, .int 0])), (a3, .inr (3, [.int 1, .int 0, .int 0, .int 0, .ref a9, .ref a10, .ref a11, .int 0, .ref a12, .ref a13, .ref a14, .int 0, .ref a15, .ref a16])), (a6, .inl (c6, 1601, .inl zf3)), (a7, .inl (c7, 1601, .inl zf4)), (a15, .inr (1, [.ref a17, .int 7, .ref a18])), (a17, .inl (c17, 300, .inl zf8))]) [0, 2, 1, 5, 3, 4, 6, 7] rfl
  have hD9 := hD.sub (ws' := [(a0, .inr (4, [.int 0, .int (-1), .ref a2, .ref a3, .int 0, .int 1, .ref a4, .ref a5, .int 0, .int 0, .int 0, .int 0])), (a1, .inl (c1, 1600, .inl (fun _ => 0))), (a2, .inr (5, [.ref a6, .ref a7, .ref a8, .int 1, .int 0])), (a3, .inr (3, [.int 1, .int 0, .int 0, .int 0, .ref a9, .ref a10, .ref a11, .int 0, .ref a12, .ref a13, .ref a14, .int 0, .ref a15, .ref a16])), (a6, .inl (c6, 1601, .inl zf3)), (a7, .inl (c7, 1601, .inl zf4)), (a15, .inr (1, [.ref a17, .int 7, .ref a18])), (a17, .inl (c17, 300, .inl zf8))]) [0, 2, 1, 5, 3, 4, 6, 7] (by decide) rfl
  exact W.zret (v := 1) hx hb hr (by decide) (fun t ht hW => ⟨⟨1, (), rfl, rfl, ⟨zf3, zf4, zf8, by rw [ht]; exact hP9, hD9, g5⟩⟩, hS.F ht⟩) hS.2.2 dX5_read_110
set_option maxHeartbeats 4000000 in
set_option maxRecDepth 100000 in
theorem kX5_handOver (l : Launch) (dC : Nat → ClassId) (dI : Nat → Nat → Nat) (a0 a2 a3 a4 a5 a1 : Nat) (sz : Nat) : Met l yX5_handOver (.code yX5_handOver cX5_handOver 3 (some (.object "TuneApproval$Lane")) :: GW) { frames := 2, cells := 0, slots := 0, locals := 100 } (va_Pc [.ref a0, .ref a1] (pW (dC, dI) [(a0, .inr (4, [.int 0, .int (-1), .ref a2, .ref a3, .int 0, .int 1, .ref a4, .ref a5, .int 0, .int 0, .int 0, .int 0]))] [] sz)) (va_Qr (fun _ : Unit => True) (fun (_ : Unit) (ra : Nat) (t : State) => ra = a3 ∧ va_P (dC, dI) vwCl [(a0, .inr (4, [.int 0, .int (-1), .ref a2, .ref a1, .int 0, .int 1, .ref a4, .ref a5, .int 0, .int 0, .int 0, .int 0]))] t.heap ∧ va_D (va_A [(a0, .inr (4, [.int 0, .int (-1), .ref a2, .ref a3, .int 0, .int 1, .ref a4, .ref a5, .int 0, .int 0, .int 0, .int 0]))] sz) [(a0, .inr (4, [.int 0, .int (-1), .ref a2, .ref a1, .int 0, .int 1, .ref a4, .ref a5, .int 0, .int 0, .int 0, .int 0]))]) (va_A [(a0, .inr (4, [.int 0, .int (-1), .ref a2, .ref a3, .int 0, .int 1, .ref a4, .ref a5, .int 0, .int 0, .int 0, .int 0]))] sz)) 0 0 (va_A [(a0, .inr (4, [.int 0, .int (-1), .ref a2, .ref a3, .int 0, .int 1, .ref a4, .ref a5, .int 0, .int 0, .int 0, .int 0]))] sz) := by
  refine Met.ofW (cc := cX5_handOver) (maxL := 3) (ret := (some (.object "TuneApproval$Lane"))) (by decide) rfl ?_
  intro p e s m args below meth c0 s₁ B hml hv
  obtain ⟨rfl, hsz, hP, hK, hD0⟩ := hv
  have hx := B.exec
  have hb := B.bytes
  have hr := B.returns
  have hts := atoms_spec (ws := .code yX5_handOver cX5_handOver 3 (some (.object "TuneApproval$Lane")) :: GW) B.pre
  have hG : ∀ w ∈ GW, w.before _ s = true := fun w h => hts w (List.mem_cons_of_mem _ h)
  have hown : s.vm.findClass RX5 = some m.cls := findClass_of_methodNamed B.named
  have hlocks := B.notSynchronized
  subst hsz
  have hD := hD0.self (sz := s.heap.size)
  generalize hAe : va_A [(a0, .inr (4, [.int 0, .int (-1), .ref a2, .ref a3, .int 0, .int 1, .ref a4, .ref a5, .int 0, .int 0, .int 0, .int 0]))] s.heap.size = A at hD ⊢
  have hA : ∀ q : Nat, s.heap.size ≤ q → A q := fun q h => by rw [← hAe]; exact Or.inr h
  have hS : va_S A s.heap s.heap [] := va_S.rf
  have hP : va_P (dC, dI) vwCl [(a0, .inr (4, [.int 0, .int (-1), .ref a2, .ref a3, .int 0, .int 1, .ref a4, .ref a5, .int 0, .int 0, .int 0, .int 0]))] s.heap := hP
  have hl := lv_entry ([.ref a0, .ref a1]) (n := 3) (Nat.le_of_ble_eq_true rfl)
  rw [lg_entry_eq]
  generalize (lg_sl ([.ref a0, .ref a1]) ++ List.replicate (3 - (lg_sl ([.ref a0, .ref a1])).length) Slot.unset).toArray = ls at hl ⊢
  have hl : lv_has ls 3 [(0, .ref a0), (1, .ref a1)] := hl
  refine lv_aload_n hx hb dX5_handOver_0 rfl (lv_at hl 0 rfl) ?_
  refine va_get (D := (dC, dI)) (ci := 4) (v := .ref a3) (C := RX5) (T := TX5) (N := 12) hx hb hG inX5 hown hK hP 0 rfl rfl 3 (by decide) (hG _ gw309) (fun _ h9 => h9) rfl dX5_handOver_1 ?_
  refine lv_astore_n (lv' := [(2, .ref a3), (0, .ref a0), (1, .ref a1)]) hx hb dX5_handOver_4 rfl hl (by decide) rfl (fun ls hl => ?_)
  refine lv_aload_n hx hb dX5_handOver_5 rfl (lv_at hl 1 rfl) ?_
  refine lv_aload_n hx hb dX5_handOver_6 rfl (lv_at hl 2 rfl) ?_
  refine va_put (D := (dC, dI)) (ci := 4) (v := .ref a1) (ty := .object "TuneApproval$Lane") (C := RX5) (T := TX5) (N := 12) hx hb hG inX5 tyX5 tyX5_ok nmX5 hown hK hP hD hS 0 rfl rfl 3 (by decide) (hG _ gw309) (fun _ h9 => h9) rfl (by decide +kernel) rfl rfl (Nat.le_of_ble_eq_true rfl) dX5_handOver_7 (fun H1 locs hP hD hS => ?_)
  have hP : va_P (dC, dI) vwCl [(a0, .inr (4, [.int 0, .int (-1), .ref a2, .ref a1, .int 0, .int 1, .ref a4, .ref a5, .int 0, .int 0, .int 0, .int 0]))] H1 := hP
  have hD : va_D A [(a0, .inr (4, [.int 0, .int (-1), .ref a2, .ref a1, .int 0, .int 1, .ref a4, .ref a5, .int 0, .int 0, .int 0, .int 0]))] := hD
  refine lv_aload_n hx hb dX5_handOver_10 rfl (lv_at hl 0 rfl) ?_
  have hP9 := hP.sub (ws' := [(a0, .inr (4, [.int 0, .int (-1), .ref a2, .ref a1, .int 0, .int 1, .ref a4, .ref a5, .int 0, .int 0, .int 0, .int 0]))]) [0] rfl
  have hD9 := hD.sub (ws' := [(a0, .inr (4, [.int 0, .int (-1), .ref a2, .ref a1, .int 0, .int 1, .ref a4, .ref a5, .int 0, .int 0, .int 0, .int 0]))]) [0] (by decide) rfl
  exact W.aret (v := .ref a3) hx hb hr (Or.inl ⟨_, rfl⟩) (Or.inr ⟨_, rfl⟩) (fun t ht hW => ⟨⟨(), a3, rfl, trivial, ⟨rfl, by rw [ht]; exact hP9, hD9⟩⟩, hS.F ht⟩) hS.2.2 dX5_handOver_11
set_option maxHeartbeats 4000000 in
set_option maxRecDepth 100000 in
theorem kX7_backOnCart_v5 (l : Launch) (dC : Nat → ClassId) (dI : Nat → Nat → Nat) (a0 a1 a2 a3 a4 a5 : Nat) (c1 c2 c4 : ClassId) (f1 : Nat → Int32) (f2 : Nat → Int32) (f4 : Nat → Int32) (sz : Nat) : Met l yX7_backOnCart (.code yX7_backOnCart cX7_backOnCart 2 none :: GW) { frames := 2, cells := 0, slots := 0, locals := 100 } (va_Pc [.ref a0, .int 0] (pW (dC, dI) [(a0, .inr (6, [.ref a1, .ref a2, .ref a3, .ref a4, .ref a5, .int 0, .int 0])), (a1, .inl (c1, 5, .inl f1)), (a2, .inl (c2, 5, .inl f2)), (a4, .inl (c4, 5, .inl f4))] [(c1, .int), (c2, .int), (c4, .int)] sz)) (va_Qv (fun _ : Unit => True) (fun (_ : Unit) (t : State) => ∃ (F0 F1 F2 : Nat → Int32), va_P (dC, dI) vwCl [(a0, .inr (6, [.ref a1, .ref a2, .ref a3, .ref a4, .ref a5, .int 0, .int 0])), (a1, .inl (c1, 5, .inl F0)), (a2, .inl (c2, 5, .inl F1)), (a4, .inl (c4, 5, .inl F2))] t.heap ∧ va_D (va_A [(a0, .inr (6, [.ref a1, .ref a2, .ref a3, .ref a4, .ref a5, .int 0, .int 0])), (a1, .inl (c1, 5, .inl f1)), (a2, .inl (c2, 5, .inl f2)), (a4, .inl (c4, 5, .inl f4))] sz) [(a0, .inr (6, [.ref a1, .ref a2, .ref a3, .ref a4, .ref a5, .int 0, .int 0])), (a1, .inl (c1, 5, .inl F0)), (a2, .inl (c2, 5, .inl F1)), (a4, .inl (c4, 5, .inl F2))]) (va_A [(a0, .inr (6, [.ref a1, .ref a2, .ref a3, .ref a4, .ref a5, .int 0, .int 0])), (a1, .inl (c1, 5, .inl f1)), (a2, .inl (c2, 5, .inl f2)), (a4, .inl (c4, 5, .inl f4))] sz)) 0 0 (va_A [(a0, .inr (6, [.ref a1, .ref a2, .ref a3, .ref a4, .ref a5, .int 0, .int 0])), (a1, .inl (c1, 5, .inl f1)), (a2, .inl (c2, 5, .inl f2)), (a4, .inl (c4, 5, .inl f4))] sz) := by
  refine Met.ofW (cc := cX7_backOnCart) (maxL := 2) (ret := none) (by decide) rfl ?_
  intro p e s m args below meth c0 s₁ B hml hv
  obtain ⟨rfl, hsz, hP, hK, hD0⟩ := hv
  have hx := B.exec
  have hb := B.bytes
  have hr := B.returns
  have hts := atoms_spec (ws := .code yX7_backOnCart cX7_backOnCart 2 none :: GW) B.pre
  have hG : ∀ w ∈ GW, w.before _ s = true := fun w h => hts w (List.mem_cons_of_mem _ h)
  have hown : s.vm.findClass RX7 = some m.cls := findClass_of_methodNamed B.named
  have hlocks := B.notSynchronized
  subst hsz
  have hD := hD0.self (sz := s.heap.size)
  generalize hAe : va_A [(a0, .inr (6, [.ref a1, .ref a2, .ref a3, .ref a4, .ref a5, .int 0, .int 0])), (a1, .inl (c1, 5, .inl f1)), (a2, .inl (c2, 5, .inl f2)), (a4, .inl (c4, 5, .inl f4))] s.heap.size = A at hD ⊢
  have hA : ∀ q : Nat, s.heap.size ≤ q → A q := fun q h => by rw [← hAe]; exact Or.inr h
  have hS : va_S A s.heap s.heap [] := va_S.rf
  have hP : va_P (dC, dI) vwCl [(a0, .inr (6, [.ref a1, .ref a2, .ref a3, .ref a4, .ref a5, .int 0, .int 0])), (a1, .inl (c1, 5, .inl f1)), (a2, .inl (c2, 5, .inl f2)), (a4, .inl (c4, 5, .inl f4))] s.heap := hP
  have hl := lv_entry ([.ref a0, .int 0]) (n := 2) (Nat.le_of_ble_eq_true rfl)
  rw [lg_entry_eq]
  generalize (lg_sl ([.ref a0, .int 0]) ++ List.replicate (2 - (lg_sl ([.ref a0, .int 0])).length) Slot.unset).toArray = ls at hl ⊢
  have hl : lv_has ls 2 [(0, .ref a0), (1, .int 0)] := hl
  refine lv_aload_n hx hb dX7_backOnCart_0 rfl (lv_at hl 0 rfl) ?_
  refine va_get (D := (dC, dI)) (ci := 6) (v := .ref a1) (C := RX7) (T := TX7) (N := 7) hx hb hG inX7 hown hK hP 0 rfl rfl 0 (by decide) (hG _ gw351) (fun _ h9 => h9) rfl dX7_backOnCart_1 ?_
  refine lv_iload_n hx hb dX7_backOnCart_4 rfl (lv_at hl 1 rfl) ?_
  refine lv_iconst (v := (-1)) hx hb dX7_backOnCart_5 (by decide) ?_
  refine va_iast hx hb hK hP hD hS 1 0 rfl rfl (vin (by decide)) dX7_backOnCart_6 (fun H1 locs hP hD hS => ?_)
  obtain ⟨zf2, ezf2⟩ : ∃ z : Nat → Int32, z = upd f1 (0 : Int32).toNatClampNeg (-1) := ⟨_, rfl⟩
  have hP : va_P (dC, dI) vwCl [(a0, .inr (6, [.ref a1, .ref a2, .ref a3, .ref a4, .ref a5, .int 0, .int 0])), (a1, .inl (c1, 5, .inl zf2)), (a2, .inl (c2, 5, .inl f2)), (a4, .inl (c4, 5, .inl f4))] H1 := by rw [ezf2]; exact hP
  have hD : va_D A [(a0, .inr (6, [.ref a1, .ref a2, .ref a3, .ref a4, .ref a5, .int 0, .int 0])), (a1, .inl (c1, 5, .inl zf2)), (a2, .inl (c2, 5, .inl f2)), (a4, .inl (c4, 5, .inl f4))] := by rw [ezf2]; exact hD
  refine lv_aload_n hx hb dX7_backOnCart_7 rfl (lv_at hl 0 rfl) ?_
  refine va_get (D := (dC, dI)) (ci := 6) (v := .ref a2) (C := RX7) (T := TX7) (N := 7) hx hb hG inX7 hown hK hP 0 rfl rfl 1 (by decide) (hG _ gw353) (fun _ h9 => h9) rfl dX7_backOnCart_8 ?_
  refine lv_iload_n hx hb dX7_backOnCart_11 rfl (lv_at hl 1 rfl) ?_
  refine lv_iconst (v := 0) hx hb dX7_backOnCart_12 (by decide) ?_
  refine va_iast hx hb hK hP hD hS 2 1 rfl rfl (vin (by decide)) dX7_backOnCart_13 (fun H3 locs hP hD hS => ?_)
  obtain ⟨zf4, ezf4⟩ : ∃ z : Nat → Int32, z = upd f2 (0 : Int32).toNatClampNeg 0 := ⟨_, rfl⟩
  have hP : va_P (dC, dI) vwCl [(a0, .inr (6, [.ref a1, .ref a2, .ref a3, .ref a4, .ref a5, .int 0, .int 0])), (a1, .inl (c1, 5, .inl zf2)), (a2, .inl (c2, 5, .inl zf4)), (a4, .inl (c4, 5, .inl f4))] H3 := by rw [ezf4]; exact hP
  have hD : va_D A [(a0, .inr (6, [.ref a1, .ref a2, .ref a3, .ref a4, .ref a5, .int 0, .int 0])), (a1, .inl (c1, 5, .inl zf2)), (a2, .inl (c2, 5, .inl zf4)), (a4, .inl (c4, 5, .inl f4))] := by rw [ezf4]; exact hD
  refine lv_aload_n hx hb dX7_backOnCart_14 rfl (lv_at hl 0 rfl) ?_
  refine va_get (D := (dC, dI)) (ci := 6) (v := .ref a4) (C := RX7) (T := TX7) (N := 7) hx hb hG inX7 hown hK hP 0 rfl rfl 3 (by decide) (hG _ gw357) (fun _ h9 => h9) rfl dX7_backOnCart_15 ?_
  refine lv_iload_n hx hb dX7_backOnCart_18 rfl (lv_at hl 1 rfl) ?_
  refine lv_iconst (v := 0) hx hb dX7_backOnCart_19 (by decide) ?_
  refine va_iast hx hb hK hP hD hS 3 2 rfl rfl (vin (by decide)) dX7_backOnCart_20 (fun H5 locs hP hD hS => ?_)
  obtain ⟨zf6, ezf6⟩ : ∃ z : Nat → Int32, z = upd f4 (0 : Int32).toNatClampNeg 0 := ⟨_, rfl⟩
  have hP : va_P (dC, dI) vwCl [(a0, .inr (6, [.ref a1, .ref a2, .ref a3, .ref a4, .ref a5, .int 0, .int 0])), (a1, .inl (c1, 5, .inl zf2)), (a2, .inl (c2, 5, .inl zf4)), (a4, .inl (c4, 5, .inl zf6))] H5 := by rw [ezf6]; exact hP
  have hD : va_D A [(a0, .inr (6, [.ref a1, .ref a2, .ref a3, .ref a4, .ref a5, .int 0, .int 0])), (a1, .inl (c1, 5, .inl zf2)), (a2, .inl (c2, 5, .inl zf4)), (a4, .inl (c4, 5, .inl zf6))] := by rw [ezf6]; exact hD
  have hP9 := hP.sub (ws' := [(a0, .inr (6, [.ref a1, .ref a2, .ref a3, .ref a4, .ref a5, .int 0, .int 0])), (a1, .inl (c1, 5, .inl zf2)), (a2, .inl (c2, 5, .inl zf4)), (a4, .inl (c4, 5, .inl zf6))]) [0, 1, 2, 3] rfl
  have hD9 := hD.sub (ws' := [(a0, .inr (6, [.ref a1, .ref a2, .ref a3, .ref a4, .ref a5, .int 0, .int 0])), (a1, .inl (c1, 5, .inl zf2)), (a2, .inl (c2, 5, .inl zf4)), (a4, .inl (c4, 5, .inl zf6))]) [0, 1, 2, 3] (by decide) rfl
  exact W.vret hx hb hr (fun t ht hW => ⟨⟨(), rfl, trivial, ⟨zf2, zf4, zf6, by rw [ht]; exact hP9, hD9⟩⟩, hS.F ht⟩) hS.2.2 dX7_backOnCart_21
set_option maxHeartbeats 4000000 in
set_option maxRecDepth 100000 in
theorem kX7_begin_v1 (l : Launch) (dC : Nat → ClassId) (dI : Nat → Nat → Nat) (a0 a2 a3 a4 a5 a6 a1 a7 a8 a9 a10 a11 a12 a13 a14 : Nat) (c2 c3 c4 c5 c6 : ClassId) (f2 : Nat → Int32) (f3 : Nat → Int32) (f4 : Nat → Int32) (f5 : Nat → Int32) (f6 : Nat → Int32) (sz : Nat) : Met l yX7_begin (.code yX7_begin cX7_begin 3 none :: GW) { frames := 4, cells := 0, slots := 0, locals := 161 } (va_Pc [.ref a0, .ref a1] (pW (dC, dI) [(a0, .inr (6, [.ref a2, .ref a3, .ref a4, .ref a5, .ref a6, .int 0, .int 0])), (a1, .inr (3, [.int 1, .int 0, .int 0, .int 0, .ref a7, .ref a8, .ref a9, .int 0, .ref a10, .ref a11, .ref a12, .int 0, .ref a13, .ref a14])), (a2, .inl (c2, 5, .inl f2)), (a3, .inl (c3, 5, .inl f3)), (a4, .inl (c4, 5, .inl f4)), (a5, .inl (c5, 5, .inl f5)), (a6, .inl (c6, 4, .inl f6))] [(c2, .int), (c3, .int), (c4, .int), (c5, .int), (c6, .int)] sz)) (va_Qv (fun _ : Unit => True) (fun (_ : Unit) (t : State) => ∃ (F0 F1 F2 F3 F4 : Nat → Int32), va_P (dC, dI) vwCl [(a0, .inr (6, [.ref a2, .ref a3, .ref a4, .ref a5, .ref a6, .int 0, .int 0])), (a1, .inr (3, [.int 1, .int 0, .int 0, .int 0, .ref a7, .ref a8, .ref a9, .int 0, .ref a10, .ref a11, .ref a12, .int 0, .ref a13, .ref a14])), (a2, .inl (c2, 5, .inl F0)), (a3, .inl (c3, 5, .inl F1)), (a4, .inl (c4, 5, .inl F2)), (a5, .inl (c5, 5, .inl F3)), (a6, .inl (c6, 4, .inl F4))] t.heap ∧ va_D (va_A [(a0, .inr (6, [.ref a2, .ref a3, .ref a4, .ref a5, .ref a6, .int 0, .int 0])), (a1, .inr (3, [.int 1, .int 0, .int 0, .int 0, .ref a7, .ref a8, .ref a9, .int 0, .ref a10, .ref a11, .ref a12, .int 0, .ref a13, .ref a14])), (a2, .inl (c2, 5, .inl f2)), (a3, .inl (c3, 5, .inl f3)), (a4, .inl (c4, 5, .inl f4)), (a5, .inl (c5, 5, .inl f5)), (a6, .inl (c6, 4, .inl f6))] sz) [(a0, .inr (6, [.ref a2, .ref a3, .ref a4, .ref a5, .ref a6, .int 0, .int 0])), (a1, .inr (3, [.int 1, .int 0, .int 0, .int 0, .ref a7, .ref a8, .ref a9, .int 0, .ref a10, .ref a11, .ref a12, .int 0, .ref a13, .ref a14])), (a2, .inl (c2, 5, .inl F0)), (a3, .inl (c3, 5, .inl F1)), (a4, .inl (c4, 5, .inl F2)), (a5, .inl (c5, 5, .inl F3)), (a6, .inl (c6, 4, .inl F4))]) (va_A [(a0, .inr (6, [.ref a2, .ref a3, .ref a4, .ref a5, .ref a6, .int 0, .int 0])), (a1, .inr (3, [.int 1, .int 0, .int 0, .int 0, .ref a7, .ref a8, .ref a9, .int 0, .ref a10, .ref a11, .ref a12, .int 0, .ref a13, .ref a14])), (a2, .inl (c2, 5, .inl f2)), (a3, .inl (c3, 5, .inl f3)), (a4, .inl (c4, 5, .inl f4)), (a5, .inl (c5, 5, .inl f5)), (a6, .inl (c6, 4, .inl f6))] sz)) 0 0 (va_A [(a0, .inr (6, [.ref a2, .ref a3, .ref a4, .ref a5, .ref a6, .int 0, .int 0])), (a1, .inr (3, [.int 1, .int 0, .int 0, .int 0, .ref a7, .ref a8, .ref a9, .int 0, .ref a10, .ref a11, .ref a12, .int 0, .ref a13, .ref a14])), (a2, .inl (c2, 5, .inl f2)), (a3, .inl (c3, 5, .inl f3)), (a4, .inl (c4, 5, .inl f4)), (a5, .inl (c5, 5, .inl f5)), (a6, .inl (c6, 4, .inl f6))] sz) := by
  refine Met.ofW (cc := cX7_begin) (maxL := 3) (ret := none) (by decide) rfl ?_
  intro p e s m args below meth c0 s₁ B hml hv
  obtain ⟨rfl, hsz, hP, hK, hD0⟩ := hv
  have hx := B.exec
  have hb := B.bytes
  have hr := B.returns
  have hts := atoms_spec (ws := .code yX7_begin cX7_begin 3 none :: GW) B.pre
  have hG : ∀ w ∈ GW, w.before _ s = true := fun w h => hts w (List.mem_cons_of_mem _ h)
  have hown : s.vm.findClass RX7 = some m.cls := findClass_of_methodNamed B.named
  have hlocks := B.notSynchronized
  subst hsz
  have hD := hD0.self (sz := s.heap.size)
  generalize hAe : va_A [(a0, .inr (6, [.ref a2, .ref a3, .ref a4, .ref a5, .ref a6, .int 0, .int 0])), (a1, .inr (3, [.int 1, .int 0, .int 0, .int 0, .ref a7, .ref a8, .ref a9, .int 0, .ref a10, .ref a11, .ref a12, .int 0, .ref a13, .ref a14])), (a2, .inl (c2, 5, .inl f2)), (a3, .inl (c3, 5, .inl f3)), (a4, .inl (c4, 5, .inl f4)), (a5, .inl (c5, 5, .inl f5)), (a6, .inl (c6, 4, .inl f6))] s.heap.size = A at hD ⊢
  have hA : ∀ q : Nat, s.heap.size ≤ q → A q := fun q h => by rw [← hAe]; exact Or.inr h
  have hS : va_S A s.heap s.heap [] := va_S.rf
  have hP : va_P (dC, dI) vwCl [(a0, .inr (6, [.ref a2, .ref a3, .ref a4, .ref a5, .ref a6, .int 0, .int 0])), (a1, .inr (3, [.int 1, .int 0, .int 0, .int 0, .ref a7, .ref a8, .ref a9, .int 0, .ref a10, .ref a11, .ref a12, .int 0, .ref a13, .ref a14])), (a2, .inl (c2, 5, .inl f2)), (a3, .inl (c3, 5, .inl f3)), (a4, .inl (c4, 5, .inl f4)), (a5, .inl (c5, 5, .inl f5)), (a6, .inl (c6, 4, .inl f6))] s.heap := hP
  have hl := lv_entry ([.ref a0, .ref a1]) (n := 3) (Nat.le_of_ble_eq_true rfl)
  rw [lg_entry_eq]
  generalize (lg_sl ([.ref a0, .ref a1]) ++ List.replicate (3 - (lg_sl ([.ref a0, .ref a1])).length) Slot.unset).toArray = ls at hl ⊢
  have hl : lv_has ls 3 [(0, .ref a0), (1, .ref a1)] := hl
  refine lv_iconst (v := 0) hx hb dX7_begin_0 (by decide) ?_
  refine lv_istore_n (lv' := [(2, .int 0), (0, .ref a0), (1, .ref a1)]) hx hb dX7_begin_1 rfl hl (by decide) rfl (fun ls hl => ?_)
  refine lv_iload_n hx hb dX7_begin_2 rfl (lv_at hl 0 rfl) ?_
  refine lv_iconst (v := 5) hx hb dX7_begin_3 (by decide) ?_
  refine lv_icmp_ge (tgt := 25) hx hb dX7_begin_4 (by decide) (fun c_1 => absurd c_1 (by decide)) (fun c_1 => ?_)
  refine lv_aload_n hx hb dX7_begin_7 rfl (lv_at hl 1 rfl) ?_
  refine lv_iload_n hx hb dX7_begin_8 rfl (lv_at hl 0 rfl) ?_
  have hPc := hP.sub (ws' := [(a0, .inr (6, [.ref a2, .ref a3, .ref a4, .ref a5, .ref a6, .int 0, .int 0])), (a2, .inl (c2, 5, .inl f2)), (a3, .inl (c3, 5, .inl f3)), (a5, .inl (c5, 5, .inl f5))]) [0, 2, 3, 5] rfl
  have hKc := hK.sub (tys' := [(c2, .int), (c3, .int), (c5, .int)]) [0, 1, 3] rfl
  have hDc := hD.sub (ws' := [(a0, .inr (6, [.ref a2, .ref a3, .ref a4, .ref a5, .ref a6, .int 0, .int 0])), (a2, .inl (c2, 5, .inl f2)), (a3, .inl (c3, 5, .inl f3)), (a5, .inl (c5, 5, .inl f5))]) [0, 2, 3, 5] (by decide) rfl
  have hFc := va_free (wc := [(a0, .inr (6, [.ref a2, .ref a3, .ref a4, .ref a5, .ref a6, .int 0, .int 0])), (a2, .inl (c2, 5, .inl f2)), (a3, .inl (c3, 5, .inl f3)), (a5, .inl (c5, 5, .inl f5))]) hD hS hA [0, 2, 3, 5] rfl
  refine va_callv (va_runV (As := [.int 0]) (rest := []) ⟨hx, hb, hml, hown, hG⟩ (kX7_backOnCart_v5 l dC dI a0 a2 a3 a4 a5 a6 c2 c3 c5 f2 f3 f5 s.heap.size ) (cwV 1 hG (goodV gw453 gw454 gw455 gw134 gw456) rfl rfl rfl hd_X7_backOnCart ⟨(Nat.le_of_ble_eq_true rfl), (Nat.le_of_ble_eq_true rfl)⟩) ⟨fbW, va_recv hKc hPc (ci := 6) (q0 := 0) rfl rfl, pW_in hPc hKc hDc⟩ rfl rfl hl.1 rfl (lv_room (Nat.le_of_ble_eq_true rfl)) dX7_begin_9 ⟨(Nat.le_of_ble_eq_true rfl), (Nat.le_of_ble_eq_true rfl)⟩) hS (fun q _ h => hFc q h) hFc (fun u t H2 locs ht hvm hw hB hz1 hk1 hS => ?_)
  obtain ⟨zf4, zf5, zf6, hP1, hD1⟩ := hB
  rw [ht] at hP1
  obtain ⟨hP, hD⟩ := va_join (wr := [(a1, .inr (3, [.int 1, .int 0, .int 0, .int 0, .ref a7, .ref a8, .ref a9, .int 0, .ref a10, .ref a11, .ref a12, .int 0, .ref a13, .ref a14])), (a4, .inl (c4, 5, .inl f4)), (a6, .inl (c6, 4, .inl f6))]) (w1 := [(a0, .inr (6, [.ref a2, .ref a3, .ref a4, .ref a5, .ref a6, .int 0, .int 0])), (a2, .inl (c2, 5, .inl zf4)), (a3, .inl (c3, 5, .inl zf5)), (a5, .inl (c5, 5, .inl zf6))]) hP hD [0, 2, 3, 5] [1, 4, 6] rfl rfl (by decide) (by decide) hk1 hFc hP1 hD1
  have hP : va_P (dC, dI) vwCl [(a1, .inr (3, [.int 1, .int 0, .int 0, .int 0, .ref a7, .ref a8, .ref a9, .int 0, .ref a10, .ref a11, .ref a12, .int 0, .ref a13, .ref a14])), (a4, .inl (c4, 5, .inl f4)), (a6, .inl (c6, 4, .inl f6)), (a0, .inr (6, [.ref a2, .ref a3, .ref a4, .ref a5, .ref a6, .int 0, .int 0])), (a2, .inl (c2, 5, .inl zf4)), (a3, .inl (c3, 5, .inl zf5)), (a5, .inl (c5, 5, .inl zf6))] H2 := hP
  have hD : va_D A [(a1, .inr (3, [.int 1, .int 0, .int 0, .int 0, .ref a7, .ref a8, .ref a9, .int 0, .ref a10, .ref a11, .ref a12, .int 0, .ref a13, .ref a14])), (a4, .inl (c4, 5, .inl f4)), (a6, .inl (c6, 4, .inl f6)), (a0, .inr (6, [.ref a2, .ref a3, .ref a4, .ref a5, .ref a6, .int 0, .int 0])), (a2, .inl (c2, 5, .inl zf4)), (a3, .inl (c3, 5, .inl zf5)), (a5, .inl (c5, 5, .inl zf6))] := hD
  refine lv_aload_n hx hb dX7_begin_12 rfl (lv_at hl 1 rfl) ?_
  refine va_get (D := (dC, dI)) (ci := 6) (v := .ref a4) (C := RX7) (T := TX7) (N := 7) hx hb hG inX7 hown hK hP 3 rfl rfl 2 (by decide) (hG _ gw355) (fun _ h9 => h9) rfl dX7_begin_13 ?_
  refine lv_iload_n hx hb dX7_begin_16 rfl (lv_at hl 0 rfl) ?_
  refine lv_iconst (v := 0) hx hb dX7_begin_17 (by decide) ?_
  refine va_iast hx hb hK hP hD hS 1 2 rfl rfl (vin (by decide)) dX7_begin_18 (fun H7 locs hP hD hS => ?_)
  obtain ⟨zf8, ezf8⟩ : ∃ z : Nat → Int32, z = upd f4 (0 : Int32).toNatClampNeg 0 := ⟨_, rfl⟩
  have hP : va_P (dC, dI) vwCl [(a1, .inr (3, [.int 1, .int 0, .int 0, .int 0, .ref a7, .ref a8, .ref a9, .int 0, .ref a10, .ref a11, .ref a12, .int 0, .ref a13, .ref a14])), (a4, .inl (c4, 5, .inl zf8)), (a6, .inl (c6, 4, .inl f6)), (a0, .inr (6, [.ref a2, .ref a3, .ref a4, .ref a5, .ref a6, .int 0, .int 0])), (a2, .inl (c2, 5, .inl zf4)), (a3, .inl (c3, 5, .inl zf5)), (a5, .inl (c5, 5, .inl zf6))] H7 := by rw [ezf8]; exact hP
  have hD : va_D A [(a1, .inr (3, [.int 1, .int 0, .int 0, .int 0, .ref a7, .ref a8, .ref a9, .int 0, .ref a10, .ref a11, .ref a12, .int 0, .ref a13, .ref a14])), (a4, .inl (c4, 5, .inl zf8)), (a6, .inl (c6, 4, .inl f6)), (a0, .inr (6, [.ref a2, .ref a3, .ref a4, .ref a5, .ref a6, .int 0, .int 0])), (a2, .inl (c2, 5, .inl zf4)), (a3, .inl (c3, 5, .inl zf5)), (a5, .inl (c5, 5, .inl zf6))] := by rw [ezf8]; exact hD
  refine lv_iinc (v := 1) (lv' := [(2, .int 1), (0, .ref a0), (1, .ref a1)]) hx hb dX7_begin_19 hl (k := 0) rfl (by decide) (by decide) rfl (fun ls hl => ?_)
  refine lv_goto (tgt := 2) hx hb dX7_begin_22 (by decide) ?_
  refine lv_iload_n hx hb dX7_begin_2 rfl (lv_at hl 0 rfl) ?_
  refine lv_iconst (v := 5) hx hb dX7_begin_3 (by decide) ?_
  refine lv_icmp_ge (tgt := 25) hx hb dX7_begin_4 (by decide) (fun c_9 => absurd c_9 (by decide)) (fun c_9 => ?_)
  refine lv_aload_n hx hb dX7_begin_7 rfl (lv_at hl 1 rfl) ?_
  refine lv_iload_n hx hb dX7_begin_8 rfl (lv_at hl 0 rfl) ?_
  have hPc := hP.sub (ws' := [(a0, .inr (6, [.ref a2, .ref a3, .ref a4, .ref a5, .ref a6, .int 0, .int 0])), (a2, .inl (c2, 5, .inl zf4)), (a3, .inl (c3, 5, .inl zf5)), (a5, .inl (c5, 5, .inl zf6))]) [3, 4, 5, 6] rfl
  have hKc := hK.sub (tys' := [(c2, .int), (c3, .int), (c5, .int)]) [0, 1, 3] rfl
  have hDc := hD.sub (ws' := [(a0, .inr (6, [.ref a2, .ref a3, .ref a4, .ref a5, .ref a6, .int 0, .int 0])), (a2, .inl (c2, 5, .inl zf4)), (a3, .inl (c3, 5, .inl zf5)), (a5, .inl (c5, 5, .inl zf6))]) [3, 4, 5, 6] (by decide) rfl
  have hFc := va_free (wc := [(a0, .inr (6, [.ref a2, .ref a3, .ref a4, .ref a5, .ref a6, .int 0, .int 0])), (a2, .inl (c2, 5, .inl zf4)), (a3, .inl (c3, 5, .inl zf5)), (a5, .inl (c5, 5, .inl zf6))]) hD hS hA [3, 4, 5, 6] rfl
  refine va_callv (va_runV (As := [.int 1]) (rest := []) ⟨hx, hb, hml, hown, hG⟩ (kX7_backOnCart_v1 l dC dI a0 a2 a3 a4 a5 a6 c2 c3 c5 zf4 zf5 zf6 H7.size ) (cwV 1 hG (goodV gw453 gw454 gw455 gw134 gw456) rfl rfl rfl hd_X7_backOnCart ⟨(Nat.le_of_ble_eq_true rfl), (Nat.le_of_ble_eq_true rfl)⟩) ⟨fbW, va_recv hKc hPc (ci := 6) (q0 := 0) rfl rfl, pW_in hPc hKc hDc⟩ rfl rfl hl.1 rfl (lv_room (Nat.le_of_ble_eq_true rfl)) dX7_begin_9 ⟨(Nat.le_of_ble_eq_true rfl), (Nat.le_of_ble_eq_true rfl)⟩) hS (fun q _ h => hFc q h) hFc (fun u t H10 locs ht hvm hw hB hz1 hk1 hS => ?_)
  obtain ⟨zf12, zf13, zf14, hP1, hD1⟩ := hB
  rw [ht] at hP1
  obtain ⟨hP, hD⟩ := va_join (wr := [(a1, .inr (3, [.int 1, .int 0, .int 0, .int 0, .ref a7, .ref a8, .ref a9, .int 0, .ref a10, .ref a11, .ref a12, .int 0, .ref a13, .ref a14])), (a4, .inl (c4, 5, .inl zf8)), (a6, .inl (c6, 4, .inl f6))]) (w1 := [(a0, .inr (6, [.ref a2, .ref a3, .ref a4, .ref a5, .ref a6, .int 0, .int 0])), (a2, .inl (c2, 5, .inl zf12)), (a3, .inl (c3, 5, .inl zf13)), (a5, .inl (c5, 5, .inl zf14))]) hP hD [3, 4, 5, 6] [0, 1, 2] rfl rfl (by decide) (by decide) hk1 hFc hP1 hD1
  have hP : va_P (dC, dI) vwCl [(a1, .inr (3, [.int 1, .int 0, .int 0, .int 0, .ref a7, .ref a8, .ref a9, .int 0, .ref a10, .ref a11, .ref a12, .int 0, .ref a13, .ref a14])), (a4, .inl (c4, 5, .inl zf8)), (a6, .inl (c6, 4, .inl f6)), (a0, .inr (6, [.ref a2, .ref a3, .ref a4, .ref a5, .ref a6, .int 0, .int 0])), (a2, .inl (c2, 5, .inl zf12)), (a3, .inl (c3, 5, .inl zf13)), (a5, .inl (c5, 5, .inl zf14))] H10 := hP
  have hD : va_D A [(a1, .inr (3, [.int 1, .int 0, .int 0, .int 0, .ref a7, .ref a8, .ref a9, .int 0, .ref a10, .ref a11, .ref a12, .int 0, .ref a13, .ref a14])), (a4, .inl (c4, 5, .inl zf8)), (a6, .inl (c6, 4, .inl f6)), (a0, .inr (6, [.ref a2, .ref a3, .ref a4, .ref a5, .ref a6, .int 0, .int 0])), (a2, .inl (c2, 5, .inl zf12)), (a3, .inl (c3, 5, .inl zf13)), (a5, .inl (c5, 5, .inl zf14))] := hD
  refine lv_aload_n hx hb dX7_begin_12 rfl (lv_at hl 1 rfl) ?_
  refine va_get (D := (dC, dI)) (ci := 6) (v := .ref a4) (C := RX7) (T := TX7) (N := 7) hx hb hG inX7 hown hK hP 3 rfl rfl 2 (by decide) (hG _ gw355) (fun _ h9 => h9) rfl dX7_begin_13 ?_
  refine lv_iload_n hx hb dX7_begin_16 rfl (lv_at hl 0 rfl) ?_
  refine lv_iconst (v := 0) hx hb dX7_begin_17 (by decide) ?_
  refine va_iast hx hb hK hP hD hS 1 2 rfl rfl (vin (by decide)) dX7_begin_18 (fun H15 locs hP hD hS => ?_)
  obtain ⟨zf16, ezf16⟩ : ∃ z : Nat → Int32, z = upd zf8 (1 : Int32).toNatClampNeg 0 := ⟨_, rfl⟩
  have hP : va_P (dC, dI) vwCl [(a1, .inr (3, [.int 1, .int 0, .int 0, .int 0, .ref a7, .ref a8, .ref a9, .int 0, .ref a10, .ref a11, .ref a12, .int 0, .ref a13, .ref a14])), (a4, .inl (c4, 5, .inl zf16)), (a6, .inl (c6, 4, .inl f6)), (a0, .inr (6, [.ref a2, .ref a3, .ref a4, .ref a5, .ref a6, .int 0, .int 0])), (a2, .inl (c2, 5, .inl zf12)), (a3, .inl (c3, 5, .inl zf13)), (a5, .inl (c5, 5, .inl zf14))] H15 := by rw [ezf16]; exact hP
  have hD : va_D A [(a1, .inr (3, [.int 1, .int 0, .int 0, .int 0, .ref a7, .ref a8, .ref a9, .int 0, .ref a10, .ref a11, .ref a12, .int 0, .ref a13, .ref a14])), (a4, .inl (c4, 5, .inl zf16)), (a6, .inl (c6, 4, .inl f6)), (a0, .inr (6, [.ref a2, .ref a3, .ref a4, .ref a5, .ref a6, .int 0, .int 0])), (a2, .inl (c2, 5, .inl zf12)), (a3, .inl (c3, 5, .inl zf13)), (a5, .inl (c5, 5, .inl zf14))] := by rw [ezf16]; exact hD
  refine lv_iinc (v := 2) (lv' := [(2, .int 2), (0, .ref a0), (1, .ref a1)]) hx hb dX7_begin_19 hl (k := 0) rfl (by decide) (by decide) rfl (fun ls hl => ?_)
  refine lv_goto (tgt := 2) hx hb dX7_begin_22 (by decide) ?_
  refine lv_iload_n hx hb dX7_begin_2 rfl (lv_at hl 0 rfl) ?_
  refine lv_iconst (v := 5) hx hb dX7_begin_3 (by decide) ?_
  refine lv_icmp_ge (tgt := 25) hx hb dX7_begin_4 (by decide) (fun c_17 => absurd c_17 (by decide)) (fun c_17 => ?_)
  refine lv_aload_n hx hb dX7_begin_7 rfl (lv_at hl 1 rfl) ?_
  refine lv_iload_n hx hb dX7_begin_8 rfl (lv_at hl 0 rfl) ?_
  have hPc := hP.sub (ws' := [(a0, .inr (6, [.ref a2, .ref a3, .ref a4, .ref a5, .ref a6, .int 0, .int 0])), (a2, .inl (c2, 5, .inl zf12)), (a3, .inl (c3, 5, .inl zf13)), (a5, .inl (c5, 5, .inl zf14))]) [3, 4, 5, 6] rfl
  have hKc := hK.sub (tys' := [(c2, .int), (c3, .int), (c5, .int)]) [0, 1, 3] rfl
  have hDc := hD.sub (ws' := [(a0, .inr (6, [.ref a2, .ref a3, .ref a4, .ref a5, .ref a6, .int 0, .int 0])), (a2, .inl (c2, 5, .inl zf12)), (a3, .inl (c3, 5, .inl zf13)), (a5, .inl (c5, 5, .inl zf14))]) [3, 4, 5, 6] (by decide) rfl
  have hFc := va_free (wc := [(a0, .inr (6, [.ref a2, .ref a3, .ref a4, .ref a5, .ref a6, .int 0, .int 0])), (a2, .inl (c2, 5, .inl zf12)), (a3, .inl (c3, 5, .inl zf13)), (a5, .inl (c5, 5, .inl zf14))]) hD hS hA [3, 4, 5, 6] rfl
  refine va_callv (va_runV (As := [.int 2]) (rest := []) ⟨hx, hb, hml, hown, hG⟩ (kX7_backOnCart_v2 l dC dI a0 a2 a3 a4 a5 a6 c2 c3 c5 zf12 zf13 zf14 H15.size ) (cwV 1 hG (goodV gw453 gw454 gw455 gw134 gw456) rfl rfl rfl hd_X7_backOnCart ⟨(Nat.le_of_ble_eq_true rfl), (Nat.le_of_ble_eq_true rfl)⟩) ⟨fbW, va_recv hKc hPc (ci := 6) (q0 := 0) rfl rfl, pW_in hPc hKc hDc⟩ rfl rfl hl.1 rfl (lv_room (Nat.le_of_ble_eq_true rfl)) dX7_begin_9 ⟨(Nat.le_of_ble_eq_true rfl), (Nat.le_of_ble_eq_true rfl)⟩) hS (fun q _ h => hFc q h) hFc (fun u t H18 locs ht hvm hw hB hz1 hk1 hS => ?_)
  obtain ⟨zf20, zf21, zf22, hP1, hD1⟩ := hB
  rw [ht] at hP1
  obtain ⟨hP, hD⟩ := va_join (wr := [(a1, .inr (3, [.int 1, .int 0, .int 0, .int 0, .ref a7, .ref a8, .ref a9, .int 0, .ref a10, .ref a11, .ref a12, .int 0, .ref a13, .ref a14])), (a4, .inl (c4, 5, .inl zf16)), (a6, .inl (c6, 4, .inl f6))]) (w1 := [(a0, .inr (6, [.ref a2, .ref a3, .ref a4, .ref a5, .ref a6, .int 0, .int 0])), (a2, .inl (c2, 5, .inl zf20)), (a3, .inl (c3, 5, .inl zf21)), (a5, .inl (c5, 5, .inl zf22))]) hP hD [3, 4, 5, 6] [0, 1, 2] rfl rfl (by decide) (by decide) hk1 hFc hP1 hD1
  have hP : va_P (dC, dI) vwCl [(a1, .inr (3, [.int 1, .int 0, .int 0, .int 0, .ref a7, .ref a8, .ref a9, .int 0, .ref a10, .ref a11, .ref a12, .int 0, .ref a13, .ref a14])), (a4, .inl (c4, 5, .inl zf16)), (a6, .inl (c6, 4, .inl f6)), (a0, .inr (6, [.ref a2, .ref a3, .ref a4, .ref a5, .ref a6, .int 0, .int 0])), (a2, .inl (c2, 5, .inl zf20)), (a3, .inl (c3, 5, .inl zf21)), (a5, .inl (c5, 5, .inl zf22))] H18 := hP
  have hD : va_D A [(a1, .inr (3, [.int 1, .int 0, .int 0, .int 0, .ref a7, .ref a8, .ref a9, .int 0, .ref a10, .ref a11, .ref a12, .int 0, .ref a13, .ref a14])), (a4, .inl (c4, 5, .inl zf16)), (a6, .inl (c6, 4, .inl f6)), (a0, .inr (6, [.ref a2, .ref a3, .ref a4, .ref a5, .ref a6, .int 0, .int 0])), (a2, .inl (c2, 5, .inl zf20)), (a3, .inl (c3, 5, .inl zf21)), (a5, .inl (c5, 5, .inl zf22))] := hD
  refine lv_aload_n hx hb dX7_begin_12 rfl (lv_at hl 1 rfl) ?_
  refine va_get (D := (dC, dI)) (ci := 6) (v := .ref a4) (C := RX7) (T := TX7) (N := 7) hx hb hG inX7 hown hK hP 3 rfl rfl 2 (by decide) (hG _ gw355) (fun _ h9 => h9) rfl dX7_begin_13 ?_
  refine lv_iload_n hx hb dX7_begin_16 rfl (lv_at hl 0 rfl) ?_
  refine lv_iconst (v := 0) hx hb dX7_begin_17 (by decide) ?_
  refine va_iast hx hb hK hP hD hS 1 2 rfl rfl (vin (by decide)) dX7_begin_18 (fun H23 locs hP hD hS => ?_)
  obtain ⟨zf24, ezf24⟩ : ∃ z : Nat → Int32, z = upd zf16 (2 : Int32).toNatClampNeg 0 := ⟨_, rfl⟩
  have hP : va_P (dC, dI) vwCl [(a1, .inr (3, [.int 1, .int 0, .int 0, .int 0, .ref a7, .ref a8, .ref a9, .int 0, .ref a10, .ref a11, .ref a12, .int 0, .ref a13, .ref a14])), (a4, .inl (c4, 5, .inl zf24)), (a6, .inl (c6, 4, .inl f6)), (a0, .inr (6, [.ref a2, .ref a3, .ref a4, .ref a5, .ref a6, .int 0, .int 0])), (a2, .inl (c2, 5, .inl zf20)), (a3, .inl (c3, 5, .inl zf21)), (a5, .inl (c5, 5, .inl zf22))] H23 := by rw [ezf24]; exact hP
  have hD : va_D A [(a1, .inr (3, [.int 1, .int 0, .int 0, .int 0, .ref a7, .ref a8, .ref a9, .int 0, .ref a10, .ref a11, .ref a12, .int 0, .ref a13, .ref a14])), (a4, .inl (c4, 5, .inl zf24)), (a6, .inl (c6, 4, .inl f6)), (a0, .inr (6, [.ref a2, .ref a3, .ref a4, .ref a5, .ref a6, .int 0, .int 0])), (a2, .inl (c2, 5, .inl zf20)), (a3, .inl (c3, 5, .inl zf21)), (a5, .inl (c5, 5, .inl zf22))] := by rw [ezf24]; exact hD
  refine lv_iinc (v := 3) (lv' := [(2, .int 3), (0, .ref a0), (1, .ref a1)]) hx hb dX7_begin_19 hl (k := 0) rfl (by decide) (by decide) rfl (fun ls hl => ?_)
  refine lv_goto (tgt := 2) hx hb dX7_begin_22 (by decide) ?_
  refine lv_iload_n hx hb dX7_begin_2 rfl (lv_at hl 0 rfl) ?_
  refine lv_iconst (v := 5) hx hb dX7_begin_3 (by decide) ?_
  refine lv_icmp_ge (tgt := 25) hx hb dX7_begin_4 (by decide) (fun c_25 => absurd c_25 (by decide)) (fun c_25 => ?_)
  refine lv_aload_n hx hb dX7_begin_7 rfl (lv_at hl 1 rfl) ?_
  refine lv_iload_n hx hb dX7_begin_8 rfl (lv_at hl 0 rfl) ?_
  have hPc := hP.sub (ws' := [(a0, .inr (6, [.ref a2, .ref a3, .ref a4, .ref a5, .ref a6, .int 0, .int 0])), (a2, .inl (c2, 5, .inl zf20)), (a3, .inl (c3, 5, .inl zf21)), (a5, .inl (c5, 5, .inl zf22))]) [3, 4, 5, 6] rfl
  have hKc := hK.sub (tys' := [(c2, .int), (c3, .int), (c5, .int)]) [0, 1, 3] rfl
  have hDc := hD.sub (ws' := [(a0, .inr (6, [.ref a2, .ref a3, .ref a4, .ref a5, .ref a6, .int 0, .int 0])), (a2, .inl (c2, 5, .inl zf20)), (a3, .inl (c3, 5, .inl zf21)), (a5, .inl (c5, 5, .inl zf22))]) [3, 4, 5, 6] (by decide) rfl
  have hFc := va_free (wc := [(a0, .inr (6, [.ref a2, .ref a3, .ref a4, .ref a5, .ref a6, .int 0, .int 0])), (a2, .inl (c2, 5, .inl zf20)), (a3, .inl (c3, 5, .inl zf21)), (a5, .inl (c5, 5, .inl zf22))]) hD hS hA [3, 4, 5, 6] rfl
  refine va_callv (va_runV (As := [.int 3]) (rest := []) ⟨hx, hb, hml, hown, hG⟩ (kX7_backOnCart_v3 l dC dI a0 a2 a3 a4 a5 a6 c2 c3 c5 zf20 zf21 zf22 H23.size ) (cwV 1 hG (goodV gw453 gw454 gw455 gw134 gw456) rfl rfl rfl hd_X7_backOnCart ⟨(Nat.le_of_ble_eq_true rfl), (Nat.le_of_ble_eq_true rfl)⟩) ⟨fbW, va_recv hKc hPc (ci := 6) (q0 := 0) rfl rfl, pW_in hPc hKc hDc⟩ rfl rfl hl.1 rfl (lv_room (Nat.le_of_ble_eq_true rfl)) dX7_begin_9 ⟨(Nat.le_of_ble_eq_true rfl), (Nat.le_of_ble_eq_true rfl)⟩) hS (fun q _ h => hFc q h) hFc (fun u t H26 locs ht hvm hw hB hz1 hk1 hS => ?_)
  obtain ⟨zf28, zf29, zf30, hP1, hD1⟩ := hB
  rw [ht] at hP1
  obtain ⟨hP, hD⟩ := va_join (wr := [(a1, .inr (3, [.int 1, .int 0, .int 0, .int 0, .ref a7, .ref a8, .ref a9, .int 0, .ref a10, .ref a11, .ref a12, .int 0, .ref a13, .ref a14])), (a4, .inl (c4, 5, .inl zf24)), (a6, .inl (c6, 4, .inl f6))]) (w1 := [(a0, .inr (6, [.ref a2, .ref a3, .ref a4, .ref a5, .ref a6, .int 0, .int 0])), (a2, .inl (c2, 5, .inl zf28)), (a3, .inl (c3, 5, .inl zf29)), (a5, .inl (c5, 5, .inl zf30))]) hP hD [3, 4, 5, 6] [0, 1, 2] rfl rfl (by decide) (by decide) hk1 hFc hP1 hD1
  have hP : va_P (dC, dI) vwCl [(a1, .inr (3, [.int 1, .int 0, .int 0, .int 0, .ref a7, .ref a8, .ref a9, .int 0, .ref a10, .ref a11, .ref a12, .int 0, .ref a13, .ref a14])), (a4, .inl (c4, 5, .inl zf24)), (a6, .inl (c6, 4, .inl f6)), (a0, .inr (6, [.ref a2, .ref a3, .ref a4, .ref a5, .ref a6, .int 0, .int 0])), (a2, .inl (c2, 5, .inl zf28)), (a3, .inl (c3, 5, .inl zf29)), (a5, .inl (c5, 5, .inl zf30))] H26 := hP
  have hD : va_D A [(a1, .inr (3, [.int 1, .int 0, .int 0, .int 0, .ref a7, .ref a8, .ref a9, .int 0, .ref a10, .ref a11, .ref a12, .int 0, .ref a13, .ref a14])), (a4, .inl (c4, 5, .inl zf24)), (a6, .inl (c6, 4, .inl f6)), (a0, .inr (6, [.ref a2, .ref a3, .ref a4, .ref a5, .ref a6, .int 0, .int 0])), (a2, .inl (c2, 5, .inl zf28)), (a3, .inl (c3, 5, .inl zf29)), (a5, .inl (c5, 5, .inl zf30))] := hD
  refine lv_aload_n hx hb dX7_begin_12 rfl (lv_at hl 1 rfl) ?_
  refine va_get (D := (dC, dI)) (ci := 6) (v := .ref a4) (C := RX7) (T := TX7) (N := 7) hx hb hG inX7 hown hK hP 3 rfl rfl 2 (by decide) (hG _ gw355) (fun _ h9 => h9) rfl dX7_begin_13 ?_
  refine lv_iload_n hx hb dX7_begin_16 rfl (lv_at hl 0 rfl) ?_
  refine lv_iconst (v := 0) hx hb dX7_begin_17 (by decide) ?_
  refine va_iast hx hb hK hP hD hS 1 2 rfl rfl (vin (by decide)) dX7_begin_18 (fun H31 locs hP hD hS => ?_)
  obtain ⟨zf32, ezf32⟩ : ∃ z : Nat → Int32, z = upd zf24 (3 : Int32).toNatClampNeg 0 := ⟨_, rfl⟩
  have hP : va_P (dC, dI) vwCl [(a1, .inr (3, [.int 1, .int 0, .int 0, .int 0, .ref a7, .ref a8, .ref a9, .int 0, .ref a10, .ref a11, .ref a12, .int 0, .ref a13, .ref a14])), (a4, .inl (c4, 5, .inl zf32)), (a6, .inl (c6, 4, .inl f6)), (a0, .inr (6, [.ref a2, .ref a3, .ref a4, .ref a5, .ref a6, .int 0, .int 0])), (a2, .inl (c2, 5, .inl zf28)), (a3, .inl (c3, 5, .inl zf29)), (a5, .inl (c5, 5, .inl zf30))] H31 := by rw [ezf32]; exact hP
  have hD : va_D A [(a1, .inr (3, [.int 1, .int 0, .int 0, .int 0, .ref a7, .ref a8, .ref a9, .int 0, .ref a10, .ref a11, .ref a12, .int 0, .ref a13, .ref a14])), (a4, .inl (c4, 5, .inl zf32)), (a6, .inl (c6, 4, .inl f6)), (a0, .inr (6, [.ref a2, .ref a3, .ref a4, .ref a5, .ref a6, .int 0, .int 0])), (a2, .inl (c2, 5, .inl zf28)), (a3, .inl (c3, 5, .inl zf29)), (a5, .inl (c5, 5, .inl zf30))] := by rw [ezf32]; exact hD
  refine lv_iinc (v := 4) (lv' := [(2, .int 4), (0, .ref a0), (1, .ref a1)]) hx hb dX7_begin_19 hl (k := 0) rfl (by decide) (by decide) rfl (fun ls hl => ?_)
  refine lv_goto (tgt := 2) hx hb dX7_begin_22 (by decide) ?_
  refine lv_iload_n hx hb dX7_begin_2 rfl (lv_at hl 0 rfl) ?_
  refine lv_iconst (v := 5) hx hb dX7_begin_3 (by decide) ?_
  refine lv_icmp_ge (tgt := 25) hx hb dX7_begin_4 (by decide) (fun c_33 => absurd c_33 (by decide)) (fun c_33 => ?_)
  refine lv_aload_n hx hb dX7_begin_7 rfl (lv_at hl 1 rfl) ?_
  refine lv_iload_n hx hb dX7_begin_8 rfl (lv_at hl 0 rfl) ?_
  have hPc := hP.sub (ws' := [(a0, .inr (6, [.ref a2, .ref a3, .ref a4, .ref a5, .ref a6, .int 0, .int 0])), (a2, .inl (c2, 5, .inl zf28)), (a3, .inl (c3, 5, .inl zf29)), (a5, .inl (c5, 5, .inl zf30))]) [3, 4, 5, 6] rfl
  have hKc := hK.sub (tys' := [(c2, .int), (c3, .int), (c5, .int)]) [0, 1, 3] rfl
  have hDc := hD.sub (ws' := [(a0, .inr (6, [.ref a2, .ref a3, .ref a4, .ref a5, .ref a6, .int 0, .int 0])), (a2, .inl (c2, 5, .inl zf28)), (a3, .inl (c3, 5, .inl zf29)), (a5, .inl (c5, 5, .inl zf30))]) [3, 4, 5, 6] (by decide) rfl
  have hFc := va_free (wc := [(a0, .inr (6, [.ref a2, .ref a3, .ref a4, .ref a5, .ref a6, .int 0, .int 0])), (a2, .inl (c2, 5, .inl zf28)), (a3, .inl (c3, 5, .inl zf29)), (a5, .inl (c5, 5, .inl zf30))]) hD hS hA [3, 4, 5, 6] rfl
  refine va_callv (va_runV (As := [.int 4]) (rest := []) ⟨hx, hb, hml, hown, hG⟩ (kX7_backOnCart_v4 l dC dI a0 a2 a3 a4 a5 a6 c2 c3 c5 zf28 zf29 zf30 H31.size ) (cwV 1 hG (goodV gw453 gw454 gw455 gw134 gw456) rfl rfl rfl hd_X7_backOnCart ⟨(Nat.le_of_ble_eq_true rfl), (Nat.le_of_ble_eq_true rfl)⟩) ⟨fbW, va_recv hKc hPc (ci := 6) (q0 := 0) rfl rfl, pW_in hPc hKc hDc⟩ rfl rfl hl.1 rfl (lv_room (Nat.le_of_ble_eq_true rfl)) dX7_begin_9 ⟨(Nat.le_of_ble_eq_true rfl), (Nat.le_of_ble_eq_true rfl)⟩) hS (fun q _ h => hFc q h) hFc (fun u t H34 locs ht hvm hw hB hz1 hk1 hS => ?_)
  obtain ⟨zf36, zf37, zf38, hP1, hD1⟩ := hB
  rw [ht] at hP1
  obtain ⟨hP, hD⟩ := va_join (wr := [(a1, .inr (3, [.int 1, .int 0, .int 0, .int 0, .ref a7, .ref a8, .ref a9, .int 0, .ref a10, .ref a11, .ref a12, .int 0, .ref a13, .ref a14])), (a4, .inl (c4, 5, .inl zf32)), (a6, .inl (c6, 4, .inl f6))]) (w1 := [(a0, .inr (6, [.ref a2, .ref a3, .ref a4, .ref a5, .ref a6, .int 0, .int 0])), (a2, .inl (c2, 5, .inl zf36)), (a3, .inl (c3, 5, .inl zf37)), (a5, .inl (c5, 5, .inl zf38))]) hP hD [3, 4, 5, 6] [0, 1, 2] rfl rfl (by decide) (by decide) hk1 hFc hP1 hD1
  have hP : va_P (dC, dI) vwCl [(a1, .inr (3, [.int 1, .int 0, .int 0, .int 0, .ref a7, .ref a8, .ref a9, .int 0, .ref a10, .ref a11, .ref a12, .int 0, .ref a13, .ref a14])), (a4, .inl (c4, 5, .inl zf32)), (a6, .inl (c6, 4, .inl f6)), (a0, .inr (6, [.ref a2, .ref a3, .ref a4, .ref a5, .ref a6, .int 0, .int 0])), (a2, .inl (c2, 5, .inl zf36)), (a3, .inl (c3, 5, .inl zf37)), (a5, .inl (c5, 5, .inl zf38))] H34 := hP
  have hD : va_D A [(a1, .inr (3, [.int 1, .int 0, .int 0, .int 0, .ref a7, .ref a8, .ref a9, .int 0, .ref a10, .ref a11, .ref a12, .int 0, .ref a13, .ref a14])), (a4, .inl (c4, 5, .inl zf32)), (a6, .inl (c6, 4, .inl f6)), (a0, .inr (6, [.ref a2, .ref a3, .ref a4, .ref a5, .ref a6, .int 0, .int 0])), (a2, .inl (c2, 5, .inl zf36)), (a3, .inl (c3, 5, .inl zf37)), (a5, .inl (c5, 5, .inl zf38))] := hD
  refine lv_aload_n hx hb dX7_begin_12 rfl (lv_at hl 1 rfl) ?_
  refine va_get (D := (dC, dI)) (ci := 6) (v := .ref a4) (C := RX7) (T := TX7) (N := 7) hx hb hG inX7 hown hK hP 3 rfl rfl 2 (by decide) (hG _ gw355) (fun _ h9 => h9) rfl dX7_begin_13 ?_
  refine lv_iload_n hx hb dX7_begin_16 rfl (lv_at hl 0 rfl) ?_
  refine lv_iconst (v := 0) hx hb dX7_begin_17 (by decide) ?_
  refine va_iast hx hb hK hP hD hS 1 2 rfl rfl (vin (by decide)) dX7_begin_18 (fun H39 locs hP hD hS => ?_)
  obtain ⟨zf40, ezf40⟩ : ∃ z : Nat → Int32, z = upd zf32 (4 : Int32).toNatClampNeg 0 := ⟨_, rfl⟩
  have hP : va_P (dC, dI) vwCl [(a1, .inr (3, [.int 1, .int 0, .int 0, .int 0, .ref a7, .ref a8, .ref a9, .int 0, .ref a10, .ref a11, .ref a12, .int 0, .ref a13, .ref a14])), (a4, .inl (c4, 5, .inl zf40)), (a6, .inl (c6, 4, .inl f6)), (a0, .inr (6, [.ref a2, .ref a3, .ref a4, .ref a5, .ref a6, .int 0, .int 0])), (a2, .inl (c2, 5, .inl zf36)), (a3, .inl (c3, 5, .inl zf37)), (a5, .inl (c5, 5, .inl zf38))] H39 := by rw [ezf40]; exact hP
  have hD : va_D A [(a1, .inr (3, [.int 1, .int 0, .int 0, .int 0, .ref a7, .ref a8, .ref a9, .int 0, .ref a10, .ref a11, .ref a12, .int 0, .ref a13, .ref a14])), (a4, .inl (c4, 5, .inl zf40)), (a6, .inl (c6, 4, .inl f6)), (a0, .inr (6, [.ref a2, .ref a3, .ref a4, .ref a5, .ref a6, .int 0, .int 0])), (a2, .inl (c2, 5, .inl zf36)), (a3, .inl (c3, 5, .inl zf37)), (a5, .inl (c5, 5, .inl zf38))] := by rw [ezf40]; exact hD
  refine lv_iinc (v := 5) (lv' := [(2, .int 5), (0, .ref a0), (1, .ref a1)]) hx hb dX7_begin_19 hl (k := 0) rfl (by decide) (by decide) rfl (fun ls hl => ?_)
  refine lv_goto (tgt := 2) hx hb dX7_begin_22 (by decide) ?_
  refine lv_iload_n hx hb dX7_begin_2 rfl (lv_at hl 0 rfl) ?_
  refine lv_iconst (v := 5) hx hb dX7_begin_3 (by decide) ?_
  refine lv_icmp_ge (tgt := 25) hx hb dX7_begin_4 (by decide) (fun c_41 => ?_) (fun c_41 => absurd (by decide) c_41)
  refine lv_iconst (v := 0) hx hb dX7_begin_25 (by decide) ?_
  refine lv_istore_n (lv' := [(2, .int 0), (0, .ref a0), (1, .ref a1)]) hx hb dX7_begin_26 rfl hl (by decide) rfl (fun ls hl => ?_)
  refine lv_iload_n hx hb dX7_begin_27 rfl (lv_at hl 0 rfl) ?_
  refine lv_iconst (v := 4) hx hb dX7_begin_28 (by decide) ?_
  refine lv_icmp_ge (tgt := 62) hx hb dX7_begin_29 (by decide) (fun c_42 => absurd c_42 (by decide)) (fun c_42 => ?_)
  refine lv_aload_n hx hb dX7_begin_32 rfl (lv_at hl 1 rfl) ?_
  refine va_get (D := (dC, dI)) (ci := 6) (v := .ref a6) (C := RX7) (T := TX7) (N := 7) hx hb hG inX7 hown hK hP 3 rfl rfl 4 (by decide) (hG _ gw359) (fun _ h9 => h9) rfl dX7_begin_33 ?_
  refine lv_iload_n hx hb dX7_begin_36 rfl (lv_at hl 0 rfl) ?_
  refine lv_iload_n hx hb dX7_begin_37 rfl (lv_at hl 0 rfl) ?_
  refine lv_aload_n hx hb dX7_begin_38 rfl (lv_at hl 2 rfl) ?_
  refine va_get (D := (dC, dI)) (ci := 3) (v := .int 0) (C := RX4) (T := TX4) (N := 14) hx hb hG inX4 hown hK hP 0 rfl rfl 7 (by decide) (hG _ gw256) (fun _ h9 => h9) rfl dX7_begin_39 ?_
  refine lv_icmp_ge (tgt := 54) hx hb dX7_begin_42 (by decide) (fun c_43 => ?_) (fun c_43 => absurd (by decide) c_43)
  refine lv_iconst (v := 0) hx hb dX7_begin_54 (by decide) ?_
  refine va_iast hx hb hK hP hD hS 2 4 rfl rfl (vin (by decide)) dX7_begin_55 (fun H44 locs hP hD hS => ?_)
  obtain ⟨zf45, ezf45⟩ : ∃ z : Nat → Int32, z = upd f6 (0 : Int32).toNatClampNeg 0 := ⟨_, rfl⟩
  have hP : va_P (dC, dI) vwCl [(a1, .inr (3, [.int 1, .int 0, .int 0, .int 0, .ref a7, .ref a8, .ref a9, .int 0, .ref a10, .ref a11, .ref a12, .int 0, .ref a13, .ref a14])), (a4, .inl (c4, 5, .inl zf40)), (a6, .inl (c6, 4, .inl zf45)), (a0, .inr (6, [.ref a2, .ref a3, .ref a4, .ref a5, .ref a6, .int 0, .int 0])), (a2, .inl (c2, 5, .inl zf36)), (a3, .inl (c3, 5, .inl zf37)), (a5, .inl (c5, 5, .inl zf38))] H44 := by rw [ezf45]; exact hP
  have hD : va_D A [(a1, .inr (3, [.int 1, .int 0, .int 0, .int 0, .ref a7, .ref a8, .ref a9, .int 0, .ref a10, .ref a11, .ref a12, .int 0, .ref a13, .ref a14])), (a4, .inl (c4, 5, .inl zf40)), (a6, .inl (c6, 4, .inl zf45)), (a0, .inr (6, [.ref a2, .ref a3, .ref a4, .ref a5, .ref a6, .int 0, .int 0])), (a2, .inl (c2, 5, .inl zf36)), (a3, .inl (c3, 5, .inl zf37)), (a5, .inl (c5, 5, .inl zf38))] := by rw [ezf45]; exact hD
  refine lv_iinc (v := 1) (lv' := [(2, .int 1), (0, .ref a0), (1, .ref a1)]) hx hb dX7_begin_56 hl (k := 0) rfl (by decide) (by decide) rfl (fun ls hl => ?_)
  refine lv_goto (tgt := 27) hx hb dX7_begin_59 (by decide) ?_
  refine lv_iload_n hx hb dX7_begin_27 rfl (lv_at hl 0 rfl) ?_
  refine lv_iconst (v := 4) hx hb dX7_begin_28 (by decide) ?_
  refine lv_icmp_ge (tgt := 62) hx hb dX7_begin_29 (by decide) (fun c_46 => absurd c_46 (by decide)) (fun c_46 => ?_)
  refine lv_aload_n hx hb dX7_begin_32 rfl (lv_at hl 1 rfl) ?_
  refine va_get (D := (dC, dI)) (ci := 6) (v := .ref a6) (C := RX7) (T := TX7) (N := 7) hx hb hG inX7 hown hK hP 3 rfl rfl 4 (by decide) (hG _ gw359) (fun _ h9 => h9) rfl dX7_begin_33 ?_
  refine lv_iload_n hx hb dX7_begin_36 rfl (lv_at hl 0 rfl) ?_
  refine lv_iload_n hx hb dX7_begin_37 rfl (lv_at hl 0 rfl) ?_
  refine lv_aload_n hx hb dX7_begin_38 rfl (lv_at hl 2 rfl) ?_
  refine va_get (D := (dC, dI)) (ci := 3) (v := .int 0) (C := RX4) (T := TX4) (N := 14) hx hb hG inX4 hown hK hP 0 rfl rfl 7 (by decide) (hG _ gw256) (fun _ h9 => h9) rfl dX7_begin_39 ?_
  refine lv_icmp_ge (tgt := 54) hx hb dX7_begin_42 (by decide) (fun c_47 => ?_) (fun c_47 => absurd (by decide) c_47)
  refine lv_iconst (v := 0) hx hb dX7_begin_54 (by decide) ?_
  refine va_iast hx hb hK hP hD hS 2 4 rfl rfl (vin (by decide)) dX7_begin_55 (fun H48 locs hP hD hS => ?_)
  obtain ⟨zf49, ezf49⟩ : ∃ z : Nat → Int32, z = upd zf45 (1 : Int32).toNatClampNeg 0 := ⟨_, rfl⟩
  have hP : va_P (dC, dI) vwCl [(a1, .inr (3, [.int 1, .int 0, .int 0, .int 0, .ref a7, .ref a8, .ref a9, .int 0, .ref a10, .ref a11, .ref a12, .int 0, .ref a13, .ref a14])), (a4, .inl (c4, 5, .inl zf40)), (a6, .inl (c6, 4, .inl zf49)), (a0, .inr (6, [.ref a2, .ref a3, .ref a4, .ref a5, .ref a6, .int 0, .int 0])), (a2, .inl (c2, 5, .inl zf36)), (a3, .inl (c3, 5, .inl zf37)), (a5, .inl (c5, 5, .inl zf38))] H48 := by rw [ezf49]; exact hP
  have hD : va_D A [(a1, .inr (3, [.int 1, .int 0, .int 0, .int 0, .ref a7, .ref a8, .ref a9, .int 0, .ref a10, .ref a11, .ref a12, .int 0, .ref a13, .ref a14])), (a4, .inl (c4, 5, .inl zf40)), (a6, .inl (c6, 4, .inl zf49)), (a0, .inr (6, [.ref a2, .ref a3, .ref a4, .ref a5, .ref a6, .int 0, .int 0])), (a2, .inl (c2, 5, .inl zf36)), (a3, .inl (c3, 5, .inl zf37)), (a5, .inl (c5, 5, .inl zf38))] := by rw [ezf49]; exact hD
  refine lv_iinc (v := 2) (lv' := [(2, .int 2), (0, .ref a0), (1, .ref a1)]) hx hb dX7_begin_56 hl (k := 0) rfl (by decide) (by decide) rfl (fun ls hl => ?_)
  refine lv_goto (tgt := 27) hx hb dX7_begin_59 (by decide) ?_
  refine lv_iload_n hx hb dX7_begin_27 rfl (lv_at hl 0 rfl) ?_
  refine lv_iconst (v := 4) hx hb dX7_begin_28 (by decide) ?_
  refine lv_icmp_ge (tgt := 62) hx hb dX7_begin_29 (by decide) (fun c_50 => absurd c_50 (by decide)) (fun c_50 => ?_)
  refine lv_aload_n hx hb dX7_begin_32 rfl (lv_at hl 1 rfl) ?_
  refine va_get (D := (dC, dI)) (ci := 6) (v := .ref a6) (C := RX7) (T := TX7) (N := 7) hx hb hG inX7 hown hK hP 3 rfl rfl 4 (by decide) (hG _ gw359) (fun _ h9 => h9) rfl dX7_begin_33 ?_
  refine lv_iload_n hx hb dX7_begin_36 rfl (lv_at hl 0 rfl) ?_
  refine lv_iload_n hx hb dX7_begin_37 rfl (lv_at hl 0 rfl) ?_
  refine lv_aload_n hx hb dX7_begin_38 rfl (lv_at hl 2 rfl) ?_
  refine va_get (D := (dC, dI)) (ci := 3) (v := .int 0) (C := RX4) (T := TX4) (N := 14) hx hb hG inX4 hown hK hP 0 rfl rfl 7 (by decide) (hG _ gw256) (fun _ h9 => h9) rfl dX7_begin_39 ?_
  refine lv_icmp_ge (tgt := 54) hx hb dX7_begin_42 (by decide) (fun c_51 => ?_) (fun c_51 => absurd (by decide) c_51)
  refine lv_iconst (v := 0) hx hb dX7_begin_54 (by decide) ?_
  refine va_iast hx hb hK hP hD hS 2 4 rfl rfl (vin (by decide)) dX7_begin_55 (fun H52 locs hP hD hS => ?_)
  obtain ⟨zf53, ezf53⟩ : ∃ z : Nat → Int32, z = upd zf49 (2 : Int32).toNatClampNeg 0 := ⟨_, rfl⟩
  have hP : va_P (dC, dI) vwCl [(a1, .inr (3, [.int 1, .int 0, .int 0, .int 0, .ref a7, .ref a8, .ref a9, .int 0, .ref a10, .ref a11, .ref a12, .int 0, .ref a13, .ref a14])), (a4, .inl (c4, 5, .inl zf40)), (a6, .inl (c6, 4, .inl zf53)), (a0, .inr (6, [.ref a2, .ref a3, .ref a4, .ref a5, .ref a6, .int 0, .int 0])), (a2, .inl (c2, 5, .inl zf36)), (a3, .inl (c3, 5, .inl zf37)), (a5, .inl (c5, 5, .inl zf38))] H52 := by rw [ezf53]; exact hP
  have hD : va_D A [(a1, .inr (3, [.int 1, .int 0, .int 0, .int 0, .ref a7, .ref a8, .ref a9, .int 0, .ref a10, .ref a11, .ref a12, .int 0, .ref a13, .ref a14])), (a4, .inl (c4, 5, .inl zf40)), (a6, .inl (c6, 4, .inl zf53)), (a0, .inr (6, [.ref a2, .ref a3, .ref a4, .ref a5, .ref a6, .int 0, .int 0])), (a2, .inl (c2, 5, .inl zf36)), (a3, .inl (c3, 5, .inl zf37)), (a5, .inl (c5, 5, .inl zf38))] := by rw [ezf53]; exact hD
  refine lv_iinc (v := 3) (lv' := [(2, .int 3), (0, .ref a0), (1, .ref a1)]) hx hb dX7_begin_56 hl (k := 0) rfl (by decide) (by decide) rfl (fun ls hl => ?_)
  refine lv_goto (tgt := 27) hx hb dX7_begin_59 (by decide) ?_
  refine lv_iload_n hx hb dX7_begin_27 rfl (lv_at hl 0 rfl) ?_
  refine lv_iconst (v := 4) hx hb dX7_begin_28 (by decide) ?_
  refine lv_icmp_ge (tgt := 62) hx hb dX7_begin_29 (by decide) (fun c_54 => absurd c_54 (by decide)) (fun c_54 => ?_)
  refine lv_aload_n hx hb dX7_begin_32 rfl (lv_at hl 1 rfl) ?_
  refine va_get (D := (dC, dI)) (ci := 6) (v := .ref a6) (C := RX7) (T := TX7) (N := 7) hx hb hG inX7 hown hK hP 3 rfl rfl 4 (by decide) (hG _ gw359) (fun _ h9 => h9) rfl dX7_begin_33 ?_
  refine lv_iload_n hx hb dX7_begin_36 rfl (lv_at hl 0 rfl) ?_
  refine lv_iload_n hx hb dX7_begin_37 rfl (lv_at hl 0 rfl) ?_
  refine lv_aload_n hx hb dX7_begin_38 rfl (lv_at hl 2 rfl) ?_
  refine va_get (D := (dC, dI)) (ci := 3) (v := .int 0) (C := RX4) (T := TX4) (N := 14) hx hb hG inX4 hown hK hP 0 rfl rfl 7 (by decide) (hG _ gw256) (fun _ h9 => h9) rfl dX7_begin_39 ?_
  refine lv_icmp_ge (tgt := 54) hx hb dX7_begin_42 (by decide) (fun c_55 => ?_) (fun c_55 => absurd (by decide) c_55)
  refine lv_iconst (v := 0) hx hb dX7_begin_54 (by decide) ?_
  refine va_iast hx hb hK hP hD hS 2 4 rfl rfl (vin (by decide)) dX7_begin_55 (fun H56 locs hP hD hS => ?_)
  obtain ⟨zf57, ezf57⟩ : ∃ z : Nat → Int32, z = upd zf53 (3 : Int32).toNatClampNeg 0 := ⟨_, rfl⟩
  have hP : va_P (dC, dI) vwCl [(a1, .inr (3, [.int 1, .int 0, .int 0, .int 0, .ref a7, .ref a8, .ref a9, .int 0, .ref a10, .ref a11, .ref a12, .int 0, .ref a13, .ref a14])), (a4, .inl (c4, 5, .inl zf40)), (a6, .inl (c6, 4, .inl zf57)), (a0, .inr (6, [.ref a2, .ref a3, .ref a4, .ref a5, .ref a6, .int 0, .int 0])), (a2, .inl (c2, 5, .inl zf36)), (a3, .inl (c3, 5, .inl zf37)), (a5, .inl (c5, 5, .inl zf38))] H56 := by rw [ezf57]; exact hP
  have hD : va_D A [(a1, .inr (3, [.int 1, .int 0, .int 0, .int 0, .ref a7, .ref a8, .ref a9, .int 0, .ref a10, .ref a11, .ref a12, .int 0, .ref a13, .ref a14])), (a4, .inl (c4, 5, .inl zf40)), (a6, .inl (c6, 4, .inl zf57)), (a0, .inr (6, [.ref a2, .ref a3, .ref a4, .ref a5, .ref a6, .int 0, .int 0])), (a2, .inl (c2, 5, .inl zf36)), (a3, .inl (c3, 5, .inl zf37)), (a5, .inl (c5, 5, .inl zf38))] := by rw [ezf57]; exact hD
  refine lv_iinc (v := 4) (lv' := [(2, .int 4), (0, .ref a0), (1, .ref a1)]) hx hb dX7_begin_56 hl (k := 0) rfl (by decide) (by decide) rfl (fun ls hl => ?_)
  refine lv_goto (tgt := 27) hx hb dX7_begin_59 (by decide) ?_
  refine lv_iload_n hx hb dX7_begin_27 rfl (lv_at hl 0 rfl) ?_
  refine lv_iconst (v := 4) hx hb dX7_begin_28 (by decide) ?_
  refine lv_icmp_ge (tgt := 62) hx hb dX7_begin_29 (by decide) (fun c_58 => ?_) (fun c_58 => absurd (by decide) c_58)
  refine lv_aload_n hx hb dX7_begin_62 rfl (lv_at hl 1 rfl) ?_
  refine lv_iconst (v := 0) hx hb dX7_begin_63 (by decide) ?_
  refine va_put (D := (dC, dI)) (ci := 6) (v := .int 0) (ty := .int) (C := RX7) (T := TX7) (N := 7) hx hb hG inX7 tyX7 tyX7_ok nmX7 hown hK hP hD hS 3 rfl rfl 5 (by decide) (hG _ gw361) (fun _ h9 => h9) rfl (by decide +kernel) rfl rfl (Nat.le_of_ble_eq_true rfl) dX7_begin_64 (fun H59 locs hP hD hS => ?_)
  have hP : va_P (dC, dI) vwCl [(a1, .inr (3, [.int 1, .int 0, .int 0, .int 0, .ref a7, .ref a8, .ref a9, .int 0, .ref a10, .ref a11, .ref a12, .int 0, .ref a13, .ref a14])), (a4, .inl (c4, 5, .inl zf40)), (a6, .inl (c6, 4, .inl zf57)), (a0, .inr (6, [.ref a2, .ref a3, .ref a4, .ref a5, .ref a6, .int 0, .int 0])), (a2, .inl (c2, 5, .inl zf36)), (a3, .inl (c3, 5, .inl zf37)), (a5, .inl (c5, 5, .inl zf38))] H59 := hP
  have hD : va_D A [(a1, .inr (3, [.int 1, .int 0, .int 0, .int 0, .ref a7, .ref a8, .ref a9, .int 0, .ref a10, .ref a11, .ref a12, .int 0, .ref a13, .ref a14])), (a4, .inl (c4, 5, .inl zf40)), (a6, .inl (c6, 4, .inl zf57)), (a0, .inr (6, [.ref a2, .ref a3, .ref a4, .ref a5, .ref a6, .int 0, .int 0])), (a2, .inl (c2, 5, .inl zf36)), (a3, .inl (c3, 5, .inl zf37)), (a5, .inl (c5, 5, .inl zf38))] := hD
  refine lv_aload_n hx hb dX7_begin_67 rfl (lv_at hl 1 rfl) ?_
  refine lv_aload_n hx hb dX7_begin_68 rfl (lv_at hl 2 rfl) ?_
  refine va_get (D := (dC, dI)) (ci := 3) (v := .int 0) (C := RX4) (T := TX4) (N := 14) hx hb hG inX4 hown hK hP 0 rfl rfl 2 (by decide) (hG _ gw241) (fun _ h9 => h9) rfl dX7_begin_69 ?_
  refine va_put (D := (dC, dI)) (ci := 6) (v := .int 0) (ty := .int) (C := RX7) (T := TX7) (N := 7) hx hb hG inX7 tyX7 tyX7_ok nmX7 hown hK hP hD hS 3 rfl rfl 6 (by decide) (hG _ gw363) (fun _ h9 => h9) rfl (by decide +kernel) rfl rfl (Nat.le_of_ble_eq_true rfl) dX7_begin_72 (fun H60 locs hP hD hS => ?_)
  have hP : va_P (dC, dI) vwCl [(a1, .inr (3, [.int 1, .int 0, .int 0, .int 0, .ref a7, .ref a8, .ref a9, .int 0, .ref a10, .ref a11, .ref a12, .int 0, .ref a13, .ref a14])), (a4, .inl (c4, 5, .inl zf40)), (a6, .inl (c6, 4, .inl zf57)), (a0, .inr (6, [.ref a2, .ref a3, .ref a4, .ref a5, .ref a6, .int 0, .int 0])), (a2, .inl (c2, 5, .inl zf36)), (a3, .inl (c3, 5, .inl zf37)), (a5, .inl (c5, 5, .inl zf38))] H60 := hP
  have hD : va_D A [(a1, .inr (3, [.int 1, .int 0, .int 0, .int 0, .ref a7, .ref a8, .ref a9, .int 0, .ref a10, .ref a11, .ref a12, .int 0, .ref a13, .ref a14])), (a4, .inl (c4, 5, .inl zf40)), (a6, .inl (c6, 4, .inl zf57)), (a0, .inr (6, [.ref a2, .ref a3, .ref a4, .ref a5, .ref a6, .int 0, .int 0])), (a2, .inl (c2, 5, .inl zf36)), (a3, .inl (c3, 5, .inl zf37)), (a5, .inl (c5, 5, .inl zf38))] := hD
  have hP9 := hP.sub (ws' := [(a0, .inr (6, [.ref a2, .ref a3, .ref a4, .ref a5, .ref a6, .int 0, .int 0])), (a1, .inr (3, [.int 1, .int 0, .int 0, .int 0, .ref a7, .ref a8, .ref a9, .int 0, .ref a10, .ref a11, .ref a12, .int 0, .ref a13, .ref a14])), (a2, .inl (c2, 5, .inl zf36)), (a3, .inl (c3, 5, .inl zf37)), (a4, .inl (c4, 5, .inl zf40)), (a5, .inl (c5, 5, .inl zf38)), (a6, .inl (c6, 4, .inl zf57))]) [3, 0, 4, 5, 1, 6, 2] rfl
  have hD9 := hD.sub (ws' := [(a0, .inr (6, [.ref a2, .ref a3, .ref a4, .ref a5, .ref a6, .int 0, .int 0])), (a1, .inr (3, [.int 1, .int 0, .int 0, .int 0, .ref a7, .ref a8, .ref a9, .int 0, .ref a10, .ref a11, .ref a12, .int 0, .ref a13, .ref a14])), (a2, .inl (c2, 5, .inl zf36)), (a3, .inl (c3, 5, .inl zf37)), (a4, .inl (c4, 5, .inl zf40)), (a5, .inl (c5, 5, .inl zf38)), (a6, .inl (c6, 4, .inl zf57))]) [3, 0, 4, 5, 1, 6, 2] (by decide) rfl
  exact W.vret hx hb hr (fun t ht hW => ⟨⟨(), rfl, trivial, ⟨zf36, zf37, zf40, zf38, zf57, by rw [ht]; exact hP9, hD9⟩⟩, hS.F ht⟩) hS.2.2 dX7_begin_75
set_option maxHeartbeats 4000000 in
set_option maxRecDepth 100000 in
theorem kX7_writeTo_v1 (l : Launch) (dC : Nat → ClassId) (dI : Nat → Nat → Nat) (a0 a2 a3 a4 a5 a6 a1 : Nat) (c1 c2 c3 c4 c5 c6 : ClassId) (f1 : Nat → Int32) (f2 : Nat → Int32) (f3 : Nat → Int32) (f4 : Nat → Int32) (f5 : Nat → Int32) (f6 : Nat → Int32) (sz : Nat) : Met l yX7_writeTo (.code yX7_writeTo cX7_writeTo 4 none :: GW) { frames := 2, cells := 0, slots := 0, locals := 100 } (va_Pc [.ref a0, .ref a1, .int 0] (pW (dC, dI) [(a0, .inr (6, [.ref a2, .ref a3, .ref a4, .ref a5, .ref a6, .int 0, .int 0])), (a1, .inl (c1, 1066, .inl f1)), (a2, .inl (c2, 5, .inl f2)), (a3, .inl (c3, 5, .inl f3)), (a4, .inl (c4, 5, .inl f4)), (a5, .inl (c5, 5, .inl f5)), (a6, .inl (c6, 4, .inl f6))] [(c1, .int), (c2, .int), (c3, .int), (c4, .int), (c5, .int), (c6, .int)] sz)) (va_Qv (fun _ : Unit => True) (fun (_ : Unit) (t : State) => ∃ (F0 : Nat → Int32), va_P (dC, dI) vwCl [(a0, .inr (6, [.ref a2, .ref a3, .ref a4, .ref a5, .ref a6, .int 0, .int 0])), (a1, .inl (c1, 1066, .inl F0)), (a2, .inl (c2, 5, .inl f2)), (a3, .inl (c3, 5, .inl f3)), (a4, .inl (c4, 5, .inl f4)), (a5, .inl (c5, 5, .inl f5)), (a6, .inl (c6, 4, .inl f6))] t.heap ∧ va_D (va_A [(a0, .inr (6, [.ref a2, .ref a3, .ref a4, .ref a5, .ref a6, .int 0, .int 0])), (a1, .inl (c1, 1066, .inl f1)), (a2, .inl (c2, 5, .inl f2)), (a3, .inl (c3, 5, .inl f3)), (a4, .inl (c4, 5, .inl f4)), (a5, .inl (c5, 5, .inl f5)), (a6, .inl (c6, 4, .inl f6))] sz) [(a0, .inr (6, [.ref a2, .ref a3, .ref a4, .ref a5, .ref a6, .int 0, .int 0])), (a1, .inl (c1, 1066, .inl F0)), (a2, .inl (c2, 5, .inl f2)), (a3, .inl (c3, 5, .inl f3)), (a4, .inl (c4, 5, .inl f4)), (a5, .inl (c5, 5, .inl f5)), (a6, .inl (c6, 4, .inl f6))]) (va_A [(a0, .inr (6, [.ref a2, .ref a3, .ref a4, .ref a5, .ref a6, .int 0, .int 0])), (a1, .inl (c1, 1066, .inl f1)), (a2, .inl (c2, 5, .inl f2)), (a3, .inl (c3, 5, .inl f3)), (a4, .inl (c4, 5, .inl f4)), (a5, .inl (c5, 5, .inl f5)), (a6, .inl (c6, 4, .inl f6))] sz)) 0 0 (va_A [(a0, .inr (6, [.ref a2, .ref a3, .ref a4, .ref a5, .ref a6, .int 0, .int 0])), (a1, .inl (c1, 1066, .inl f1)), (a2, .inl (c2, 5, .inl f2)), (a3, .inl (c3, 5, .inl f3)), (a4, .inl (c4, 5, .inl f4)), (a5, .inl (c5, 5, .inl f5)), (a6, .inl (c6, 4, .inl f6))] sz) := by
  refine Met.ofW (cc := cX7_writeTo) (maxL := 4) (ret := none) (by decide) rfl ?_
  intro p e s m args below meth c0 s₁ B hml hv
  obtain ⟨rfl, hsz, hP, hK, hD0⟩ := hv
  have hx := B.exec
  have hb := B.bytes
  have hr := B.returns
  have hts := atoms_spec (ws := .code yX7_writeTo cX7_writeTo 4 none :: GW) B.pre
  have hG : ∀ w ∈ GW, w.before _ s = true := fun w h => hts w (List.mem_cons_of_mem _ h)
  have hown : s.vm.findClass RX7 = some m.cls := findClass_of_methodNamed B.named
  have hlocks := B.notSynchronized
  subst hsz
  have hD := hD0.self (sz := s.heap.size)
  generalize hAe : va_A [(a0, .inr (6, [.ref a2, .ref a3, .ref a4, .ref a5, .ref a6, .int 0, .int 0])), (a1, .inl (c1, 1066, .inl f1)), (a2, .inl (c2, 5, .inl f2)), (a3, .inl (c3, 5, .inl f3)), (a4, .inl (c4, 5, .inl f4)), (a5, .inl (c5, 5, .inl f5)), (a6, .inl (c6, 4, .inl f6))] s.heap.size = A at hD ⊢
  have hA : ∀ q : Nat, s.heap.size ≤ q → A q := fun q h => by rw [← hAe]; exact Or.inr h
  have hS : va_S A s.heap s.heap [] := va_S.rf
  have hP : va_P (dC, dI) vwCl [(a0, .inr (6, [.ref a2, .ref a3, .ref a4, .ref a5, .ref a6, .int 0, .int 0])), (a1, .inl (c1, 1066, .inl f1)), (a2, .inl (c2, 5, .inl f2)), (a3, .inl (c3, 5, .inl f3)), (a4, .inl (c4, 5, .inl f4)), (a5, .inl (c5, 5, .inl f5)), (a6, .inl (c6, 4, .inl f6))] s.heap := hP
  have hl := lv_entry ([.ref a0, .ref a1, .int 0]) (n := 4) (Nat.le_of_ble_eq_true rfl)
  rw [lg_entry_eq]
  generalize (lg_sl ([.ref a0, .ref a1, .int 0]) ++ List.replicate (4 - (lg_sl ([.ref a0, .ref a1, .int 0])).length) Slot.unset).toArray = ls at hl ⊢
  have hl : lv_has ls 4 [(0, .ref a0), (1, .ref a1), (2, .int 0)] := hl
  refine lv_iload_n hx hb dX7_writeTo_0 rfl (lv_at hl 2 rfl) ?_
  refine lv_bipush (v := 26) hx hb dX7_writeTo_1 (by decide) ?_
  refine lv_imul hx hb dX7_writeTo_3 ?_
  refine wt_c (v := 0) (by decide) ?_
  refine lv_istore_n (lv' := [(3, .int 0), (0, .ref a0), (1, .ref a1), (2, .int 0)]) hx hb dX7_writeTo_4 rfl hl (by decide) rfl (fun ls hl => ?_)
  refine lv_iload_n hx hb dX7_writeTo_5 rfl (lv_at hl 0 rfl) ?_
  refine lv_if_lt (tgt := 18) hx hb dX7_writeTo_6 (by decide) (fun c_1 => absurd c_1 (by decide)) (fun c_1 => ?_)
  refine lv_iload_n hx hb dX7_writeTo_9 rfl (lv_at hl 0 rfl) ?_
  refine lv_bipush (v := 26) hx hb dX7_writeTo_10 (by decide) ?_
  refine lv_iadd hx hb dX7_writeTo_12 ?_
  refine wt_c (v := 26) (by decide) ?_
  refine lv_aload_n hx hb dX7_writeTo_13 rfl (lv_at hl 2 rfl) ?_
  refine va_alen (v := 1066) hx hb hK hP 1 0 rfl rfl (show Int32.ofNat 1066 = 1066 by decide) dX7_writeTo_14 ?_
  refine lv_icmp_le (tgt := 19) hx hb dX7_writeTo_15 (by decide) (fun c_2 => ?_) (fun c_2 => absurd (by decide) c_2)
  refine lv_aload_n hx hb dX7_writeTo_19 rfl (lv_at hl 1 rfl) ?_
  refine va_get (D := (dC, dI)) (ci := 6) (v := .ref a2) (C := RX7) (T := TX7) (N := 7) hx hb hG inX7 hown hK hP 0 rfl rfl 0 (by decide) (hG _ gw351) (fun _ h9 => h9) rfl dX7_writeTo_20 ?_
  refine lv_iconst (v := 0) hx hb dX7_writeTo_23 (by decide) ?_
  refine lv_aload_n hx hb dX7_writeTo_24 rfl (lv_at hl 2 rfl) ?_
  refine lv_iload_n hx hb dX7_writeTo_25 rfl (lv_at hl 0 rfl) ?_
  refine lv_iconst (v := 5) hx hb dX7_writeTo_26 (by decide) ?_
  refine va_copyi (ty := .int) hx hb (hml.trans hl.1.symm) hown (hG _ gw465) (hG _ gw467) (hG _ gw466) (hG _ gw137) hK hP hD hS 2 1 1 0 rfl rfl rfl rfl rfl (by decide) (by decide) (by decide) (by decide) (by decide) (fun _ _ => rfl) (Nat.le_of_ble_eq_true rfl) (Nat.le_of_ble_eq_true rfl) dX7_writeTo_27 (fun H3 locs hP hD hS => ?_)
  obtain ⟨zf4, ezf4⟩ : ∃ z : Nat → Int32, z = va_cpy f2 f1 (0 : Int32).toNatClampNeg (0 : Int32).toNatClampNeg (5 : Int32).toNatClampNeg := ⟨_, rfl⟩
  have hP : va_P (dC, dI) vwCl [(a0, .inr (6, [.ref a2, .ref a3, .ref a4, .ref a5, .ref a6, .int 0, .int 0])), (a1, .inl (c1, 1066, .inl zf4)), (a2, .inl (c2, 5, .inl f2)), (a3, .inl (c3, 5, .inl f3)), (a4, .inl (c4, 5, .inl f4)), (a5, .inl (c5, 5, .inl f5)), (a6, .inl (c6, 4, .inl f6))] H3 := by rw [ezf4]; exact hP
  have hD : va_D A [(a0, .inr (6, [.ref a2, .ref a3, .ref a4, .ref a5, .ref a6, .int 0, .int 0])), (a1, .inl (c1, 1066, .inl zf4)), (a2, .inl (c2, 5, .inl f2)), (a3, .inl (c3, 5, .inl f3)), (a4, .inl (c4, 5, .inl f4)), (a5, .inl (c5, 5, .inl f5)), (a6, .inl (c6, 4, .inl f6))] := by rw [ezf4]; exact hD
  refine lv_aload_n hx hb dX7_writeTo_30 rfl (lv_at hl 1 rfl) ?_
  refine va_get (D := (dC, dI)) (ci := 6) (v := .ref a3) (C := RX7) (T := TX7) (N := 7) hx hb hG inX7 hown hK hP 0 rfl rfl 1 (by decide) (hG _ gw353) (fun _ h9 => h9) rfl dX7_writeTo_31 ?_
  refine lv_iconst (v := 0) hx hb dX7_writeTo_34 (by decide) ?_
  refine lv_aload_n hx hb dX7_writeTo_35 rfl (lv_at hl 2 rfl) ?_
  refine lv_iload_n hx hb dX7_writeTo_36 rfl (lv_at hl 0 rfl) ?_
  refine lv_iconst (v := 5) hx hb dX7_writeTo_37 (by decide) ?_
  refine lv_iadd hx hb dX7_writeTo_38 ?_
  refine wt_c (v := 5) (by decide) ?_
  refine lv_iconst (v := 5) hx hb dX7_writeTo_39 (by decide) ?_
  refine va_copyi (ty := .int) hx hb (hml.trans hl.1.symm) hown (hG _ gw465) (hG _ gw467) (hG _ gw466) (hG _ gw137) hK hP hD hS 3 1 2 0 rfl rfl rfl rfl rfl (by decide) (by decide) (by decide) (by decide) (by decide) (fun _ _ => rfl) (Nat.le_of_ble_eq_true rfl) (Nat.le_of_ble_eq_true rfl) dX7_writeTo_40 (fun H5 locs hP hD hS => ?_)
  obtain ⟨zf6, ezf6⟩ : ∃ z : Nat → Int32, z = va_cpy f3 zf4 (0 : Int32).toNatClampNeg (5 : Int32).toNatClampNeg (5 : Int32).toNatClampNeg := ⟨_, rfl⟩
  have hP : va_P (dC, dI) vwCl [(a0, .inr (6, [.ref a2, .ref a3, .ref a4, .ref a5, .ref a6, .int 0, .int 0])), (a1, .inl (c1, 1066, .inl zf6)), (a2, .inl (c2, 5, .inl f2)), (a3, .inl (c3, 5, .inl f3)), (a4, .inl (c4, 5, .inl f4)), (a5, .inl (c5, 5, .inl f5)), (a6, .inl (c6, 4, .inl f6))] H5 := by rw [ezf6]; exact hP
  have hD : va_D A [(a0, .inr (6, [.ref a2, .ref a3, .ref a4, .ref a5, .ref a6, .int 0, .int 0])), (a1, .inl (c1, 1066, .inl zf6)), (a2, .inl (c2, 5, .inl f2)), (a3, .inl (c3, 5, .inl f3)), (a4, .inl (c4, 5, .inl f4)), (a5, .inl (c5, 5, .inl f5)), (a6, .inl (c6, 4, .inl f6))] := by rw [ezf6]; exact hD
  refine lv_aload_n hx hb dX7_writeTo_43 rfl (lv_at hl 1 rfl) ?_
  refine va_get (D := (dC, dI)) (ci := 6) (v := .ref a4) (C := RX7) (T := TX7) (N := 7) hx hb hG inX7 hown hK hP 0 rfl rfl 2 (by decide) (hG _ gw355) (fun _ h9 => h9) rfl dX7_writeTo_44 ?_
  refine lv_iconst (v := 0) hx hb dX7_writeTo_47 (by decide) ?_
  refine lv_aload_n hx hb dX7_writeTo_48 rfl (lv_at hl 2 rfl) ?_
  refine lv_iload_n hx hb dX7_writeTo_49 rfl (lv_at hl 0 rfl) ?_
  refine lv_bipush (v := 10) hx hb dX7_writeTo_50 (by decide) ?_
  refine lv_iadd hx hb dX7_writeTo_52 ?_
  refine wt_c (v := 10) (by decide) ?_
  refine lv_iconst (v := 5) hx hb dX7_writeTo_53 (by decide) ?_
  refine va_copyi (ty := .int) hx hb (hml.trans hl.1.symm) hown (hG _ gw465) (hG _ gw467) (hG _ gw466) (hG _ gw137) hK hP hD hS 4 1 3 0 rfl rfl rfl rfl rfl (by decide) (by decide) (by decide) (by decide) (by decide) (fun _ _ => rfl) (Nat.le_of_ble_eq_true rfl) (Nat.le_of_ble_eq_true rfl) dX7_writeTo_54 (fun H7 locs hP hD hS => ?_)
  obtain ⟨zf8, ezf8⟩ : ∃ z : Nat → Int32, z = va_cpy f4 zf6 (0 : Int32).toNatClampNeg (10 : Int32).toNatClampNeg (5 : Int32).toNatClampNeg := ⟨_, rfl⟩
  have hP : va_P (dC, dI) vwCl [(a0, .inr (6, [.ref a2, .ref a3, .ref a4, .ref a5, .ref a6, .int 0, .int 0])), (a1, .inl (c1, 1066, .inl zf8)), (a2, .inl (c2, 5, .inl f2)), (a3, .inl (c3, 5, .inl f3)), (a4, .inl (c4, 5, .inl f4)), (a5, .inl (c5, 5, .inl f5)), (a6, .inl (c6, 4, .inl f6))] H7 := by rw [ezf8]; exact hP
  have hD : va_D A [(a0, .inr (6, [.ref a2, .ref a3, .ref a4, .ref a5, .ref a6, .int 0, .int 0])), (a1, .inl (c1, 1066, .inl zf8)), (a2, .inl (c2, 5, .inl f2)), (a3, .inl (c3, 5, .inl f3)), (a4, .inl (c4, 5, .inl f4)), (a5, .inl (c5, 5, .inl f5)), (a6, .inl (c6, 4, .inl f6))] := by rw [ezf8]; exact hD
  refine lv_aload_n hx hb dX7_writeTo_57 rfl (lv_at hl 1 rfl) ?_
  refine va_get (D := (dC, dI)) (ci := 6) (v := .ref a5) (C := RX7) (T := TX7) (N := 7) hx hb hG inX7 hown hK hP 0 rfl rfl 3 (by decide) (hG _ gw357) (fun _ h9 => h9) rfl dX7_writeTo_58 ?_
  refine lv_iconst (v := 0) hx hb dX7_writeTo_61 (by decide) ?_
  refine lv_aload_n hx hb dX7_writeTo_62 rfl (lv_at hl 2 rfl) ?_
  refine lv_iload_n hx hb dX7_writeTo_63 rfl (lv_at hl 0 rfl) ?_
  refine lv_bipush (v := 15) hx hb dX7_writeTo_64 (by decide) ?_
  refine lv_iadd hx hb dX7_writeTo_66 ?_
  refine wt_c (v := 15) (by decide) ?_
  refine lv_iconst (v := 5) hx hb dX7_writeTo_67 (by decide) ?_
  refine va_copyi (ty := .int) hx hb (hml.trans hl.1.symm) hown (hG _ gw465) (hG _ gw467) (hG _ gw466) (hG _ gw137) hK hP hD hS 5 1 4 0 rfl rfl rfl rfl rfl (by decide) (by decide) (by decide) (by decide) (by decide) (fun _ _ => rfl) (Nat.le_of_ble_eq_true rfl) (Nat.le_of_ble_eq_true rfl) dX7_writeTo_68 (fun H9 locs hP hD hS => ?_)
  obtain ⟨zf10, ezf10⟩ : ∃ z : Nat → Int32, z = va_cpy f5 zf8 (0 : Int32).toNatClampNeg (15 : Int32).toNatClampNeg (5 : Int32).toNatClampNeg := ⟨_, rfl⟩
  have hP : va_P (dC, dI) vwCl [(a0, .inr (6, [.ref a2, .ref a3, .ref a4, .ref a5, .ref a6, .int 0, .int 0])), (a1, .inl (c1, 1066, .inl zf10)), (a2, .inl (c2, 5, .inl f2)), (a3, .inl (c3, 5, .inl f3)), (a4, .inl (c4, 5, .inl f4)), (a5, .inl (c5, 5, .inl f5)), (a6, .inl (c6, 4, .inl f6))] H9 := by rw [ezf10]; exact hP
  have hD : va_D A [(a0, .inr (6, [.ref a2, .ref a3, .ref a4, .ref a5, .ref a6, .int 0, .int 0])), (a1, .inl (c1, 1066, .inl zf10)), (a2, .inl (c2, 5, .inl f2)), (a3, .inl (c3, 5, .inl f3)), (a4, .inl (c4, 5, .inl f4)), (a5, .inl (c5, 5, .inl f5)), (a6, .inl (c6, 4, .inl f6))] := by rw [ezf10]; exact hD
  refine lv_aload_n hx hb dX7_writeTo_71 rfl (lv_at hl 1 rfl) ?_
  refine va_get (D := (dC, dI)) (ci := 6) (v := .ref a6) (C := RX7) (T := TX7) (N := 7) hx hb hG inX7 hown hK hP 0 rfl rfl 4 (by decide) (hG _ gw359) (fun _ h9 => h9) rfl dX7_writeTo_72 ?_
  refine lv_iconst (v := 0) hx hb dX7_writeTo_75 (by decide) ?_
  refine lv_aload_n hx hb dX7_writeTo_76 rfl (lv_at hl 2 rfl) ?_
  refine lv_iload_n hx hb dX7_writeTo_77 rfl (lv_at hl 0 rfl) ?_
  refine lv_bipush (v := 20) hx hb dX7_writeTo_78 (by decide) ?_
  refine lv_iadd hx hb dX7_writeTo_80 ?_
  refine wt_c (v := 20) (by decide) ?_
  refine lv_iconst (v := 4) hx hb dX7_writeTo_81 (by decide) ?_
  refine va_copyi (ty := .int) hx hb (hml.trans hl.1.symm) hown (hG _ gw465) (hG _ gw467) (hG _ gw466) (hG _ gw137) hK hP hD hS 6 1 5 0 rfl rfl rfl rfl rfl (by decide) (by decide) (by decide) (by decide) (by decide) (fun _ _ => rfl) (Nat.le_of_ble_eq_true rfl) (Nat.le_of_ble_eq_true rfl) dX7_writeTo_82 (fun H11 locs hP hD hS => ?_)
  obtain ⟨zf12, ezf12⟩ : ∃ z : Nat → Int32, z = va_cpy f6 zf10 (0 : Int32).toNatClampNeg (20 : Int32).toNatClampNeg (4 : Int32).toNatClampNeg := ⟨_, rfl⟩
  have hP : va_P (dC, dI) vwCl [(a0, .inr (6, [.ref a2, .ref a3, .ref a4, .ref a5, .ref a6, .int 0, .int 0])), (a1, .inl (c1, 1066, .inl zf12)), (a2, .inl (c2, 5, .inl f2)), (a3, .inl (c3, 5, .inl f3)), (a4, .inl (c4, 5, .inl f4)), (a5, .inl (c5, 5, .inl f5)), (a6, .inl (c6, 4, .inl f6))] H11 := by rw [ezf12]; exact hP
  have hD : va_D A [(a0, .inr (6, [.ref a2, .ref a3, .ref a4, .ref a5, .ref a6, .int 0, .int 0])), (a1, .inl (c1, 1066, .inl zf12)), (a2, .inl (c2, 5, .inl f2)), (a3, .inl (c3, 5, .inl f3)), (a4, .inl (c4, 5, .inl f4)), (a5, .inl (c5, 5, .inl f5)), (a6, .inl (c6, 4, .inl f6))] := by rw [ezf12]; exact hD
  refine lv_aload_n hx hb dX7_writeTo_85 rfl (lv_at hl 2 rfl) ?_
  refine lv_iload_n hx hb dX7_writeTo_86 rfl (lv_at hl 0 rfl) ?_
  refine lv_bipush (v := 26) hx hb dX7_writeTo_87 (by decide) ?_
  refine lv_iadd hx hb dX7_writeTo_89 ?_
  refine wt_c (v := 26) (by decide) ?_
  refine lv_iconst (v := 2) hx hb dX7_writeTo_90 (by decide) ?_
  refine lv_isub hx hb dX7_writeTo_91 ?_
  refine wt_c (v := 24) (by decide) ?_
  refine lv_aload_n hx hb dX7_writeTo_92 rfl (lv_at hl 1 rfl) ?_
  refine va_get (D := (dC, dI)) (ci := 6) (v := .int 0) (C := RX7) (T := TX7) (N := 7) hx hb hG inX7 hown hK hP 0 rfl rfl 5 (by decide) (hG _ gw361) (fun _ h9 => h9) rfl dX7_writeTo_93 ?_
  refine va_iast hx hb hK hP hD hS 1 0 rfl rfl (vin (by decide)) dX7_writeTo_96 (fun H13 locs hP hD hS => ?_)
  obtain ⟨zf14, ezf14⟩ : ∃ z : Nat → Int32, z = upd zf12 (24 : Int32).toNatClampNeg 0 := ⟨_, rfl⟩
  have hP : va_P (dC, dI) vwCl [(a0, .inr (6, [.ref a2, .ref a3, .ref a4, .ref a5, .ref a6, .int 0, .int 0])), (a1, .inl (c1, 1066, .inl zf14)), (a2, .inl (c2, 5, .inl f2)), (a3, .inl (c3, 5, .inl f3)), (a4, .inl (c4, 5, .inl f4)), (a5, .inl (c5, 5, .inl f5)), (a6, .inl (c6, 4, .inl f6))] H13 := by rw [ezf14]; exact hP
  have hD : va_D A [(a0, .inr (6, [.ref a2, .ref a3, .ref a4, .ref a5, .ref a6, .int 0, .int 0])), (a1, .inl (c1, 1066, .inl zf14)), (a2, .inl (c2, 5, .inl f2)), (a3, .inl (c3, 5, .inl f3)), (a4, .inl (c4, 5, .inl f4)), (a5, .inl (c5, 5, .inl f5)), (a6, .inl (c6, 4, .inl f6))] := by rw [ezf14]; exact hD
  refine lv_aload_n hx hb dX7_writeTo_97 rfl (lv_at hl 2 rfl) ?_
  refine lv_iload_n hx hb dX7_writeTo_98 rfl (lv_at hl 0 rfl) ?_
  refine lv_bipush (v := 26) hx hb dX7_writeTo_99 (by decide) ?_
  refine lv_iadd hx hb dX7_writeTo_101 ?_
  refine wt_c (v := 26) (by decide) ?_
  refine lv_iconst (v := 1) hx hb dX7_writeTo_102 (by decide) ?_
  refine lv_isub hx hb dX7_writeTo_103 ?_
  refine wt_c (v := 25) (by decide) ?_
  refine lv_aload_n hx hb dX7_writeTo_104 rfl (lv_at hl 1 rfl) ?_
  refine va_get (D := (dC, dI)) (ci := 6) (v := .int 0) (C := RX7) (T := TX7) (N := 7) hx hb hG inX7 hown hK hP 0 rfl rfl 6 (by decide) (hG _ gw363) (fun _ h9 => h9) rfl dX7_writeTo_105 ?_
  refine va_iast hx hb hK hP hD hS 1 0 rfl rfl (vin (by decide)) dX7_writeTo_108 (fun H15 locs hP hD hS => ?_)
  obtain ⟨zf16, ezf16⟩ : ∃ z : Nat → Int32, z = upd zf14 (25 : Int32).toNatClampNeg 0 := ⟨_, rfl⟩
  have hP : va_P (dC, dI) vwCl [(a0, .inr (6, [.ref a2, .ref a3, .ref a4, .ref a5, .ref a6, .int 0, .int 0])), (a1, .inl (c1, 1066, .inl zf16)), (a2, .inl (c2, 5, .inl f2)), (a3, .inl (c3, 5, .inl f3)), (a4, .inl (c4, 5, .inl f4)), (a5, .inl (c5, 5, .inl f5)), (a6, .inl (c6, 4, .inl f6))] H15 := by rw [ezf16]; exact hP
  have hD : va_D A [(a0, .inr (6, [.ref a2, .ref a3, .ref a4, .ref a5, .ref a6, .int 0, .int 0])), (a1, .inl (c1, 1066, .inl zf16)), (a2, .inl (c2, 5, .inl f2)), (a3, .inl (c3, 5, .inl f3)), (a4, .inl (c4, 5, .inl f4)), (a5, .inl (c5, 5, .inl f5)), (a6, .inl (c6, 4, .inl f6))] := by rw [ezf16]; exact hD
  have hP9 := hP.sub (ws' := [(a0, .inr (6, [.ref a2, .ref a3, .ref a4, .ref a5, .ref a6, .int 0, .int 0])), (a1, .inl (c1, 1066, .inl zf16)), (a2, .inl (c2, 5, .inl f2)), (a3, .inl (c3, 5, .inl f3)), (a4, .inl (c4, 5, .inl f4)), (a5, .inl (c5, 5, .inl f5)), (a6, .inl (c6, 4, .inl f6))]) [0, 1, 2, 3, 4, 5, 6] rfl
  have hD9 := hD.sub (ws' := [(a0, .inr (6, [.ref a2, .ref a3, .ref a4, .ref a5, .ref a6, .int 0, .int 0])), (a1, .inl (c1, 1066, .inl zf16)), (a2, .inl (c2, 5, .inl f2)), (a3, .inl (c3, 5, .inl f3)), (a4, .inl (c4, 5, .inl f4)), (a5, .inl (c5, 5, .inl f5)), (a6, .inl (c6, 4, .inl f6))]) [0, 1, 2, 3, 4, 5, 6] (by decide) rfl
  exact W.vret hx hb hr (fun t ht hW => ⟨⟨(), rfl, trivial, ⟨zf16, by rw [ht]; exact hP9, hD9⟩⟩, hS.F ht⟩) hS.2.2 dX7_writeTo_109
set_option maxHeartbeats 4000000 in
set_option maxRecDepth 100000 in
theorem kX0_begin_v1 (l : Launch) (dC : Nat → ClassId) (dI : Nat → Nat → Nat) (a0 a2 a1 a3 a4 a5 a6 a7 : Nat) (c2 c3 c4 c5 c6 c7 : ClassId) (f2 : Nat → Int32) (f3 : Nat → Int32) (f4 : Nat → Int32) (f5 : Nat → Int32) (f6 : Nat → Int32) (f7 : Nat → Int32) (sz : Nat) : Met l yX0_begin (.code yX0_begin cX0_begin 2 none :: GW) { frames := 4, cells := 0, slots := 0, locals := 163 } (va_Pc [.ref a0, .ref a1] (pW (dC, dI) [(a0, .inr (0, [.ref a2, .int 0, .int 0])), (a1, .inr (6, [.ref a3, .ref a4, .ref a5, .ref a6, .ref a7, .int 0, .int 0])), (a2, .inl (c2, 1066, .inl f2)), (a3, .inl (c3, 5, .inl f3)), (a4, .inl (c4, 5, .inl f4)), (a5, .inl (c5, 5, .inl f5)), (a6, .inl (c6, 5, .inl f6)), (a7, .inl (c7, 4, .inl f7))] [(c2, .int), (c3, .int), (c4, .int), (c5, .int), (c6, .int), (c7, .int)] sz)) (va_Qv (fun _ : Unit => True) (fun (_ : Unit) (t : State) => ∃ (F0 : Nat → Int32), va_P (dC, dI) vwCl [(a0, .inr (0, [.ref a2, .int 0, .int 0])), (a1, .inr (6, [.ref a3, .ref a4, .ref a5, .ref a6, .ref a7, .int 0, .int 0])), (a2, .inl (c2, 1066, .inl F0)), (a3, .inl (c3, 5, .inl f3)), (a4, .inl (c4, 5, .inl f4)), (a5, .inl (c5, 5, .inl f5)), (a6, .inl (c6, 5, .inl f6)), (a7, .inl (c7, 4, .inl f7))] t.heap ∧ va_D (va_A [(a0, .inr (0, [.ref a2, .int 0, .int 0])), (a1, .inr (6, [.ref a3, .ref a4, .ref a5, .ref a6, .ref a7, .int 0, .int 0])), (a2, .inl (c2, 1066, .inl f2)), (a3, .inl (c3, 5, .inl f3)), (a4, .inl (c4, 5, .inl f4)), (a5, .inl (c5, 5, .inl f5)), (a6, .inl (c6, 5, .inl f6)), (a7, .inl (c7, 4, .inl f7))] sz) [(a0, .inr (0, [.ref a2, .int 0, .int 0])), (a1, .inr (6, [.ref a3, .ref a4, .ref a5, .ref a6, .ref a7, .int 0, .int 0])), (a2, .inl (c2, 1066, .inl F0)), (a3, .inl (c3, 5, .inl f3)), (a4, .inl (c4, 5, .inl f4)), (a5, .inl (c5, 5, .inl f5)), (a6, .inl (c6, 5, .inl f6)), (a7, .inl (c7, 4, .inl f7))]) (va_A [(a0, .inr (0, [.ref a2, .int 0, .int 0])), (a1, .inr (6, [.ref a3, .ref a4, .ref a5, .ref a6, .ref a7, .int 0, .int 0])), (a2, .inl (c2, 1066, .inl f2)), (a3, .inl (c3, 5, .inl f3)), (a4, .inl (c4, 5, .inl f4)), (a5, .inl (c5, 5, .inl f5)), (a6, .inl (c6, 5, .inl f6)), (a7, .inl (c7, 4, .inl f7))] sz)) 0 0 (va_A [(a0, .inr (0, [.ref a2, .int 0, .int 0])), (a1, .inr (6, [.ref a3, .ref a4, .ref a5, .ref a6, .ref a7, .int 0, .int 0])), (a2, .inl (c2, 1066, .inl f2)), (a3, .inl (c3, 5, .inl f3)), (a4, .inl (c4, 5, .inl f4)), (a5, .inl (c5, 5, .inl f5)), (a6, .inl (c6, 5, .inl f6)), (a7, .inl (c7, 4, .inl f7))] sz) := by
  refine Met.ofW (cc := cX0_begin) (maxL := 2) (ret := none) (by decide) rfl ?_
  intro p e s m args below meth c0 s₁ B hml hv
  obtain ⟨rfl, hsz, hP, hK, hD0⟩ := hv
  have hx := B.exec
  have hb := B.bytes
  have hr := B.returns
  have hts := atoms_spec (ws := .code yX0_begin cX0_begin 2 none :: GW) B.pre
  have hG : ∀ w ∈ GW, w.before _ s = true := fun w h => hts w (List.mem_cons_of_mem _ h)
  have hown : s.vm.findClass RX0 = some m.cls := findClass_of_methodNamed B.named
  have hlocks := B.notSynchronized
  subst hsz
  have hD := hD0.self (sz := s.heap.size)
  generalize hAe : va_A [(a0, .inr (0, [.ref a2, .int 0, .int 0])), (a1, .inr (6, [.ref a3, .ref a4, .ref a5, .ref a6, .ref a7, .int 0, .int 0])), (a2, .inl (c2, 1066, .inl f2)), (a3, .inl (c3, 5, .inl f3)), (a4, .inl (c4, 5, .inl f4)), (a5, .inl (c5, 5, .inl f5)), (a6, .inl (c6, 5, .inl f6)), (a7, .inl (c7, 4, .inl f7))] s.heap.size = A at hD ⊢
  have hA : ∀ q : Nat, s.heap.size ≤ q → A q := fun q h => by rw [← hAe]; exact Or.inr h
  have hS : va_S A s.heap s.heap [] := va_S.rf
  have hP : va_P (dC, dI) vwCl [(a0, .inr (0, [.ref a2, .int 0, .int 0])), (a1, .inr (6, [.ref a3, .ref a4, .ref a5, .ref a6, .ref a7, .int 0, .int 0])), (a2, .inl (c2, 1066, .inl f2)), (a3, .inl (c3, 5, .inl f3)), (a4, .inl (c4, 5, .inl f4)), (a5, .inl (c5, 5, .inl f5)), (a6, .inl (c6, 5, .inl f6)), (a7, .inl (c7, 4, .inl f7))] s.heap := hP
  have hl := lv_entry ([.ref a0, .ref a1]) (n := 2) (Nat.le_of_ble_eq_true rfl)
  rw [lg_entry_eq]
  generalize (lg_sl ([.ref a0, .ref a1]) ++ List.replicate (2 - (lg_sl ([.ref a0, .ref a1])).length) Slot.unset).toArray = ls at hl ⊢
  have hl : lv_has ls 2 [(0, .ref a0), (1, .ref a1)] := hl
  refine lv_aload_n hx hb dX0_begin_0 rfl (lv_at hl 0 rfl) ?_
  refine lv_iconst (v := 0) hx hb dX0_begin_1 (by decide) ?_
  refine va_put (D := (dC, dI)) (ci := 0) (v := .int 0) (ty := .int) (C := RX0) (T := TX0) (N := 3) hx hb hG inX0 tyX0 tyX0_ok nmX0 hown hK hP hD hS 0 rfl rfl 1 (by decide) (hG _ gw387) (fun _ h9 => h9) rfl (by decide +kernel) rfl rfl (Nat.le_of_ble_eq_true rfl) dX0_begin_2 (fun H1 locs hP hD hS => ?_)
  have hP : va_P (dC, dI) vwCl [(a0, .inr (0, [.ref a2, .int 0, .int 0])), (a1, .inr (6, [.ref a3, .ref a4, .ref a5, .ref a6, .ref a7, .int 0, .int 0])), (a2, .inl (c2, 1066, .inl f2)), (a3, .inl (c3, 5, .inl f3)), (a4, .inl (c4, 5, .inl f4)), (a5, .inl (c5, 5, .inl f5)), (a6, .inl (c6, 5, .inl f6)), (a7, .inl (c7, 4, .inl f7))] H1 := hP
  have hD : va_D A [(a0, .inr (0, [.ref a2, .int 0, .int 0])), (a1, .inr (6, [.ref a3, .ref a4, .ref a5, .ref a6, .ref a7, .int 0, .int 0])), (a2, .inl (c2, 1066, .inl f2)), (a3, .inl (c3, 5, .inl f3)), (a4, .inl (c4, 5, .inl f4)), (a5, .inl (c5, 5, .inl f5)), (a6, .inl (c6, 5, .inl f6)), (a7, .inl (c7, 4, .inl f7))] := hD
  refine lv_aload_n hx hb dX0_begin_5 rfl (lv_at hl 0 rfl) ?_
  refine lv_iconst (v := 0) hx hb dX0_begin_6 (by decide) ?_
  refine va_put (D := (dC, dI)) (ci := 0) (v := .int 0) (ty := .int) (C := RX0) (T := TX0) (N := 3) hx hb hG inX0 tyX0 tyX0_ok nmX0 hown hK hP hD hS 0 rfl rfl 2 (by decide) (hG _ gw389) (fun _ h9 => h9) rfl (by decide +kernel) rfl rfl (Nat.le_of_ble_eq_true rfl) dX0_begin_7 (fun H2 locs hP hD hS => ?_)
  have hP : va_P (dC, dI) vwCl [(a0, .inr (0, [.ref a2, .int 0, .int 0])), (a1, .inr (6, [.ref a3, .ref a4, .ref a5, .ref a6, .ref a7, .int 0, .int 0])), (a2, .inl (c2, 1066, .inl f2)), (a3, .inl (c3, 5, .inl f3)), (a4, .inl (c4, 5, .inl f4)), (a5, .inl (c5, 5, .inl f5)), (a6, .inl (c6, 5, .inl f6)), (a7, .inl (c7, 4, .inl f7))] H2 := hP
  have hD : va_D A [(a0, .inr (0, [.ref a2, .int 0, .int 0])), (a1, .inr (6, [.ref a3, .ref a4, .ref a5, .ref a6, .ref a7, .int 0, .int 0])), (a2, .inl (c2, 1066, .inl f2)), (a3, .inl (c3, 5, .inl f3)), (a4, .inl (c4, 5, .inl f4)), (a5, .inl (c5, 5, .inl f5)), (a6, .inl (c6, 5, .inl f6)), (a7, .inl (c7, 4, .inl f7))] := hD
  refine lv_aload_n hx hb dX0_begin_10 rfl (lv_at hl 1 rfl) ?_
  refine lv_aload_n hx hb dX0_begin_11 rfl (lv_at hl 0 rfl) ?_
  refine va_get (D := (dC, dI)) (ci := 0) (v := .ref a2) (C := RX0) (T := TX0) (N := 3) hx hb hG inX0 hown hK hP 0 rfl rfl 0 (by decide) (hG _ gw386) (fun _ h9 => h9) rfl dX0_begin_12 ?_
  refine lv_iconst (v := 0) hx hb dX0_begin_15 (by decide) ?_
  have hPc := hP.sub (ws' := [(a1, .inr (6, [.ref a3, .ref a4, .ref a5, .ref a6, .ref a7, .int 0, .int 0])), (a2, .inl (c2, 1066, .inl f2)), (a3, .inl (c3, 5, .inl f3)), (a4, .inl (c4, 5, .inl f4)), (a5, .inl (c5, 5, .inl f5)), (a6, .inl (c6, 5, .inl f6)), (a7, .inl (c7, 4, .inl f7))]) [1, 2, 3, 4, 5, 6, 7] rfl
  have hKc := hK.sub (tys' := [(c2, .int), (c3, .int), (c4, .int), (c5, .int), (c6, .int), (c7, .int)]) [0, 1, 2, 3, 4, 5] rfl
  have hDc := hD.sub (ws' := [(a1, .inr (6, [.ref a3, .ref a4, .ref a5, .ref a6, .ref a7, .int 0, .int 0])), (a2, .inl (c2, 1066, .inl f2)), (a3, .inl (c3, 5, .inl f3)), (a4, .inl (c4, 5, .inl f4)), (a5, .inl (c5, 5, .inl f5)), (a6, .inl (c6, 5, .inl f6)), (a7, .inl (c7, 4, .inl f7))]) [1, 2, 3, 4, 5, 6, 7] (by decide) rfl
  have hFc := va_free (wc := [(a1, .inr (6, [.ref a3, .ref a4, .ref a5, .ref a6, .ref a7, .int 0, .int 0])), (a2, .inl (c2, 1066, .inl f2)), (a3, .inl (c3, 5, .inl f3)), (a4, .inl (c4, 5, .inl f4)), (a5, .inl (c5, 5, .inl f5)), (a6, .inl (c6, 5, .inl f6)), (a7, .inl (c7, 4, .inl f7))]) hD hS hA [1, 2, 3, 4, 5, 6, 7] rfl
  refine va_callv (va_runV (As := [.ref a2, .int 0]) (rest := []) ⟨hx, hb, hml, hown, hG⟩ (kX7_writeTo_v1 l dC dI a1 a3 a4 a5 a6 a7 a2 c2 c3 c4 c5 c6 c7 f2 f3 f4 f5 f6 f7 H2.size ) (cwV 2 hG (goodV gw461 gw462 gw463 gw134 gw464) rfl rfl rfl hd_X7_writeTo ⟨(Nat.le_of_ble_eq_true rfl), (Nat.le_of_ble_eq_true rfl)⟩) ⟨fbW, va_recv hKc hPc (ci := 6) (q0 := 0) rfl rfl, pW_in hPc hKc hDc⟩ rfl rfl hl.1 rfl (lv_room (Nat.le_of_ble_eq_true rfl)) dX0_begin_16 ⟨(Nat.le_of_ble_eq_true rfl), (Nat.le_of_ble_eq_true rfl)⟩) hS (fun q _ h => hFc q h) hFc (fun u t H3 locs ht hvm hw hB hz1 hk1 hS => ?_)
  obtain ⟨zf5, hP1, hD1⟩ := hB
  rw [ht] at hP1
  obtain ⟨hP, hD⟩ := va_join (wr := [(a0, .inr (0, [.ref a2, .int 0, .int 0]))]) (w1 := [(a1, .inr (6, [.ref a3, .ref a4, .ref a5, .ref a6, .ref a7, .int 0, .int 0])), (a2, .inl (c2, 1066, .inl zf5)), (a3, .inl (c3, 5, .inl f3)), (a4, .inl (c4, 5, .inl f4)), (a5, .inl (c5, 5, .inl f5)), (a6, .inl (c6, 5, .inl f6)), (a7, .inl (c7, 4, .inl f7))]) hP hD [1, 2, 3, 4, 5, 6, 7] [0] rfl rfl (by decide) (by decide) hk1 hFc hP1 hD1
  have hP : va_P (dC, dI) vwCl [(a0, .inr (0, [.ref a2, .int 0, .int 0])), (a1, .inr (6, [.ref a3, .ref a4, .ref a5, .ref a6, .ref a7, .int 0, .int 0])), (a2, .inl (c2, 1066, .inl zf5)), (a3, .inl (c3, 5, .inl f3)), (a4, .inl (c4, 5, .inl f4)), (a5, .inl (c5, 5, .inl f5)), (a6, .inl (c6, 5, .inl f6)), (a7, .inl (c7, 4, .inl f7))] H3 := hP
  have hD : va_D A [(a0, .inr (0, [.ref a2, .int 0, .int 0])), (a1, .inr (6, [.ref a3, .ref a4, .ref a5, .ref a6, .ref a7, .int 0, .int 0])), (a2, .inl (c2, 1066, .inl zf5)), (a3, .inl (c3, 5, .inl f3)), (a4, .inl (c4, 5, .inl f4)), (a5, .inl (c5, 5, .inl f5)), (a6, .inl (c6, 5, .inl f6)), (a7, .inl (c7, 4, .inl f7))] := hD
  have hP9 := hP.sub (ws' := [(a0, .inr (0, [.ref a2, .int 0, .int 0])), (a1, .inr (6, [.ref a3, .ref a4, .ref a5, .ref a6, .ref a7, .int 0, .int 0])), (a2, .inl (c2, 1066, .inl zf5)), (a3, .inl (c3, 5, .inl f3)), (a4, .inl (c4, 5, .inl f4)), (a5, .inl (c5, 5, .inl f5)), (a6, .inl (c6, 5, .inl f6)), (a7, .inl (c7, 4, .inl f7))]) [0, 1, 2, 3, 4, 5, 6, 7] rfl
  have hD9 := hD.sub (ws' := [(a0, .inr (0, [.ref a2, .int 0, .int 0])), (a1, .inr (6, [.ref a3, .ref a4, .ref a5, .ref a6, .ref a7, .int 0, .int 0])), (a2, .inl (c2, 1066, .inl zf5)), (a3, .inl (c3, 5, .inl f3)), (a4, .inl (c4, 5, .inl f4)), (a5, .inl (c5, 5, .inl f5)), (a6, .inl (c6, 5, .inl f6)), (a7, .inl (c7, 4, .inl f7))]) [0, 1, 2, 3, 4, 5, 6, 7] (by decide) rfl
  exact W.vret hx hb hr (fun t ht hW => ⟨⟨(), rfl, trivial, ⟨zf5, by rw [ht]; exact hP9, hD9⟩⟩, hS.F ht⟩) hS.2.2 dX0_begin_19
set_option maxHeartbeats 4000000 in
set_option maxRecDepth 100000 in
theorem kX3_begin (l : Launch) (dC : Nat → ClassId) (dI : Nat → Nat → Nat) (a0 a1 a2 a3 a4 a5 a6 a7 a8 a9 a10 a11 a12 : Nat) (sz : Nat) : Met l yX3_begin (.code yX3_begin cX3_begin 1 none :: GW) { frames := 2, cells := 0, slots := 0, locals := 100 } (va_Pc [.ref a0] (pW (dC, dI) [(a0, .inr (2, [.int 0, .ref a1, .ref a2, .ref a3, .ref a4, .ref a5, .ref a6, .int 0, .ref a7, .ref a8, .ref a9, .ref a10, .ref a11, .ref a12]))] [] sz)) (va_Qv (fun _ : Unit => True) (fun (_ : Unit) (t : State) => va_P (dC, dI) vwCl [(a0, .inr (2, [.int 0, .ref a1, .ref a2, .ref a3, .ref a4, .ref a5, .ref a6, .int 0, .ref a7, .ref a8, .ref a9, .ref a10, .ref a11, .ref a12]))] t.heap ∧ va_D (va_A [(a0, .inr (2, [.int 0, .ref a1, .ref a2, .ref a3, .ref a4, .ref a5, .ref a6, .int 0, .ref a7, .ref a8, .ref a9, .ref a10, .ref a11, .ref a12]))] sz) [(a0, .inr (2, [.int 0, .ref a1, .ref a2, .ref a3, .ref a4, .ref a5, .ref a6, .int 0, .ref a7, .ref a8, .ref a9, .ref a10, .ref a11, .ref a12]))]) (va_A [(a0, .inr (2, [.int 0, .ref a1, .ref a2, .ref a3, .ref a4, .ref a5, .ref a6, .int 0, .ref a7, .ref a8, .ref a9, .ref a10, .ref a11, .ref a12]))] sz)) 0 0 (va_A [(a0, .inr (2, [.int 0, .ref a1, .ref a2, .ref a3, .ref a4, .ref a5, .ref a6, .int 0, .ref a7, .ref a8, .ref a9, .ref a10, .ref a11, .ref a12]))] sz) := by
  refine Met.ofW (cc := cX3_begin) (maxL := 1) (ret := none) (by decide) rfl ?_
  intro p e s m args below meth c0 s₁ B hml hv
  obtain ⟨rfl, hsz, hP, hK, hD0⟩ := hv
  have hx := B.exec
  have hb := B.bytes
  have hr := B.returns
  have hts := atoms_spec (ws := .code yX3_begin cX3_begin 1 none :: GW) B.pre
  have hG : ∀ w ∈ GW, w.before _ s = true := fun w h => hts w (List.mem_cons_of_mem _ h)
  have hown : s.vm.findClass RX3 = some m.cls := findClass_of_methodNamed B.named
  have hlocks := B.notSynchronized
  subst hsz
  have hD := hD0.self (sz := s.heap.size)
  generalize hAe : va_A [(a0, .inr (2, [.int 0, .ref a1, .ref a2, .ref a3, .ref a4, .ref a5, .ref a6, .int 0, .ref a7, .ref a8, .ref a9, .ref a10, .ref a11, .ref a12]))] s.heap.size = A at hD ⊢
  have hA : ∀ q : Nat, s.heap.size ≤ q → A q := fun q h => by rw [← hAe]; exact Or.inr h
  have hS : va_S A s.heap s.heap [] := va_S.rf
  have hP : va_P (dC, dI) vwCl [(a0, .inr (2, [.int 0, .ref a1, .ref a2, .ref a3, .ref a4, .ref a5, .ref a6, .int 0, .ref a7, .ref a8, .ref a9, .ref a10, .ref a11, .ref a12]))] s.heap := hP
  have hl := lv_entry ([.ref a0]) (n := 1) (Nat.le_of_ble_eq_true rfl)
  rw [lg_entry_eq]
  generalize (lg_sl ([.ref a0]) ++ List.replicate (1 - (lg_sl ([.ref a0])).length) Slot.unset).toArray = ls at hl ⊢
  have hl : lv_has ls 1 [(0, .ref a0)] := hl
  refine lv_aload_n hx hb dX3_begin_0 rfl (lv_at hl 0 rfl) ?_
  refine lv_iconst (v := 0) hx hb dX3_begin_1 (by decide) ?_
  refine va_put (D := (dC, dI)) (ci := 2) (v := .int 0) (ty := .int) (C := RX3) (T := TX3) (N := 14) hx hb hG inX3 tyX3 tyX3_ok nmX3 hown hK hP hD hS 0 rfl rfl 0 (by decide) (hG _ gw404) (fun _ h9 => h9) rfl (by decide +kernel) rfl rfl (Nat.le_of_ble_eq_true rfl) dX3_begin_2 (fun H1 locs hP hD hS => ?_)
  have hP : va_P (dC, dI) vwCl [(a0, .inr (2, [.int 0, .ref a1, .ref a2, .ref a3, .ref a4, .ref a5, .ref a6, .int 0, .ref a7, .ref a8, .ref a9, .ref a10, .ref a11, .ref a12]))] H1 := hP
  have hD : va_D A [(a0, .inr (2, [.int 0, .ref a1, .ref a2, .ref a3, .ref a4, .ref a5, .ref a6, .int 0, .ref a7, .ref a8, .ref a9, .ref a10, .ref a11, .ref a12]))] := hD
  refine lv_aload_n hx hb dX3_begin_5 rfl (lv_at hl 0 rfl) ?_
  refine lv_iconst (v := 0) hx hb dX3_begin_6 (by decide) ?_
  refine va_put (D := (dC, dI)) (ci := 2) (v := .int 0) (ty := .boolean) (C := RX3) (T := TX3) (N := 14) hx hb hG inX3 tyX3 tyX3_ok nmX3 hown hK hP hD hS 0 rfl rfl 7 (by decide) (hG _ gw412) (fun _ h9 => h9) rfl (by decide +kernel) rfl rfl (Nat.le_of_ble_eq_true rfl) dX3_begin_7 (fun H2 locs hP hD hS => ?_)
  have hP : va_P (dC, dI) vwCl [(a0, .inr (2, [.int 0, .ref a1, .ref a2, .ref a3, .ref a4, .ref a5, .ref a6, .int 0, .ref a7, .ref a8, .ref a9, .ref a10, .ref a11, .ref a12]))] H2 := hP
  have hD : va_D A [(a0, .inr (2, [.int 0, .ref a1, .ref a2, .ref a3, .ref a4, .ref a5, .ref a6, .int 0, .ref a7, .ref a8, .ref a9, .ref a10, .ref a11, .ref a12]))] := hD
  have hP9 := hP.sub (ws' := [(a0, .inr (2, [.int 0, .ref a1, .ref a2, .ref a3, .ref a4, .ref a5, .ref a6, .int 0, .ref a7, .ref a8, .ref a9, .ref a10, .ref a11, .ref a12]))]) [0] rfl
  have hD9 := hD.sub (ws' := [(a0, .inr (2, [.int 0, .ref a1, .ref a2, .ref a3, .ref a4, .ref a5, .ref a6, .int 0, .ref a7, .ref a8, .ref a9, .ref a10, .ref a11, .ref a12]))]) [0] (by decide) rfl
  exact W.vret hx hb hr (fun t ht hW => ⟨⟨(), rfl, trivial, ⟨by rw [ht]; exact hP9, hD9⟩⟩, hS.F ht⟩) hS.2.2 dX3_begin_10
set_option maxHeartbeats 4000000 in
set_option maxRecDepth 100000 in
theorem kX8_lane (l : Launch) (dC : Nat → ClassId) (dI : Nat → Nat → Nat) (r : Nat → Nat) (c : Nat → ClassId) (f17 : Nat → Int32) (f58 : Nat → Int32) (f59 : Nat → Int32) (f60 : Nat → Int32) (f61 : Nat → Int32) (f62 : Nat → Int32) (f63 : Nat → Int32) (sz : Nat) : Met l yX8_lane (.code yX8_lane cX8_lane 2 (some .int) :: GW) { frames := 12, cells := 0, slots := 0, locals := 405 } (va_Pc [.ref (r 0)] (pW (dC, dI) [(r 0, .inr (7, [.ref (r 1), .int 0, .ref (r 2), .ref (r 55), .ref (r 57), .ref (r 30), .ref (r 56), .ref (r 36), .ref (r 37), .ref (r 38), .int 0, .ref (r 51), .int 0, .ref (r 52), .ref (r 53), .ref (r 54)])), (r 1, .inl ((c 1), 1600, .inl (fun _ => 0))), (r 2, .inr (4, [.int 0, .int (-1), .ref (r 3), .ref (r 7), .int 0, .int 0, .ref (r 18), .ref (r 19), .int 0, .int 0, .int 0, .int 0])), (r 3, .inr (5, [.ref (r 4), .ref (r 5), .ref (r 6), .int 0, .int 0])), (r 4, .inl ((c 4), 1601, .inl (fun _ => 0))), (r 5, .inl ((c 5), 1601, .inl (fun _ => 0))), (r 7, .inr (3, [.int 1, .int 0, .int 0, .int 0, .ref (r 8), .ref (r 9), .ref (r 10), .int 0, .ref (r 11), .ref (r 12), .ref (r 13), .int 0, .ref (r 16), .ref (r 15)])), (r 16, .inr (1, [.ref (r 17), .int 7, .ref (r 14)])), (r 17, .inl ((c 17), 300, .inl f17)), (r 37, .inl ((c 37), 3, .inl (fun _ => 0))), (r 38, .inr (2, [.int 0, .ref (r 39), .ref (r 40), .ref (r 41), .ref (r 42), .ref (r 43), .ref (r 44), .int 0, .ref (r 45), .ref (r 46), .ref (r 47), .ref (r 48), .ref (r 49), .ref (r 50)])), (r 56, .inr (0, [.ref (r 58), .int 0, .int 0])), (r 57, .inr (6, [.ref (r 59), .ref (r 60), .ref (r 61), .ref (r 62), .ref (r 63), .int 0, .int 0])), (r 58, .inl ((c 58), 1066, .inl f58)), (r 59, .inl ((c 59), 5, .inl f59)), (r 60, .inl ((c 60), 5, .inl f60)), (r 61, .inl ((c 61), 5, .inl f61)), (r 62, .inl ((c 62), 5, .inl f62)), (r 63, .inl ((c 63), 4, .inl f63))] [((c 1), .byte), ((c 4), .int), ((c 5), .int), ((c 17), .int), ((c 37), .boolean), ((c 58), .int), ((c 59), .int), ((c 60), .int), ((c 61), .int), ((c 62), .int), ((c 63), .int)] sz)) (va_Qi (fun (r0 : Int32) (_ : Unit) => r0 = 0) (fun _ _ => True) (va_A [(r 0, .inr (7, [.ref (r 1), .int 0, .ref (r 2), .ref (r 55), .ref (r 57), .ref (r 30), .ref (r 56), .ref (r 36), .ref (r 37), .ref (r 38), .int 0, .ref (r 51), .int 0, .ref (r 52), .ref (r 53), .ref (r 54)])), (r 1, .inl ((c 1), 1600, .inl (fun _ => 0))), (r 2, .inr (4, [.int 0, .int (-1), .ref (r 3), .ref (r 7), .int 0, .int 0, .ref (r 18), .ref (r 19), .int 0, .int 0, .int 0, .int 0])), (r 3, .inr (5, [.ref (r 4), .ref (r 5), .ref (r 6), .int 0, .int 0])), (r 4, .inl ((c 4), 1601, .inl (fun _ => 0))), (r 5, .inl ((c 5), 1601, .inl (fun _ => 0))), (r 7, .inr (3, [.int 1, .int 0, .int 0, .int 0, .ref (r 8), .ref (r 9), .ref (r 10), .int 0, .ref (r 11), .ref (r 12), .ref (r 13), .int 0, .ref (r 16), .ref (r 15)])), (r 16, .inr (1, [.ref (r 17), .int 7, .ref (r 14)])), (r 17, .inl ((c 17), 300, .inl f17)), (r 37, .inl ((c 37), 3, .inl (fun _ => 0))), (r 38, .inr (2, [.int 0, .ref (r 39), .ref (r 40), .ref (r 41), .ref (r 42), .ref (r 43), .ref (r 44), .int 0, .ref (r 45), .ref (r 46), .ref (r 47), .ref (r 48), .ref (r 49), .ref (r 50)])), (r 56, .inr (0, [.ref (r 58), .int 0, .int 0])), (r 57, .inr (6, [.ref (r 59), .ref (r 60), .ref (r 61), .ref (r 62), .ref (r 63), .int 0, .int 0])), (r 58, .inl ((c 58), 1066, .inl f58)), (r 59, .inl ((c 59), 5, .inl f59)), (r 60, .inl ((c 60), 5, .inl f60)), (r 61, .inl ((c 61), 5, .inl f61)), (r 62, .inl ((c 62), 5, .inl f62)), (r 63, .inl ((c 63), 4, .inl f63))] sz)) 0 0 (va_A [(r 0, .inr (7, [.ref (r 1), .int 0, .ref (r 2), .ref (r 55), .ref (r 57), .ref (r 30), .ref (r 56), .ref (r 36), .ref (r 37), .ref (r 38), .int 0, .ref (r 51), .int 0, .ref (r 52), .ref (r 53), .ref (r 54)])), (r 1, .inl ((c 1), 1600, .inl (fun _ => 0))), (r 2, .inr (4, [.int 0, .int (-1), .ref (r 3), .ref (r 7), .int 0, .int 0, .ref (r 18), .ref (r 19), .int 0, .int 0, .int 0, .int 0])), (r 3, .inr (5, [.ref (r 4), .ref (r 5), .ref (r 6), .int 0, .int 0])), (r 4, .inl ((c 4), 1601, .inl (fun _ => 0))), (r 5, .inl ((c 5), 1601, .inl (fun _ => 0))), (r 7, .inr (3, [.int 1, .int 0, .int 0, .int 0, .ref (r 8), .ref (r 9), .ref (r 10), .int 0, .ref (r 11), .ref (r 12), .ref (r 13), .int 0, .ref (r 16), .ref (r 15)])), (r 16, .inr (1, [.ref (r 17), .int 7, .ref (r 14)])), (r 17, .inl ((c 17), 300, .inl f17)), (r 37, .inl ((c 37), 3, .inl (fun _ => 0))), (r 38, .inr (2, [.int 0, .ref (r 39), .ref (r 40), .ref (r 41), .ref (r 42), .ref (r 43), .ref (r 44), .int 0, .ref (r 45), .ref (r 46), .ref (r 47), .ref (r 48), .ref (r 49), .ref (r 50)])), (r 56, .inr (0, [.ref (r 58), .int 0, .int 0])), (r 57, .inr (6, [.ref (r 59), .ref (r 60), .ref (r 61), .ref (r 62), .ref (r 63), .int 0, .int 0])), (r 58, .inl ((c 58), 1066, .inl f58)), (r 59, .inl ((c 59), 5, .inl f59)), (r 60, .inl ((c 60), 5, .inl f60)), (r 61, .inl ((c 61), 5, .inl f61)), (r 62, .inl ((c 62), 5, .inl f62)), (r 63, .inl ((c 63), 4, .inl f63))] sz) := by
  refine Met.ofW (cc := cX8_lane) (maxL := 2) (ret := (some .int)) (by decide) rfl ?_
  intro p e s m args below meth c0 s₁ B hml hv
  obtain ⟨rfl, hsz, hP, hK, hD0⟩ := hv
  have hx := B.exec
  have hb := B.bytes
  have hr := B.returns
  have hts := atoms_spec (ws := .code yX8_lane cX8_lane 2 (some .int) :: GW) B.pre
  have hG : ∀ w ∈ GW, w.before _ s = true := fun w h => hts w (List.mem_cons_of_mem _ h)
  have hown : s.vm.findClass RX8 = some m.cls := findClass_of_methodNamed B.named
  have hlocks := B.notSynchronized
  subst hsz
  have hD := hD0.self (sz := s.heap.size)
  generalize hAe : va_A [(r 0, .inr (7, [.ref (r 1), .int 0, .ref (r 2), .ref (r 55), .ref (r 57), .ref (r 30), .ref (r 56), .ref (r 36), .ref (r 37), .ref (r 38), .int 0, .ref (r 51), .int 0, .ref (r 52), .ref (r 53), .ref (r 54)])), (r 1, .inl ((c 1), 1600, .inl (fun _ => 0))), (r 2, .inr (4, [.int 0, .int (-1), .ref (r 3), .ref (r 7), .int 0, .int 0, .ref (r 18), .ref (r 19), .int 0, .int 0, .int 0, .int 0])), (r 3, .inr (5, [.ref (r 4), .ref (r 5), .ref (r 6), .int 0, .int 0])), (r 4, .inl ((c 4), 1601, .inl (fun _ => 0))), (r 5, .inl ((c 5), 1601, .inl (fun _ => 0))), (r 7, .inr (3, [.int 1, .int 0, .int 0, .int 0, .ref (r 8), .ref (r 9), .ref (r 10), .int 0, .ref (r 11), .ref (r 12), .ref (r 13), .int 0, .ref (r 16), .ref (r 15)])), (r 16, .inr (1, [.ref (r 17), .int 7, .ref (r 14)])), (r 17, .inl ((c 17), 300, .inl f17)), (r 37, .inl ((c 37), 3, .inl (fun _ => 0))), (r 38, .inr (2, [.int 0, .ref (r 39), .ref (r 40), .ref (r 41), .ref (r 42), .ref (r 43), .ref (r 44), .int 0, .ref (r 45), .ref (r 46), .ref (r 47), .ref (r 48), .ref (r 49), .ref (r 50)])), (r 56, .inr (0, [.ref (r 58), .int 0, .int 0])), (r 57, .inr (6, [.ref (r 59), .ref (r 60), .ref (r 61), .ref (r 62), .ref (r 63), .int 0, .int 0])), (r 58, .inl ((c 58), 1066, .inl f58)), (r 59, .inl ((c 59), 5, .inl f59)), (r 60, .inl ((c 60), 5, .inl f60)), (r 61, .inl ((c 61), 5, .inl f61)), (r 62, .inl ((c 62), 5, .inl f62)), (r 63, .inl ((c 63), 4, .inl f63))] s.heap.size = A at hD ⊢
  have hA : ∀ q : Nat, s.heap.size ≤ q → A q := fun q h => by rw [← hAe]; exact Or.inr h
  have hS : va_S A s.heap s.heap [] := va_S.rf
  have hP : va_P (dC, dI) vwCl [(r 0, .inr (7, [.ref (r 1), .int 0, .ref (r 2), .ref (r 55), .ref (r 57), .ref (r 30), .ref (r 56), .ref (r 36), .ref (r 37), .ref (r 38), .int 0, .ref (r 51), .int 0, .ref (r 52), .ref (r 53), .ref (r 54)])), (r 1, .inl ((c 1), 1600, .inl (fun _ => 0))), (r 2, .inr (4, [.int 0, .int (-1), .ref (r 3), .ref (r 7), .int 0, .int 0, .ref (r 18), .ref (r 19), .int 0, .int 0, .int 0, .int 0])), (r 3, .inr (5, [.ref (r 4), .ref (r 5), .ref (r 6), .int 0, .int 0])), (r 4, .inl ((c 4), 1601, .inl (fun _ => 0))), (r 5, .inl ((c 5), 1601, .inl (fun _ => 0))), (r 7, .inr (3, [.int 1, .int 0, .int 0, .int 0, .ref (r 8), .ref (r 9), .ref (r 10), .int 0, .ref (r 11), .ref (r 12), .ref (r 13), .int 0, .ref (r 16), .ref (r 15)])), (r 16, .inr (1, [.ref (r 17), .int 7, .ref (r 14)])), (r 17, .inl ((c 17), 300, .inl f17)), (r 37, .inl ((c 37), 3, .inl (fun _ => 0))), (r 38, .inr (2, [.int 0, .ref (r 39), .ref (r 40), .ref (r 41), .ref (r 42), .ref (r 43), .ref (r 44), .int 0, .ref (r 45), .ref (r 46), .ref (r 47), .ref (r 48), .ref (r 49), .ref (r 50)])), (r 56, .inr (0, [.ref (r 58), .int 0, .int 0])), (r 57, .inr (6, [.ref (r 59), .ref (r 60), .ref (r 61), .ref (r 62), .ref (r 63), .int 0, .int 0])), (r 58, .inl ((c 58), 1066, .inl f58)), (r 59, .inl ((c 59), 5, .inl f59)), (r 60, .inl ((c 60), 5, .inl f60)), (r 61, .inl ((c 61), 5, .inl f61)), (r 62, .inl ((c 62), 5, .inl f62)), (r 63, .inl ((c 63), 4, .inl f63))] s.heap := hP
  have hl := lv_entry ([.ref (r 0)]) (n := 2) (Nat.le_of_ble_eq_true rfl)
  rw [lg_entry_eq]
  generalize (lg_sl ([.ref (r 0)]) ++ List.replicate (2 - (lg_sl ([.ref (r 0)])).length) Slot.unset).toArray = ls at hl ⊢
  have hl : lv_has ls 2 [(0, .ref (r 0))] := hl
  refine lv_aload_n hx hb dX8_lane_0 rfl (lv_at hl 0 rfl) ?_
  refine va_get (D := (dC, dI)) (ci := 7) (v := .ref (r 2)) (C := RX8) (T := TX8) (N := 16) hx hb hG inX8 hown hK hP 0 rfl rfl 2 (by decide) (hG _ gw470) (fun _ h9 => h9) rfl dX8_lane_1 ?_
  refine lv_aload_n hx hb dX8_lane_4 rfl (lv_at hl 0 rfl) ?_
  refine va_get (D := (dC, dI)) (ci := 7) (v := .ref (r 1)) (C := RX8) (T := TX8) (N := 16) hx hb hG inX8 hown hK hP 0 rfl rfl 0 (by decide) (hG _ gw468) (fun _ h9 => h9) rfl dX8_lane_5 ?_
  refine lv_aload_n hx hb dX8_lane_8 rfl (lv_at hl 0 rfl) ?_
  refine va_get (D := (dC, dI)) (ci := 7) (v := .int 0) (C := RX8) (T := TX8) (N := 16) hx hb hG inX8 hown hK hP 0 rfl rfl 1 (by decide) (hG _ gw469) (fun _ h9 => h9) rfl dX8_lane_9 ?_
  have hPc := hP.sub (ws' := [(r 2, .inr (4, [.int 0, .int (-1), .ref (r 3), .ref (r 7), .int 0, .int 0, .ref (r 18), .ref (r 19), .int 0, .int 0, .int 0, .int 0])), (r 1, .inl ((c 1), 1600, .inl (fun _ => 0))), (r 3, .inr (5, [.ref (r 4), .ref (r 5), .ref (r 6), .int 0, .int 0])), (r 7, .inr (3, [.int 1, .int 0, .int 0, .int 0, .ref (r 8), .ref (r 9), .ref (r 10), .int 0, .ref (r 11), .ref (r 12), .ref (r 13), .int 0, .ref (r 16), .ref (r 15)])), (r 4, .inl ((c 4), 1601, .inl (fun _ => 0))), (r 5, .inl ((c 5), 1601, .inl (fun _ => 0))), (r 16, .inr (1, [.ref (r 17), .int 7, .ref (r 14)])), (r 17, .inl ((c 17), 300, .inl f17))]) [2, 1, 3, 6, 4, 5, 7, 8] rfl
  have hKc := hK.sub (tys' := [((c 1), .byte), ((c 4), .int), ((c 5), .int), ((c 17), .int)]) [0, 1, 2, 3] rfl
  have hDc := hD.sub (ws' := [(r 2, .inr (4, [.int 0, .int (-1), .ref (r 3), .ref (r 7), .int 0, .int 0, .ref (r 18), .ref (r 19), .int 0, .int 0, .int 0, .int 0])), (r 1, .inl ((c 1), 1600, .inl (fun _ => 0))), (r 3, .inr (5, [.ref (r 4), .ref (r 5), .ref (r 6), .int 0, .int 0])), (r 7, .inr (3, [.int 1, .int 0, .int 0, .int 0, .ref (r 8), .ref (r 9), .ref (r 10), .int 0, .ref (r 11), .ref (r 12), .ref (r 13), .int 0, .ref (r 16), .ref (r 15)])), (r 4, .inl ((c 4), 1601, .inl (fun _ => 0))), (r 5, .inl ((c 5), 1601, .inl (fun _ => 0))), (r 16, .inr (1, [.ref (r 17), .int 7, .ref (r 14)])), (r 17, .inl ((c 17), 300, .inl f17))]) [2, 1, 3, 6, 4, 5, 7, 8] (by decide) rfl
  have hFc := va_free (wc := [(r 2, .inr (4, [.int 0, .int (-1), .ref (r 3), .ref (r 7), .int 0, .int 0, .ref (r 18), .ref (r 19), .int 0, .int 0, .int 0, .int 0])), (r 1, .inl ((c 1), 1600, .inl (fun _ => 0))), (r 3, .inr (5, [.ref (r 4), .ref (r 5), .ref (r 6), .int 0, .int 0])), (r 7, .inr (3, [.int 1, .int 0, .int 0, .int 0, .ref (r 8), .ref (r 9), .ref (r 10), .int 0, .ref (r 11), .ref (r 12), .ref (r 13), .int 0, .ref (r 16), .ref (r 15)])), (r 4, .inl ((c 4), 1601, .inl (fun _ => 0))), (r 5, .inl ((c 5), 1601, .inl (fun _ => 0))), (r 16, .inr (1, [.ref (r 17), .int 7, .ref (r 14)])), (r 17, .inl ((c 17), 300, .inl f17))]) hD hS hA [2, 1, 3, 6, 4, 5, 7, 8] rfl
  refine va_calli (va_runV (As := [.ref (r 1), .int 0]) (rest := []) ⟨hx, hb, hml, hown, hG⟩ (kX5_read l dC dI (r 2) (r 3) (r 7) (r 18) (r 19) (r 1) (r 4) (r 5) (r 6) (r 8) (r 9) (r 10) (r 11) (r 12) (r 13) (r 16) (r 15) (r 17) (r 14) (c 1) (c 4) (c 5) (c 17) f17 s.heap.size ) (cwV 2 hG (goodV gw533 gw534 gw535 gw130 gw536) rfl rfl rfl hd_X5_read ⟨(Nat.le_of_ble_eq_true rfl), (Nat.le_of_ble_eq_true rfl)⟩) ⟨fbW, va_recv hKc hPc (ci := 4) (q0 := 0) rfl rfl, pW_in hPc hKc hDc⟩ rfl rfl hl.1 rfl (lv_room (Nat.le_of_ble_eq_true rfl)) dX8_lane_12 ⟨(Nat.le_of_ble_eq_true rfl), (Nat.le_of_ble_eq_true rfl)⟩) hS (fun q _ h => hFc q h) hFc (fun r_2 u t H1 locs ht hvm hw hB hz1 hk1 hS => ?_)
  obtain ⟨zf3, zf4, zf5, hP1, hD1, g6⟩ := hB
  rw [ht] at hP1
  obtain ⟨hP, hD⟩ := va_join (wr := [(r 0, .inr (7, [.ref (r 1), .int 0, .ref (r 2), .ref (r 55), .ref (r 57), .ref (r 30), .ref (r 56), .ref (r 36), .ref (r 37), .ref (r 38), .int 0, .ref (r 51), .int 0, .ref (r 52), .ref (r 53), .ref (r 54)])), (r 37, .inl ((c 37), 3, .inl (fun _ => 0))), (r 38, .inr (2, [.int 0, .ref (r 39), .ref (r 40), .ref (r 41), .ref (r 42), .ref (r 43), .ref (r 44), .int 0, .ref (r 45), .ref (r 46), .ref (r 47), .ref (r 48), .ref (r 49), .ref (r 50)])), (r 56, .inr (0, [.ref (r 58), .int 0, .int 0])), (r 57, .inr (6, [.ref (r 59), .ref (r 60), .ref (r 61), .ref (r 62), .ref (r 63), .int 0, .int 0])), (r 58, .inl ((c 58), 1066, .inl f58)), (r 59, .inl ((c 59), 5, .inl f59)), (r 60, .inl ((c 60), 5, .inl f60)), (r 61, .inl ((c 61), 5, .inl f61)), (r 62, .inl ((c 62), 5, .inl f62)), (r 63, .inl ((c 63), 4, .inl f63))]) (w1 := [(r 2, .inr (4, [.int 0, .int (-1), .ref (r 3), .ref (r 7), .int 0, .int 1, .ref (r 18), .ref (r 19), .int 0, .int 0, .int 0, .int 0])), (r 1, .inl ((c 1), 1600, .inl (fun _ => 0))), (r 3, .inr (5, [.ref (r 4), .ref (r 5), .ref (r 6), .int 1, .int 0])), (r 7, .inr (3, [.int 1, .int 0, .int 0, .int 0, .ref (r 8), .ref (r 9), .ref (r 10), .int 0, .ref (r 11), .ref (r 12), .ref (r 13), .int 0, .ref (r 16), .ref (r 15)])), (r 4, .inl ((c 4), 1601, .inl zf3)), (r 5, .inl ((c 5), 1601, .inl zf4)), (r 16, .inr (1, [.ref (r 17), .int 7, .ref (r 14)])), (r 17, .inl ((c 17), 300, .inl zf5))]) hP hD [2, 1, 3, 6, 4, 5, 7, 8] [0, 9, 10, 11, 12, 13, 14, 15, 16, 17, 18] rfl rfl (by decide) (by decide) hk1 hFc hP1 hD1
  have hP : va_P (dC, dI) vwCl [(r 0, .inr (7, [.ref (r 1), .int 0, .ref (r 2), .ref (r 55), .ref (r 57), .ref (r 30), .ref (r 56), .ref (r 36), .ref (r 37), .ref (r 38), .int 0, .ref (r 51), .int 0, .ref (r 52), .ref (r 53), .ref (r 54)])), (r 37, .inl ((c 37), 3, .inl (fun _ => 0))), (r 38, .inr (2, [.int 0, .ref (r 39), .ref (r 40), .ref (r 41), .ref (r 42), .ref (r 43), .ref (r 44), .int 0, .ref (r 45), .ref (r 46), .ref (r 47), .ref (r 48), .ref (r 49), .ref (r 50)])), (r 56, .inr (0, [.ref (r 58), .int 0, .int 0])), (r 57, .inr (6, [.ref (r 59), .ref (r 60), .ref (r 61), .ref (r 62), .ref (r 63), .int 0, .int 0])), (r 58, .inl ((c 58), 1066, .inl f58)), (r 59, .inl ((c 59), 5, .inl f59)), (r 60, .inl ((c 60), 5, .inl f60)), (r 61, .inl ((c 61), 5, .inl f61)), (r 62, .inl ((c 62), 5, .inl f62)), (r 63, .inl ((c 63), 4, .inl f63)), (r 2, .inr (4, [.int 0, .int (-1), .ref (r 3), .ref (r 7), .int 0, .int 1, .ref (r 18), .ref (r 19), .int 0, .int 0, .int 0, .int 0])), (r 1, .inl ((c 1), 1600, .inl (fun _ => 0))), (r 3, .inr (5, [.ref (r 4), .ref (r 5), .ref (r 6), .int 1, .int 0])), (r 7, .inr (3, [.int 1, .int 0, .int 0, .int 0, .ref (r 8), .ref (r 9), .ref (r 10), .int 0, .ref (r 11), .ref (r 12), .ref (r 13), .int 0, .ref (r 16), .ref (r 15)])), (r 4, .inl ((c 4), 1601, .inl zf3)), (r 5, .inl ((c 5), 1601, .inl zf4)), (r 16, .inr (1, [.ref (r 17), .int 7, .ref (r 14)])), (r 17, .inl ((c 17), 300, .inl zf5))] H1 := hP
  have hD : va_D A [(r 0, .inr (7, [.ref (r 1), .int 0, .ref (r 2), .ref (r 55), .ref (r 57), .ref (r 30), .ref (r 56), .ref (r 36), .ref (r 37), .ref (r 38), .int 0, .ref (r 51), .int 0, .ref (r 52), .ref (r 53), .ref (r 54)])), (r 37, .inl ((c 37), 3, .inl (fun _ => 0))), (r 38, .inr (2, [.int 0, .ref (r 39), .ref (r 40), .ref (r 41), .ref (r 42), .ref (r 43), .ref (r 44), .int 0, .ref (r 45), .ref (r 46), .ref (r 47), .ref (r 48), .ref (r 49), .ref (r 50)])), (r 56, .inr (0, [.ref (r 58), .int 0, .int 0])), (r 57, .inr (6, [.ref (r 59), .ref (r 60), .ref (r 61), .ref (r 62), .ref (r 63), .int 0, .int 0])), (r 58, .inl ((c 58), 1066, .inl f58)), (r 59, .inl ((c 59), 5, .inl f59)), (r 60, .inl ((c 60), 5, .inl f60)), (r 61, .inl ((c 61), 5, .inl f61)), (r 62, .inl ((c 62), 5, .inl f62)), (r 63, .inl ((c 63), 4, .inl f63)), (r 2, .inr (4, [.int 0, .int (-1), .ref (r 3), .ref (r 7), .int 0, .int 1, .ref (r 18), .ref (r 19), .int 0, .int 0, .int 0, .int 0])), (r 1, .inl ((c 1), 1600, .inl (fun _ => 0))), (r 3, .inr (5, [.ref (r 4), .ref (r 5), .ref (r 6), .int 1, .int 0])), (r 7, .inr (3, [.int 1, .int 0, .int 0, .int 0, .ref (r 8), .ref (r 9), .ref (r 10), .int 0, .ref (r 11), .ref (r 12), .ref (r 13), .int 0, .ref (r 16), .ref (r 15)])), (r 4, .inl ((c 4), 1601, .inl zf3)), (r 5, .inl ((c 5), 1601, .inl zf4)), (r 16, .inr (1, [.ref (r 17), .int 7, .ref (r 14)])), (r 17, .inl ((c 17), 300, .inl zf5))] := hD
  refine wt_c (v := 1) hw ?_
  refine lv_if_ne (tgt := 20) hx hb dX8_lane_15 (by decide) (fun c_7 => ?_) (fun c_7 => absurd c_7 (by decide))
  refine lv_aload_n hx hb dX8_lane_20 rfl (lv_at hl 0 rfl) ?_
  refine lv_aload_n hx hb dX8_lane_21 rfl (lv_at hl 0 rfl) ?_
  refine va_get (D := (dC, dI)) (ci := 7) (v := .ref (r 2)) (C := RX8) (T := TX8) (N := 16) hx hb hG inX8 hown hK hP 0 rfl rfl 2 (by decide) (hG _ gw470) (fun _ h9 => h9) rfl dX8_lane_22 ?_
  refine lv_aload_n hx hb dX8_lane_25 rfl (lv_at hl 0 rfl) ?_
  refine va_get (D := (dC, dI)) (ci := 7) (v := .ref (r 55)) (C := RX8) (T := TX8) (N := 16) hx hb hG inX8 hown hK hP 0 rfl rfl 3 (by decide) (hG _ gw471) (fun _ h9 => h9) rfl dX8_lane_26 ?_
  have hPc := hP.sub (ws' := [(r 2, .inr (4, [.int 0, .int (-1), .ref (r 3), .ref (r 7), .int 0, .int 1, .ref (r 18), .ref (r 19), .int 0, .int 0, .int 0, .int 0]))]) [11] rfl
  have hKc := hK.sub (tys' := []) [] rfl
  have hDc := hD.sub (ws' := [(r 2, .inr (4, [.int 0, .int (-1), .ref (r 3), .ref (r 7), .int 0, .int 1, .ref (r 18), .ref (r 19), .int 0, .int 0, .int 0, .int 0]))]) [11] (by decide) rfl
  have hFc := va_free (wc := [(r 2, .inr (4, [.int 0, .int (-1), .ref (r 3), .ref (r 7), .int 0, .int 1, .ref (r 18), .ref (r 19), .int 0, .int 0, .int 0, .int 0]))]) hD hS hA [11] rfl
  refine va_callr (va_runV (As := [.ref (r 55)]) (rest := [.ref (r 0)]) ⟨hx, hb, hml, hown, hG⟩ (kX5_handOver l dC dI (r 2) (r 3) (r 7) (r 18) (r 19) (r 55) H1.size ) (cwV 1 hG (goodV gw679 gw680 gw681 gw130 gw682) rfl rfl rfl hd_X5_handOver ⟨(Nat.le_of_ble_eq_true rfl), (Nat.le_of_ble_eq_true rfl)⟩) ⟨fbW, va_recv hKc hPc (ci := 4) (q0 := 0) rfl rfl, pW_in hPc hKc hDc⟩ rfl rfl hl.1 rfl (lv_room (Nat.le_of_ble_eq_true rfl)) dX8_lane_29 ⟨(Nat.le_of_ble_eq_true rfl), (Nat.le_of_ble_eq_true rfl)⟩) hS (fun q _ h => hFc q h) hFc (fun u r_9 t H8 locs ht hvm hw hB hz1 hk1 hS => ?_)
  obtain ⟨hra, hB⟩ := hB
  obtain ⟨hP1, hD1⟩ := hB
  rw [ht] at hP1
  obtain ⟨hP, hD⟩ := va_join (wr := [(r 0, .inr (7, [.ref (r 1), .int 0, .ref (r 2), .ref (r 55), .ref (r 57), .ref (r 30), .ref (r 56), .ref (r 36), .ref (r 37), .ref (r 38), .int 0, .ref (r 51), .int 0, .ref (r 52), .ref (r 53), .ref (r 54)])), (r 37, .inl ((c 37), 3, .inl (fun _ => 0))), (r 38, .inr (2, [.int 0, .ref (r 39), .ref (r 40), .ref (r 41), .ref (r 42), .ref (r 43), .ref (r 44), .int 0, .ref (r 45), .ref (r 46), .ref (r 47), .ref (r 48), .ref (r 49), .ref (r 50)])), (r 56, .inr (0, [.ref (r 58), .int 0, .int 0])), (r 57, .inr (6, [.ref (r 59), .ref (r 60), .ref (r 61), .ref (r 62), .ref (r 63), .int 0, .int 0])), (r 58, .inl ((c 58), 1066, .inl f58)), (r 59, .inl ((c 59), 5, .inl f59)), (r 60, .inl ((c 60), 5, .inl f60)), (r 61, .inl ((c 61), 5, .inl f61)), (r 62, .inl ((c 62), 5, .inl f62)), (r 63, .inl ((c 63), 4, .inl f63)), (r 1, .inl ((c 1), 1600, .inl (fun _ => 0))), (r 3, .inr (5, [.ref (r 4), .ref (r 5), .ref (r 6), .int 1, .int 0])), (r 7, .inr (3, [.int 1, .int 0, .int 0, .int 0, .ref (r 8), .ref (r 9), .ref (r 10), .int 0, .ref (r 11), .ref (r 12), .ref (r 13), .int 0, .ref (r 16), .ref (r 15)])), (r 4, .inl ((c 4), 1601, .inl zf3)), (r 5, .inl ((c 5), 1601, .inl zf4)), (r 16, .inr (1, [.ref (r 17), .int 7, .ref (r 14)])), (r 17, .inl ((c 17), 300, .inl zf5))]) (w1 := [(r 2, .inr (4, [.int 0, .int (-1), .ref (r 3), .ref (r 55), .int 0, .int 1, .ref (r 18), .ref (r 19), .int 0, .int 0, .int 0, .int 0]))]) hP hD [11] [0, 1, 2, 3, 4, 5, 6, 7, 8, 9, 10, 12, 13, 14, 15, 16, 17, 18] rfl rfl (by decide) (by decide) hk1 hFc hP1 hD1
  have hP : va_P (dC, dI) vwCl [(r 0, .inr (7, [.ref (r 1), .int 0, .ref (r 2), .ref (r 55), .ref (r 57), .ref (r 30), .ref (r 56), .ref (r 36), .ref (r 37), .ref (r 38), .int 0, .ref (r 51), .int 0, .ref (r 52), .ref (r 53), .ref (r 54)])), (r 37, .inl ((c 37), 3, .inl (fun _ => 0))), (r 38, .inr (2, [.int 0, .ref (r 39), .ref (r 40), .ref (r 41), .ref (r 42), .ref (r 43), .ref (r 44), .int 0, .ref (r 45), .ref (r 46), .ref (r 47), .ref (r 48), .ref (r 49), .ref (r 50)])), (r 56, .inr (0, [.ref (r 58), .int 0, .int 0])), (r 57, .inr (6, [.ref (r 59), .ref (r 60), .ref (r 61), .ref (r 62), .ref (r 63), .int 0, .int 0])), (r 58, .inl ((c 58), 1066, .inl f58)), (r 59, .inl ((c 59), 5, .inl f59)), (r 60, .inl ((c 60), 5, .inl f60)), (r 61, .inl ((c 61), 5, .inl f61)), (r 62, .inl ((c 62), 5, .inl f62)), (r 63, .inl ((c 63), 4, .inl f63)), (r 1, .inl ((c 1), 1600, .inl (fun _ => 0))), (r 3, .inr (5, [.ref (r 4), .ref (r 5), .ref (r 6), .int 1, .int 0])), (r 7, .inr (3, [.int 1, .int 0, .int 0, .int 0, .ref (r 8), .ref (r 9), .ref (r 10), .int 0, .ref (r 11), .ref (r 12), .ref (r 13), .int 0, .ref (r 16), .ref (r 15)])), (r 4, .inl ((c 4), 1601, .inl zf3)), (r 5, .inl ((c 5), 1601, .inl zf4)), (r 16, .inr (1, [.ref (r 17), .int 7, .ref (r 14)])), (r 17, .inl ((c 17), 300, .inl zf5)), (r 2, .inr (4, [.int 0, .int (-1), .ref (r 3), .ref (r 55), .int 0, .int 1, .ref (r 18), .ref (r 19), .int 0, .int 0, .int 0, .int 0]))] H8 := hP
  have hD : va_D A [(r 0, .inr (7, [.ref (r 1), .int 0, .ref (r 2), .ref (r 55), .ref (r 57), .ref (r 30), .ref (r 56), .ref (r 36), .ref (r 37), .ref (r 38), .int 0, .ref (r 51), .int 0, .ref (r 52), .ref (r 53), .ref (r 54)])), (r 37, .inl ((c 37), 3, .inl (fun _ => 0))), (r 38, .inr (2, [.int 0, .ref (r 39), .ref (r 40), .ref (r 41), .ref (r 42), .ref (r 43), .ref (r 44), .int 0, .ref (r 45), .ref (r 46), .ref (r 47), .ref (r 48), .ref (r 49), .ref (r 50)])), (r 56, .inr (0, [.ref (r 58), .int 0, .int 0])), (r 57, .inr (6, [.ref (r 59), .ref (r 60), .ref (r 61), .ref (r 62), .ref (r 63), .int 0, .int 0])), (r 58, .inl ((c 58), 1066, .inl f58)), (r 59, .inl ((c 59), 5, .inl f59)), (r 60, .inl ((c 60), 5, .inl f60)), (r 61, .inl ((c 61), 5, .inl f61)), (r 62, .inl ((c 62), 5, .inl f62)), (r 63, .inl ((c 63), 4, .inl f63)), (r 1, .inl ((c 1), 1600, .inl (fun _ => 0))), (r 3, .inr (5, [.ref (r 4), .ref (r 5), .ref (r 6), .int 1, .int 0])), (r 7, .inr (3, [.int 1, .int 0, .int 0, .int 0, .ref (r 8), .ref (r 9), .ref (r 10), .int 0, .ref (r 11), .ref (r 12), .ref (r 13), .int 0, .ref (r 16), .ref (r 15)])), (r 4, .inl ((c 4), 1601, .inl zf3)), (r 5, .inl ((c 5), 1601, .inl zf4)), (r 16, .inr (1, [.ref (r 17), .int 7, .ref (r 14)])), (r 17, .inl ((c 17), 300, .inl zf5)), (r 2, .inr (4, [.int 0, .int (-1), .ref (r 3), .ref (r 55), .int 0, .int 1, .ref (r 18), .ref (r 19), .int 0, .int 0, .int 0, .int 0]))] := hD
  subst hra
  refine va_put (D := (dC, dI)) (ci := 7) (v := .ref (r 7)) (ty := .object "TuneApproval$Lane") (C := RX8) (T := TX8) (N := 16) hx hb hG inX8 tyX8 tyX8_ok nmX8 hown hK hP hD hS 0 rfl rfl 3 (by decide) (hG _ gw471) (fun _ h9 => h9) rfl (by decide +kernel) rfl rfl (Nat.le_of_ble_eq_true rfl) dX8_lane_32 (fun H10 locs hP hD hS => ?_)
  have hP : va_P (dC, dI) vwCl [(r 0, .inr (7, [.ref (r 1), .int 0, .ref (r 2), .ref (r 7), .ref (r 57), .ref (r 30), .ref (r 56), .ref (r 36), .ref (r 37), .ref (r 38), .int 0, .ref (r 51), .int 0, .ref (r 52), .ref (r 53), .ref (r 54)])), (r 37, .inl ((c 37), 3, .inl (fun _ => 0))), (r 38, .inr (2, [.int 0, .ref (r 39), .ref (r 40), .ref (r 41), .ref (r 42), .ref (r 43), .ref (r 44), .int 0, .ref (r 45), .ref (r 46), .ref (r 47), .ref (r 48), .ref (r 49), .ref (r 50)])), (r 56, .inr (0, [.ref (r 58), .int 0, .int 0])), (r 57, .inr (6, [.ref (r 59), .ref (r 60), .ref (r 61), .ref (r 62), .ref (r 63), .int 0, .int 0])), (r 58, .inl ((c 58), 1066, .inl f58)), (r 59, .inl ((c 59), 5, .inl f59)), (r 60, .inl ((c 60), 5, .inl f60)), (r 61, .inl ((c 61), 5, .inl f61)), (r 62, .inl ((c 62), 5, .inl f62)), (r 63, .inl ((c 63), 4, .inl f63)), (r 1, .inl ((c 1), 1600, .inl (fun _ => 0))), (r 3, .inr (5, [.ref (r 4), .ref (r 5), .ref (r 6), .int 1, .int 0])), (r 7, .inr (3, [.int 1, .int 0, .int 0, .int 0, .ref (r 8), .ref (r 9), .ref (r 10), .int 0, .ref (r 11), .ref (r 12), .ref (r 13), .int 0, .ref (r 16), .ref (r 15)])), (r 4, .inl ((c 4), 1601, .inl zf3)), (r 5, .inl ((c 5), 1601, .inl zf4)), (r 16, .inr (1, [.ref (r 17), .int 7, .ref (r 14)])), (r 17, .inl ((c 17), 300, .inl zf5)), (r 2, .inr (4, [.int 0, .int (-1), .ref (r 3), .ref (r 55), .int 0, .int 1, .ref (r 18), .ref (r 19), .int 0, .int 0, .int 0, .int 0]))] H10 := hP
  have hD : va_D A [(r 0, .inr (7, [.ref (r 1), .int 0, .ref (r 2), .ref (r 7), .ref (r 57), .ref (r 30), .ref (r 56), .ref (r 36), .ref (r 37), .ref (r 38), .int 0, .ref (r 51), .int 0, .ref (r 52), .ref (r 53), .ref (r 54)])), (r 37, .inl ((c 37), 3, .inl (fun _ => 0))), (r 38, .inr (2, [.int 0, .ref (r 39), .ref (r 40), .ref (r 41), .ref (r 42), .ref (r 43), .ref (r 44), .int 0, .ref (r 45), .ref (r 46), .ref (r 47), .ref (r 48), .ref (r 49), .ref (r 50)])), (r 56, .inr (0, [.ref (r 58), .int 0, .int 0])), (r 57, .inr (6, [.ref (r 59), .ref (r 60), .ref (r 61), .ref (r 62), .ref (r 63), .int 0, .int 0])), (r 58, .inl ((c 58), 1066, .inl f58)), (r 59, .inl ((c 59), 5, .inl f59)), (r 60, .inl ((c 60), 5, .inl f60)), (r 61, .inl ((c 61), 5, .inl f61)), (r 62, .inl ((c 62), 5, .inl f62)), (r 63, .inl ((c 63), 4, .inl f63)), (r 1, .inl ((c 1), 1600, .inl (fun _ => 0))), (r 3, .inr (5, [.ref (r 4), .ref (r 5), .ref (r 6), .int 1, .int 0])), (r 7, .inr (3, [.int 1, .int 0, .int 0, .int 0, .ref (r 8), .ref (r 9), .ref (r 10), .int 0, .ref (r 11), .ref (r 12), .ref (r 13), .int 0, .ref (r 16), .ref (r 15)])), (r 4, .inl ((c 4), 1601, .inl zf3)), (r 5, .inl ((c 5), 1601, .inl zf4)), (r 16, .inr (1, [.ref (r 17), .int 7, .ref (r 14)])), (r 17, .inl ((c 17), 300, .inl zf5)), (r 2, .inr (4, [.int 0, .int (-1), .ref (r 3), .ref (r 55), .int 0, .int 1, .ref (r 18), .ref (r 19), .int 0, .int 0, .int 0, .int 0]))] := hD
  refine lv_aload_n hx hb dX8_lane_35 rfl (lv_at hl 0 rfl) ?_
  refine lv_iconst (v := 0) hx hb dX8_lane_36 (by decide) ?_
  refine va_put (D := (dC, dI)) (ci := 7) (v := .int 0) (ty := .int) (C := RX8) (T := TX8) (N := 16) hx hb hG inX8 tyX8 tyX8_ok nmX8 hown hK hP hD hS 0 rfl rfl 1 (by decide) (hG _ gw469) (fun _ h9 => h9) rfl (by decide +kernel) rfl rfl (Nat.le_of_ble_eq_true rfl) dX8_lane_37 (fun H11 locs hP hD hS => ?_)
  have hP : va_P (dC, dI) vwCl [(r 0, .inr (7, [.ref (r 1), .int 0, .ref (r 2), .ref (r 7), .ref (r 57), .ref (r 30), .ref (r 56), .ref (r 36), .ref (r 37), .ref (r 38), .int 0, .ref (r 51), .int 0, .ref (r 52), .ref (r 53), .ref (r 54)])), (r 37, .inl ((c 37), 3, .inl (fun _ => 0))), (r 38, .inr (2, [.int 0, .ref (r 39), .ref (r 40), .ref (r 41), .ref (r 42), .ref (r 43), .ref (r 44), .int 0, .ref (r 45), .ref (r 46), .ref (r 47), .ref (r 48), .ref (r 49), .ref (r 50)])), (r 56, .inr (0, [.ref (r 58), .int 0, .int 0])), (r 57, .inr (6, [.ref (r 59), .ref (r 60), .ref (r 61), .ref (r 62), .ref (r 63), .int 0, .int 0])), (r 58, .inl ((c 58), 1066, .inl f58)), (r 59, .inl ((c 59), 5, .inl f59)), (r 60, .inl ((c 60), 5, .inl f60)), (r 61, .inl ((c 61), 5, .inl f61)), (r 62, .inl ((c 62), 5, .inl f62)), (r 63, .inl ((c 63), 4, .inl f63)), (r 1, .inl ((c 1), 1600, .inl (fun _ => 0))), (r 3, .inr (5, [.ref (r 4), .ref (r 5), .ref (r 6), .int 1, .int 0])), (r 7, .inr (3, [.int 1, .int 0, .int 0, .int 0, .ref (r 8), .ref (r 9), .ref (r 10), .int 0, .ref (r 11), .ref (r 12), .ref (r 13), .int 0, .ref (r 16), .ref (r 15)])), (r 4, .inl ((c 4), 1601, .inl zf3)), (r 5, .inl ((c 5), 1601, .inl zf4)), (r 16, .inr (1, [.ref (r 17), .int 7, .ref (r 14)])), (r 17, .inl ((c 17), 300, .inl zf5)), (r 2, .inr (4, [.int 0, .int (-1), .ref (r 3), .ref (r 55), .int 0, .int 1, .ref (r 18), .ref (r 19), .int 0, .int 0, .int 0, .int 0]))] H11 := hP
  have hD : va_D A [(r 0, .inr (7, [.ref (r 1), .int 0, .ref (r 2), .ref (r 7), .ref (r 57), .ref (r 30), .ref (r 56), .ref (r 36), .ref (r 37), .ref (r 38), .int 0, .ref (r 51), .int 0, .ref (r 52), .ref (r 53), .ref (r 54)])), (r 37, .inl ((c 37), 3, .inl (fun _ => 0))), (r 38, .inr (2, [.int 0, .ref (r 39), .ref (r 40), .ref (r 41), .ref (r 42), .ref (r 43), .ref (r 44), .int 0, .ref (r 45), .ref (r 46), .ref (r 47), .ref (r 48), .ref (r 49), .ref (r 50)])), (r 56, .inr (0, [.ref (r 58), .int 0, .int 0])), (r 57, .inr (6, [.ref (r 59), .ref (r 60), .ref (r 61), .ref (r 62), .ref (r 63), .int 0, .int 0])), (r 58, .inl ((c 58), 1066, .inl f58)), (r 59, .inl ((c 59), 5, .inl f59)), (r 60, .inl ((c 60), 5, .inl f60)), (r 61, .inl ((c 61), 5, .inl f61)), (r 62, .inl ((c 62), 5, .inl f62)), (r 63, .inl ((c 63), 4, .inl f63)), (r 1, .inl ((c 1), 1600, .inl (fun _ => 0))), (r 3, .inr (5, [.ref (r 4), .ref (r 5), .ref (r 6), .int 1, .int 0])), (r 7, .inr (3, [.int 1, .int 0, .int 0, .int 0, .ref (r 8), .ref (r 9), .ref (r 10), .int 0, .ref (r 11), .ref (r 12), .ref (r 13), .int 0, .ref (r 16), .ref (r 15)])), (r 4, .inl ((c 4), 1601, .inl zf3)), (r 5, .inl ((c 5), 1601, .inl zf4)), (r 16, .inr (1, [.ref (r 17), .int 7, .ref (r 14)])), (r 17, .inl ((c 17), 300, .inl zf5)), (r 2, .inr (4, [.int 0, .int (-1), .ref (r 3), .ref (r 55), .int 0, .int 1, .ref (r 18), .ref (r 19), .int 0, .int 0, .int 0, .int 0]))] := hD
  refine lv_aload_n hx hb dX8_lane_40 rfl (lv_at hl 0 rfl) ?_
  refine va_get (D := (dC, dI)) (ci := 7) (v := .ref (r 57)) (C := RX8) (T := TX8) (N := 16) hx hb hG inX8 hown hK hP 0 rfl rfl 4 (by decide) (hG _ gw472) (fun _ h9 => h9) rfl dX8_lane_41 ?_
  refine lv_aload_n hx hb dX8_lane_44 rfl (lv_at hl 0 rfl) ?_
  refine va_get (D := (dC, dI)) (ci := 7) (v := .ref (r 7)) (C := RX8) (T := TX8) (N := 16) hx hb hG inX8 hown hK hP 0 rfl rfl 3 (by decide) (hG _ gw471) (fun _ h9 => h9) rfl dX8_lane_45 ?_
  have hPc := hP.sub (ws' := [(r 57, .inr (6, [.ref (r 59), .ref (r 60), .ref (r 61), .ref (r 62), .ref (r 63), .int 0, .int 0])), (r 7, .inr (3, [.int 1, .int 0, .int 0, .int 0, .ref (r 8), .ref (r 9), .ref (r 10), .int 0, .ref (r 11), .ref (r 12), .ref (r 13), .int 0, .ref (r 16), .ref (r 15)])), (r 59, .inl ((c 59), 5, .inl f59)), (r 60, .inl ((c 60), 5, .inl f60)), (r 61, .inl ((c 61), 5, .inl f61)), (r 62, .inl ((c 62), 5, .inl f62)), (r 63, .inl ((c 63), 4, .inl f63))]) [4, 13, 6, 7, 8, 9, 10] rfl
  have hKc := hK.sub (tys' := [((c 59), .int), ((c 60), .int), ((c 61), .int), ((c 62), .int), ((c 63), .int)]) [6, 7, 8, 9, 10] rfl
  have hDc := hD.sub (ws' := [(r 57, .inr (6, [.ref (r 59), .ref (r 60), .ref (r 61), .ref (r 62), .ref (r 63), .int 0, .int 0])), (r 7, .inr (3, [.int 1, .int 0, .int 0, .int 0, .ref (r 8), .ref (r 9), .ref (r 10), .int 0, .ref (r 11), .ref (r 12), .ref (r 13), .int 0, .ref (r 16), .ref (r 15)])), (r 59, .inl ((c 59), 5, .inl f59)), (r 60, .inl ((c 60), 5, .inl f60)), (r 61, .inl ((c 61), 5, .inl f61)), (r 62, .inl ((c 62), 5, .inl f62)), (r 63, .inl ((c 63), 4, .inl f63))]) [4, 13, 6, 7, 8, 9, 10] (by decide) rfl
  have hFc := va_free (wc := [(r 57, .inr (6, [.ref (r 59), .ref (r 60), .ref (r 61), .ref (r 62), .ref (r 63), .int 0, .int 0])), (r 7, .inr (3, [.int 1, .int 0, .int 0, .int 0, .ref (r 8), .ref (r 9), .ref (r 10), .int 0, .ref (r 11), .ref (r 12), .ref (r 13), .int 0, .ref (r 16), .ref (r 15)])), (r 59, .inl ((c 59), 5, .inl f59)), (r 60, .inl ((c 60), 5, .inl f60)), (r 61, .inl ((c 61), 5, .inl f61)), (r 62, .inl ((c 62), 5, .inl f62)), (r 63, .inl ((c 63), 4, .inl f63))]) hD hS hA [4, 13, 6, 7, 8, 9, 10] rfl
  refine va_callv (va_runV (As := [.ref (r 7)]) (rest := []) ⟨hx, hb, hml, hown, hG⟩ (kX7_begin_v1 l dC dI (r 57) (r 59) (r 60) (r 61) (r 62) (r 63) (r 7) (r 8) (r 9) (r 10) (r 11) (r 12) (r 13) (r 16) (r 15) (c 59) (c 60) (c 61) (c 62) (c 63) f59 f60 f61 f62 f63 H11.size ) (cwV 1 hG (goodV gw449 gw450 gw451 gw134 gw452) rfl rfl rfl hd_X7_begin ⟨(Nat.le_of_ble_eq_true rfl), (Nat.le_of_ble_eq_true rfl)⟩) ⟨fbW, va_recv hKc hPc (ci := 6) (q0 := 0) rfl rfl, pW_in hPc hKc hDc⟩ rfl rfl hl.1 rfl (lv_room (Nat.le_of_ble_eq_true rfl)) dX8_lane_48 ⟨(Nat.le_of_ble_eq_true rfl), (Nat.le_of_ble_eq_true rfl)⟩) hS (fun q _ h => hFc q h) hFc (fun u t H12 locs ht hvm hw hB hz1 hk1 hS => ?_)
  obtain ⟨zf14, zf15, zf16, zf17, zf18, hP1, hD1⟩ := hB
  rw [ht] at hP1
  obtain ⟨hP, hD⟩ := va_join (wr := [(r 0, .inr (7, [.ref (r 1), .int 0, .ref (r 2), .ref (r 7), .ref (r 57), .ref (r 30), .ref (r 56), .ref (r 36), .ref (r 37), .ref (r 38), .int 0, .ref (r 51), .int 0, .ref (r 52), .ref (r 53), .ref (r 54)])), (r 37, .inl ((c 37), 3, .inl (fun _ => 0))), (r 38, .inr (2, [.int 0, .ref (r 39), .ref (r 40), .ref (r 41), .ref (r 42), .ref (r 43), .ref (r 44), .int 0, .ref (r 45), .ref (r 46), .ref (r 47), .ref (r 48), .ref (r 49), .ref (r 50)])), (r 56, .inr (0, [.ref (r 58), .int 0, .int 0])), (r 58, .inl ((c 58), 1066, .inl f58)), (r 1, .inl ((c 1), 1600, .inl (fun _ => 0))), (r 3, .inr (5, [.ref (r 4), .ref (r 5), .ref (r 6), .int 1, .int 0])), (r 4, .inl ((c 4), 1601, .inl zf3)), (r 5, .inl ((c 5), 1601, .inl zf4)), (r 16, .inr (1, [.ref (r 17), .int 7, .ref (r 14)])), (r 17, .inl ((c 17), 300, .inl zf5)), (r 2, .inr (4, [.int 0, .int (-1), .ref (r 3), .ref (r 55), .int 0, .int 1, .ref (r 18), .ref (r 19), .int 0, .int 0, .int 0, .int 0]))]) (w1 := [(r 57, .inr (6, [.ref (r 59), .ref (r 60), .ref (r 61), .ref (r 62), .ref (r 63), .int 0, .int 0])), (r 7, .inr (3, [.int 1, .int 0, .int 0, .int 0, .ref (r 8), .ref (r 9), .ref (r 10), .int 0, .ref (r 11), .ref (r 12), .ref (r 13), .int 0, .ref (r 16), .ref (r 15)])), (r 59, .inl ((c 59), 5, .inl zf14)), (r 60, .inl ((c 60), 5, .inl zf15)), (r 61, .inl ((c 61), 5, .inl zf16)), (r 62, .inl ((c 62), 5, .inl zf17)), (r 63, .inl ((c 63), 4, .inl zf18))]) hP hD [4, 13, 6, 7, 8, 9, 10] [0, 1, 2, 3, 5, 11, 12, 14, 15, 16, 17, 18] rfl rfl (by decide) (by decide) hk1 hFc hP1 hD1
  have hP : va_P (dC, dI) vwCl [(r 0, .inr (7, [.ref (r 1), .int 0, .ref (r 2), .ref (r 7), .ref (r 57), .ref (r 30), .ref (r 56), .ref (r 36), .ref (r 37), .ref (r 38), .int 0, .ref (r 51), .int 0, .ref (r 52), .ref (r 53), .ref (r 54)])), (r 37, .inl ((c 37), 3, .inl (fun _ => 0))), (r 38, .inr (2, [.int 0, .ref (r 39), .ref (r 40), .ref (r 41), .ref (r 42), .ref (r 43), .ref (r 44), .int 0, .ref (r 45), .ref (r 46), .ref (r 47), .ref (r 48), .ref (r 49), .ref (r 50)])), (r 56, .inr (0, [.ref (r 58), .int 0, .int 0])), (r 58, .inl ((c 58), 1066, .inl f58)), (r 1, .inl ((c 1), 1600, .inl (fun _ => 0))), (r 3, .inr (5, [.ref (r 4), .ref (r 5), .ref (r 6), .int 1, .int 0])), (r 4, .inl ((c 4), 1601, .inl zf3)), (r 5, .inl ((c 5), 1601, .inl zf4)), (r 16, .inr (1, [.ref (r 17), .int 7, .ref (r 14)])), (r 17, .inl ((c 17), 300, .inl zf5)), (r 2, .inr (4, [.int 0, .int (-1), .ref (r 3), .ref (r 55), .int 0, .int 1, .ref (r 18), .ref (r 19), .int 0, .int 0, .int 0, .int 0])), (r 57, .inr (6, [.ref (r 59), .ref (r 60), .ref (r 61), .ref (r 62), .ref (r 63), .int 0, .int 0])), (r 7, .inr (3, [.int 1, .int 0, .int 0, .int 0, .ref (r 8), .ref (r 9), .ref (r 10), .int 0, .ref (r 11), .ref (r 12), .ref (r 13), .int 0, .ref (r 16), .ref (r 15)])), (r 59, .inl ((c 59), 5, .inl zf14)), (r 60, .inl ((c 60), 5, .inl zf15)), (r 61, .inl ((c 61), 5, .inl zf16)), (r 62, .inl ((c 62), 5, .inl zf17)), (r 63, .inl ((c 63), 4, .inl zf18))] H12 := hP
  have hD : va_D A [(r 0, .inr (7, [.ref (r 1), .int 0, .ref (r 2), .ref (r 7), .ref (r 57), .ref (r 30), .ref (r 56), .ref (r 36), .ref (r 37), .ref (r 38), .int 0, .ref (r 51), .int 0, .ref (r 52), .ref (r 53), .ref (r 54)])), (r 37, .inl ((c 37), 3, .inl (fun _ => 0))), (r 38, .inr (2, [.int 0, .ref (r 39), .ref (r 40), .ref (r 41), .ref (r 42), .ref (r 43), .ref (r 44), .int 0, .ref (r 45), .ref (r 46), .ref (r 47), .ref (r 48), .ref (r 49), .ref (r 50)])), (r 56, .inr (0, [.ref (r 58), .int 0, .int 0])), (r 58, .inl ((c 58), 1066, .inl f58)), (r 1, .inl ((c 1), 1600, .inl (fun _ => 0))), (r 3, .inr (5, [.ref (r 4), .ref (r 5), .ref (r 6), .int 1, .int 0])), (r 4, .inl ((c 4), 1601, .inl zf3)), (r 5, .inl ((c 5), 1601, .inl zf4)), (r 16, .inr (1, [.ref (r 17), .int 7, .ref (r 14)])), (r 17, .inl ((c 17), 300, .inl zf5)), (r 2, .inr (4, [.int 0, .int (-1), .ref (r 3), .ref (r 55), .int 0, .int 1, .ref (r 18), .ref (r 19), .int 0, .int 0, .int 0, .int 0])), (r 57, .inr (6, [.ref (r 59), .ref (r 60), .ref (r 61), .ref (r 62), .ref (r 63), .int 0, .int 0])), (r 7, .inr (3, [.int 1, .int 0, .int 0, .int 0, .ref (r 8), .ref (r 9), .ref (r 10), .int 0, .ref (r 11), .ref (r 12), .ref (r 13), .int 0, .ref (r 16), .ref (r 15)])), (r 59, .inl ((c 59), 5, .inl zf14)), (r 60, .inl ((c 60), 5, .inl zf15)), (r 61, .inl ((c 61), 5, .inl zf16)), (r 62, .inl ((c 62), 5, .inl zf17)), (r 63, .inl ((c 63), 4, .inl zf18))] := hD
  refine lv_aload_n hx hb dX8_lane_51 rfl (lv_at hl 0 rfl) ?_
  refine va_get (D := (dC, dI)) (ci := 7) (v := .ref (r 56)) (C := RX8) (T := TX8) (N := 16) hx hb hG inX8 hown hK hP 0 rfl rfl 6 (by decide) (hG _ gw474) (fun _ h9 => h9) rfl dX8_lane_52 ?_
  refine lv_aload_n hx hb dX8_lane_55 rfl (lv_at hl 0 rfl) ?_
  refine va_get (D := (dC, dI)) (ci := 7) (v := .ref (r 57)) (C := RX8) (T := TX8) (N := 16) hx hb hG inX8 hown hK hP 0 rfl rfl 4 (by decide) (hG _ gw472) (fun _ h9 => h9) rfl dX8_lane_56 ?_
  have hPc := hP.sub (ws' := [(r 56, .inr (0, [.ref (r 58), .int 0, .int 0])), (r 57, .inr (6, [.ref (r 59), .ref (r 60), .ref (r 61), .ref (r 62), .ref (r 63), .int 0, .int 0])), (r 58, .inl ((c 58), 1066, .inl f58)), (r 59, .inl ((c 59), 5, .inl zf14)), (r 60, .inl ((c 60), 5, .inl zf15)), (r 61, .inl ((c 61), 5, .inl zf16)), (r 62, .inl ((c 62), 5, .inl zf17)), (r 63, .inl ((c 63), 4, .inl zf18))]) [3, 12, 4, 14, 15, 16, 17, 18] rfl
  have hKc := hK.sub (tys' := [((c 58), .int), ((c 59), .int), ((c 60), .int), ((c 61), .int), ((c 62), .int), ((c 63), .int)]) [5, 6, 7, 8, 9, 10] rfl
  have hDc := hD.sub (ws' := [(r 56, .inr (0, [.ref (r 58), .int 0, .int 0])), (r 57, .inr (6, [.ref (r 59), .ref (r 60), .ref (r 61), .ref (r 62), .ref (r 63), .int 0, .int 0])), (r 58, .inl ((c 58), 1066, .inl f58)), (r 59, .inl ((c 59), 5, .inl zf14)), (r 60, .inl ((c 60), 5, .inl zf15)), (r 61, .inl ((c 61), 5, .inl zf16)), (r 62, .inl ((c 62), 5, .inl zf17)), (r 63, .inl ((c 63), 4, .inl zf18))]) [3, 12, 4, 14, 15, 16, 17, 18] (by decide) rfl
  have hFc := va_free (wc := [(r 56, .inr (0, [.ref (r 58), .int 0, .int 0])), (r 57, .inr (6, [.ref (r 59), .ref (r 60), .ref (r 61), .ref (r 62), .ref (r 63), .int 0, .int 0])), (r 58, .inl ((c 58), 1066, .inl f58)), (r 59, .inl ((c 59), 5, .inl zf14)), (r 60, .inl ((c 60), 5, .inl zf15)), (r 61, .inl ((c 61), 5, .inl zf16)), (r 62, .inl ((c 62), 5, .inl zf17)), (r 63, .inl ((c 63), 4, .inl zf18))]) hD hS hA [3, 12, 4, 14, 15, 16, 17, 18] rfl
  refine va_callv (va_runV (As := [.ref (r 57)]) (rest := []) ⟨hx, hb, hml, hown, hG⟩ (kX0_begin_v1 l dC dI (r 56) (r 58) (r 57) (r 59) (r 60) (r 61) (r 62) (r 63) (c 58) (c 59) (c 60) (c 61) (c 62) (c 63) f58 zf14 zf15 zf16 zf17 zf18 H12.size ) (cwV 1 hG (goodV gw457 gw458 gw459 gw135 gw460) rfl rfl rfl hd_X0_begin ⟨(Nat.le_of_ble_eq_true rfl), (Nat.le_of_ble_eq_true rfl)⟩) ⟨fbW, va_recv hKc hPc (ci := 0) (q0 := 0) rfl rfl, pW_in hPc hKc hDc⟩ rfl rfl hl.1 rfl (lv_room (Nat.le_of_ble_eq_true rfl)) dX8_lane_59 ⟨(Nat.le_of_ble_eq_true rfl), (Nat.le_of_ble_eq_true rfl)⟩) hS (fun q _ h => hFc q h) hFc (fun u t H19 locs ht hvm hw hB hz1 hk1 hS => ?_)
  obtain ⟨zf21, hP1, hD1⟩ := hB
  rw [ht] at hP1
  obtain ⟨hP, hD⟩ := va_join (wr := [(r 0, .inr (7, [.ref (r 1), .int 0, .ref (r 2), .ref (r 7), .ref (r 57), .ref (r 30), .ref (r 56), .ref (r 36), .ref (r 37), .ref (r 38), .int 0, .ref (r 51), .int 0, .ref (r 52), .ref (r 53), .ref (r 54)])), (r 37, .inl ((c 37), 3, .inl (fun _ => 0))), (r 38, .inr (2, [.int 0, .ref (r 39), .ref (r 40), .ref (r 41), .ref (r 42), .ref (r 43), .ref (r 44), .int 0, .ref (r 45), .ref (r 46), .ref (r 47), .ref (r 48), .ref (r 49), .ref (r 50)])), (r 1, .inl ((c 1), 1600, .inl (fun _ => 0))), (r 3, .inr (5, [.ref (r 4), .ref (r 5), .ref (r 6), .int 1, .int 0])), (r 4, .inl ((c 4), 1601, .inl zf3)), (r 5, .inl ((c 5), 1601, .inl zf4)), (r 16, .inr (1, [.ref (r 17), .int 7, .ref (r 14)])), (r 17, .inl ((c 17), 300, .inl zf5)), (r 2, .inr (4, [.int 0, .int (-1), .ref (r 3), .ref (r 55), .int 0, .int 1, .ref (r 18), .ref (r 19), .int 0, .int 0, .int 0, .int 0])), (r 7, .inr (3, [.int 1, .int 0, .int 0, .int 0, .ref (r 8), .ref (r 9), .ref (r 10), .int 0, .ref (r 11), .ref (r 12), .ref (r 13), .int 0, .ref (r 16), .ref (r 15)]))]) (w1 := [(r 56, .inr (0, [.ref (r 58), .int 0, .int 0])), (r 57, .inr (6, [.ref (r 59), .ref (r 60), .ref (r 61), .ref (r 62), .ref (r 63), .int 0, .int 0])), (r 58, .inl ((c 58), 1066, .inl zf21)), (r 59, .inl ((c 59), 5, .inl zf14)), (r 60, .inl ((c 60), 5, .inl zf15)), (r 61, .inl ((c 61), 5, .inl zf16)), (r 62, .inl ((c 62), 5, .inl zf17)), (r 63, .inl ((c 63), 4, .inl zf18))]) hP hD [3, 12, 4, 14, 15, 16, 17, 18] [0, 1, 2, 5, 6, 7, 8, 9, 10, 11, 13] rfl rfl (by decide) (by decide) hk1 hFc hP1 hD1
  have hP : va_P (dC, dI) vwCl [(r 0, .inr (7, [.ref (r 1), .int 0, .ref (r 2), .ref (r 7), .ref (r 57), .ref (r 30), .ref (r 56), .ref (r 36), .ref (r 37), .ref (r 38), .int 0, .ref (r 51), .int 0, .ref (r 52), .ref (r 53), .ref (r 54)])), (r 37, .inl ((c 37), 3, .inl (fun _ => 0))), (r 38, .inr (2, [.int 0, .ref (r 39), .ref (r 40), .ref (r 41), .ref (r 42), .ref (r 43), .ref (r 44), .int 0, .ref (r 45), .ref (r 46), .ref (r 47), .ref (r 48), .ref (r 49), .ref (r 50)])), (r 1, .inl ((c 1), 1600, .inl (fun _ => 0))), (r 3, .inr (5, [.ref (r 4), .ref (r 5), .ref (r 6), .int 1, .int 0])), (r 4, .inl ((c 4), 1601, .inl zf3)), (r 5, .inl ((c 5), 1601, .inl zf4)), (r 16, .inr (1, [.ref (r 17), .int 7, .ref (r 14)])), (r 17, .inl ((c 17), 300, .inl zf5)), (r 2, .inr (4, [.int 0, .int (-1), .ref (r 3), .ref (r 55), .int 0, .int 1, .ref (r 18), .ref (r 19), .int 0, .int 0, .int 0, .int 0])), (r 7, .inr (3, [.int 1, .int 0, .int 0, .int 0, .ref (r 8), .ref (r 9), .ref (r 10), .int 0, .ref (r 11), .ref (r 12), .ref (r 13), .int 0, .ref (r 16), .ref (r 15)])), (r 56, .inr (0, [.ref (r 58), .int 0, .int 0])), (r 57, .inr (6, [.ref (r 59), .ref (r 60), .ref (r 61), .ref (r 62), .ref (r 63), .int 0, .int 0])), (r 58, .inl ((c 58), 1066, .inl zf21)), (r 59, .inl ((c 59), 5, .inl zf14)), (r 60, .inl ((c 60), 5, .inl zf15)), (r 61, .inl ((c 61), 5, .inl zf16)), (r 62, .inl ((c 62), 5, .inl zf17)), (r 63, .inl ((c 63), 4, .inl zf18))] H19 := hP
  have hD : va_D A [(r 0, .inr (7, [.ref (r 1), .int 0, .ref (r 2), .ref (r 7), .ref (r 57), .ref (r 30), .ref (r 56), .ref (r 36), .ref (r 37), .ref (r 38), .int 0, .ref (r 51), .int 0, .ref (r 52), .ref (r 53), .ref (r 54)])), (r 37, .inl ((c 37), 3, .inl (fun _ => 0))), (r 38, .inr (2, [.int 0, .ref (r 39), .ref (r 40), .ref (r 41), .ref (r 42), .ref (r 43), .ref (r 44), .int 0, .ref (r 45), .ref (r 46), .ref (r 47), .ref (r 48), .ref (r 49), .ref (r 50)])), (r 1, .inl ((c 1), 1600, .inl (fun _ => 0))), (r 3, .inr (5, [.ref (r 4), .ref (r 5), .ref (r 6), .int 1, .int 0])), (r 4, .inl ((c 4), 1601, .inl zf3)), (r 5, .inl ((c 5), 1601, .inl zf4)), (r 16, .inr (1, [.ref (r 17), .int 7, .ref (r 14)])), (r 17, .inl ((c 17), 300, .inl zf5)), (r 2, .inr (4, [.int 0, .int (-1), .ref (r 3), .ref (r 55), .int 0, .int 1, .ref (r 18), .ref (r 19), .int 0, .int 0, .int 0, .int 0])), (r 7, .inr (3, [.int 1, .int 0, .int 0, .int 0, .ref (r 8), .ref (r 9), .ref (r 10), .int 0, .ref (r 11), .ref (r 12), .ref (r 13), .int 0, .ref (r 16), .ref (r 15)])), (r 56, .inr (0, [.ref (r 58), .int 0, .int 0])), (r 57, .inr (6, [.ref (r 59), .ref (r 60), .ref (r 61), .ref (r 62), .ref (r 63), .int 0, .int 0])), (r 58, .inl ((c 58), 1066, .inl zf21)), (r 59, .inl ((c 59), 5, .inl zf14)), (r 60, .inl ((c 60), 5, .inl zf15)), (r 61, .inl ((c 61), 5, .inl zf16)), (r 62, .inl ((c 62), 5, .inl zf17)), (r 63, .inl ((c 63), 4, .inl zf18))] := hD
  refine lv_aload_n hx hb dX8_lane_62 rfl (lv_at hl 0 rfl) ?_
  refine va_get (D := (dC, dI)) (ci := 7) (v := .ref (r 38)) (C := RX8) (T := TX8) (N := 16) hx hb hG inX8 hown hK hP 0 rfl rfl 9 (by decide) (hG _ gw477) (fun _ h9 => h9) rfl dX8_lane_63 ?_
  have hPc := hP.sub (ws' := [(r 38, .inr (2, [.int 0, .ref (r 39), .ref (r 40), .ref (r 41), .ref (r 42), .ref (r 43), .ref (r 44), .int 0, .ref (r 45), .ref (r 46), .ref (r 47), .ref (r 48), .ref (r 49), .ref (r 50)]))]) [2] rfl
  have hKc := hK.sub (tys' := []) [] rfl
  have hDc := hD.sub (ws' := [(r 38, .inr (2, [.int 0, .ref (r 39), .ref (r 40), .ref (r 41), .ref (r 42), .ref (r 43), .ref (r 44), .int 0, .ref (r 45), .ref (r 46), .ref (r 47), .ref (r 48), .ref (r 49), .ref (r 50)]))]) [2] (by decide) rfl
  have hFc := va_free (wc := [(r 38, .inr (2, [.int 0, .ref (r 39), .ref (r 40), .ref (r 41), .ref (r 42), .ref (r 43), .ref (r 44), .int 0, .ref (r 45), .ref (r 46), .ref (r 47), .ref (r 48), .ref (r 49), .ref (r 50)]))]) hD hS hA [2] rfl
  refine va_callv (va_runV (As := []) (rest := []) ⟨hx, hb, hml, hown, hG⟩ (kX3_begin l dC dI (r 38) (r 39) (r 40) (r 41) (r 42) (r 43) (r 44) (r 45) (r 46) (r 47) (r 48) (r 49) (r 50) H19.size ) (cwV 0 hG (goodV gw683 gw684 gw685 gw136 gw686) rfl rfl rfl hd_X3_begin ⟨(Nat.le_of_ble_eq_true rfl), (Nat.le_of_ble_eq_true rfl)⟩) ⟨fbW, va_recv hKc hPc (ci := 2) (q0 := 0) rfl rfl, pW_in hPc hKc hDc⟩ rfl rfl hl.1 rfl (lv_room (Nat.le_of_ble_eq_true rfl)) dX8_lane_66 ⟨(Nat.le_of_ble_eq_true rfl), (Nat.le_of_ble_eq_true rfl)⟩) hS (fun q _ h => hFc q h) hFc (fun u t H22 locs ht hvm hw hB hz1 hk1 hS => ?_)
  obtain ⟨hP1, hD1⟩ := hB
  rw [ht] at hP1
  obtain ⟨hP, hD⟩ := va_join (wr := [(r 0, .inr (7, [.ref (r 1), .int 0, .ref (r 2), .ref (r 7), .ref (r 57), .ref (r 30), .ref (r 56), .ref (r 36), .ref (r 37), .ref (r 38), .int 0, .ref (r 51), .int 0, .ref (r 52), .ref (r 53), .ref (r 54)])), (r 37, .inl ((c 37), 3, .inl (fun _ => 0))), (r 1, .inl ((c 1), 1600, .inl (fun _ => 0))), (r 3, .inr (5, [.ref (r 4), .ref (r 5), .ref (r 6), .int 1, .int 0])), (r 4, .inl ((c 4), 1601, .inl zf3)), (r 5, .inl ((c 5), 1601, .inl zf4)), (r 16, .inr (1, [.ref (r 17), .int 7, .ref (r 14)])), (r 17, .inl ((c 17), 300, .inl zf5)), (r 2, .inr (4, [.int 0, .int (-1), .ref (r 3), .ref (r 55), .int 0, .int 1, .ref (r 18), .ref (r 19), .int 0, .int 0, .int 0, .int 0])), (r 7, .inr (3, [.int 1, .int 0, .int 0, .int 0, .ref (r 8), .ref (r 9), .ref (r 10), .int 0, .ref (r 11), .ref (r 12), .ref (r 13), .int 0, .ref (r 16), .ref (r 15)])), (r 56, .inr (0, [.ref (r 58), .int 0, .int 0])), (r 57, .inr (6, [.ref (r 59), .ref (r 60), .ref (r 61), .ref (r 62), .ref (r 63), .int 0, .int 0])), (r 58, .inl ((c 58), 1066, .inl zf21)), (r 59, .inl ((c 59), 5, .inl zf14)), (r 60, .inl ((c 60), 5, .inl zf15)), (r 61, .inl ((c 61), 5, .inl zf16)), (r 62, .inl ((c 62), 5, .inl zf17)), (r 63, .inl ((c 63), 4, .inl zf18))]) (w1 := [(r 38, .inr (2, [.int 0, .ref (r 39), .ref (r 40), .ref (r 41), .ref (r 42), .ref (r 43), .ref (r 44), .int 0, .ref (r 45), .ref (r 46), .ref (r 47), .ref (r 48), .ref (r 49), .ref (r 50)]))]) hP hD [2] [0, 1, 3, 4, 5, 6, 7, 8, 9, 10, 11, 12, 13, 14, 15, 16, 17, 18] rfl rfl (by decide) (by decide) hk1 hFc hP1 hD1
  have hP : va_P (dC, dI) vwCl [(r 0, .inr (7, [.ref (r 1), .int 0, .ref (r 2), .ref (r 7), .ref (r 57), .ref (r 30), .ref (r 56), .ref (r 36), .ref (r 37), .ref (r 38), .int 0, .ref (r 51), .int 0, .ref (r 52), .ref (r 53), .ref (r 54)])), (r 37, .inl ((c 37), 3, .inl (fun _ => 0))), (r 1, .inl ((c 1), 1600, .inl (fun _ => 0))), (r 3, .inr (5, [.ref (r 4), .ref (r 5), .ref (r 6), .int 1, .int 0])), (r 4, .inl ((c 4), 1601, .inl zf3)), (r 5, .inl ((c 5), 1601, .inl zf4)), (r 16, .inr (1, [.ref (r 17), .int 7, .ref (r 14)])), (r 17, .inl ((c 17), 300, .inl zf5)), (r 2, .inr (4, [.int 0, .int (-1), .ref (r 3), .ref (r 55), .int 0, .int 1, .ref (r 18), .ref (r 19), .int 0, .int 0, .int 0, .int 0])), (r 7, .inr (3, [.int 1, .int 0, .int 0, .int 0, .ref (r 8), .ref (r 9), .ref (r 10), .int 0, .ref (r 11), .ref (r 12), .ref (r 13), .int 0, .ref (r 16), .ref (r 15)])), (r 56, .inr (0, [.ref (r 58), .int 0, .int 0])), (r 57, .inr (6, [.ref (r 59), .ref (r 60), .ref (r 61), .ref (r 62), .ref (r 63), .int 0, .int 0])), (r 58, .inl ((c 58), 1066, .inl zf21)), (r 59, .inl ((c 59), 5, .inl zf14)), (r 60, .inl ((c 60), 5, .inl zf15)), (r 61, .inl ((c 61), 5, .inl zf16)), (r 62, .inl ((c 62), 5, .inl zf17)), (r 63, .inl ((c 63), 4, .inl zf18)), (r 38, .inr (2, [.int 0, .ref (r 39), .ref (r 40), .ref (r 41), .ref (r 42), .ref (r 43), .ref (r 44), .int 0, .ref (r 45), .ref (r 46), .ref (r 47), .ref (r 48), .ref (r 49), .ref (r 50)]))] H22 := hP
  have hD : va_D A [(r 0, .inr (7, [.ref (r 1), .int 0, .ref (r 2), .ref (r 7), .ref (r 57), .ref (r 30), .ref (r 56), .ref (r 36), .ref (r 37), .ref (r 38), .int 0, .ref (r 51), .int 0, .ref (r 52), .ref (r 53), .ref (r 54)])), (r 37, .inl ((c 37), 3, .inl (fun _ => 0))), (r 1, .inl ((c 1), 1600, .inl (fun _ => 0))), (r 3, .inr (5, [.ref (r 4), .ref (r 5), .ref (r 6), .int 1, .int 0])), (r 4, .inl ((c 4), 1601, .inl zf3)), (r 5, .inl ((c 5), 1601, .inl zf4)), (r 16, .inr (1, [.ref (r 17), .int 7, .ref (r 14)])), (r 17, .inl ((c 17), 300, .inl zf5)), (r 2, .inr (4, [.int 0, .int (-1), .ref (r 3), .ref (r 55), .int 0, .int 1, .ref (r 18), .ref (r 19), .int 0, .int 0, .int 0, .int 0])), (r 7, .inr (3, [.int 1, .int 0, .int 0, .int 0, .ref (r 8), .ref (r 9), .ref (r 10), .int 0, .ref (r 11), .ref (r 12), .ref (r 13), .int 0, .ref (r 16), .ref (r 15)])), (r 56, .inr (0, [.ref (r 58), .int 0, .int 0])), (r 57, .inr (6, [.ref (r 59), .ref (r 60), .ref (r 61), .ref (r 62), .ref (r 63), .int 0, .int 0])), (r 58, .inl ((c 58), 1066, .inl zf21)), (r 59, .inl ((c 59), 5, .inl zf14)), (r 60, .inl ((c 60), 5, .inl zf15)), (r 61, .inl ((c 61), 5, .inl zf16)), (r 62, .inl ((c 62), 5, .inl zf17)), (r 63, .inl ((c 63), 4, .inl zf18)), (r 38, .inr (2, [.int 0, .ref (r 39), .ref (r 40), .ref (r 41), .ref (r 42), .ref (r 43), .ref (r 44), .int 0, .ref (r 45), .ref (r 46), .ref (r 47), .ref (r 48), .ref (r 49), .ref (r 50)]))] := hD
  refine lv_aload_n hx hb dX8_lane_69 rfl (lv_at hl 0 rfl) ?_
  refine lv_iconst (v := 0) hx hb dX8_lane_70 (by decide) ?_
  refine va_put (D := (dC, dI)) (ci := 7) (v := .int 0) (ty := .int) (C := RX8) (T := TX8) (N := 16) hx hb hG inX8 tyX8 tyX8_ok nmX8 hown hK hP hD hS 0 rfl rfl 12 (by decide) (hG _ gw480) (fun _ h9 => h9) rfl (by decide +kernel) rfl rfl (Nat.le_of_ble_eq_true rfl) dX8_lane_71 (fun H24 locs hP hD hS => ?_)
  have hP : va_P (dC, dI) vwCl [(r 0, .inr (7, [.ref (r 1), .int 0, .ref (r 2), .ref (r 7), .ref (r 57), .ref (r 30), .ref (r 56), .ref (r 36), .ref (r 37), .ref (r 38), .int 0, .ref (r 51), .int 0, .ref (r 52), .ref (r 53), .ref (r 54)])), (r 37, .inl ((c 37), 3, .inl (fun _ => 0))), (r 1, .inl ((c 1), 1600, .inl (fun _ => 0))), (r 3, .inr (5, [.ref (r 4), .ref (r 5), .ref (r 6), .int 1, .int 0])), (r 4, .inl ((c 4), 1601, .inl zf3)), (r 5, .inl ((c 5), 1601, .inl zf4)), (r 16, .inr (1, [.ref (r 17), .int 7, .ref (r 14)])), (r 17, .inl ((c 17), 300, .inl zf5)), (r 2, .inr (4, [.int 0, .int (-1), .ref (r 3), .ref (r 55), .int 0, .int 1, .ref (r 18), .ref (r 19), .int 0, .int 0, .int 0, .int 0])), (r 7, .inr (3, [.int 1, .int 0, .int 0, .int 0, .ref (r 8), .ref (r 9), .ref (r 10), .int 0, .ref (r 11), .ref (r 12), .ref (r 13), .int 0, .ref (r 16), .ref (r 15)])), (r 56, .inr (0, [.ref (r 58), .int 0, .int 0])), (r 57, .inr (6, [.ref (r 59), .ref (r 60), .ref (r 61), .ref (r 62), .ref (r 63), .int 0, .int 0])), (r 58, .inl ((c 58), 1066, .inl zf21)), (r 59, .inl ((c 59), 5, .inl zf14)), (r 60, .inl ((c 60), 5, .inl zf15)), (r 61, .inl ((c 61), 5, .inl zf16)), (r 62, .inl ((c 62), 5, .inl zf17)), (r 63, .inl ((c 63), 4, .inl zf18)), (r 38, .inr (2, [.int 0, .ref (r 39), .ref (r 40), .ref (r 41), .ref (r 42), .ref (r 43), .ref (r 44), .int 0, .ref (r 45), .ref (r 46), .ref (r 47), .ref (r 48), .ref (r 49), .ref (r 50)]))] H24 := hP
  have hD : va_D A [(r 0, .inr (7, [.ref (r 1), .int 0, .ref (r 2), .ref (r 7), .ref (r 57), .ref (r 30), .ref (r 56), .ref (r 36), .ref (r 37), .ref (r 38), .int 0, .ref (r 51), .int 0, .ref (r 52), .ref (r 53), .ref (r 54)])), (r 37, .inl ((c 37), 3, .inl (fun _ => 0))), (r 1, .inl ((c 1), 1600, .inl (fun _ => 0))), (r 3, .inr (5, [.ref (r 4), .ref (r 5), .ref (r 6), .int 1, .int 0])), (r 4, .inl ((c 4), 1601, .inl zf3)), (r 5, .inl ((c 5), 1601, .inl zf4)), (r 16, .inr (1, [.ref (r 17), .int 7, .ref (r 14)])), (r 17, .inl ((c 17), 300, .inl zf5)), (r 2, .inr (4, [.int 0, .int (-1), .ref (r 3), .ref (r 55), .int 0, .int 1, .ref (r 18), .ref (r 19), .int 0, .int 0, .int 0, .int 0])), (r 7, .inr (3, [.int 1, .int 0, .int 0, .int 0, .ref (r 8), .ref (r 9), .ref (r 10), .int 0, .ref (r 11), .ref (r 12), .ref (r 13), .int 0, .ref (r 16), .ref (r 15)])), (r 56, .inr (0, [.ref (r 58), .int 0, .int 0])), (r 57, .inr (6, [.ref (r 59), .ref (r 60), .ref (r 61), .ref (r 62), .ref (r 63), .int 0, .int 0])), (r 58, .inl ((c 58), 1066, .inl zf21)), (r 59, .inl ((c 59), 5, .inl zf14)), (r 60, .inl ((c 60), 5, .inl zf15)), (r 61, .inl ((c 61), 5, .inl zf16)), (r 62, .inl ((c 62), 5, .inl zf17)), (r 63, .inl ((c 63), 4, .inl zf18)), (r 38, .inr (2, [.int 0, .ref (r 39), .ref (r 40), .ref (r 41), .ref (r 42), .ref (r 43), .ref (r 44), .int 0, .ref (r 45), .ref (r 46), .ref (r 47), .ref (r 48), .ref (r 49), .ref (r 50)]))] := hD
  refine lv_iconst (v := 0) hx hb dX8_lane_74 (by decide) ?_
  refine lv_istore_n (lv' := [(1, .int 0), (0, .ref (r 0))]) hx hb dX8_lane_75 rfl hl (by decide) rfl (fun ls hl => ?_)
  refine lv_iload_n hx hb dX8_lane_76 rfl (lv_at hl 0 rfl) ?_
  refine lv_iconst (v := 3) hx hb dX8_lane_77 (by decide) ?_
  refine lv_icmp_ge (tgt := 94) hx hb dX8_lane_78 (by decide) (fun c_25 => absurd c_25 (by decide)) (fun c_25 => ?_)
  refine lv_aload_n hx hb dX8_lane_81 rfl (lv_at hl 1 rfl) ?_
  refine va_get (D := (dC, dI)) (ci := 7) (v := .ref (r 37)) (C := RX8) (T := TX8) (N := 16) hx hb hG inX8 hown hK hP 0 rfl rfl 8 (by decide) (hG _ gw476) (fun _ h9 => h9) rfl dX8_lane_82 ?_
  refine lv_iload_n hx hb dX8_lane_85 rfl (lv_at hl 0 rfl) ?_
  refine lv_iconst (v := 0) hx hb dX8_lane_86 (by decide) ?_
  refine va_zast hx hb hK hP hD hS 1 4 rfl rfl (vin (by decide)) dX8_lane_87 (fun H26 locs hP hD hS => ?_)
  obtain ⟨zf27, ezf27⟩ : ∃ z : Nat → Int32, z = upd (fun _ => 0) (0 : Int32).toNatClampNeg (vp_nar .boolean 0) := ⟨_, rfl⟩
  have hP : va_P (dC, dI) vwCl [(r 0, .inr (7, [.ref (r 1), .int 0, .ref (r 2), .ref (r 7), .ref (r 57), .ref (r 30), .ref (r 56), .ref (r 36), .ref (r 37), .ref (r 38), .int 0, .ref (r 51), .int 0, .ref (r 52), .ref (r 53), .ref (r 54)])), (r 37, .inl ((c 37), 3, .inl zf27)), (r 1, .inl ((c 1), 1600, .inl (fun _ => 0))), (r 3, .inr (5, [.ref (r 4), .ref (r 5), .ref (r 6), .int 1, .int 0])), (r 4, .inl ((c 4), 1601, .inl zf3)), (r 5, .inl ((c 5), 1601, .inl zf4)), (r 16, .inr (1, [.ref (r 17), .int 7, .ref (r 14)])), (r 17, .inl ((c 17), 300, .inl zf5)), (r 2, .inr (4, [.int 0, .int (-1), .ref (r 3), .ref (r 55), .int 0, .int 1, .ref (r 18), .ref (r 19), .int 0, .int 0, .int 0, .int 0])), (r 7, .inr (3, [.int 1, .int 0, .int 0, .int 0, .ref (r 8), .ref (r 9), .ref (r 10), .int 0, .ref (r 11), .ref (r 12), .ref (r 13), .int 0, .ref (r 16), .ref (r 15)])), (r 56, .inr (0, [.ref (r 58), .int 0, .int 0])), (r 57, .inr (6, [.ref (r 59), .ref (r 60), .ref (r 61), .ref (r 62), .ref (r 63), .int 0, .int 0])), (r 58, .inl ((c 58), 1066, .inl zf21)), (r 59, .inl ((c 59), 5, .inl zf14)), (r 60, .inl ((c 60), 5, .inl zf15)), (r 61, .inl ((c 61), 5, .inl zf16)), (r 62, .inl ((c 62), 5, .inl zf17)), (r 63, .inl ((c 63), 4, .inl zf18)), (r 38, .inr (2, [.int 0, .ref (r 39), .ref (r 40), .ref (r 41), .ref (r 42), .ref (r 43), .ref (r 44), .int 0, .ref (r 45), .ref (r 46), .ref (r 47), .ref (r 48), .ref (r 49), .ref (r 50)]))] H26 := by rw [ezf27]; exact hP
  have hD : va_D A [(r 0, .inr (7, [.ref (r 1), .int 0, .ref (r 2), .ref (r 7), .ref (r 57), .ref (r 30), .ref (r 56), .ref (r 36), .ref (r 37), .ref (r 38), .int 0, .ref (r 51), .int 0, .ref (r 52), .ref (r 53), .ref (r 54)])), (r 37, .inl ((c 37), 3, .inl zf27)), (r 1, .inl ((c 1), 1600, .inl (fun _ => 0))), (r 3, .inr (5, [.ref (r 4), .ref (r 5), .ref (r 6), .int 1, .int 0])), (r 4, .inl ((c 4), 1601, .inl zf3)), (r 5, .inl ((c 5), 1601, .inl zf4)), (r 16, .inr (1, [.ref (r 17), .int 7, .ref (r 14)])), (r 17, .inl ((c 17), 300, .inl zf5)), (r 2, .inr (4, [.int 0, .int (-1), .ref (r 3), .ref (r 55), .int 0, .int 1, .ref (r 18), .ref (r 19), .int 0, .int 0, .int 0, .int 0])), (r 7, .inr (3, [.int 1, .int 0, .int 0, .int 0, .ref (r 8), .ref (r 9), .ref (r 10), .int 0, .ref (r 11), .ref (r 12), .ref (r 13), .int 0, .ref (r 16), .ref (r 15)])), (r 56, .inr (0, [.ref (r 58), .int 0, .int 0])), (r 57, .inr (6, [.ref (r 59), .ref (r 60), .ref (r 61), .ref (r 62), .ref (r 63), .int 0, .int 0])), (r 58, .inl ((c 58), 1066, .inl zf21)), (r 59, .inl ((c 59), 5, .inl zf14)), (r 60, .inl ((c 60), 5, .inl zf15)), (r 61, .inl ((c 61), 5, .inl zf16)), (r 62, .inl ((c 62), 5, .inl zf17)), (r 63, .inl ((c 63), 4, .inl zf18)), (r 38, .inr (2, [.int 0, .ref (r 39), .ref (r 40), .ref (r 41), .ref (r 42), .ref (r 43), .ref (r 44), .int 0, .ref (r 45), .ref (r 46), .ref (r 47), .ref (r 48), .ref (r 49), .ref (r 50)]))] := by rw [ezf27]; exact hD
  refine lv_iinc (v := 1) (lv' := [(1, .int 1), (0, .ref (r 0))]) hx hb dX8_lane_88 hl (k := 0) rfl (by decide) (by decide) rfl (fun ls hl => ?_)
  refine lv_goto (tgt := 76) hx hb dX8_lane_91 (by decide) ?_
  refine lv_iload_n hx hb dX8_lane_76 rfl (lv_at hl 0 rfl) ?_
  refine lv_iconst (v := 3) hx hb dX8_lane_77 (by decide) ?_
  refine lv_icmp_ge (tgt := 94) hx hb dX8_lane_78 (by decide) (fun c_28 => absurd c_28 (by decide)) (fun c_28 => ?_)
  refine lv_aload_n hx hb dX8_lane_81 rfl (lv_at hl 1 rfl) ?_
  refine va_get (D := (dC, dI)) (ci := 7) (v := .ref (r 37)) (C := RX8) (T := TX8) (N := 16) hx hb hG inX8 hown hK hP 0 rfl rfl 8 (by decide) (hG _ gw476) (fun _ h9 => h9) rfl dX8_lane_82 ?_
  refine lv_iload_n hx hb dX8_lane_85 rfl (lv_at hl 0 rfl) ?_
  refine lv_iconst (v := 0) hx hb dX8_lane_86 (by decide) ?_
  refine va_zast hx hb hK hP hD hS 1 4 rfl rfl (vin (by decide)) dX8_lane_87 (fun H29 locs hP hD hS => ?_)
  obtain ⟨zf30, ezf30⟩ : ∃ z : Nat → Int32, z = upd zf27 (1 : Int32).toNatClampNeg (vp_nar .boolean 0) := ⟨_, rfl⟩
  have hP : va_P (dC, dI) vwCl [(r 0, .inr (7, [.ref (r 1), .int 0, .ref (r 2), .ref (r 7), .ref (r 57), .ref (r 30), .ref (r 56), .ref (r 36), .ref (r 37), .ref (r 38), .int 0, .ref (r 51), .int 0, .ref (r 52), .ref (r 53), .ref (r 54)])), (r 37, .inl ((c 37), 3, .inl zf30)), (r 1, .inl ((c 1), 1600, .inl (fun _ => 0))), (r 3, .inr (5, [.ref (r 4), .ref (r 5), .ref (r 6), .int 1, .int 0])), (r 4, .inl ((c 4), 1601, .inl zf3)), (r 5, .inl ((c 5), 1601, .inl zf4)), (r 16, .inr (1, [.ref (r 17), .int 7, .ref (r 14)])), (r 17, .inl ((c 17), 300, .inl zf5)), (r 2, .inr (4, [.int 0, .int (-1), .ref (r 3), .ref (r 55), .int 0, .int 1, .ref (r 18), .ref (r 19), .int 0, .int 0, .int 0, .int 0])), (r 7, .inr (3, [.int 1, .int 0, .int 0, .int 0, .ref (r 8), .ref (r 9), .ref (r 10), .int 0, .ref (r 11), .ref (r 12), .ref (r 13), .int 0, .ref (r 16), .ref (r 15)])), (r 56, .inr (0, [.ref (r 58), .int 0, .int 0])), (r 57, .inr (6, [.ref (r 59), .ref (r 60), .ref (r 61), .ref (r 62), .ref (r 63), .int 0, .int 0])), (r 58, .inl ((c 58), 1066, .inl zf21)), (r 59, .inl ((c 59), 5, .inl zf14)), (r 60, .inl ((c 60), 5, .inl zf15)), (r 61, .inl ((c 61), 5, .inl zf16)), (r 62, .inl ((c 62), 5, .inl zf17)), (r 63, .inl ((c 63), 4, .inl zf18)), (r 38, .inr (2, [.int 0, .ref (r 39), .ref (r 40), .ref (r 41), .ref (r 42), .ref (r 43), .ref (r 44), .int 0, .ref (r 45), .ref (r 46), .ref (r 47), .ref (r 48), .ref (r 49), .ref (r 50)]))] H29 := by rw [ezf30]; exact hP
  have hD : va_D A [(r 0, .inr (7, [.ref (r 1), .int 0, .ref (r 2), .ref (r 7), .ref (r 57), .ref (r 30), .ref (r 56), .ref (r 36), .ref (r 37), .ref (r 38), .int 0, .ref (r 51), .int 0, .ref (r 52), .ref (r 53), .ref (r 54)])), (r 37, .inl ((c 37), 3, .inl zf30)), (r 1, .inl ((c 1), 1600, .inl (fun _ => 0))), (r 3, .inr (5, [.ref (r 4), .ref (r 5), .ref (r 6), .int 1, .int 0])), (r 4, .inl ((c 4), 1601, .inl zf3)), (r 5, .inl ((c 5), 1601, .inl zf4)), (r 16, .inr (1, [.ref (r 17), .int 7, .ref (r 14)])), (r 17, .inl ((c 17), 300, .inl zf5)), (r 2, .inr (4, [.int 0, .int (-1), .ref (r 3), .ref (r 55), .int 0, .int 1, .ref (r 18), .ref (r 19), .int 0, .int 0, .int 0, .int 0])), (r 7, .inr (3, [.int 1, .int 0, .int 0, .int 0, .ref (r 8), .ref (r 9), .ref (r 10), .int 0, .ref (r 11), .ref (r 12), .ref (r 13), .int 0, .ref (r 16), .ref (r 15)])), (r 56, .inr (0, [.ref (r 58), .int 0, .int 0])), (r 57, .inr (6, [.ref (r 59), .ref (r 60), .ref (r 61), .ref (r 62), .ref (r 63), .int 0, .int 0])), (r 58, .inl ((c 58), 1066, .inl zf21)), (r 59, .inl ((c 59), 5, .inl zf14)), (r 60, .inl ((c 60), 5, .inl zf15)), (r 61, .inl ((c 61), 5, .inl zf16)), (r 62, .inl ((c 62), 5, .inl zf17)), (r 63, .inl ((c 63), 4, .inl zf18)), (r 38, .inr (2, [.int 0, .ref (r 39), .ref (r 40), .ref (r 41), .ref (r 42), .ref (r 43), .ref (r 44), .int 0, .ref (r 45), .ref (r 46), .ref (r 47), .ref (r 48), .ref (r 49), .ref (r 50)]))] := by rw [ezf30]; exact hD
  refine lv_iinc (v := 2) (lv' := [(1, .int 2), (0, .ref (r 0))]) hx hb dX8_lane_88 hl (k := 0) rfl (by decide) (by decide) rfl (fun ls hl => ?_)
  refine lv_goto (tgt := 76) hx hb dX8_lane_91 (by decide) ?_
  refine lv_iload_n hx hb dX8_lane_76 rfl (lv_at hl 0 rfl) ?_
  refine lv_iconst (v := 3) hx hb dX8_lane_77 (by decide) ?_
  refine lv_icmp_ge (tgt := 94) hx hb dX8_lane_78 (by decide) (fun c_31 => absurd c_31 (by decide)) (fun c_31 => ?_)
  refine lv_aload_n hx hb dX8_lane_81 rfl (lv_at hl 1 rfl) ?_
  refine va_get (D := (dC, dI)) (ci := 7) (v := .ref (r 37)) (C := RX8) (T := TX8) (N := 16) hx hb hG inX8 hown hK hP 0 rfl rfl 8 (by decide) (hG _ gw476) (fun _ h9 => h9) rfl dX8_lane_82 ?_
  refine lv_iload_n hx hb dX8_lane_85 rfl (lv_at hl 0 rfl) ?_
  refine lv_iconst (v := 0) hx hb dX8_lane_86 (by decide) ?_
  refine va_zast hx hb hK hP hD hS 1 4 rfl rfl (vin (by decide)) dX8_lane_87 (fun H32 locs hP hD hS => ?_)
  obtain ⟨zf33, ezf33⟩ : ∃ z : Nat → Int32, z = upd zf30 (2 : Int32).toNatClampNeg (vp_nar .boolean 0) := ⟨_, rfl⟩
  have hP : va_P (dC, dI) vwCl [(r 0, .inr (7, [.ref (r 1), .int 0, .ref (r 2), .ref (r 7), .ref (r 57), .ref (r 30), .ref (r 56), .ref (r 36), .ref (r 37), .ref (r 38), .int 0, .ref (r 51), .int 0, .ref (r 52), .ref (r 53), .ref (r 54)])), (r 37, .inl ((c 37), 3, .inl zf33)), (r 1, .inl ((c 1), 1600, .inl (fun _ => 0))), (r 3, .inr (5, [.ref (r 4), .ref (r 5), .ref (r 6), .int 1, .int 0])), (r 4, .inl ((c 4), 1601, .inl zf3)), (r 5, .inl ((c 5), 1601, .inl zf4)), (r 16, .inr (1, [.ref (r 17), .int 7, .ref (r 14)])), (r 17, .inl ((c 17), 300, .inl zf5)), (r 2, .inr (4, [.int 0, .int (-1), .ref (r 3), .ref (r 55), .int 0, .int 1, .ref (r 18), .ref (r 19), .int 0, .int 0, .int 0, .int 0])), (r 7, .inr (3, [.int 1, .int 0, .int 0, .int 0, .ref (r 8), .ref (r 9), .ref (r 10), .int 0, .ref (r 11), .ref (r 12), .ref (r 13), .int 0, .ref (r 16), .ref (r 15)])), (r 56, .inr (0, [.ref (r 58), .int 0, .int 0])), (r 57, .inr (6, [.ref (r 59), .ref (r 60), .ref (r 61), .ref (r 62), .ref (r 63), .int 0, .int 0])), (r 58, .inl ((c 58), 1066, .inl zf21)), (r 59, .inl ((c 59), 5, .inl zf14)), (r 60, .inl ((c 60), 5, .inl zf15)), (r 61, .inl ((c 61), 5, .inl zf16)), (r 62, .inl ((c 62), 5, .inl zf17)), (r 63, .inl ((c 63), 4, .inl zf18)), (r 38, .inr (2, [.int 0, .ref (r 39), .ref (r 40), .ref (r 41), .ref (r 42), .ref (r 43), .ref (r 44), .int 0, .ref (r 45), .ref (r 46), .ref (r 47), .ref (r 48), .ref (r 49), .ref (r 50)]))] H32 := by rw [ezf33]; exact hP
  have hD : va_D A [(r 0, .inr (7, [.ref (r 1), .int 0, .ref (r 2), .ref (r 7), .ref (r 57), .ref (r 30), .ref (r 56), .ref (r 36), .ref (r 37), .ref (r 38), .int 0, .ref (r 51), .int 0, .ref (r 52), .ref (r 53), .ref (r 54)])), (r 37, .inl ((c 37), 3, .inl zf33)), (r 1, .inl ((c 1), 1600, .inl (fun _ => 0))), (r 3, .inr (5, [.ref (r 4), .ref (r 5), .ref (r 6), .int 1, .int 0])), (r 4, .inl ((c 4), 1601, .inl zf3)), (r 5, .inl ((c 5), 1601, .inl zf4)), (r 16, .inr (1, [.ref (r 17), .int 7, .ref (r 14)])), (r 17, .inl ((c 17), 300, .inl zf5)), (r 2, .inr (4, [.int 0, .int (-1), .ref (r 3), .ref (r 55), .int 0, .int 1, .ref (r 18), .ref (r 19), .int 0, .int 0, .int 0, .int 0])), (r 7, .inr (3, [.int 1, .int 0, .int 0, .int 0, .ref (r 8), .ref (r 9), .ref (r 10), .int 0, .ref (r 11), .ref (r 12), .ref (r 13), .int 0, .ref (r 16), .ref (r 15)])), (r 56, .inr (0, [.ref (r 58), .int 0, .int 0])), (r 57, .inr (6, [.ref (r 59), .ref (r 60), .ref (r 61), .ref (r 62), .ref (r 63), .int 0, .int 0])), (r 58, .inl ((c 58), 1066, .inl zf21)), (r 59, .inl ((c 59), 5, .inl zf14)), (r 60, .inl ((c 60), 5, .inl zf15)), (r 61, .inl ((c 61), 5, .inl zf16)), (r 62, .inl ((c 62), 5, .inl zf17)), (r 63, .inl ((c 63), 4, .inl zf18)), (r 38, .inr (2, [.int 0, .ref (r 39), .ref (r 40), .ref (r 41), .ref (r 42), .ref (r 43), .ref (r 44), .int 0, .ref (r 45), .ref (r 46), .ref (r 47), .ref (r 48), .ref (r 49), .ref (r 50)]))] := by rw [ezf33]; exact hD
  refine lv_iinc (v := 3) (lv' := [(1, .int 3), (0, .ref (r 0))]) hx hb dX8_lane_88 hl (k := 0) rfl (by decide) (by decide) rfl (fun ls hl => ?_)
  refine lv_goto (tgt := 76) hx hb dX8_lane_91 (by decide) ?_
  refine lv_iload_n hx hb dX8_lane_76 rfl (lv_at hl 0 rfl) ?_
  refine lv_iconst (v := 3) hx hb dX8_lane_77 (by decide) ?_
  refine lv_icmp_ge (tgt := 94) hx hb dX8_lane_78 (by decide) (fun c_34 => ?_) (fun c_34 => absurd (by decide) c_34)
  refine lv_aload_n hx hb dX8_lane_94 rfl (lv_at hl 1 rfl) ?_
  refine va_get (D := (dC, dI)) (ci := 7) (v := .ref (r 7)) (C := RX8) (T := TX8) (N := 16) hx hb hG inX8 hown hK hP 0 rfl rfl 3 (by decide) (hG _ gw471) (fun _ h9 => h9) rfl dX8_lane_95 ?_
  refine va_get (D := (dC, dI)) (ci := 3) (v := .int 0) (C := RX4) (T := TX4) (N := 14) hx hb hG inX4 hown hK hP 9 rfl rfl 7 (by decide) (hG _ gw258) (fun _ h9 => h9) rfl dX8_lane_98 ?_
  exact W.iret (v := 0) hx hb hr (fun t ht hW => ⟨⟨0, (), rfl, rfl, trivial⟩, hS.F ht⟩) hS.2.2 dX8_lane_101
