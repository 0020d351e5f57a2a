set_option maxHeartbeats 4000000 in
set_option maxRecDepth 100000 in
theorem qX6_init (l : Launch) (dC : Nat → ClassId) (dI : Nat → Nat → Nat) (a0 : Nat) (sz : Nat) : Met l yX6_init (.code yX6_init cX6_init 1 none :: GW) { frames := 2, cells := 3, slots := 4803, locals := 100 } (va_Pc [.ref a0] (pW (dC, dI) [(a0, .inr (5, [.null, .null, .null, .int 0, .int 0]))] [] sz)) (va_Qv (fun _ : Unit => True) (fun (_ : Unit) (t : State) => ∃ (b0 b1 b2 : Nat) (t0 t1 t2 : ClassId), va_P (dC, dI) vwCl [(a0, .inr (5, [.ref b0, .ref b1, .ref b2, .int 0, .int 0])), (b0, .inl (t0, 1601, .inl (fun _ => 0))), (b1, .inl (t1, 1601, .inl (fun _ => 0))), (b2, .inl (t2, 1601, .inr (.inl (fun _ => 0))))] t.heap ∧ va_K (dC, dI) vwCl [(t0, .int), (t1, .int), (t2, .long)] t ∧ va_D (va_A [(a0, .inr (5, [.null, .null, .null, .int 0, .int 0]))] sz) [(a0, .inr (5, [.ref b0, .ref b1, .ref b2, .int 0, .int 0])), (b0, .inl (t0, 1601, .inl (fun _ => 0))), (b1, .inl (t1, 1601, .inl (fun _ => 0))), (b2, .inl (t2, 1601, .inr (.inl (fun _ => 0))))]) (va_A [(a0, .inr (5, [.null, .null, .null, .int 0, .int 0]))] sz)) 3 4803 (va_A [(a0, .inr (5, [.null, .null, .null, .int 0, .int 0]))] sz) := by
  refine Met.ofW (cc := cX6_init) (maxL := 1) (ret := none) (by decide) rfl ?_
  intro p e s m args below meth c0 s₁ B hml hv
  obtain ⟨rfl, hsz, hP, hK, hD0⟩ := hv
  have hx := B.exec
  have hb := B.bytes
  have hr := B.returns
  have hts := atoms_spec (ws := .code yX6_init cX6_init 1 none :: GW) B.pre
  have hG : ∀ w ∈ GW, w.before _ s = true := fun w h => hts w (List.mem_cons_of_mem _ h)
  have hown : s.vm.findClass RX6 = some m.cls := findClass_of_methodNamed B.named
  have hlocks := B.notSynchronized
  have hin : meth.name = "<init>" := (name_of_methodNamed B.named B.method).1
  subst hsz
  have hD := hD0.self (sz := s.heap.size)
  generalize hAe : va_A [(a0, .inr (5, [.null, .null, .null, .int 0, .int 0]))] s.heap.size = A at hD ⊢
  have hA : ∀ q : Nat, s.heap.size ≤ q → A q := fun q h => by rw [← hAe]; exact Or.inr h
  have hS : va_S A s.heap s.heap [] := va_S.rf
  have hP : va_P (dC, dI) vwCl [(a0, .inr (5, [.null, .null, .null, .int 0, .int 0]))] s.heap := hP
  have hl := lv_entry ([.ref a0]) (n := 1) (Nat.le_of_ble_eq_true rfl)
  rw [lg_entry_eq]
  generalize (lg_sl ([.ref a0]) ++ List.replicate (1 - (lg_sl ([.ref a0])).length) Slot.unset).toArray = ls at hl ⊢
  have hl : lv_has ls 1 [(0, .ref a0)] := hl
  refine lv_aload_n hx hb dX6_init_0 rfl (lv_at hl 0 rfl) ?_
  refine W.objInit hx hb hown (hG _ gw165) (hG _ gw152) (hG _ gw153) rfl (by rw [hml]; exact hl.1) rfl dX6_init_1 (Nat.le_of_ble_eq_true rfl) (Nat.le_of_ble_eq_true rfl) ?_
  refine W.eq (g2 := F0 m 4 ls []) rfl ?_
  refine lv_aload_n hx hb dX6_init_4 rfl (lv_at hl 0 rfl) ?_
  refine lv_sipush (v := 1601) hx hb dX6_init_5 (by decide) ?_
  refine va_newa (atype := .int) (ty := .int) (N' := 1601) (a0 := (1601, .inl (fun _ => 0))) hx hb (hG _ gw186) rfl hK hP hD hS hA (fun _ => rfl) (by decide) (by decide) (Nat.le_of_ble_eq_true rfl) (Nat.le_of_ble_eq_true rfl) (Nat.le_of_ble_eq_true rfl) dX6_init_8 (fun q1 d1 H2 hK hP hD hS => ?_)
  have hP : va_P (dC, dI) vwCl [(a0, .inr (5, [.null, .null, .null, .int 0, .int 0])), (q1, .inl (d1, 1601, .inl (fun _ => 0)))] H2 := hP
  have hD : va_D A [(a0, .inr (5, [.null, .null, .null, .int 0, .int 0])), (q1, .inl (d1, 1601, .inl (fun _ => 0)))] := hD
  have hK : va_K (dC, dI) vwCl [(d1, .int)] s := hK
  refine W.widen (k := 1) (n := 1601) (Nat.le_of_ble_eq_true rfl) (Nat.le_of_ble_eq_true rfl) ?_
  refine va_putF (D := (dC, dI)) (ci := 5) (v := .ref q1) (ty := .array .int) (C := RX6) (T := TX6) (N := 5) hx hb hG inX6 tyX6 tyX6_ok nmX6 hown hK hP hD hS 0 rfl rfl 0 (by decide) (hG _ gw166) (fun _ h9 => h9) rfl hin rfl (by decide +kernel) rfl rfl (Nat.le_of_ble_eq_true rfl) dX6_init_10 (fun H3 locs hP hD hS => ?_)
  have hP : va_P (dC, dI) vwCl [(a0, .inr (5, [.ref q1, .null, .null, .int 0, .int 0])), (q1, .inl (d1, 1601, .inl (fun _ => 0)))] H3 := hP
  have hD : va_D A [(a0, .inr (5, [.ref q1, .null, .null, .int 0, .int 0])), (q1, .inl (d1, 1601, .inl (fun _ => 0)))] := hD
  refine lv_aload_n hx hb dX6_init_13 rfl (lv_at hl 0 rfl) ?_
  refine lv_sipush (v := 1601) hx hb dX6_init_14 (by decide) ?_
  refine va_newa (atype := .int) (ty := .int) (N' := 1601) (a0 := (1601, .inl (fun _ => 0))) hx hb (hG _ gw186) rfl hK hP hD hS hA (fun _ => rfl) (by decide) (by decide) (Nat.le_of_ble_eq_true rfl) (Nat.le_of_ble_eq_true rfl) (Nat.le_of_ble_eq_true rfl) dX6_init_17 (fun q4 d4 H5 hK hP hD hS => ?_)
  have hP : va_P (dC, dI) vwCl [(a0, .inr (5, [.ref q1, .null, .null, .int 0, .int 0])), (q1, .inl (d1, 1601, .inl (fun _ => 0))), (q4, .inl (d4, 1601, .inl (fun _ => 0)))] H5 := hP
  have hD : va_D A [(a0, .inr (5, [.ref q1, .null, .null, .int 0, .int 0])), (q1, .inl (d1, 1601, .inl (fun _ => 0))), (q4, .inl (d4, 1601, .inl (fun _ => 0)))] := hD
  have hK : va_K (dC, dI) vwCl [(d1, .int), (d4, .int)] s := hK
  refine W.widen (k := 2) (n := 3202) (Nat.le_of_ble_eq_true rfl) (Nat.le_of_ble_eq_true rfl) ?_
  refine va_putF (D := (dC, dI)) (ci := 5) (v := .ref q4) (ty := .array .int) (C := RX6) (T := TX6) (N := 5) hx hb hG inX6 tyX6 tyX6_ok nmX6 hown hK hP hD hS 0 rfl rfl 1 (by decide) (hG _ gw168) (fun _ h9 => h9) rfl hin rfl (by decide +kernel) rfl rfl (Nat.le_of_ble_eq_true rfl) dX6_init_19 (fun H6 locs hP hD hS => ?_)
  have hP : va_P (dC, dI) vwCl [(a0, .inr (5, [.ref q1, .ref q4, .null, .int 0, .int 0])), (q1, .inl (d1, 1601, .inl (fun _ => 0))), (q4, .inl (d4, 1601, .inl (fun _ => 0)))] H6 := hP
  have hD : va_D A [(a0, .inr (5, [.ref q1, .ref q4, .null, .int 0, .int 0])), (q1, .inl (d1, 1601, .inl (fun _ => 0))), (q4, .inl (d4, 1601, .inl (fun _ => 0)))] := hD
  refine lv_aload_n hx hb dX6_init_22 rfl (lv_at hl 0 rfl) ?_
  refine lv_sipush (v := 1601) hx hb dX6_init_23 (by decide) ?_
  refine va_newa (atype := .long) (ty := .long) (N' := 1601) (a0 := (1601, .inr (.inl (fun _ => 0)))) hx hb (hG _ gw187) rfl hK hP hD hS hA (fun _ => rfl) (by decide) (by decide) (Nat.le_of_ble_eq_true rfl) (Nat.le_of_ble_eq_true rfl) (Nat.le_of_ble_eq_true rfl) dX6_init_26 (fun q7 d7 H8 hK hP hD hS => ?_)
  have hP : va_P (dC, dI) vwCl [(a0, .inr (5, [.ref q1, .ref q4, .null, .int 0, .int 0])), (q1, .inl (d1, 1601, .inl (fun _ => 0))), (q4, .inl (d4, 1601, .inl (fun _ => 0))), (q7, .inl (d7, 1601, .inr (.inl (fun _ => 0))))] H8 := hP
  have hD : va_D A [(a0, .inr (5, [.ref q1, .ref q4, .null, .int 0, .int 0])), (q1, .inl (d1, 1601, .inl (fun _ => 0))), (q4, .inl (d4, 1601, .inl (fun _ => 0))), (q7, .inl (d7, 1601, .inr (.inl (fun _ => 0))))] := hD
  have hK : va_K (dC, dI) vwCl [(d1, .int), (d4, .int), (d7, .long)] s := hK
  refine W.widen (k := 3) (n := 4803) (Nat.le_of_ble_eq_true rfl) (Nat.le_of_ble_eq_true rfl) ?_
  refine va_putF (D := (dC, dI)) (ci := 5) (v := .ref q7) (ty := .array .long) (C := RX6) (T := TX6) (N := 5) hx hb hG inX6 tyX6 tyX6_ok nmX6 hown hK hP hD hS 0 rfl rfl 2 (by decide) (hG _ gw170) (fun _ h9 => h9) rfl hin rfl (by decide +kernel) rfl rfl (Nat.le_of_ble_eq_true rfl) dX6_init_28 (fun H9 locs hP hD hS => ?_)
  have hP : va_P (dC, dI) vwCl [(a0, .inr (5, [.ref q1, .ref q4, .ref q7, .int 0, .int 0])), (q1, .inl (d1, 1601, .inl (fun _ => 0))), (q4, .inl (d4, 1601, .inl (fun _ => 0))), (q7, .inl (d7, 1601, .inr (.inl (fun _ => 0))))] H9 := hP
  have hD : va_D A [(a0, .inr (5, [.ref q1, .ref q4, .ref q7, .int 0, .int 0])), (q1, .inl (d1, 1601, .inl (fun _ => 0))), (q4, .inl (d4, 1601, .inl (fun _ => 0))), (q7, .inl (d7, 1601, .inr (.inl (fun _ => 0))))] := hD
  have hP9 := hP.sub (ws' := [(a0, .inr (5, [.ref q1, .ref q4, .ref q7, .int 0, .int 0])), (q1, .inl (d1, 1601, .inl (fun _ => 0))), (q4, .inl (d4, 1601, .inl (fun _ => 0))), (q7, .inl (d7, 1601, .inr (.inl (fun _ => 0))))]) [0, 1, 2, 3] rfl
  have hD9 := hD.sub (ws' := [(a0, .inr (5, [.ref q1, .ref q4, .ref q7, .int 0, .int 0])), (q1, .inl (d1, 1601, .inl (fun _ => 0))), (q4, .inl (d4, 1601, .inl (fun _ => 0))), (q7, .inl (d7, 1601, .inr (.inl (fun _ => 0))))]) [0, 1, 2, 3] (by decide) rfl
  have hK9 := hK.sub (tys' := [(d1, .int), (d4, .int), (d7, .long)]) [0, 1, 2] rfl
  refine W.widen (k := 3) (n := 4803) (Nat.le_of_ble_eq_true rfl) (Nat.le_of_ble_eq_true rfl) ?_
  exact W.vret hx hb hr (fun t ht hW => ⟨⟨(), rfl, trivial, ⟨q1, q4, q7, d1, d4, d7, by rw [ht]; exact hP9, va_K.moved hW.alike hK9, hD9⟩⟩, hS.F ht⟩) hS.2.2 dX6_init_31
set_option maxHeartbeats 4000000 in
set_option maxRecDepth 100000 in
theorem qX1_init (l : Launch) (dC : Nat → ClassId) (dI : Nat → Nat → Nat) (a0 : Nat) (sz : Nat) : Met l yX1_init (.code yX1_init cX1_init 1 none :: GW) { frames := 2, cells := 2, slots := 330, locals := 100 } (va_Pc [.ref a0] (pW (dC, dI) [(a0, .inr (1, [.null, .int 0, .null]))] [] sz)) (va_Qv (fun _ : Unit => True) (fun (_ : Unit) (t : State) => ∃ (b0 b1 : Nat) (t0 t1 : ClassId), va_P (dC, dI) vwCl [(a0, .inr (1, [.ref b0, .int 0, .ref b1])), (b0, .inl (t0, 300, .inl (fun _ => 0))), (b1, .inl (t1, 30, .inl (fun _ => 0)))] t.heap ∧ va_K (dC, dI) vwCl [(t0, .int), (t1, .int)] t ∧ va_D (va_A [(a0, .inr (1, [.null, .int 0, .null]))] sz) [(a0, .inr (1, [.ref b0, .int 0, .ref b1])), (b0, .inl (t0, 300, .inl (fun _ => 0))), (b1, .inl (t1, 30, .inl (fun _ => 0)))]) (va_A [(a0, .inr (1, [.null, .int 0, .null]))] sz)) 2 330 (va_A [(a0, .inr (1, [.null, .int 0, .null]))] sz) := by
  refine Met.ofW (cc := cX1_init) (maxL := 1) (ret := none) (by decide) rfl ?_
  intro p e s m args below meth c0 s₁ B hml hv
  obtain ⟨rfl, hsz, hP, hK, hD0⟩ := hv
  have hx := B.exec
  have hb := B.bytes
  have hr := B.returns
  have hts := atoms_spec (ws := .code yX1_init cX1_init 1 none :: GW) B.pre
  have hG : ∀ w ∈ GW, w.before _ s = true := fun w h => hts w (List.mem_cons_of_mem _ h)
  have hown : s.vm.findClass RX1 = some m.cls := findClass_of_methodNamed B.named
  have hlocks := B.notSynchronized
  have hin : meth.name = "<init>" := (name_of_methodNamed B.named B.method).1
  subst hsz
  have hD := hD0.self (sz := s.heap.size)
  generalize hAe : va_A [(a0, .inr (1, [.null, .int 0, .null]))] s.heap.size = A at hD ⊢
  have hA : ∀ q : Nat, s.heap.size ≤ q → A q := fun q h => by rw [← hAe]; exact Or.inr h
  have hS : va_S A s.heap s.heap [] := va_S.rf
  have hP : va_P (dC, dI) vwCl [(a0, .inr (1, [.null, .int 0, .null]))] s.heap := hP
  have hl := lv_entry ([.ref a0]) (n := 1) (Nat.le_of_ble_eq_true rfl)
  rw [lg_entry_eq]
  generalize (lg_sl ([.ref a0]) ++ List.replicate (1 - (lg_sl ([.ref a0])).length) Slot.unset).toArray = ls at hl ⊢
  have hl : lv_has ls 1 [(0, .ref a0)] := hl
  refine lv_aload_n hx hb dX1_init_0 rfl (lv_at hl 0 rfl) ?_
  refine W.objInit hx hb hown (hG _ gw199) (hG _ gw152) (hG _ gw153) rfl (by rw [hml]; exact hl.1) rfl dX1_init_1 (Nat.le_of_ble_eq_true rfl) (Nat.le_of_ble_eq_true rfl) ?_
  refine W.eq (g2 := F0 m 4 ls []) rfl ?_
  refine lv_aload_n hx hb dX1_init_4 rfl (lv_at hl 0 rfl) ?_
  refine lv_sipush (v := 300) hx hb dX1_init_5 (by decide) ?_
  refine va_newa (atype := .int) (ty := .int) (N' := 300) (a0 := (300, .inl (fun _ => 0))) hx hb (hG _ gw186) rfl hK hP hD hS hA (fun _ => rfl) (by decide) (by decide) (Nat.le_of_ble_eq_true rfl) (Nat.le_of_ble_eq_true rfl) (Nat.le_of_ble_eq_true rfl) dX1_init_8 (fun q1 d1 H2 hK hP hD hS => ?_)
  have hP : va_P (dC, dI) vwCl [(a0, .inr (1, [.null, .int 0, .null])), (q1, .inl (d1, 300, .inl (fun _ => 0)))] H2 := hP
  have hD : va_D A [(a0, .inr (1, [.null, .int 0, .null])), (q1, .inl (d1, 300, .inl (fun _ => 0)))] := hD
  have hK : va_K (dC, dI) vwCl [(d1, .int)] s := hK
  refine W.widen (k := 1) (n := 300) (Nat.le_of_ble_eq_true rfl) (Nat.le_of_ble_eq_true rfl) ?_
  refine va_putF (D := (dC, dI)) (ci := 1) (v := .ref q1) (ty := .array .int) (C := RX1) (T := TX1) (N := 3) hx hb hG inX1 tyX1 tyX1_ok nmX1 hown hK hP hD hS 0 rfl rfl 0 (by decide) (hG _ gw200) (fun _ h9 => h9) rfl hin rfl (by decide +kernel) rfl rfl (Nat.le_of_ble_eq_true rfl) dX1_init_10 (fun H3 locs hP hD hS => ?_)
  have hP : va_P (dC, dI) vwCl [(a0, .inr (1, [.ref q1, .int 0, .null])), (q1, .inl (d1, 300, .inl (fun _ => 0)))] H3 := hP
  have hD : va_D A [(a0, .inr (1, [.ref q1, .int 0, .null])), (q1, .inl (d1, 300, .inl (fun _ => 0)))] := hD
  refine lv_aload_n hx hb dX1_init_13 rfl (lv_at hl 0 rfl) ?_
  refine lv_bipush (v := 30) hx hb dX1_init_14 (by decide) ?_
  refine va_newa (atype := .int) (ty := .int) (N' := 30) (a0 := (30, .inl (fun _ => 0))) hx hb (hG _ gw186) rfl hK hP hD hS hA (fun _ => rfl) (by decide) (by decide) (Nat.le_of_ble_eq_true rfl) (Nat.le_of_ble_eq_true rfl) (Nat.le_of_ble_eq_true rfl) dX1_init_16 (fun q4 d4 H5 hK hP hD hS => ?_)
  have hP : va_P (dC, dI) vwCl [(a0, .inr (1, [.ref q1, .int 0, .null])), (q1, .inl (d1, 300, .inl (fun _ => 0))), (q4, .inl (d4, 30, .inl (fun _ => 0)))] H5 := hP
  have hD : va_D A [(a0, .inr (1, [.ref q1, .int 0, .null])), (q1, .inl (d1, 300, .inl (fun _ => 0))), (q4, .inl (d4, 30, .inl (fun _ => 0)))] := hD
  have hK : va_K (dC, dI) vwCl [(d1, .int), (d4, .int)] s := hK
  refine W.widen (k := 2) (n := 330) (Nat.le_of_ble_eq_true rfl) (Nat.le_of_ble_eq_true rfl) ?_
  refine va_putF (D := (dC, dI)) (ci := 1) (v := .ref q4) (ty := .array .int) (C := RX1) (T := TX1) (N := 3) hx hb hG inX1 tyX1 tyX1_ok nmX1 hown hK hP hD hS 0 rfl rfl 2 (by decide) (hG _ gw202) (fun _ h9 => h9) rfl hin rfl (by decide +kernel) rfl rfl (Nat.le_of_ble_eq_true rfl) dX1_init_18 (fun H6 locs hP hD hS => ?_)
  have hP : va_P (dC, dI) vwCl [(a0, .inr (1, [.ref q1, .int 0, .ref q4])), (q1, .inl (d1, 300, .inl (fun _ => 0))), (q4, .inl (d4, 30, .inl (fun _ => 0)))] H6 := hP
  have hD : va_D A [(a0, .inr (1, [.ref q1, .int 0, .ref q4])), (q1, .inl (d1, 300, .inl (fun _ => 0))), (q4, .inl (d4, 30, .inl (fun _ => 0)))] := hD
  have hP9 := hP.sub (ws' := [(a0, .inr (1, [.ref q1, .int 0, .ref q4])), (q1, .inl (d1, 300, .inl (fun _ => 0))), (q4, .inl (d4, 30, .inl (fun _ => 0)))]) [0, 1, 2] rfl
  have hD9 := hD.sub (ws' := [(a0, .inr (1, [.ref q1, .int 0, .ref q4])), (q1, .inl (d1, 300, .inl (fun _ => 0))), (q4, .inl (d4, 30, .inl (fun _ => 0)))]) [0, 1, 2] (by decide) rfl
  have hK9 := hK.sub (tys' := [(d1, .int), (d4, .int)]) [0, 1] rfl
  refine W.widen (k := 2) (n := 330) (Nat.le_of_ble_eq_true rfl) (Nat.le_of_ble_eq_true rfl) ?_
  exact W.vret hx hb hr (fun t ht hW => ⟨⟨(), rfl, trivial, ⟨q1, q4, d1, d4, by rw [ht]; exact hP9, va_K.moved hW.alike hK9, hD9⟩⟩, hS.F ht⟩) hS.2.2 dX1_init_21
set_option maxHeartbeats 4000000 in
set_option maxRecDepth 100000 in
theorem qX1_empty (l : Launch) (dC : Nat → ClassId) (dI : Nat → Nat → Nat) (a0 a1 a2 : Nat) (sz : Nat) : Met l yX1_empty (.code yX1_empty cX1_empty 1 none :: GW) { frames := 2, cells := 0, slots := 0, locals := 100 } (va_Pc [.ref a0] (pW (dC, dI) [(a0, .inr (1, [.ref a1, .int 0, .ref a2]))] [] sz)) (va_Qv (fun _ : Unit => True) (fun (_ : Unit) (t : State) => va_P (dC, dI) vwCl [(a0, .inr (1, [.ref a1, .int 0, .ref a2]))] t.heap ∧ va_D (va_A [(a0, .inr (1, [.ref a1, .int 0, .ref a2]))] sz) [(a0, .inr (1, [.ref a1, .int 0, .ref a2]))]) (va_A [(a0, .inr (1, [.ref a1, .int 0, .ref a2]))] sz)) 0 0 (va_A [(a0, .inr (1, [.ref a1, .int 0, .ref a2]))] sz) := by
  refine Met.ofW (cc := cX1_empty) (maxL := 1) (ret := none) (by decide) rfl ?_
  intro p e s m args below meth c0 s₁ B hml hv
  obtain ⟨rfl, hsz, hP, hK, hD0⟩ := hv
  have hx := B.exec
  have hb := B.bytes
  have hr := B.returns
  have hts := atoms_spec (ws := .code yX1_empty cX1_empty 1 none :: GW) B.pre
  have hG : ∀ w ∈ GW, w.before _ s = true := fun w h => hts w (List.mem_cons_of_mem _ h)
  have hown : s.vm.findClass RX1 = some m.cls := findClass_of_methodNamed B.named
  have hlocks := B.notSynchronized
  subst hsz
  have hD := hD0.self (sz := s.heap.size)
  generalize hAe : va_A [(a0, .inr (1, [.ref a1, .int 0, .ref a2]))] s.heap.size = A at hD ⊢
  have hA : ∀ q : Nat, s.heap.size ≤ q → A q := fun q h => by rw [← hAe]; exact Or.inr h
  have hS : va_S A s.heap s.heap [] := va_S.rf
  have hP : va_P (dC, dI) vwCl [(a0, .inr (1, [.ref a1, .int 0, .ref a2]))] s.heap := hP
  have hl := lv_entry ([.ref a0]) (n := 1) (Nat.le_of_ble_eq_true rfl)
  rw [lg_entry_eq]
  generalize (lg_sl ([.ref a0]) ++ List.replicate (1 - (lg_sl ([.ref a0])).length) Slot.unset).toArray = ls at hl ⊢
  have hl : lv_has ls 1 [(0, .ref a0)] := hl
  refine lv_aload_n hx hb dX1_empty_0 rfl (lv_at hl 0 rfl) ?_
  refine lv_iconst (v := 0) hx hb dX1_empty_1 (by decide) ?_
  refine va_put (D := (dC, dI)) (ci := 1) (v := .int 0) (ty := .int) (C := RX1) (T := TX1) (N := 3) hx hb hG inX1 tyX1 tyX1_ok nmX1 hown hK hP hD hS 0 rfl rfl 1 (by decide) (hG _ gw201) (fun _ h9 => h9) rfl (by decide +kernel) rfl rfl (Nat.le_of_ble_eq_true rfl) dX1_empty_2 (fun H1 locs hP hD hS => ?_)
  have hP : va_P (dC, dI) vwCl [(a0, .inr (1, [.ref a1, .int 0, .ref a2]))] H1 := hP
  have hD : va_D A [(a0, .inr (1, [.ref a1, .int 0, .ref a2]))] := hD
  have hP9 := hP.sub (ws' := [(a0, .inr (1, [.ref a1, .int 0, .ref a2]))]) [0] rfl
  have hD9 := hD.sub (ws' := [(a0, .inr (1, [.ref a1, .int 0, .ref a2]))]) [0] (by decide) rfl
  exact W.vret hx hb hr (fun t ht hW => ⟨⟨(), rfl, trivial, ⟨by rw [ht]; exact hP9, hD9⟩⟩, hS.F ht⟩) hS.2.2 dX1_empty_5
set_option maxHeartbeats 4000000 in
set_option maxRecDepth 100000 in
theorem qX1_addStep (l : Launch) (dC : Nat → ClassId) (dI : Nat → Nat → Nat) (a0 a1 a2 : Nat) (c1 : ClassId) (sz : Nat) : Met l yX1_addStep (.code yX1_addStep cX1_addStep 2 none :: GW) { frames := 2, cells := 0, slots := 0, locals := 100 } (va_Pc [.ref a0, .int 10000] (pW (dC, dI) [(a0, .inr (1, [.ref a1, .int 0, .ref a2])), (a1, .inl (c1, 300, .inl (fun _ => 0)))] [(c1, .int)] sz)) (va_Qv (fun _ : Unit => True) (fun (_ : Unit) (t : State) => ∃ (F0 : Nat → Int32), va_P (dC, dI) vwCl [(a0, .inr (1, [.ref a1, .int 1, .ref a2])), (a1, .inl (c1, 300, .inl F0))] t.heap ∧ va_D (va_A [(a0, .inr (1, [.ref a1, .int 0, .ref a2])), (a1, .inl (c1, 300, .inl (fun _ => 0)))] sz) [(a0, .inr (1, [.ref a1, .int 1, .ref a2])), (a1, .inl (c1, 300, .inl F0))]) (va_A [(a0, .inr (1, [.ref a1, .int 0, .ref a2])), (a1, .inl (c1, 300, .inl (fun _ => 0)))] sz)) 0 0 (va_A [(a0, .inr (1, [.ref a1, .int 0, .ref a2])), (a1, .inl (c1, 300, .inl (fun _ => 0)))] sz) := by
  refine Met.ofW (cc := cX1_addStep) (maxL := 2) (ret := none) (by decide) rfl ?_
  intro p e s m args below meth c0 s₁ B hml hv
  obtain ⟨rfl, hsz, hP, hK, hD0⟩ := hv
  have hx := B.exec
  have hb := B.bytes
  have hr := B.returns
  have hts := atoms_spec (ws := .code yX1_addStep cX1_addStep 2 none :: GW) B.pre
  have hG : ∀ w ∈ GW, w.before _ s = true := fun w h => hts w (List.mem_cons_of_mem _ h)
  have hown : s.vm.findClass RX1 = some m.cls := findClass_of_methodNamed B.named
  have hlocks := B.notSynchronized
  subst hsz
  have hD := hD0.self (sz := s.heap.size)
  generalize hAe : va_A [(a0, .inr (1, [.ref a1, .int 0, .ref a2])), (a1, .inl (c1, 300, .inl (fun _ => 0)))] s.heap.size = A at hD ⊢
  have hA : ∀ q : Nat, s.heap.size ≤ q → A q := fun q h => by rw [← hAe]; exact Or.inr h
  have hS : va_S A s.heap s.heap [] := va_S.rf
  have hP : va_P (dC, dI) vwCl [(a0, .inr (1, [.ref a1, .int 0, .ref a2])), (a1, .inl (c1, 300, .inl (fun _ => 0)))] s.heap := hP
  have hl := lv_entry ([.ref a0, .int 10000]) (n := 2) (Nat.le_of_ble_eq_true rfl)
  rw [lg_entry_eq]
  generalize (lg_sl ([.ref a0, .int 10000]) ++ List.replicate (2 - (lg_sl ([.ref a0, .int 10000])).length) Slot.unset).toArray = ls at hl ⊢
  have hl : lv_has ls 2 [(0, .ref a0), (1, .int 10000)] := hl
  refine lv_aload_n hx hb dX1_addStep_0 rfl (lv_at hl 0 rfl) ?_
  refine va_get (D := (dC, dI)) (ci := 1) (v := .int 0) (C := RX1) (T := TX1) (N := 3) hx hb hG inX1 hown hK hP 0 rfl rfl 1 (by decide) (hG _ gw201) (fun _ h9 => h9) rfl dX1_addStep_1 ?_
  refine lv_sipush (v := 300) hx hb dX1_addStep_4 (by decide) ?_
  refine lv_icmp_ge (tgt := 30) hx hb dX1_addStep_7 (by decide) (fun c_1 => absurd c_1 (by decide)) (fun c_1 => ?_)
  refine lv_aload_n hx hb dX1_addStep_10 rfl (lv_at hl 0 rfl) ?_
  refine va_get (D := (dC, dI)) (ci := 1) (v := .ref a1) (C := RX1) (T := TX1) (N := 3) hx hb hG inX1 hown hK hP 0 rfl rfl 0 (by decide) (hG _ gw200) (fun _ h9 => h9) rfl dX1_addStep_11 ?_
  refine lv_aload_n hx hb dX1_addStep_14 rfl (lv_at hl 0 rfl) ?_
  refine va_get (D := (dC, dI)) (ci := 1) (v := .int 0) (C := RX1) (T := TX1) (N := 3) hx hb hG inX1 hown hK hP 0 rfl rfl 1 (by decide) (hG _ gw201) (fun _ h9 => h9) rfl dX1_addStep_15 ?_
  refine lv_iload_n hx hb dX1_addStep_18 rfl (lv_at hl 1 rfl) ?_
  refine va_iast hx hb hK hP hD hS 1 0 rfl rfl (vin (by decide)) dX1_addStep_19 (fun H2 locs hP hD hS => ?_)
  obtain ⟨zf3, ezf3⟩ : ∃ z : Nat → Int32, z = upd (fun _ => 0) (0 : Int32).toNatClampNeg 10000 := ⟨_, rfl⟩
  have hP : va_P (dC, dI) vwCl [(a0, .inr (1, [.ref a1, .int 0, .ref a2])), (a1, .inl (c1, 300, .inl zf3))] H2 := by rw [ezf3]; exact hP
  have hD : va_D A [(a0, .inr (1, [.ref a1, .int 0, .ref a2])), (a1, .inl (c1, 300, .inl zf3))] := by rw [ezf3]; exact hD
  refine lv_aload_n hx hb dX1_addStep_20 rfl (lv_at hl 0 rfl) ?_
  refine lv_dup hx hb dX1_addStep_21 rfl ?_
  refine va_get (D := (dC, dI)) (ci := 1) (v := .int 0) (C := RX1) (T := TX1) (N := 3) hx hb hG inX1 hown hK hP 0 rfl rfl 1 (by decide) (hG _ gw201) (fun _ h9 => h9) rfl dX1_addStep_22 ?_
  refine lv_iconst (v := 1) hx hb dX1_addStep_25 (by decide) ?_
  refine lv_iadd hx hb dX1_addStep_26 ?_
  refine wt_c (v := 1) (by decide) ?_
  refine va_put (D := (dC, dI)) (ci := 1) (v := .int 1) (ty := .int) (C := RX1) (T := TX1) (N := 3) hx hb hG inX1 tyX1 tyX1_ok nmX1 hown hK hP hD hS 0 rfl rfl 1 (by decide) (hG _ gw201) (fun _ h9 => h9) rfl (by decide +kernel) rfl rfl (Nat.le_of_ble_eq_true rfl) dX1_addStep_27 (fun H4 locs hP hD hS => ?_)
  have hP : va_P (dC, dI) vwCl [(a0, .inr (1, [.ref a1, .int 1, .ref a2])), (a1, .inl (c1, 300, .inl zf3))] H4 := hP
  have hD : va_D A [(a0, .inr (1, [.ref a1, .int 1, .ref a2])), (a1, .inl (c1, 300, .inl zf3))] := hD
  have hP9 := hP.sub (ws' := [(a0, .inr (1, [.ref a1, .int 1, .ref a2])), (a1, .inl (c1, 300, .inl zf3))]) [0, 1] rfl
  have hD9 := hD.sub (ws' := [(a0, .inr (1, [.ref a1, .int 1, .ref a2])), (a1, .inl (c1, 300, .inl zf3))]) [0, 1] (by decide) rfl
  exact W.vret hx hb hr (fun t ht hW => ⟨⟨(), rfl, trivial, ⟨zf3, by rw [ht]; exact hP9, hD9⟩⟩, hS.F ht⟩) hS.2.2 dX1_addStep_30
set_option maxHeartbeats 4000000 in
set_option maxRecDepth 100000 in
theorem qX1_addFact (l : Launch) (dC : Nat → ClassId) (dI : Nat → Nat → Nat) (a0 a1 a2 : Nat) (c1 : ClassId) (sz : Nat) : Met l yX1_addFact (.code yX1_addFact cX1_addFact 2 none :: GW) { frames := 4, cells := 0, slots := 0, locals := 161 } (va_Pc [.ref a0, .int 112] (pW (dC, dI) [(a0, .inr (1, [.ref a1, .int 0, .ref a2])), (a1, .inl (c1, 300, .inl (fun _ => 0)))] [(c1, .int)] sz)) (va_Qv (fun _ : Unit => True) (fun (_ : Unit) (t : State) => ∃ (F0 : Nat → Int32), va_P (dC, dI) vwCl [(a0, .inr (1, [.ref a1, .int 1, .ref a2])), (a1, .inl (c1, 300, .inl F0))] t.heap ∧ va_D (va_A [(a0, .inr (1, [.ref a1, .int 0, .ref a2])), (a1, .inl (c1, 300, .inl (fun _ => 0)))] sz) [(a0, .inr (1, [.ref a1, .int 1, .ref a2])), (a1, .inl (c1, 300, .inl F0))]) (va_A [(a0, .inr (1, [.ref a1, .int 0, .ref a2])), (a1, .inl (c1, 300, .inl (fun _ => 0)))] sz)) 0 0 (va_A [(a0, .inr (1, [.ref a1, .int 0, .ref a2])), (a1, .inl (c1, 300, .inl (fun _ => 0)))] sz) := by
  refine Met.ofW (cc := cX1_addFact) (maxL := 2) (ret := none) (by decide) rfl ?_
  intro p e s m args below meth c0 s₁ B hml hv
  obtain ⟨rfl, hsz, hP, hK, hD0⟩ := hv
  have hx := B.exec
  have hb := B.bytes
  have hr := B.returns
  have hts := atoms_spec (ws := .code yX1_addFact cX1_addFact 2 none :: GW) B.pre
  have hG : ∀ w ∈ GW, w.before _ s = true := fun w h => hts w (List.mem_cons_of_mem _ h)
  have hown : s.vm.findClass RX1 = some m.cls := findClass_of_methodNamed B.named
  have hlocks := B.notSynchronized
  subst hsz
  have hD := hD0.self (sz := s.heap.size)
  generalize hAe : va_A [(a0, .inr (1, [.ref a1, .int 0, .ref a2])), (a1, .inl (c1, 300, .inl (fun _ => 0)))] s.heap.size = A at hD ⊢
  have hA : ∀ q : Nat, s.heap.size ≤ q → A q := fun q h => by rw [← hAe]; exact Or.inr h
  have hS : va_S A s.heap s.heap [] := va_S.rf
  have hP : va_P (dC, dI) vwCl [(a0, .inr (1, [.ref a1, .int 0, .ref a2])), (a1, .inl (c1, 300, .inl (fun _ => 0)))] s.heap := hP
  have hl := lv_entry ([.ref a0, .int 112]) (n := 2) (Nat.le_of_ble_eq_true rfl)
  rw [lg_entry_eq]
  generalize (lg_sl ([.ref a0, .int 112]) ++ List.replicate (2 - (lg_sl ([.ref a0, .int 112])).length) Slot.unset).toArray = ls at hl ⊢
  have hl : lv_has ls 2 [(0, .ref a0), (1, .int 112)] := hl
  refine lv_aload_n hx hb dX1_addFact_0 rfl (lv_at hl 0 rfl) ?_
  refine lv_sipush (v := 10000) hx hb dX1_addFact_1 (by decide) ?_
  refine lv_iload_n hx hb dX1_addFact_4 rfl (lv_at hl 1 rfl) ?_
  refine lv_iadd hx hb dX1_addFact_5 ?_
  refine wt_c (v := 10112) (by decide) ?_
  refine lv_bipush (v := 112) hx hb dX1_addFact_6 (by decide) ?_
  refine lv_isub hx hb dX1_addFact_8 ?_
  refine wt_c (v := 10000) (by decide) ?_
  have hPc := hP.sub (ws' := [(a0, .inr (1, [.ref a1, .int 0, .ref a2])), (a1, .inl (c1, 300, .inl (fun _ => 0)))]) [0, 1] rfl
  have hKc := hK.sub (tys' := [(c1, .int)]) [0] rfl
  have hDc := hD.sub (ws' := [(a0, .inr (1, [.ref a1, .int 0, .ref a2])), (a1, .inl (c1, 300, .inl (fun _ => 0)))]) [0, 1] (by decide) rfl
  have hFc := va_free (wc := [(a0, .inr (1, [.ref a1, .int 0, .ref a2])), (a1, .inl (c1, 300, .inl (fun _ => 0)))]) hD hS hA [0, 1] rfl
  refine va_callv (va_runV (As := [.int 10000]) (rest := []) ⟨hx, hb, hml, hown, hG⟩ (qX1_addStep l dC dI a0 a1 a2 c1 s.heap.size ) (cwV 1 hG (goodV gw222 gw224 gw1 gw133 gw225) rfl rfl rfl hd_X1_addStep ⟨(Nat.le_of_ble_eq_true rfl), (Nat.le_of_ble_eq_true rfl)⟩) ⟨fbW, va_recv hKc hPc (ci := 1) (q0 := 0) rfl rfl, pW_in hPc hKc hDc⟩ rfl rfl hl.1 rfl (lv_room (Nat.le_of_ble_eq_true rfl)) dX1_addFact_9 ⟨(Nat.le_of_ble_eq_true rfl), (Nat.le_of_ble_eq_true rfl)⟩) hS (fun q _ h => hFc q h) hFc (fun u t H1 locs ht hvm hw hB hz1 hk1 hS => ?_)
  obtain ⟨zf3, hP1, hD1⟩ := hB
  rw [ht] at hP1
  obtain ⟨hP, hD⟩ := va_join (wr := []) (w1 := [(a0, .inr (1, [.ref a1, .int 1, .ref a2])), (a1, .inl (c1, 300, .inl zf3))]) hP hD [0, 1] [] rfl rfl (by decide) (by decide) hk1 hFc hP1 hD1
  have hP : va_P (dC, dI) vwCl [(a0, .inr (1, [.ref a1, .int 1, .ref a2])), (a1, .inl (c1, 300, .inl zf3))] H1 := hP
  have hD : va_D A [(a0, .inr (1, [.ref a1, .int 1, .ref a2])), (a1, .inl (c1, 300, .inl zf3))] := hD
  have hP9 := hP.sub (ws' := [(a0, .inr (1, [.ref a1, .int 1, .ref a2])), (a1, .inl (c1, 300, .inl zf3))]) [0, 1] rfl
  have hD9 := hD.sub (ws' := [(a0, .inr (1, [.ref a1, .int 1, .ref a2])), (a1, .inl (c1, 300, .inl zf3))]) [0, 1] (by decide) rfl
  exact W.vret hx hb hr (fun t ht hW => ⟨⟨(), rfl, trivial, ⟨zf3, by rw [ht]; exact hP9, hD9⟩⟩, hS.F ht⟩) hS.2.2 dX1_addFact_12
set_option maxHeartbeats 4000000 in
set_option maxRecDepth 100000 in
theorem qX1_addStep_v1 (l : Launch) (dC : Nat → ClassId) (dI : Nat → Nat → Nat) (a0 a1 a2 : Nat) (c1 : ClassId) (f1 : Nat → Int32) (sz : Nat) : Met l yX1_addStep (.code yX1_addStep cX1_addStep 2 none :: GW) { frames := 2, cells := 0, slots := 0, locals := 100 } (va_Pc [.ref a0, .int 10001] (pW (dC, dI) [(a0, .inr (1, [.ref a1, .int 1, .ref a2])), (a1, .inl (c1, 300, .inl f1))] [(c1, .int)] sz)) (va_Qv (fun _ : Unit => True) (fun (_ : Unit) (t : State) => ∃ (F0 : Nat → Int32), va_P (dC, dI) vwCl [(a0, .inr (1, [.ref a1, .int 2, .ref a2])), (a1, .inl (c1, 300, .inl F0))] t.heap ∧ va_D (va_A [(a0, .inr (1, [.ref a1, .int 1, .ref a2])), (a1, .inl (c1, 300, .inl f1))] sz) [(a0, .inr (1, [.ref a1, .int 2, .ref a2])), (a1, .inl (c1, 300, .inl F0))]) (va_A [(a0, .inr (1, [.ref a1, .int 1, .ref a2])), (a1, .inl (c1, 300, .inl f1))] sz)) 0 0 (va_A [(a0, .inr (1, [.ref a1, .int 1, .ref a2])), (a1, .inl (c1, 300, .inl f1))] sz) := by
  refine Met.ofW (cc := cX1_addStep) (maxL := 2) (ret := none) (by decide) rfl ?_
  intro p e s m args below meth c0 s₁ B hml hv
  obtain ⟨rfl, hsz, hP, hK, hD0⟩ := hv
  have hx := B.exec
  have hb := B.bytes
  have hr := B.returns
  have hts := atoms_spec (ws := .code yX1_addStep cX1_addStep 2 none :: GW) B.pre
  have hG : ∀ w ∈ GW, w.before _ s = true := fun w h => hts w (List.mem_cons_of_mem _ h)
  have hown : s.vm.findClass RX1 = some m.cls := findClass_of_methodNamed B.named
  have hlocks := B.notSynchronized
  subst hsz
  have hD := hD0.self (sz := s.heap.size)
  generalize hAe : va_A [(a0, .inr (1, [.ref a1, .int 1, .ref a2])), (a1, .inl (c1, 300, .inl f1))] s.heap.size = A at hD ⊢
  have hA : ∀ q : Nat, s.heap.size ≤ q → A q := fun q h => by rw [← hAe]; exact Or.inr h
  have hS : va_S A s.heap s.heap [] := va_S.rf
  have hP : va_P (dC, dI) vwCl [(a0, .inr (1, [.ref a1, .int 1, .ref a2])), (a1, .inl (c1, 300, .inl f1))] s.heap := hP
  have hl := lv_entry ([.ref a0, .int 10001]) (n := 2) (Nat.le_of_ble_eq_true rfl)
  rw [lg_entry_eq]
  generalize (lg_sl ([.ref a0, .int 10001]) ++ List.replicate (2 - (lg_sl ([.ref a0, .int 10001])).length) Slot.unset).toArray = ls at hl ⊢
  have hl : lv_has ls 2 [(0, .ref a0), (1, .int 10001)] := hl
  refine lv_aload_n hx hb dX1_addStep_0 rfl (lv_at hl 0 rfl) ?_
  refine va_get (D := (dC, dI)) (ci := 1) (v := .int 1) (C := RX1) (T := TX1) (N := 3) hx hb hG inX1 hown hK hP 0 rfl rfl 1 (by decide) (hG _ gw201) (fun _ h9 => h9) rfl dX1_addStep_1 ?_
  refine lv_sipush (v := 300) hx hb dX1_addStep_4 (by decide) ?_
  refine lv_icmp_ge (tgt := 30) hx hb dX1_addStep_7 (by decide) (fun c_1 => absurd c_1 (by decide)) (fun c_1 => ?_)
  refine lv_aload_n hx hb dX1_addStep_10 rfl (lv_at hl 0 rfl) ?_
  refine va_get (D := (dC, dI)) (ci := 1) (v := .ref a1) (C := RX1) (T := TX1) (N := 3) hx hb hG inX1 hown hK hP 0 rfl rfl 0 (by decide) (hG _ gw200) (fun _ h9 => h9) rfl dX1_addStep_11 ?_
  refine lv_aload_n hx hb dX1_addStep_14 rfl (lv_at hl 0 rfl) ?_
  refine va_get (D := (dC, dI)) (ci := 1) (v := .int 1) (C := RX1) (T := TX1) (N := 3) hx hb hG inX1 hown hK hP 0 rfl rfl 1 (by decide) (hG _ gw201) (fun _ h9 => h9) rfl dX1_addStep_15 ?_
  refine lv_iload_n hx hb dX1_addStep_18 rfl (lv_at hl 1 rfl) ?_
  refine va_iast hx hb hK hP hD hS 1 0 rfl rfl (vin (by decide)) dX1_addStep_19 (fun H2 locs hP hD hS => ?_)
  obtain ⟨zf3, ezf3⟩ : ∃ z : Nat → Int32, z = upd f1 (1 : Int32).toNatClampNeg 10001 := ⟨_, rfl⟩
  have hP : va_P (dC, dI) vwCl [(a0, .inr (1, [.ref a1, .int 1, .ref a2])), (a1, .inl (c1, 300, .inl zf3))] H2 := by rw [ezf3]; exact hP
  have hD : va_D A [(a0, .inr (1, [.ref a1, .int 1, .ref a2])), (a1, .inl (c1, 300, .inl zf3))] := by rw [ezf3]; exact hD
  refine lv_aload_n hx hb dX1_addStep_20 rfl (lv_at hl 0 rfl) ?_
  refine lv_dup hx hb dX1_addStep_21 rfl ?_
  refine va_get (D := (dC, dI)) (ci := 1) (v := .int 1) (C := RX1) (T := TX1) (N := 3) hx hb hG inX1 hown hK hP 0 rfl rfl 1 (by decide) (hG _ gw201) (fun _ h9 => h9) rfl dX1_addStep_22 ?_
  refine lv_iconst (v := 1) hx hb dX1_addStep_25 (by decide) ?_
  refine lv_iadd hx hb dX1_addStep_26 ?_
  refine wt_c (v := 2) (by decide) ?_
  refine va_put (D := (dC, dI)) (ci := 1) (v := .int 2) (ty := .int) (C := RX1) (T := TX1) (N := 3) hx hb hG inX1 tyX1 tyX1_ok nmX1 hown hK hP hD hS 0 rfl rfl 1 (by decide) (hG _ gw201) (fun _ h9 => h9) rfl (by decide +kernel) rfl rfl (Nat.le_of_ble_eq_true rfl) dX1_addStep_27 (fun H4 locs hP hD hS => ?_)
  have hP : va_P (dC, dI) vwCl [(a0, .inr (1, [.ref a1, .int 2, .ref a2])), (a1, .inl (c1, 300, .inl zf3))] H4 := hP
  have hD : va_D A [(a0, .inr (1, [.ref a1, .int 2, .ref a2])), (a1, .inl (c1, 300, .inl zf3))] := hD
  have hP9 := hP.sub (ws' := [(a0, .inr (1, [.ref a1, .int 2, .ref a2])), (a1, .inl (c1, 300, .inl zf3))]) [0, 1] rfl
  have hD9 := hD.sub (ws' := [(a0, .inr (1, [.ref a1, .int 2, .ref a2])), (a1, .inl (c1, 300, .inl zf3))]) [0, 1] (by decide) rfl
  exact W.vret hx hb hr (fun t ht hW => ⟨⟨(), rfl, trivial, ⟨zf3, by rw [ht]; exact hP9, hD9⟩⟩, hS.F ht⟩) hS.2.2 dX1_addStep_30
set_option maxHeartbeats 4000000 in
set_option maxRecDepth 100000 in
theorem qX1_addFact_v1 (l : Launch) (dC : Nat → ClassId) (dI : Nat → Nat → Nat) (a0 a1 a2 : Nat) (c1 : ClassId) (f1 : Nat → Int32) (sz : Nat) : Met l yX1_addFact (.code yX1_addFact cX1_addFact 2 none :: GW) { frames := 4, cells := 0, slots := 0, locals := 161 } (va_Pc [.ref a0, .int 113] (pW (dC, dI) [(a0, .inr (1, [.ref a1, .int 1, .ref a2])), (a1, .inl (c1, 300, .inl f1))] [(c1, .int)] sz)) (va_Qv (fun _ : Unit => True) (fun (_ : Unit) (t : State) => ∃ (F0 : Nat → Int32), va_P (dC, dI) vwCl [(a0, .inr (1, [.ref a1, .int 2, .ref a2])), (a1, .inl (c1, 300, .inl F0))] t.heap ∧ va_D (va_A [(a0, .inr (1, [.ref a1, .int 1, .ref a2])), (a1, .inl (c1, 300, .inl f1))] sz) [(a0, .inr (1, [.ref a1, .int 2, .ref a2])), (a1, .inl (c1, 300, .inl F0))]) (va_A [(a0, .inr (1, [.ref a1, .int 1, .ref a2])), (a1, .inl (c1, 300, .inl f1))] sz)) 0 0 (va_A [(a0, .inr (1, [.ref a1, .int 1, .ref a2])), (a1, .inl (c1, 300, .inl f1))] sz) := by
  refine Met.ofW (cc := cX1_addFact) (maxL := 2) (ret := none) (by decide) rfl ?_
  intro p e s m args below meth c0 s₁ B hml hv
  obtain ⟨rfl, hsz, hP, hK, hD0⟩ := hv
  have hx := B.exec
  have hb := B.bytes
  have hr := B.returns
  have hts := atoms_spec (ws := .code yX1_addFact cX1_addFact 2 none :: GW) B.pre
  have hG : ∀ w ∈ GW, w.before _ s = true := fun w h => hts w (List.mem_cons_of_mem _ h)
  have hown : s.vm.findClass RX1 = some m.cls := findClass_of_methodNamed B.named
  have hlocks := B.notSynchronized
  subst hsz
  have hD := hD0.self (sz := s.heap.size)
  generalize hAe : va_A [(a0, .inr (1, [.ref a1, .int 1, .ref a2])), (a1, .inl (c1, 300, .inl f1))] s.heap.size = A at hD ⊢
  have hA : ∀ q : Nat, s.heap.size ≤ q → A q := fun q h => by rw [← hAe]; exact Or.inr h
  have hS : va_S A s.heap s.heap [] := va_S.rf
  have hP : va_P (dC, dI) vwCl [(a0, .inr (1, [.ref a1, .int 1, .ref a2])), (a1, .inl (c1, 300, .inl f1))] s.heap := hP
  have hl := lv_entry ([.ref a0, .int 113]) (n := 2) (Nat.le_of_ble_eq_true rfl)
  rw [lg_entry_eq]
  generalize (lg_sl ([.ref a0, .int 113]) ++ List.replicate (2 - (lg_sl ([.ref a0, .int 113])).length) Slot.unset).toArray = ls at hl ⊢
  have hl : lv_has ls 2 [(0, .ref a0), (1, .int 113)] := hl
  refine lv_aload_n hx hb dX1_addFact_0 rfl (lv_at hl 0 rfl) ?_
  refine lv_sipush (v := 10000) hx hb dX1_addFact_1 (by decide) ?_
  refine lv_iload_n hx hb dX1_addFact_4 rfl (lv_at hl 1 rfl) ?_
  refine lv_iadd hx hb dX1_addFact_5 ?_
  refine wt_c (v := 10113) (by decide) ?_
  refine lv_bipush (v := 112) hx hb dX1_addFact_6 (by decide) ?_
  refine lv_isub hx hb dX1_addFact_8 ?_
  refine wt_c (v := 10001) (by decide) ?_
  have hPc := hP.sub (ws' := [(a0, .inr (1, [.ref a1, .int 1, .ref a2])), (a1, .inl (c1, 300, .inl f1))]) [0, 1] rfl
  have hKc := hK.sub (tys' := [(c1, .int)]) [0] rfl
  have hDc := hD.sub (ws' := [(a0, .inr (1, [.ref a1, .int 1, .ref a2])), (a1, .inl (c1, 300, .inl f1))]) [0, 1] (by decide) rfl
  have hFc := va_free (wc := [(a0, .inr (1, [.ref a1, .int 1, .ref a2])), (a1, .inl (c1, 300, .inl f1))]) hD hS hA [0, 1] rfl
  refine va_callv (va_runV (As := [.int 10001]) (rest := []) ⟨hx, hb, hml, hown, hG⟩ (qX1_addStep_v1 l dC dI a0 a1 a2 c1 f1 s.heap.size ) (cwV 1 hG (goodV gw222 gw224 gw1 gw133 gw225) rfl rfl rfl hd_X1_addStep ⟨(Nat.le_of_ble_eq_true rfl), (Nat.le_of_ble_eq_true rfl)⟩) ⟨fbW, va_recv hKc hPc (ci := 1) (q0 := 0) rfl rfl, pW_in hPc hKc hDc⟩ rfl rfl hl.1 rfl (lv_room (Nat.le_of_ble_eq_true rfl)) dX1_addFact_9 ⟨(Nat.le_of_ble_eq_true rfl), (Nat.le_of_ble_eq_true rfl)⟩) hS (fun q _ h => hFc q h) hFc (fun u t H1 locs ht hvm hw hB hz1 hk1 hS => ?_)
  obtain ⟨zf3, hP1, hD1⟩ := hB
  rw [ht] at hP1
  obtain ⟨hP, hD⟩ := va_join (wr := []) (w1 := [(a0, .inr (1, [.ref a1, .int 2, .ref a2])), (a1, .inl (c1, 300, .inl zf3))]) hP hD [0, 1] [] rfl rfl (by decide) (by decide) hk1 hFc hP1 hD1
  have hP : va_P (dC, dI) vwCl [(a0, .inr (1, [.ref a1, .int 2, .ref a2])), (a1, .inl (c1, 300, .inl zf3))] H1 := hP
  have hD : va_D A [(a0, .inr (1, [.ref a1, .int 2, .ref a2])), (a1, .inl (c1, 300, .inl zf3))] := hD
  have hP9 := hP.sub (ws' := [(a0, .inr (1, [.ref a1, .int 2, .ref a2])), (a1, .inl (c1, 300, .inl zf3))]) [0, 1] rfl
  have hD9 := hD.sub (ws' := [(a0, .inr (1, [.ref a1, .int 2, .ref a2])), (a1, .inl (c1, 300, .inl zf3))]) [0, 1] (by decide) rfl
  exact W.vret hx hb hr (fun t ht hW => ⟨⟨(), rfl, trivial, ⟨zf3, by rw [ht]; exact hP9, hD9⟩⟩, hS.F ht⟩) hS.2.2 dX1_addFact_12
set_option maxHeartbeats 4000000 in
set_option maxRecDepth 100000 in
theorem qX1_addStep_v2 (l : Launch) (dC : Nat → ClassId) (dI : Nat → Nat → Nat) (a0 a1 a2 : Nat) (c1 : ClassId) (f1 : Nat → Int32) (sz : Nat) : Met l yX1_addStep (.code yX1_addStep cX1_addStep 2 none :: GW) { frames := 2, cells := 0, slots := 0, locals := 100 } (va_Pc [.ref a0, .int 3] (pW (dC, dI) [(a0, .inr (1, [.ref a1, .int 2, .ref a2])), (a1, .inl (c1, 300, .inl f1))] [(c1, .int)] sz)) (va_Qv (fun _ : Unit => True) (fun (_ : Unit) (t : State) => ∃ (F0 : Nat → Int32), va_P (dC, dI) vwCl [(a0, .inr (1, [.ref a1, .int 3, .ref a2])), (a1, .inl (c1, 300, .inl F0))] t.heap ∧ va_D (va_A [(a0, .inr (1, [.ref a1, .int 2, .ref a2])), (a1, .inl (c1, 300, .inl f1))] sz) [(a0, .inr (1, [.ref a1, .int 3, .ref a2])), (a1, .inl (c1, 300, .inl F0))]) (va_A [(a0, .inr (1, [.ref a1, .int 2, .ref a2])), (a1, .inl (c1, 300, .inl f1))] sz)) 0 0 (va_A [(a0, .inr (1, [.ref a1, .int 2, .ref a2])), (a1, .inl (c1, 300, .inl f1))] sz) := by
  refine Met.ofW (cc := cX1_addStep) (maxL := 2) (ret := none) (by decide) rfl ?_
  intro p e s m args below meth c0 s₁ B hml hv
  obtain ⟨rfl, hsz, hP, hK, hD0⟩ := hv
  have hx := B.exec
  have hb := B.bytes
  have hr := B.returns
  have hts := atoms_spec (ws := .code yX1_addStep cX1_addStep 2 none :: GW) B.pre
  have hG : ∀ w ∈ GW, w.before _ s = true := fun w h => hts w (List.mem_cons_of_mem _ h)
  have hown : s.vm.findClass RX1 = some m.cls := findClass_of_methodNamed B.named
  have hlocks := B.notSynchronized
  subst hsz
  have hD := hD0.self (sz := s.heap.size)
  generalize hAe : va_A [(a0, .inr (1, [.ref a1, .int 2, .ref a2])), (a1, .inl (c1, 300, .inl f1))] s.heap.size = A at hD ⊢
  have hA : ∀ q : Nat, s.heap.size ≤ q → A q := fun q h => by rw [← hAe]; exact Or.inr h
  have hS : va_S A s.heap s.heap [] := va_S.rf
  have hP : va_P (dC, dI) vwCl [(a0, .inr (1, [.ref a1, .int 2, .ref a2])), (a1, .inl (c1, 300, .inl f1))] s.heap := hP
  have hl := lv_entry ([.ref a0, .int 3]) (n := 2) (Nat.le_of_ble_eq_true rfl)
  rw [lg_entry_eq]
  generalize (lg_sl ([.ref a0, .int 3]) ++ List.replicate (2 - (lg_sl ([.ref a0, .int 3])).length) Slot.unset).toArray = ls at hl ⊢
  have hl : lv_has ls 2 [(0, .ref a0), (1, .int 3)] := hl
  refine lv_aload_n hx hb dX1_addStep_0 rfl (lv_at hl 0 rfl) ?_
  refine va_get (D := (dC, dI)) (ci := 1) (v := .int 2) (C := RX1) (T := TX1) (N := 3) hx hb hG inX1 hown hK hP 0 rfl rfl 1 (by decide) (hG _ gw201) (fun _ h9 => h9) rfl dX1_addStep_1 ?_
  refine lv_sipush (v := 300) hx hb dX1_addStep_4 (by decide) ?_
  refine lv_icmp_ge (tgt := 30) hx hb dX1_addStep_7 (by decide) (fun c_1 => absurd c_1 (by decide)) (fun c_1 => ?_)
  refine lv_aload_n hx hb dX1_addStep_10 rfl (lv_at hl 0 rfl) ?_
  refine va_get (D := (dC, dI)) (ci := 1) (v := .ref a1) (C := RX1) (T := TX1) (N := 3) hx hb hG inX1 hown hK hP 0 rfl rfl 0 (by decide) (hG _ gw200) (fun _ h9 => h9) rfl dX1_addStep_11 ?_
  refine lv_aload_n hx hb dX1_addStep_14 rfl (lv_at hl 0 rfl) ?_
  refine va_get (D := (dC, dI)) (ci := 1) (v := .int 2) (C := RX1) (T := TX1) (N := 3) hx hb hG inX1 hown hK hP 0 rfl rfl 1 (by decide) (hG _ gw201) (fun _ h9 => h9) rfl dX1_addStep_15 ?_
  refine lv_iload_n hx hb dX1_addStep_18 rfl (lv_at hl 1 rfl) ?_
  refine va_iast hx hb hK hP hD hS 1 0 rfl rfl (vin (by decide)) dX1_addStep_19 (fun H2 locs hP hD hS => ?_)
  obtain ⟨zf3, ezf3⟩ : ∃ z : Nat → Int32, z = upd f1 (2 : Int32).toNatClampNeg 3 := ⟨_, rfl⟩
  have hP : va_P (dC, dI) vwCl [(a0, .inr (1, [.ref a1, .int 2, .ref a2])), (a1, .inl (c1, 300, .inl zf3))] H2 := by rw [ezf3]; exact hP
  have hD : va_D A [(a0, .inr (1, [.ref a1, .int 2, .ref a2])), (a1, .inl (c1, 300, .inl zf3))] := by rw [ezf3]; exact hD
  refine lv_aload_n hx hb dX1_addStep_20 rfl (lv_at hl 0 rfl) ?_
  refine lv_dup hx hb dX1_addStep_21 rfl ?_
  refine va_get (D := (dC, dI)) (ci := 1) (v := .int 2) (C := RX1) (T := TX1) (N := 3) hx hb hG inX1 hown hK hP 0 rfl rfl 1 (by decide) (hG _ gw201) (fun _ h9 => h9) rfl dX1_addStep_22 ?_
  refine lv_iconst (v := 1) hx hb dX1_addStep_25 (by decide) ?_
  refine lv_iadd hx hb dX1_addStep_26 ?_
  refine wt_c (v := 3) (by decide) ?_
  refine va_put (D := (dC, dI)) (ci := 1) (v := .int 3) (ty := .int) (C := RX1) (T := TX1) (N := 3) hx hb hG inX1 tyX1 tyX1_ok nmX1 hown hK hP hD hS 0 rfl rfl 1 (by decide) (hG _ gw201) (fun _ h9 => h9) rfl (by decide +kernel) rfl rfl (Nat.le_of_ble_eq_true rfl) dX1_addStep_27 (fun H4 locs hP hD hS => ?_)
  have hP : va_P (dC, dI) vwCl [(a0, .inr (1, [.ref a1, .int 3, .ref a2])), (a1, .inl (c1, 300, .inl zf3))] H4 := hP
  have hD : va_D A [(a0, .inr (1, [.ref a1, .int 3, .ref a2])), (a1, .inl (c1, 300, .inl zf3))] := hD
  have hP9 := hP.sub (ws' := [(a0, .inr (1, [.ref a1, .int 3, .ref a2])), (a1, .inl (c1, 300, .inl zf3))]) [0, 1] rfl
  have hD9 := hD.sub (ws' := [(a0, .inr (1, [.ref a1, .int 3, .ref a2])), (a1, .inl (c1, 300, .inl zf3))]) [0, 1] (by decide) rfl
  exact W.vret hx hb hr (fun t ht hW => ⟨⟨(), rfl, trivial, ⟨zf3, by rw [ht]; exact hP9, hD9⟩⟩, hS.F ht⟩) hS.2.2 dX1_addStep_30
set_option maxHeartbeats 4000000 in
set_option maxRecDepth 100000 in
theorem qX1_addNumber (l : Launch) (dC : Nat → ClassId) (dI : Nat → Nat → Nat) (a0 a1 a2 : Nat) (c1 : ClassId) (f1 : Nat → Int32) (sz : Nat) : Met l yX1_addNumber (.code yX1_addNumber cX1_addNumber 2 none :: GW) { frames := 4, cells := 0, slots := 0, locals := 161 } (va_Pc [.ref a0, .int 3] (pW (dC, dI) [(a0, .inr (1, [.ref a1, .int 2, .ref a2])), (a1, .inl (c1, 300, .inl f1))] [(c1, .int)] sz)) (va_Qv (fun _ : Unit => True) (fun (_ : Unit) (t : State) => ∃ (F0 : Nat → Int32), va_P (dC, dI) vwCl [(a0, .inr (1, [.ref a1, .int 3, .ref a2])), (a1, .inl (c1, 300, .inl F0))] t.heap ∧ va_D (va_A [(a0, .inr (1, [.ref a1, .int 2, .ref a2])), (a1, .inl (c1, 300, .inl f1))] sz) [(a0, .inr (1, [.ref a1, .int 3, .ref a2])), (a1, .inl (c1, 300, .inl F0))]) (va_A [(a0, .inr (1, [.ref a1, .int 2, .ref a2])), (a1, .inl (c1, 300, .inl f1))] sz)) 0 0 (va_A [(a0, .inr (1, [.ref a1, .int 2, .ref a2])), (a1, .inl (c1, 300, .inl f1))] sz) := by
  refine Met.ofW (cc := cX1_addNumber) (maxL := 2) (ret := none) (by decide) rfl ?_
  intro p e s m args below meth c0 s₁ B hml hv
  obtain ⟨rfl, hsz, hP, hK, hD0⟩ := hv
  have hx := B.exec
  have hb := B.bytes
  have hr := B.returns
  have hts := atoms_spec (ws := .code yX1_addNumber cX1_addNumber 2 none :: GW) B.pre
  have hG : ∀ w ∈ GW, w.before _ s = true := fun w h => hts w (List.mem_cons_of_mem _ h)
  have hown : s.vm.findClass RX1 = some m.cls := findClass_of_methodNamed B.named
  have hlocks := B.notSynchronized
  subst hsz
  have hD := hD0.self (sz := s.heap.size)
  generalize hAe : va_A [(a0, .inr (1, [.ref a1, .int 2, .ref a2])), (a1, .inl (c1, 300, .inl f1))] s.heap.size = A at hD ⊢
  have hA : ∀ q : Nat, s.heap.size ≤ q → A q := fun q h => by rw [← hAe]; exact Or.inr h
  have hS : va_S A s.heap s.heap [] := va_S.rf
  have hP : va_P (dC, dI) vwCl [(a0, .inr (1, [.ref a1, .int 2, .ref a2])), (a1, .inl (c1, 300, .inl f1))] s.heap := hP
  have hl := lv_entry ([.ref a0, .int 3]) (n := 2) (Nat.le_of_ble_eq_true rfl)
  rw [lg_entry_eq]
  generalize (lg_sl ([.ref a0, .int 3]) ++ List.replicate (2 - (lg_sl ([.ref a0, .int 3])).length) Slot.unset).toArray = ls at hl ⊢
  have hl : lv_has ls 2 [(0, .ref a0), (1, .int 3)] := hl
  refine lv_aload_n hx hb dX1_addNumber_0 rfl (lv_at hl 0 rfl) ?_
  refine lv_iload_n hx hb dX1_addNumber_1 rfl (lv_at hl 1 rfl) ?_
  have hPc := hP.sub (ws' := [(a0, .inr (1, [.ref a1, .int 2, .ref a2])), (a1, .inl (c1, 300, .inl f1))]) [0, 1] rfl
  have hKc := hK.sub (tys' := [(c1, .int)]) [0] rfl
  have hDc := hD.sub (ws' := [(a0, .inr (1, [.ref a1, .int 2, .ref a2])), (a1, .inl (c1, 300, .inl f1))]) [0, 1] (by decide) rfl
  have hFc := va_free (wc := [(a0, .inr (1, [.ref a1, .int 2, .ref a2])), (a1, .inl (c1, 300, .inl f1))]) hD hS hA [0, 1] rfl
  refine va_callv (va_runV (As := [.int 3]) (rest := []) ⟨hx, hb, hml, hown, hG⟩ (qX1_addStep_v2 l dC dI a0 a1 a2 c1 f1 s.heap.size ) (cwV 1 hG (goodV gw222 gw224 gw1 gw133 gw225) rfl rfl rfl hd_X1_addStep ⟨(Nat.le_of_ble_eq_true rfl), (Nat.le_of_ble_eq_true rfl)⟩) ⟨fbW, va_recv hKc hPc (ci := 1) (q0 := 0) rfl rfl, pW_in hPc hKc hDc⟩ rfl rfl hl.1 rfl (lv_room (Nat.le_of_ble_eq_true rfl)) dX1_addNumber_2 ⟨(Nat.le_of_ble_eq_true rfl), (Nat.le_of_ble_eq_true rfl)⟩) hS (fun q _ h => hFc q h) hFc (fun u t H1 locs ht hvm hw hB hz1 hk1 hS => ?_)
  obtain ⟨zf3, hP1, hD1⟩ := hB
  rw [ht] at hP1
  obtain ⟨hP, hD⟩ := va_join (wr := []) (w1 := [(a0, .inr (1, [.ref a1, .int 3, .ref a2])), (a1, .inl (c1, 300, .inl zf3))]) hP hD [0, 1] [] rfl rfl (by decide) (by decide) hk1 hFc hP1 hD1
  have hP : va_P (dC, dI) vwCl [(a0, .inr (1, [.ref a1, .int 3, .ref a2])), (a1, .inl (c1, 300, .inl zf3))] H1 := hP
  have hD : va_D A [(a0, .inr (1, [.ref a1, .int 3, .ref a2])), (a1, .inl (c1, 300, .inl zf3))] := hD
  have hP9 := hP.sub (ws' := [(a0, .inr (1, [.ref a1, .int 3, .ref a2])), (a1, .inl (c1, 300, .inl zf3))]) [0, 1] rfl
  have hD9 := hD.sub (ws' := [(a0, .inr (1, [.ref a1, .int 3, .ref a2])), (a1, .inl (c1, 300, .inl zf3))]) [0, 1] (by decide) rfl
  exact W.vret hx hb hr (fun t ht hW => ⟨⟨(), rfl, trivial, ⟨zf3, by rw [ht]; exact hP9, hD9⟩⟩, hS.F ht⟩) hS.2.2 dX1_addNumber_5
set_option maxHeartbeats 4000000 in
set_option maxRecDepth 100000 in
theorem qX1_addStep_v3 (l : Launch) (dC : Nat → ClassId) (dI : Nat → Nat → Nat) (a0 a1 a2 : Nat) (c1 : ClassId) (f1 : Nat → Int32) (sz : Nat) : Met l yX1_addStep (.code yX1_addStep cX1_addStep 2 none :: GW) { frames := 2, cells := 0, slots := 0, locals := 100 } (va_Pc [.ref a0, .int 20042] (pW (dC, dI) [(a0, .inr (1, [.ref a1, .int 3, .ref a2])), (a1, .inl (c1, 300, .inl f1))] [(c1, .int)] sz)) (va_Qv (fun _ : Unit => True) (fun (_ : Unit) (t : State) => ∃ (F0 : Nat → Int32), va_P (dC, dI) vwCl [(a0, .inr (1, [.ref a1, .int 4, .ref a2])), (a1, .inl (c1, 300, .inl F0))] t.heap ∧ va_D (va_A [(a0, .inr (1, [.ref a1, .int 3, .ref a2])), (a1, .inl (c1, 300, .inl f1))] sz) [(a0, .inr (1, [.ref a1, .int 4, .ref a2])), (a1, .inl (c1, 300, .inl F0))]) (va_A [(a0, .inr (1, [.ref a1, .int 3, .ref a2])), (a1, .inl (c1, 300, .inl f1))] sz)) 0 0 (va_A [(a0, .inr (1, [.ref a1, .int 3, .ref a2])), (a1, .inl (c1, 300, .inl f1))] sz) := by
  refine Met.ofW (cc := cX1_addStep) (maxL := 2) (ret := none) (by decide) rfl ?_
  intro p e s m args below meth c0 s₁ B hml hv
  obtain ⟨rfl, hsz, hP, hK, hD0⟩ := hv
  have hx := B.exec
  have hb := B.bytes
  have hr := B.returns
  have hts := atoms_spec (ws := .code yX1_addStep cX1_addStep 2 none :: GW) B.pre
  have hG : ∀ w ∈ GW, w.before _ s = true := fun w h => hts w (List.mem_cons_of_mem _ h)
  have hown : s.vm.findClass RX1 = some m.cls := findClass_of_methodNamed B.named
  have hlocks := B.notSynchronized
  subst hsz
  have hD := hD0.self (sz := s.heap.size)
  generalize hAe : va_A [(a0, .inr (1, [.ref a1, .int 3, .ref a2])), (a1, .inl (c1, 300, .inl f1))] s.heap.size = A at hD ⊢
  have hA : ∀ q : Nat, s.heap.size ≤ q → A q := fun q h => by rw [← hAe]; exact Or.inr h
  have hS : va_S A s.heap s.heap [] := va_S.rf
  have hP : va_P (dC, dI) vwCl [(a0, .inr (1, [.ref a1, .int 3, .ref a2])), (a1, .inl (c1, 300, .inl f1))] s.heap := hP
  have hl := lv_entry ([.ref a0, .int 20042]) (n := 2) (Nat.le_of_ble_eq_true rfl)
  rw [lg_entry_eq]
  generalize (lg_sl ([.ref a0, .int 20042]) ++ List.replicate (2 - (lg_sl ([.ref a0, .int 20042])).length) Slot.unset).toArray = ls at hl ⊢
  have hl : lv_has ls 2 [(0, .ref a0), (1, .int 20042)] := hl
  refine lv_aload_n hx hb dX1_addStep_0 rfl (lv_at hl 0 rfl) ?_
  refine va_get (D := (dC, dI)) (ci := 1) (v := .int 3) (C := RX1) (T := TX1) (N := 3) hx hb hG inX1 hown hK hP 0 rfl rfl 1 (by decide) (hG _ gw201) (fun _ h9 => h9) rfl dX1_addStep_1 ?_
  refine lv_sipush (v := 300) hx hb dX1_addStep_4 (by decide) ?_
  refine lv_icmp_ge (tgt := 30) hx hb dX1_addStep_7 (by decide) (fun c_1 => absurd c_1 (by decide)) (fun c_1 => ?_)
  refine lv_aload_n hx hb dX1_addStep_10 rfl (lv_at hl 0 rfl) ?_
  refine va_get (D := (dC, dI)) (ci := 1) (v := .ref a1) (C := RX1) (T := TX1) (N := 3) hx hb hG inX1 hown hK hP 0 rfl rfl 0 (by decide) (hG _ gw200) (fun _ h9 => h9) rfl dX1_addStep_11 ?_
  refine lv_aload_n hx hb dX1_addStep_14 rfl (lv_at hl 0 rfl) ?_
  refine va_get (D := (dC, dI)) (ci := 1) (v := .int 3) (C := RX1) (T := TX1) (N := 3) hx hb hG inX1 hown hK hP 0 rfl rfl 1 (by decide) (hG _ gw201) (fun _ h9 => h9) rfl dX1_addStep_15 ?_
  refine lv_iload_n hx hb dX1_addStep_18 rfl (lv_at hl 1 rfl) ?_
  refine va_iast hx hb hK hP hD hS 1 0 rfl rfl (vin (by decide)) dX1_addStep_19 (fun H2 locs hP hD hS => ?_)
  obtain ⟨zf3, ezf3⟩ : ∃ z : Nat → Int32, z = upd f1 (3 : Int32).toNatClampNeg 20042 := ⟨_, rfl⟩
  have hP : va_P (dC, dI) vwCl [(a0, .inr (1, [.ref a1, .int 3, .ref a2])), (a1, .inl (c1, 300, .inl zf3))] H2 := by rw [ezf3]; exact hP
  have hD : va_D A [(a0, .inr (1, [.ref a1, .int 3, .ref a2])), (a1, .inl (c1, 300, .inl zf3))] := by rw [ezf3]; exact hD
  refine lv_aload_n hx hb dX1_addStep_20 rfl (lv_at hl 0 rfl) ?_
  refine lv_dup hx hb dX1_addStep_21 rfl ?_
  refine va_get (D := (dC, dI)) (ci := 1) (v := .int 3) (C := RX1) (T := TX1) (N := 3) hx hb hG inX1 hown hK hP 0 rfl rfl 1 (by decide) (hG _ gw201) (fun _ h9 => h9) rfl dX1_addStep_22 ?_
  refine lv_iconst (v := 1) hx hb dX1_addStep_25 (by decide) ?_
  refine lv_iadd hx hb dX1_addStep_26 ?_
  refine wt_c (v := 4) (by decide) ?_
  refine va_put (D := (dC, dI)) (ci := 1) (v := .int 4) (ty := .int) (C := RX1) (T := TX1) (N := 3) hx hb hG inX1 tyX1 tyX1_ok nmX1 hown hK hP hD hS 0 rfl rfl 1 (by decide) (hG _ gw201) (fun _ h9 => h9) rfl (by decide +kernel) rfl rfl (Nat.le_of_ble_eq_true rfl) dX1_addStep_27 (fun H4 locs hP hD hS => ?_)
  have hP : va_P (dC, dI) vwCl [(a0, .inr (1, [.ref a1, .int 4, .ref a2])), (a1, .inl (c1, 300, .inl zf3))] H4 := hP
  have hD : va_D A [(a0, .inr (1, [.ref a1, .int 4, .ref a2])), (a1, .inl (c1, 300, .inl zf3))] := hD
  have hP9 := hP.sub (ws' := [(a0, .inr (1, [.ref a1, .int 4, .ref a2])), (a1, .inl (c1, 300, .inl zf3))]) [0, 1] rfl
  have hD9 := hD.sub (ws' := [(a0, .inr (1, [.ref a1, .int 4, .ref a2])), (a1, .inl (c1, 300, .inl zf3))]) [0, 1] (by decide) rfl
  exact W.vret hx hb hr (fun t ht hW => ⟨⟨(), rfl, trivial, ⟨zf3, by rw [ht]; exact hP9, hD9⟩⟩, hS.F ht⟩) hS.2.2 dX1_addStep_30
set_option maxHeartbeats 4000000 in
set_option maxRecDepth 100000 in
theorem qX1_addOperator (l : Launch) (dC : Nat → ClassId) (dI : Nat → Nat → Nat) (a0 a1 a2 : Nat) (c1 : ClassId) (f1 : Nat → Int32) (sz : Nat) : Met l yX1_addOperator (.code yX1_addOperator cX1_addOperator 2 none :: GW) { frames := 4, cells := 0, slots := 0, locals := 161 } (va_Pc [.ref a0, .int 42] (pW (dC, dI) [(a0, .inr (1, [.ref a1, .int 3, .ref a2])), (a1, .inl (c1, 300, .inl f1))] [(c1, .int)] sz)) (va_Qv (fun _ : Unit => True) (fun (_ : Unit) (t : State) => ∃ (F0 : Nat → Int32), va_P (dC, dI) vwCl [(a0, .inr (1, [.ref a1, .int 4, .ref a2])), (a1, .inl (c1, 300, .inl F0))] t.heap ∧ va_D (va_A [(a0, .inr (1, [.ref a1, .int 3, .ref a2])), (a1, .inl (c1, 300, .inl f1))] sz) [(a0, .inr (1, [.ref a1, .int 4, .ref a2])), (a1, .inl (c1, 300, .inl F0))]) (va_A [(a0, .inr (1, [.ref a1, .int 3, .ref a2])), (a1, .inl (c1, 300, .inl f1))] sz)) 0 0 (va_A [(a0, .inr (1, [.ref a1, .int 3, .ref a2])), (a1, .inl (c1, 300, .inl f1))] sz) := by
  refine Met.ofW (cc := cX1_addOperator) (maxL := 2) (ret := none) (by decide) rfl ?_
  intro p e s m args below meth c0 s₁ B hml hv
  obtain ⟨rfl, hsz, hP, hK, hD0⟩ := hv
  have hx := B.exec
  have hb := B.bytes
  have hr := B.returns
  have hts := atoms_spec (ws := .code yX1_addOperator cX1_addOperator 2 none :: GW) B.pre
  have hG : ∀ w ∈ GW, w.before _ s = true := fun w h => hts w (List.mem_cons_of_mem _ h)
  have hown : s.vm.findClass RX1 = some m.cls := findClass_of_methodNamed B.named
  have hlocks := B.notSynchronized
  subst hsz
  have hD := hD0.self (sz := s.heap.size)
  generalize hAe : va_A [(a0, .inr (1, [.ref a1, .int 3, .ref a2])), (a1, .inl (c1, 300, .inl f1))] s.heap.size = A at hD ⊢
  have hA : ∀ q : Nat, s.heap.size ≤ q → A q := fun q h => by rw [← hAe]; exact Or.inr h
  have hS : va_S A s.heap s.heap [] := va_S.rf
  have hP : va_P (dC, dI) vwCl [(a0, .inr (1, [.ref a1, .int 3, .ref a2])), (a1, .inl (c1, 300, .inl f1))] s.heap := hP
  have hl := lv_entry ([.ref a0, .int 42]) (n := 2) (Nat.le_of_ble_eq_true rfl)
  rw [lg_entry_eq]
  generalize (lg_sl ([.ref a0, .int 42]) ++ List.replicate (2 - (lg_sl ([.ref a0, .int 42])).length) Slot.unset).toArray = ls at hl ⊢
  have hl : lv_has ls 2 [(0, .ref a0), (1, .int 42)] := hl
  refine lv_aload_n hx hb dX1_addOperator_0 rfl (lv_at hl 0 rfl) ?_
  refine lv_sipush (v := 20000) hx hb dX1_addOperator_1 (by decide) ?_
  refine lv_iload_n hx hb dX1_addOperator_4 rfl (lv_at hl 1 rfl) ?_
  refine lv_iadd hx hb dX1_addOperator_5 ?_
  refine wt_c (v := 20042) (by decide) ?_
  have hPc := hP.sub (ws' := [(a0, .inr (1, [.ref a1, .int 3, .ref a2])), (a1, .inl (c1, 300, .inl f1))]) [0, 1] rfl
  have hKc := hK.sub (tys' := [(c1, .int)]) [0] rfl
  have hDc := hD.sub (ws' := [(a0, .inr (1, [.ref a1, .int 3, .ref a2])), (a1, .inl (c1, 300, .inl f1))]) [0, 1] (by decide) rfl
  have hFc := va_free (wc := [(a0, .inr (1, [.ref a1, .int 3, .ref a2])), (a1, .inl (c1, 300, .inl f1))]) hD hS hA [0, 1] rfl
  refine va_callv (va_runV (As := [.int 20042]) (rest := []) ⟨hx, hb, hml, hown, hG⟩ (qX1_addStep_v3 l dC dI a0 a1 a2 c1 f1 s.heap.size ) (cwV 1 hG (goodV gw222 gw224 gw1 gw133 gw225) rfl rfl rfl hd_X1_addStep ⟨(Nat.le_of_ble_eq_true rfl), (Nat.le_of_ble_eq_true rfl)⟩) ⟨fbW, va_recv hKc hPc (ci := 1) (q0 := 0) rfl rfl, pW_in hPc hKc hDc⟩ rfl rfl hl.1 rfl (lv_room (Nat.le_of_ble_eq_true rfl)) dX1_addOperator_6 ⟨(Nat.le_of_ble_eq_true rfl), (Nat.le_of_ble_eq_true rfl)⟩) hS (fun q _ h => hFc q h) hFc (fun u t H1 locs ht hvm hw hB hz1 hk1 hS => ?_)
  obtain ⟨zf3, hP1, hD1⟩ := hB
  rw [ht] at hP1
  obtain ⟨hP, hD⟩ := va_join (wr := []) (w1 := [(a0, .inr (1, [.ref a1, .int 4, .ref a2])), (a1, .inl (c1, 300, .inl zf3))]) hP hD [0, 1] [] rfl rfl (by decide) (by decide) hk1 hFc hP1 hD1
  have hP : va_P (dC, dI) vwCl [(a0, .inr (1, [.ref a1, .int 4, .ref a2])), (a1, .inl (c1, 300, .inl zf3))] H1 := hP
  have hD : va_D A [(a0, .inr (1, [.ref a1, .int 4, .ref a2])), (a1, .inl (c1, 300, .inl zf3))] := hD
  have hP9 := hP.sub (ws' := [(a0, .inr (1, [.ref a1, .int 4, .ref a2])), (a1, .inl (c1, 300, .inl zf3))]) [0, 1] rfl
  have hD9 := hD.sub (ws' := [(a0, .inr (1, [.ref a1, .int 4, .ref a2])), (a1, .inl (c1, 300, .inl zf3))]) [0, 1] (by decide) rfl
  exact W.vret hx hb hr (fun t ht hW => ⟨⟨(), rfl, trivial, ⟨zf3, by rw [ht]; exact hP9, hD9⟩⟩, hS.F ht⟩) hS.2.2 dX1_addOperator_9
set_option maxHeartbeats 4000000 in
set_option maxRecDepth 100000 in
theorem qX1_addStep_v4 (l : Launch) (dC : Nat → ClassId) (dI : Nat → Nat → Nat) (a0 a1 a2 : Nat) (c1 : ClassId) (f1 : Nat → Int32) (sz : Nat) : Met l yX1_addStep (.code yX1_addStep cX1_addStep 2 none :: GW) { frames := 2, cells := 0, slots := 0, locals := 100 } (va_Pc [.ref a0, .int 20043] (pW (dC, dI) [(a0, .inr (1, [.ref a1, .int 4, .ref a2])), (a1, .inl (c1, 300, .inl f1))] [(c1, .int)] sz)) (va_Qv (fun _ : Unit => True) (fun (_ : Unit) (t : State) => ∃ (F0 : Nat → Int32), va_P (dC, dI) vwCl [(a0, .inr (1, [.ref a1, .int 5, .ref a2])), (a1, .inl (c1, 300, .inl F0))] t.heap ∧ va_D (va_A [(a0, .inr (1, [.ref a1, .int 4, .ref a2])), (a1, .inl (c1, 300, .inl f1))] sz) [(a0, .inr (1, [.ref a1, .int 5, .ref a2])), (a1, .inl (c1, 300, .inl F0))]) (va_A [(a0, .inr (1, [.ref a1, .int 4, .ref a2])), (a1, .inl (c1, 300, .inl f1))] sz)) 0 0 (va_A [(a0, .inr (1, [.ref a1, .int 4, .ref a2])), (a1, .inl (c1, 300, .inl f1))] sz) := by
  refine Met.ofW (cc := cX1_addStep) (maxL := 2) (ret := none) (by decide) rfl ?_
  intro p e s m args below meth c0 s₁ B hml hv
  obtain ⟨rfl, hsz, hP, hK, hD0⟩ := hv
  have hx := B.exec
  have hb := B.bytes
  have hr := B.returns
  have hts := atoms_spec (ws := .code yX1_addStep cX1_addStep 2 none :: GW) B.pre
  have hG : ∀ w ∈ GW, w.before _ s = true := fun w h => hts w (List.mem_cons_of_mem _ h)
  have hown : s.vm.findClass RX1 = some m.cls := findClass_of_methodNamed B.named
  have hlocks := B.notSynchronized
  subst hsz
  have hD := hD0.self (sz := s.heap.size)
  generalize hAe : va_A [(a0, .inr (1, [.ref a1, .int 4, .ref a2])), (a1, .inl (c1, 300, .inl f1))] s.heap.size = A at hD ⊢
  have hA : ∀ q : Nat, s.heap.size ≤ q → A q := fun q h => by rw [← hAe]; exact Or.inr h
  have hS : va_S A s.heap s.heap [] := va_S.rf
  have hP : va_P (dC, dI) vwCl [(a0, .inr (1, [.ref a1, .int 4, .ref a2])), (a1, .inl (c1, 300, .inl f1))] s.heap := hP
  have hl := lv_entry ([.ref a0, .int 20043]) (n := 2) (Nat.le_of_ble_eq_true rfl)
  rw [lg_entry_eq]
  generalize (lg_sl ([.ref a0, .int 20043]) ++ List.replicate (2 - (lg_sl ([.ref a0, .int 20043])).length) Slot.unset).toArray = ls at hl ⊢
  have hl : lv_has ls 2 [(0, .ref a0), (1, .int 20043)] := hl
  refine lv_aload_n hx hb dX1_addStep_0 rfl (lv_at hl 0 rfl) ?_
  refine va_get (D := (dC, dI)) (ci := 1) (v := .int 4) (C := RX1) (T := TX1) (N := 3) hx hb hG inX1 hown hK hP 0 rfl rfl 1 (by decide) (hG _ gw201) (fun _ h9 => h9) rfl dX1_addStep_1 ?_
  refine lv_sipush (v := 300) hx hb dX1_addStep_4 (by decide) ?_
  refine lv_icmp_ge (tgt := 30) hx hb dX1_addStep_7 (by decide) (fun c_1 => absurd c_1 (by decide)) (fun c_1 => ?_)
  refine lv_aload_n hx hb dX1_addStep_10 rfl (lv_at hl 0 rfl) ?_
  refine va_get (D := (dC, dI)) (ci := 1) (v := .ref a1) (C := RX1) (T := TX1) (N := 3) hx hb hG inX1 hown hK hP 0 rfl rfl 0 (by decide) (hG _ gw200) (fun _ h9 => h9) rfl dX1_addStep_11 ?_
  refine lv_aload_n hx hb dX1_addStep_14 rfl (lv_at hl 0 rfl) ?_
  refine va_get (D := (dC, dI)) (ci := 1) (v := .int 4) (C := RX1) (T := TX1) (N := 3) hx hb hG inX1 hown hK hP 0 rfl rfl 1 (by decide) (hG _ gw201) (fun _ h9 => h9) rfl dX1_addStep_15 ?_
  refine lv_iload_n hx hb dX1_addStep_18 rfl (lv_at hl 1 rfl) ?_
  refine va_iast hx hb hK hP hD hS 1 0 rfl rfl (vin (by decide)) dX1_addStep_19 (fun H2 locs hP hD hS => ?_)
  obtain ⟨zf3, ezf3⟩ : ∃ z : Nat → Int32, z = upd f1 (4 : Int32).toNatClampNeg 20043 := ⟨_, rfl⟩
  have hP : va_P (dC, dI) vwCl [(a0, .inr (1, [.ref a1, .int 4, .ref a2])), (a1, .inl (c1, 300, .inl zf3))] H2 := by rw [ezf3]; exact hP
  have hD : va_D A [(a0, .inr (1, [.ref a1, .int 4, .ref a2])), (a1, .inl (c1, 300, .inl zf3))] := by rw [ezf3]; exact hD
  refine lv_aload_n hx hb dX1_addStep_20 rfl (lv_at hl 0 rfl) ?_
  refine lv_dup hx hb dX1_addStep_21 rfl ?_
  refine va_get (D := (dC, dI)) (ci := 1) (v := .int 4) (C := RX1) (T := TX1) (N := 3) hx hb hG inX1 hown hK hP 0 rfl rfl 1 (by decide) (hG _ gw201) (fun _ h9 => h9) rfl dX1_addStep_22 ?_
  refine lv_iconst (v := 1) hx hb dX1_addStep_25 (by decide) ?_
  refine lv_iadd hx hb dX1_addStep_26 ?_
  refine wt_c (v := 5) (by decide) ?_
  refine va_put (D := (dC, dI)) (ci := 1) (v := .int 5) (ty := .int) (C := RX1) (T := TX1) (N := 3) hx hb hG inX1 tyX1 tyX1_ok nmX1 hown hK hP hD hS 0 rfl rfl 1 (by decide) (hG _ gw201) (fun _ h9 => h9) rfl (by decide +kernel) rfl rfl (Nat.le_of_ble_eq_true rfl) dX1_addStep_27 (fun H4 locs hP hD hS => ?_)
  have hP : va_P (dC, dI) vwCl [(a0, .inr (1, [.ref a1, .int 5, .ref a2])), (a1, .inl (c1, 300, .inl zf3))] H4 := hP
  have hD : va_D A [(a0, .inr (1, [.ref a1, .int 5, .ref a2])), (a1, .inl (c1, 300, .inl zf3))] := hD
  have hP9 := hP.sub (ws' := [(a0, .inr (1, [.ref a1, .int 5, .ref a2])), (a1, .inl (c1, 300, .inl zf3))]) [0, 1] rfl
  have hD9 := hD.sub (ws' := [(a0, .inr (1, [.ref a1, .int 5, .ref a2])), (a1, .inl (c1, 300, .inl zf3))]) [0, 1] (by decide) rfl
  exact W.vret hx hb hr (fun t ht hW => ⟨⟨(), rfl, trivial, ⟨zf3, by rw [ht]; exact hP9, hD9⟩⟩, hS.F ht⟩) hS.2.2 dX1_addStep_30
set_option maxHeartbeats 4000000 in
set_option maxRecDepth 100000 in
theorem qX1_addOperator_v1 (l : Launch) (dC : Nat → ClassId) (dI : Nat → Nat → Nat) (a0 a1 a2 : Nat) (c1 : ClassId) (f1 : Nat → Int32) (sz : Nat) : Met l yX1_addOperator (.code yX1_addOperator cX1_addOperator 2 none :: GW) { frames := 4, cells := 0, slots := 0, locals := 161 } (va_Pc [.ref a0, .int 43] (pW (dC, dI) [(a0, .inr (1, [.ref a1, .int 4, .ref a2])), (a1, .inl (c1, 300, .inl f1))] [(c1, .int)] sz)) (va_Qv (fun _ : Unit => True) (fun (_ : Unit) (t : State) => ∃ (F0 : Nat → Int32), va_P (dC, dI) vwCl [(a0, .inr (1, [.ref a1, .int 5, .ref a2])), (a1, .inl (c1, 300, .inl F0))] t.heap ∧ va_D (va_A [(a0, .inr (1, [.ref a1, .int 4, .ref a2])), (a1, .inl (c1, 300, .inl f1))] sz) [(a0, .inr (1, [.ref a1, .int 5, .ref a2])), (a1, .inl (c1, 300, .inl F0))]) (va_A [(a0, .inr (1, [.ref a1, .int 4, .ref a2])), (a1, .inl (c1, 300, .inl f1))] sz)) 0 0 (va_A [(a0, .inr (1, [.ref a1, .int 4, .ref a2])), (a1, .inl (c1, 300, .inl f1))] sz) := by
  refine Met.ofW (cc := cX1_addOperator) (maxL := 2) (ret := none) (by decide) rfl ?_
  intro p e s m args below meth c0 s₁ B hml hv
  obtain ⟨rfl, hsz, hP, hK, hD0⟩ := hv
  have hx := B.exec
  have hb := B.bytes
  have hr := B.returns
  have hts := atoms_spec (ws := .code yX1_addOperator cX1_addOperator 2 none :: GW) B.pre
  have hG : ∀ w ∈ GW, w.before _ s = true := fun w h => hts w (List.mem_cons_of_mem _ h)
  have hown : s.vm.findClass RX1 = some m.cls := findClass_of_methodNamed B.named
  have hlocks := B.notSynchronized
  subst hsz
  have hD := hD0.self (sz := s.heap.size)
  generalize hAe : va_A [(a0, .inr (1, [.ref a1, .int 4, .ref a2])), (a1, .inl (c1, 300, .inl f1))] s.heap.size = A at hD ⊢
  have hA : ∀ q : Nat, s.heap.size ≤ q → A q := fun q h => by rw [← hAe]; exact Or.inr h
  have hS : va_S A s.heap s.heap [] := va_S.rf
  have hP : va_P (dC, dI) vwCl [(a0, .inr (1, [.ref a1, .int 4, .ref a2])), (a1, .inl (c1, 300, .inl f1))] s.heap := hP
  have hl := lv_entry ([.ref a0, .int 43]) (n := 2) (Nat.le_of_ble_eq_true rfl)
  rw [lg_entry_eq]
  generalize (lg_sl ([.ref a0, .int 43]) ++ List.replicate (2 - (lg_sl ([.ref a0, .int 43])).length) Slot.unset).toArray = ls at hl ⊢
  have hl : lv_has ls 2 [(0, .ref a0), (1, .int 43)] := hl
  refine lv_aload_n hx hb dX1_addOperator_0 rfl (lv_at hl 0 rfl) ?_
  refine lv_sipush (v := 20000) hx hb dX1_addOperator_1 (by decide) ?_
  refine lv_iload_n hx hb dX1_addOperator_4 rfl (lv_at hl 1 rfl) ?_
  refine lv_iadd hx hb dX1_addOperator_5 ?_
  refine wt_c (v := 20043) (by decide) ?_
  have hPc := hP.sub (ws' := [(a0, .inr (1, [.ref a1, .int 4, .ref a2])), (a1, .inl (c1, 300, .inl f1))]) [0, 1] rfl
  have hKc := hK.sub (tys' := [(c1, .int)]) [0] rfl
  have hDc := hD.sub (ws' := [(a0, .inr (1, [.ref a1, .int 4, .ref a2])), (a1, .inl (c1, 300, .inl f1))]) [0, 1] (by decide) rfl
  have hFc := va_free (wc := [(a0, .inr (1, [.ref a1, .int 4, .ref a2])), (a1, .inl (c1, 300, .inl f1))]) hD hS hA [0, 1] rfl
  refine va_callv (va_runV (As := [.int 20043]) (rest := []) ⟨hx, hb, hml, hown, hG⟩ (qX1_addStep_v4 l dC dI a0 a1 a2 c1 f1 s.heap.size ) (cwV 1 hG (goodV gw222 gw224 gw1 gw133 gw225) rfl rfl rfl hd_X1_addStep ⟨(Nat.le_of_ble_eq_true rfl), (Nat.le_of_ble_eq_true rfl)⟩) ⟨fbW, va_recv hKc hPc (ci := 1) (q0 := 0) rfl rfl, pW_in hPc hKc hDc⟩ rfl rfl hl.1 rfl (lv_room (Nat.le_of_ble_eq_true rfl)) dX1_addOperator_6 ⟨(Nat.le_of_ble_eq_true rfl), (Nat.le_of_ble_eq_true rfl)⟩) hS (fun q _ h => hFc q h) hFc (fun u t H1 locs ht hvm hw hB hz1 hk1 hS => ?_)
  obtain ⟨zf3, hP1, hD1⟩ := hB
  rw [ht] at hP1
  obtain ⟨hP, hD⟩ := va_join (wr := []) (w1 := [(a0, .inr (1, [.ref a1, .int 5, .ref a2])), (a1, .inl (c1, 300, .inl zf3))]) hP hD [0, 1] [] rfl rfl (by decide) (by decide) hk1 hFc hP1 hD1
  have hP : va_P (dC, dI) vwCl [(a0, .inr (1, [.ref a1, .int 5, .ref a2])), (a1, .inl (c1, 300, .inl zf3))] H1 := hP
  have hD : va_D A [(a0, .inr (1, [.ref a1, .int 5, .ref a2])), (a1, .inl (c1, 300, .inl zf3))] := hD
  have hP9 := hP.sub (ws' := [(a0, .inr (1, [.ref a1, .int 5, .ref a2])), (a1, .inl (c1, 300, .inl zf3))]) [0, 1] rfl
  have hD9 := hD.sub (ws' := [(a0, .inr (1, [.ref a1, .int 5, .ref a2])), (a1, .inl (c1, 300, .inl zf3))]) [0, 1] (by decide) rfl
  exact W.vret hx hb hr (fun t ht hW => ⟨⟨(), rfl, trivial, ⟨zf3, by rw [ht]; exact hP9, hD9⟩⟩, hS.F ht⟩) hS.2.2 dX1_addOperator_9
set_option maxHeartbeats 4000000 in
set_option maxRecDepth 100000 in
theorem qX1_addStep_v5 (l : Launch) (dC : Nat → ClassId) (dI : Nat → Nat → Nat) (a0 a1 a2 : Nat) (c1 : ClassId) (f1 : Nat → Int32) (sz : Nat) : Met l yX1_addStep (.code yX1_addStep cX1_addStep 2 none :: GW) { frames := 2, cells := 0, slots := 0, locals := 100 } (va_Pc [.ref a0, .int 10003] (pW (dC, dI) [(a0, .inr (1, [.ref a1, .int 5, .ref a2])), (a1, .inl (c1, 300, .inl f1))] [(c1, .int)] sz)) (va_Qv (fun _ : Unit => True) (fun (_ : Unit) (t : State) => ∃ (F0 : Nat → Int32), va_P (dC, dI) vwCl [(a0, .inr (1, [.ref a1, .int 6, .ref a2])), (a1, .inl (c1, 300, .inl F0))] t.heap ∧ va_D (va_A [(a0, .inr (1, [.ref a1, .int 5, .ref a2])), (a1, .inl (c1, 300, .inl f1))] sz) [(a0, .inr (1, [.ref a1, .int 6, .ref a2])), (a1, .inl (c1, 300, .inl F0))]) (va_A [(a0, .inr (1, [.ref a1, .int 5, .ref a2])), (a1, .inl (c1, 300, .inl f1))] sz)) 0 0 (va_A [(a0, .inr (1, [.ref a1, .int 5, .ref a2])), (a1, .inl (c1, 300, .inl f1))] sz) := by
  refine Met.ofW (cc := cX1_addStep) (maxL := 2) (ret := none) (by decide) rfl ?_
  intro p e s m args below meth c0 s₁ B hml hv
  obtain ⟨rfl, hsz, hP, hK, hD0⟩ := hv
  have hx := B.exec
  have hb := B.bytes
  have hr := B.returns
  have hts := atoms_spec (ws := .code yX1_addStep cX1_addStep 2 none :: GW) B.pre
  have hG : ∀ w ∈ GW, w.before _ s = true := fun w h => hts w (List.mem_cons_of_mem _ h)
  have hown : s.vm.findClass RX1 = some m.cls := findClass_of_methodNamed B.named
  have hlocks := B.notSynchronized
  subst hsz
  have hD := hD0.self (sz := s.heap.size)
  generalize hAe : va_A [(a0, .inr (1, [.ref a1, .int 5, .ref a2])), (a1, .inl (c1, 300, .inl f1))] s.heap.size = A at hD ⊢
  have hA : ∀ q : Nat, s.heap.size ≤ q → A q := fun q h => by rw [← hAe]; exact Or.inr h
  have hS : va_S A s.heap s.heap [] := va_S.rf
  have hP : va_P (dC, dI) vwCl [(a0, .inr (1, [.ref a1, .int 5, .ref a2])), (a1, .inl (c1, 300, .inl f1))] s.heap := hP
  have hl := lv_entry ([.ref a0, .int 10003]) (n := 2) (Nat.le_of_ble_eq_true rfl)
  rw [lg_entry_eq]
  generalize (lg_sl ([.ref a0, .int 10003]) ++ List.replicate (2 - (lg_sl ([.ref a0, .int 10003])).length) Slot.unset).toArray = ls at hl ⊢
  have hl : lv_has ls 2 [(0, .ref a0), (1, .int 10003)] := hl
  refine lv_aload_n hx hb dX1_addStep_0 rfl (lv_at hl 0 rfl) ?_
  refine va_get (D := (dC, dI)) (ci := 1) (v := .int 5) (C := RX1) (T := TX1) (N := 3) hx hb hG inX1 hown hK hP 0 rfl rfl 1 (by decide) (hG _ gw201) (fun _ h9 => h9) rfl dX1_addStep_1 ?_
  refine lv_sipush (v := 300) hx hb dX1_addStep_4 (by decide) ?_
  refine lv_icmp_ge (tgt := 30) hx hb dX1_addStep_7 (by decide) (fun c_1 => absurd c_1 (by decide)) (fun c_1 => ?_)
  refine lv_aload_n hx hb dX1_addStep_10 rfl (lv_at hl 0 rfl) ?_
  refine va_get (D := (dC, dI)) (ci := 1) (v := .ref a1) (C := RX1) (T := TX1) (N := 3) hx hb hG inX1 hown hK hP 0 rfl rfl 0 (by decide) (hG _ gw200) (fun _ h9 => h9) rfl dX1_addStep_11 ?_
  refine lv_aload_n hx hb dX1_addStep_14 rfl (lv_at hl 0 rfl) ?_
  refine va_get (D := (dC, dI)) (ci := 1) (v := .int 5) (C := RX1) (T := TX1) (N := 3) hx hb hG inX1 hown hK hP 0 rfl rfl 1 (by decide) (hG _ gw201) (fun _ h9 => h9) rfl dX1_addStep_15 ?_
  refine lv_iload_n hx hb dX1_addStep_18 rfl (lv_at hl 1 rfl) ?_
  refine va_iast hx hb hK hP hD hS 1 0 rfl rfl (vin (by decide)) dX1_addStep_19 (fun H2 locs hP hD hS => ?_)
  obtain ⟨zf3, ezf3⟩ : ∃ z : Nat → Int32, z = upd f1 (5 : Int32).toNatClampNeg 10003 := ⟨_, rfl⟩
  have hP : va_P (dC, dI) vwCl [(a0, .inr (1, [.ref a1, .int 5, .ref a2])), (a1, .inl (c1, 300, .inl zf3))] H2 := by rw [ezf3]; exact hP
  have hD : va_D A [(a0, .inr (1, [.ref a1, .int 5, .ref a2])), (a1, .inl (c1, 300, .inl zf3))] := by rw [ezf3]; exact hD
  refine lv_aload_n hx hb dX1_addStep_20 rfl (lv_at hl 0 rfl) ?_
  refine lv_dup hx hb dX1_addStep_21 rfl ?_
  refine va_get (D := (dC, dI)) (ci := 1) (v := .int 5) (C := RX1) (T := TX1) (N := 3) hx hb hG inX1 hown hK hP 0 rfl rfl 1 (by decide) (hG _ gw201) (fun _ h9 => h9) rfl dX1_addStep_22 ?_
  refine lv_iconst (v := 1) hx hb dX1_addStep_25 (by decide) ?_
  refine lv_iadd hx hb dX1_addStep_26 ?_
  refine wt_c (v := 6) (by decide) ?_
  refine va_put (D := (dC, dI)) (ci := 1) (v := .int 6) (ty := .int) (C := RX1) (T := TX1) (N := 3) hx hb hG inX1 tyX1 tyX1_ok nmX1 hown hK hP hD hS 0 rfl rfl 1 (by decide) (hG _ gw201) (fun _ h9 => h9) rfl (by decide +kernel) rfl rfl (Nat.le_of_ble_eq_true rfl) dX1_addStep_27 (fun H4 locs hP hD hS => ?_)
  have hP : va_P (dC, dI) vwCl [(a0, .inr (1, [.ref a1, .int 6, .ref a2])), (a1, .inl (c1, 300, .inl zf3))] H4 := hP
  have hD : va_D A [(a0, .inr (1, [.ref a1, .int 6, .ref a2])), (a1, .inl (c1, 300, .inl zf3))] := hD
  have hP9 := hP.sub (ws' := [(a0, .inr (1, [.ref a1, .int 6, .ref a2])), (a1, .inl (c1, 300, .inl zf3))]) [0, 1] rfl
  have hD9 := hD.sub (ws' := [(a0, .inr (1, [.ref a1, .int 6, .ref a2])), (a1, .inl (c1, 300, .inl zf3))]) [0, 1] (by decide) rfl
  exact W.vret hx hb hr (fun t ht hW => ⟨⟨(), rfl, trivial, ⟨zf3, by rw [ht]; exact hP9, hD9⟩⟩, hS.F ht⟩) hS.2.2 dX1_addStep_30
set_option maxHeartbeats 4000000 in
set_option maxRecDepth 100000 in
theorem qX1_addFact_v2 (l : Launch) (dC : Nat → ClassId) (dI : Nat → Nat → Nat) (a0 a1 a2 : Nat) (c1 : ClassId) (f1 : Nat → Int32) (sz : Nat) : Met l yX1_addFact (.code yX1_addFact cX1_addFact 2 none :: GW) { frames := 4, cells := 0, slots := 0, locals := 161 } (va_Pc [.ref a0, .int 115] (pW (dC, dI) [(a0, .inr (1, [.ref a1, .int 5, .ref a2])), (a1, .inl (c1, 300, .inl f1))] [(c1, .int)] sz)) (va_Qv (fun _ : Unit => True) (fun (_ : Unit) (t : State) => ∃ (F0 : Nat → Int32), va_P (dC, dI) vwCl [(a0, .inr (1, [.ref a1, .int 6, .ref a2])), (a1, .inl (c1, 300, .inl F0))] t.heap ∧ va_D (va_A [(a0, .inr (1, [.ref a1, .int 5, .ref a2])), (a1, .inl (c1, 300, .inl f1))] sz) [(a0, .inr (1, [.ref a1, .int 6, .ref a2])), (a1, .inl (c1, 300, .inl F0))]) (va_A [(a0, .inr (1, [.ref a1, .int 5, .ref a2])), (a1, .inl (c1, 300, .inl f1))] sz)) 0 0 (va_A [(a0, .inr (1, [.ref a1, .int 5, .ref a2])), (a1, .inl (c1, 300, .inl f1))] sz) := by
  refine Met.ofW (cc := cX1_addFact) (maxL := 2) (ret := none) (by decide) rfl ?_
  intro p e s m args below meth c0 s₁ B hml hv
  obtain ⟨rfl, hsz, hP, hK, hD0⟩ := hv
  have hx := B.exec
  have hb := B.bytes
  have hr := B.returns
  have hts := atoms_spec (ws := .code yX1_addFact cX1_addFact 2 none :: GW) B.pre
  have hG : ∀ w ∈ GW, w.before _ s = true := fun w h => hts w (List.mem_cons_of_mem _ h)
  have hown : s.vm.findClass RX1 = some m.cls := findClass_of_methodNamed B.named
  have hlocks := B.notSynchronized
  subst hsz
  have hD := hD0.self (sz := s.heap.size)
  generalize hAe : va_A [(a0, .inr (1, [.ref a1, .int 5, .ref a2])), (a1, .inl (c1, 300, .inl f1))] s.heap.size = A at hD ⊢
  have hA : ∀ q : Nat, s.heap.size ≤ q → A q := fun q h => by rw [← hAe]; exact Or.inr h
  have hS : va_S A s.heap s.heap [] := va_S.rf
  have hP : va_P (dC, dI) vwCl [(a0, .inr (1, [.ref a1, .int 5, .ref a2])), (a1, .inl (c1, 300, .inl f1))] s.heap := hP
  have hl := lv_entry ([.ref a0, .int 115]) (n := 2) (Nat.le_of_ble_eq_true rfl)
  rw [lg_entry_eq]
  generalize (lg_sl ([.ref a0, .int 115]) ++ List.replicate (2 - (lg_sl ([.ref a0, .int 115])).length) Slot.unset).toArray = ls at hl ⊢
  have hl : lv_has ls 2 [(0, .ref a0), (1, .int 115)] := hl
  refine lv_aload_n hx hb dX1_addFact_0 rfl (lv_at hl 0 rfl) ?_
  refine lv_sipush (v := 10000) hx hb dX1_addFact_1 (by decide) ?_
  refine lv_iload_n hx hb dX1_addFact_4 rfl (lv_at hl 1 rfl) ?_
  refine lv_iadd hx hb dX1_addFact_5 ?_
  refine wt_c (v := 10115) (by decide) ?_
  refine lv_bipush (v := 112) hx hb dX1_addFact_6 (by decide) ?_
  refine lv_isub hx hb dX1_addFact_8 ?_
  refine wt_c (v := 10003) (by decide) ?_
  have hPc := hP.sub (ws' := [(a0, .inr (1, [.ref a1, .int 5, .ref a2])), (a1, .inl (c1, 300, .inl f1))]) [0, 1] rfl
  have hKc := hK.sub (tys' := [(c1, .int)]) [0] rfl
  have hDc := hD.sub (ws' := [(a0, .inr (1, [.ref a1, .int 5, .ref a2])), (a1, .inl (c1, 300, .inl f1))]) [0, 1] (by decide) rfl
  have hFc := va_free (wc := [(a0, .inr (1, [.ref a1, .int 5, .ref a2])), (a1, .inl (c1, 300, .inl f1))]) hD hS hA [0, 1] rfl
  refine va_callv (va_runV (As := [.int 10003]) (rest := []) ⟨hx, hb, hml, hown, hG⟩ (qX1_addStep_v5 l dC dI a0 a1 a2 c1 f1 s.heap.size ) (cwV 1 hG (goodV gw222 gw224 gw1 gw133 gw225) rfl rfl rfl hd_X1_addStep ⟨(Nat.le_of_ble_eq_true rfl), (Nat.le_of_ble_eq_true rfl)⟩) ⟨fbW, va_recv hKc hPc (ci := 1) (q0 := 0) rfl rfl, pW_in hPc hKc hDc⟩ rfl rfl hl.1 rfl (lv_room (Nat.le_of_ble_eq_true rfl)) dX1_addFact_9 ⟨(Nat.le_of_ble_eq_true rfl), (Nat.le_of_ble_eq_true rfl)⟩) hS (fun q _ h => hFc q h) hFc (fun u t H1 locs ht hvm hw hB hz1 hk1 hS => ?_)
  obtain ⟨zf3, hP1, hD1⟩ := hB
  rw [ht] at hP1
  obtain ⟨hP, hD⟩ := va_join (wr := []) (w1 := [(a0, .inr (1, [.ref a1, .int 6, .ref a2])), (a1, .inl (c1, 300, .inl zf3))]) hP hD [0, 1] [] rfl rfl (by decide) (by decide) hk1 hFc hP1 hD1
  have hP : va_P (dC, dI) vwCl [(a0, .inr (1, [.ref a1, .int 6, .ref a2])), (a1, .inl (c1, 300, .inl zf3))] H1 := hP
  have hD : va_D A [(a0, .inr (1, [.ref a1, .int 6, .ref a2])), (a1, .inl (c1, 300, .inl zf3))] := hD
  have hP9 := hP.sub (ws' := [(a0, .inr (1, [.ref a1, .int 6, .ref a2])), (a1, .inl (c1, 300, .inl zf3))]) [0, 1] rfl
  have hD9 := hD.sub (ws' := [(a0, .inr (1, [.ref a1, .int 6, .ref a2])), (a1, .inl (c1, 300, .inl zf3))]) [0, 1] (by decide) rfl
  exact W.vret hx hb hr (fun t ht hW => ⟨⟨(), rfl, trivial, ⟨zf3, by rw [ht]; exact hP9, hD9⟩⟩, hS.F ht⟩) hS.2.2 dX1_addFact_12
set_option maxHeartbeats 4000000 in
set_option maxRecDepth 100000 in
theorem qX1_addStep_v6 (l : Launch) (dC : Nat → ClassId) (dI : Nat → Nat → Nat) (a0 a1 a2 : Nat) (c1 : ClassId) (f1 : Nat → Int32) (sz : Nat) : Met l yX1_addStep (.code yX1_addStep cX1_addStep 2 none :: GW) { frames := 2, cells := 0, slots := 0, locals := 100 } (va_Pc [.ref a0, .int 20045] (pW (dC, dI) [(a0, .inr (1, [.ref a1, .int 6, .ref a2])), (a1, .inl (c1, 300, .inl f1))] [(c1, .int)] sz)) (va_Qv (fun _ : Unit => True) (fun (_ : Unit) (t : State) => ∃ (F0 : Nat → Int32), va_P (dC, dI) vwCl [(a0, .inr (1, [.ref a1, .int 7, .ref a2])), (a1, .inl (c1, 300, .inl F0))] t.heap ∧ va_D (va_A [(a0, .inr (1, [.ref a1, .int 6, .ref a2])), (a1, .inl (c1, 300, .inl f1))] sz) [(a0, .inr (1, [.ref a1, .int 7, .ref a2])), (a1, .inl (c1, 300, .inl F0))]) (va_A [(a0, .inr (1, [.ref a1, .int 6, .ref a2])), (a1, .inl (c1, 300, .inl f1))] sz)) 0 0 (va_A [(a0, .inr (1, [.ref a1, .int 6, .ref a2])), (a1, .inl (c1, 300, .inl f1))] sz) := by
  refine Met.ofW (cc := cX1_addStep) (maxL := 2) (ret := none) (by decide) rfl ?_
  intro p e s m args below meth c0 s₁ B hml hv
  obtain ⟨rfl, hsz, hP, hK, hD0⟩ := hv
  have hx := B.exec
  have hb := B.bytes
  have hr := B.returns
  have hts := atoms_spec (ws := .code yX1_addStep cX1_addStep 2 none :: GW) B.pre
  have hG : ∀ w ∈ GW, w.before _ s = true := fun w h => hts w (List.mem_cons_of_mem _ h)
  have hown : s.vm.findClass RX1 = some m.cls := findClass_of_methodNamed B.named
  have hlocks := B.notSynchronized
  subst hsz
  have hD := hD0.self (sz := s.heap.size)
  generalize hAe : va_A [(a0, .inr (1, [.ref a1, .int 6, .ref a2])), (a1, .inl (c1, 300, .inl f1))] s.heap.size = A at hD ⊢
  have hA : ∀ q : Nat, s.heap.size ≤ q → A q := fun q h => by rw [← hAe]; exact Or.inr h
  have hS : va_S A s.heap s.heap [] := va_S.rf
  have hP : va_P (dC, dI) vwCl [(a0, .inr (1, [.ref a1, .int 6, .ref a2])), (a1, .inl (c1, 300, .inl f1))] s.heap := hP
  have hl := lv_entry ([.ref a0, .int 20045]) (n := 2) (Nat.le_of_ble_eq_true rfl)
  rw [lg_entry_eq]
  generalize (lg_sl ([.ref a0, .int 20045]) ++ List.replicate (2 - (lg_sl ([.ref a0, .int 20045])).length) Slot.unset).toArray = ls at hl ⊢
  have hl : lv_has ls 2 [(0, .ref a0), (1, .int 20045)] := hl
  refine lv_aload_n hx hb dX1_addStep_0 rfl (lv_at hl 0 rfl) ?_
  refine va_get (D := (dC, dI)) (ci := 1) (v := .int 6) (C := RX1) (T := TX1) (N := 3) hx hb hG inX1 hown hK hP 0 rfl rfl 1 (by decide) (hG _ gw201) (fun _ h9 => h9) rfl dX1_addStep_1 ?_
  refine lv_sipush (v := 300) hx hb dX1_addStep_4 (by decide) ?_
  refine lv_icmp_ge (tgt := 30) hx hb dX1_addStep_7 (by decide) (fun c_1 => absurd c_1 (by decide)) (fun c_1 => ?_)
  refine lv_aload_n hx hb dX1_addStep_10 rfl (lv_at hl 0 rfl) ?_
  refine va_get (D := (dC, dI)) (ci := 1) (v := .ref a1) (C := RX1) (T := TX1) (N := 3) hx hb hG inX1 hown hK hP 0 rfl rfl 0 (by decide) (hG _ gw200) (fun _ h9 => h9) rfl dX1_addStep_11 ?_
  refine lv_aload_n hx hb dX1_addStep_14 rfl (lv_at hl 0 rfl) ?_
  refine va_get (D := (dC, dI)) (ci := 1) (v := .int 6) (C := RX1) (T := TX1) (N := 3) hx hb hG inX1 hown hK hP 0 rfl rfl 1 (by decide) (hG _ gw201) (fun _ h9 => h9) rfl dX1_addStep_15 ?_
  refine lv_iload_n hx hb dX1_addStep_18 rfl (lv_at hl 1 rfl) ?_
  refine va_iast hx hb hK hP hD hS 1 0 rfl rfl (vin (by decide)) dX1_addStep_19 (fun H2 locs hP hD hS => ?_)
  obtain ⟨zf3, ezf3⟩ : ∃ z : Nat → Int32, z = upd f1 (6 : Int32).toNatClampNeg 20045 := ⟨_, rfl⟩
  have hP : va_P (dC, dI) vwCl [(a0, .inr (1, [.ref a1, .int 6, .ref a2])), (a1, .inl (c1, 300, .inl zf3))] H2 := by rw [ezf3]; exact hP
  have hD : va_D A [(a0, .inr (1, [.ref a1, .int 6, .ref a2])), (a1, .inl (c1, 300, .inl zf3))] := by rw [ezf3]; exact hD
  refine lv_aload_n hx hb dX1_addStep_20 rfl (lv_at hl 0 rfl) ?_
  refine lv_dup hx hb dX1_addStep_21 rfl ?_
  refine va_get (D := (dC, dI)) (ci := 1) (v := .int 6) (C := RX1) (T := TX1) (N := 3) hx hb hG inX1 hown hK hP 0 rfl rfl 1 (by decide) (hG _ gw201) (fun _ h9 => h9) rfl dX1_addStep_22 ?_
  refine lv_iconst (v := 1) hx hb dX1_addStep_25 (by decide) ?_
  refine lv_iadd hx hb dX1_addStep_26 ?_
  refine wt_c (v := 7) (by decide) ?_
  refine va_put (D := (dC, dI)) (ci := 1) (v := .int 7) (ty := .int) (C := RX1) (T := TX1) (N := 3) hx hb hG inX1 tyX1 tyX1_ok nmX1 hown hK hP hD hS 0 rfl rfl 1 (by decide) (hG _ gw201) (fun _ h9 => h9) rfl (by decide +kernel) rfl rfl (Nat.le_of_ble_eq_true rfl) dX1_addStep_27 (fun H4 locs hP hD hS => ?_)
  have hP : va_P (dC, dI) vwCl [(a0, .inr (1, [.ref a1, .int 7, .ref a2])), (a1, .inl (c1, 300, .inl zf3))] H4 := hP
  have hD : va_D A [(a0, .inr (1, [.ref a1, .int 7, .ref a2])), (a1, .inl (c1, 300, .inl zf3))] := hD
  have hP9 := hP.sub (ws' := [(a0, .inr (1, [.ref a1, .int 7, .ref a2])), (a1, .inl (c1, 300, .inl zf3))]) [0, 1] rfl
  have hD9 := hD.sub (ws' := [(a0, .inr (1, [.ref a1, .int 7, .ref a2])), (a1, .inl (c1, 300, .inl zf3))]) [0, 1] (by decide) rfl
  exact W.vret hx hb hr (fun t ht hW => ⟨⟨(), rfl, trivial, ⟨zf3, by rw [ht]; exact hP9, hD9⟩⟩, hS.F ht⟩) hS.2.2 dX1_addStep_30
set_option maxHeartbeats 4000000 in
set_option maxRecDepth 100000 in
theorem qX1_addOperator_v2 (l : Launch) (dC : Nat → ClassId) (dI : Nat → Nat → Nat) (a0 a1 a2 : Nat) (c1 : ClassId) (f1 : Nat → Int32) (sz : Nat) : Met l yX1_addOperator (.code yX1_addOperator cX1_addOperator 2 none :: GW) { frames := 4, cells := 0, slots := 0, locals := 161 } (va_Pc [.ref a0, .int 45] (pW (dC, dI) [(a0, .inr (1, [.ref a1, .int 6, .ref a2])), (a1, .inl (c1, 300, .inl f1))] [(c1, .int)] sz)) (va_Qv (fun _ : Unit => True) (fun (_ : Unit) (t : State) => ∃ (F0 : Nat → Int32), va_P (dC, dI) vwCl [(a0, .inr (1, [.ref a1, .int 7, .ref a2])), (a1, .inl (c1, 300, .inl F0))] t.heap ∧ va_D (va_A [(a0, .inr (1, [.ref a1, .int 6, .ref a2])), (a1, .inl (c1, 300, .inl f1))] sz) [(a0, .inr (1, [.ref a1, .int 7, .ref a2])), (a1, .inl (c1, 300, .inl F0))]) (va_A [(a0, .inr (1, [.ref a1, .int 6, .ref a2])), (a1, .inl (c1, 300, .inl f1))] sz)) 0 0 (va_A [(a0, .inr (1, [.ref a1, .int 6, .ref a2])), (a1, .inl (c1, 300, .inl f1))] sz) := by
  refine Met.ofW (cc := cX1_addOperator) (maxL := 2) (ret := none) (by decide) rfl ?_
  intro p e s m args below meth c0 s₁ B hml hv
  obtain ⟨rfl, hsz, hP, hK, hD0⟩ := hv
  have hx := B.exec
  have hb := B.bytes
  have hr := B.returns
  have hts := atoms_spec (ws := .code yX1_addOperator cX1_addOperator 2 none :: GW) B.pre
  have hG : ∀ w ∈ GW, w.before _ s = true := fun w h => hts w (List.mem_cons_of_mem _ h)
  have hown : s.vm.findClass RX1 = some m.cls := findClass_of_methodNamed B.named
  have hlocks := B.notSynchronized
  subst hsz
  have hD := hD0.self (sz := s.heap.size)
  generalize hAe : va_A [(a0, .inr (1, [.ref a1, .int 6, .ref a2])), (a1, .inl (c1, 300, .inl f1))] s.heap.size = A at hD ⊢
  have hA : ∀ q : Nat, s.heap.size ≤ q → A q := fun q h => by rw [← hAe]; exact Or.inr h
  have hS : va_S A s.heap s.heap [] := va_S.rf
  have hP : va_P (dC, dI) vwCl [(a0, .inr (1, [.ref a1, .int 6, .ref a2])), (a1, .inl (c1, 300, .inl f1))] s.heap := hP
  have hl := lv_entry ([.ref a0, .int 45]) (n := 2) (Nat.le_of_ble_eq_true rfl)
  rw [lg_entry_eq]
  generalize (lg_sl ([.ref a0, .int 45]) ++ List.replicate (2 - (lg_sl ([.ref a0, .int 45])).length) Slot.unset).toArray = ls at hl ⊢
  have hl : lv_has ls 2 [(0, .ref a0), (1, .int 45)] := hl
  refine lv_aload_n hx hb dX1_addOperator_0 rfl (lv_at hl 0 rfl) ?_
  refine lv_sipush (v := 20000) hx hb dX1_addOperator_1 (by decide) ?_
  refine lv_iload_n hx hb dX1_addOperator_4 rfl (lv_at hl 1 rfl) ?_
  refine lv_iadd hx hb dX1_addOperator_5 ?_
  refine wt_c (v := 20045) (by decide) ?_
  have hPc := hP.sub (ws' := [(a0, .inr (1, [.ref a1, .int 6, .ref a2])), (a1, .inl (c1, 300, .inl f1))]) [0, 1] rfl
  have hKc := hK.sub (tys' := [(c1, .int)]) [0] rfl
  have hDc := hD.sub (ws' := [(a0, .inr (1, [.ref a1, .int 6, .ref a2])), (a1, .inl (c1, 300, .inl f1))]) [0, 1] (by decide) rfl
  have hFc := va_free (wc := [(a0, .inr (1, [.ref a1, .int 6, .ref a2])), (a1, .inl (c1, 300, .inl f1))]) hD hS hA [0, 1] rfl
  refine va_callv (va_runV (As := [.int 20045]) (rest := []) ⟨hx, hb, hml, hown, hG⟩ (qX1_addStep_v6 l dC dI a0 a1 a2 c1 f1 s.heap.size ) (cwV 1 hG (goodV gw222 gw224 gw1 gw133 gw225) rfl rfl rfl hd_X1_addStep ⟨(Nat.le_of_ble_eq_true rfl), (Nat.le_of_ble_eq_true rfl)⟩) ⟨fbW, va_recv hKc hPc (ci := 1) (q0 := 0) rfl rfl, pW_in hPc hKc hDc⟩ rfl rfl hl.1 rfl (lv_room (Nat.le_of_ble_eq_true rfl)) dX1_addOperator_6 ⟨(Nat.le_of_ble_eq_true rfl), (Nat.le_of_ble_eq_true rfl)⟩) hS (fun q _ h => hFc q h) hFc (fun u t H1 locs ht hvm hw hB hz1 hk1 hS => ?_)
  obtain ⟨zf3, hP1, hD1⟩ := hB
  rw [ht] at hP1
  obtain ⟨hP, hD⟩ := va_join (wr := []) (w1 := [(a0, .inr (1, [.ref a1, .int 7, .ref a2])), (a1, .inl (c1, 300, .inl zf3))]) hP hD [0, 1] [] rfl rfl (by decide) (by decide) hk1 hFc hP1 hD1
  have hP : va_P (dC, dI) vwCl [(a0, .inr (1, [.ref a1, .int 7, .ref a2])), (a1, .inl (c1, 300, .inl zf3))] H1 := hP
  have hD : va_D A [(a0, .inr (1, [.ref a1, .int 7, .ref a2])), (a1, .inl (c1, 300, .inl zf3))] := hD
  have hP9 := hP.sub (ws' := [(a0, .inr (1, [.ref a1, .int 7, .ref a2])), (a1, .inl (c1, 300, .inl zf3))]) [0, 1] rfl
  have hD9 := hD.sub (ws' := [(a0, .inr (1, [.ref a1, .int 7, .ref a2])), (a1, .inl (c1, 300, .inl zf3))]) [0, 1] (by decide) rfl
  exact W.vret hx hb hr (fun t ht hW => ⟨⟨(), rfl, trivial, ⟨zf3, by rw [ht]; exact hP9, hD9⟩⟩, hS.F ht⟩) hS.2.2 dX1_addOperator_9
set_option maxHeartbeats 4000000 in
set_option maxRecDepth 100000 in
theorem qX4_tellUsualGladness (l : Launch) (dC : Nat → ClassId) (dI : Nat → Nat → Nat) (a0 a1 a2 a3 a4 a5 a6 a7 a8 a9 a10 : Nat) (c9 : ClassId) (sz : Nat) : Met l yX4_tellUsualGladness (.code yX4_tellUsualGladness cX4_tellUsualGladness 1 none :: GW) { frames := 6, cells := 0, slots := 0, locals := 222 } (va_Pc [.ref a0] (pW (dC, dI) [(a0, .inr (3, [.int 1, .int 0, .int 0, .int 0, .ref a1, .ref a2, .ref a3, .int 0, .ref a4, .ref a5, .ref a6, .int 0, .ref a7, .ref a8])), (a7, .inr (1, [.ref a9, .int 0, .ref a10])), (a9, .inl (c9, 300, .inl (fun _ => 0)))] [(c9, .int)] sz)) (va_Qv (fun _ : Unit => True) (fun (_ : Unit) (t : State) => ∃ (F0 : Nat → Int32), va_P (dC, dI) vwCl [(a0, .inr (3, [.int 1, .int 0, .int 0, .int 0, .ref a1, .ref a2, .ref a3, .int 0, .ref a4, .ref a5, .ref a6, .int 0, .ref a7, .ref a8])), (a7, .inr (1, [.ref a9, .int 7, .ref a10])), (a9, .inl (c9, 300, .inl F0))] t.heap ∧ va_D (va_A [(a0, .inr (3, [.int 1, .int 0, .int 0, .int 0, .ref a1, .ref a2, .ref a3, .int 0, .ref a4, .ref a5, .ref a6, .int 0, .ref a7, .ref a8])), (a7, .inr (1, [.ref a9, .int 0, .ref a10])), (a9, .inl (c9, 300, .inl (fun _ => 0)))] sz) [(a0, .inr (3, [.int 1, .int 0, .int 0, .int 0, .ref a1, .ref a2, .ref a3, .int 0, .ref a4, .ref a5, .ref a6, .int 0, .ref a7, .ref a8])), (a7, .inr (1, [.ref a9, .int 7, .ref a10])), (a9, .inl (c9, 300, .inl F0))]) (va_A [(a0, .inr (3, [.int 1, .int 0, .int 0, .int 0, .ref a1, .ref a2, .ref a3, .int 0, .ref a4, .ref a5, .ref a6, .int 0, .ref a7, .ref a8])), (a7, .inr (1, [.ref a9, .int 0, .ref a10])), (a9, .inl (c9, 300, .inl (fun _ => 0)))] sz)) 0 0 (va_A [(a0, .inr (3, [.int 1, .int 0, .int 0, .int 0, .ref a1, .ref a2, .ref a3, .int 0, .ref a4, .ref a5, .ref a6, .int 0, .ref a7, .ref a8])), (a7, .inr (1, [.ref a9, .int 0, .ref a10])), (a9, .inl (c9, 300, .inl (fun _ => 0)))] sz) := by
  refine Met.ofW (cc := cX4_tellUsualGladness) (maxL := 1) (ret := none) (by decide) rfl ?_
  intro p e s m args below meth c0 s₁ B hml hv
  obtain ⟨rfl, hsz, hP, hK, hD0⟩ := hv
  have hx := B.exec
  have hb := B.bytes
  have hr := B.returns
  have hts := atoms_spec (ws := .code yX4_tellUsualGladness cX4_tellUsualGladness 1 none :: GW) B.pre
  have hG : ∀ w ∈ GW, w.before _ s = true := fun w h => hts w (List.mem_cons_of_mem _ h)
  have hown : s.vm.findClass RX4 = some m.cls := findClass_of_methodNamed B.named
  have hlocks := B.notSynchronized
  subst hsz
  have hD := hD0.self (sz := s.heap.size)
  generalize hAe : va_A [(a0, .inr (3, [.int 1, .int 0, .int 0, .int 0, .ref a1, .ref a2, .ref a3, .int 0, .ref a4, .ref a5, .ref a6, .int 0, .ref a7, .ref a8])), (a7, .inr (1, [.ref a9, .int 0, .ref a10])), (a9, .inl (c9, 300, .inl (fun _ => 0)))] s.heap.size = A at hD ⊢
  have hA : ∀ q : Nat, s.heap.size ≤ q → A q := fun q h => by rw [← hAe]; exact Or.inr h
  have hS : va_S A s.heap s.heap [] := va_S.rf
  have hP : va_P (dC, dI) vwCl [(a0, .inr (3, [.int 1, .int 0, .int 0, .int 0, .ref a1, .ref a2, .ref a3, .int 0, .ref a4, .ref a5, .ref a6, .int 0, .ref a7, .ref a8])), (a7, .inr (1, [.ref a9, .int 0, .ref a10])), (a9, .inl (c9, 300, .inl (fun _ => 0)))] s.heap := hP
  have hl := lv_entry ([.ref a0]) (n := 1) (Nat.le_of_ble_eq_true rfl)
  rw [lg_entry_eq]
  generalize (lg_sl ([.ref a0]) ++ List.replicate (1 - (lg_sl ([.ref a0])).length) Slot.unset).toArray = ls at hl ⊢
  have hl : lv_has ls 1 [(0, .ref a0)] := hl
  refine lv_aload_n hx hb dX4_tellUsualGladness_0 rfl (lv_at hl 0 rfl) ?_
  refine va_get (D := (dC, dI)) (ci := 3) (v := .ref a7) (C := RX4) (T := TX4) (N := 14) hx hb hG inX4 hown hK hP 0 rfl rfl 12 (by decide) (hG _ gw272) (fun _ h9 => h9) rfl dX4_tellUsualGladness_1 ?_
  have hPc := hP.sub (ws' := [(a7, .inr (1, [.ref a9, .int 0, .ref a10]))]) [1] rfl
  have hKc := hK.sub (tys' := []) [] rfl
  have hDc := hD.sub (ws' := [(a7, .inr (1, [.ref a9, .int 0, .ref a10]))]) [1] (by decide) rfl
  have hFc := va_free (wc := [(a7, .inr (1, [.ref a9, .int 0, .ref a10]))]) hD hS hA [1] rfl
  refine va_callv (va_runV (As := []) (rest := []) ⟨hx, hb, hml, hown, hG⟩ (qX1_empty l dC dI a7 a9 a10 s.heap.size ) (cwV 0 hG (goodV gw214 gw215 gw216 gw133 gw217) rfl rfl rfl hd_X1_empty ⟨(Nat.le_of_ble_eq_true rfl), (Nat.le_of_ble_eq_true rfl)⟩) ⟨fbW, va_recv hKc hPc (ci := 1) (q0 := 0) rfl rfl, pW_in hPc hKc hDc⟩ rfl rfl hl.1 rfl (lv_room (Nat.le_of_ble_eq_true rfl)) dX4_tellUsualGladness_4 ⟨(Nat.le_of_ble_eq_true rfl), (Nat.le_of_ble_eq_true rfl)⟩) hS (fun q _ h => hFc q h) hFc (fun u t H1 locs ht hvm hw hB hz1 hk1 hS => ?_)
  obtain ⟨hP1, hD1⟩ := hB
  rw [ht] at hP1
  obtain ⟨hP, hD⟩ := va_join (wr := [(a0, .inr (3, [.int 1, .int 0, .int 0, .int 0, .ref a1, .ref a2, .ref a3, .int 0, .ref a4, .ref a5, .ref a6, .int 0, .ref a7, .ref a8])), (a9, .inl (c9, 300, .inl (fun _ => 0)))]) (w1 := [(a7, .inr (1, [.ref a9, .int 0, .ref a10]))]) hP hD [1] [0, 2] rfl rfl (by decide) (by decide) hk1 hFc hP1 hD1
  have hP : va_P (dC, dI) vwCl [(a0, .inr (3, [.int 1, .int 0, .int 0, .int 0, .ref a1, .ref a2, .ref a3, .int 0, .ref a4, .ref a5, .ref a6, .int 0, .ref a7, .ref a8])), (a9, .inl (c9, 300, .inl (fun _ => 0))), (a7, .inr (1, [.ref a9, .int 0, .ref a10]))] H1 := hP
  have hD : va_D A [(a0, .inr (3, [.int 1, .int 0, .int 0, .int 0, .ref a1, .ref a2, .ref a3, .int 0, .ref a4, .ref a5, .ref a6, .int 0, .ref a7, .ref a8])), (a9, .inl (c9, 300, .inl (fun _ => 0))), (a7, .inr (1, [.ref a9, .int 0, .ref a10]))] := hD
  refine lv_aload_n hx hb dX4_tellUsualGladness_7 rfl (lv_at hl 0 rfl) ?_
  refine va_get (D := (dC, dI)) (ci := 3) (v := .ref a7) (C := RX4) (T := TX4) (N := 14) hx hb hG inX4 hown hK hP 0 rfl rfl 12 (by decide) (hG _ gw272) (fun _ h9 => h9) rfl dX4_tellUsualGladness_8 ?_
  refine lv_bipush (v := 112) hx hb dX4_tellUsualGladness_11 (by decide) ?_
  have hPc := hP.sub (ws' := [(a7, .inr (1, [.ref a9, .int 0, .ref a10])), (a9, .inl (c9, 300, .inl (fun _ => 0)))]) [2, 1] rfl
  have hKc := hK.sub (tys' := [(c9, .int)]) [0] rfl
  have hDc := hD.sub (ws' := [(a7, .inr (1, [.ref a9, .int 0, .ref a10])), (a9, .inl (c9, 300, .inl (fun _ => 0)))]) [2, 1] (by decide) rfl
  have hFc := va_free (wc := [(a7, .inr (1, [.ref a9, .int 0, .ref a10])), (a9, .inl (c9, 300, .inl (fun _ => 0)))]) hD hS hA [2, 1] rfl
  refine va_callv (va_runV (As := [.int 112]) (rest := []) ⟨hx, hb, hml, hown, hG⟩ (qX1_addFact l dC dI a7 a9 a10 c9 H1.size ) (cwV 1 hG (goodV gw218 gw219 gw220 gw133 gw221) rfl rfl rfl hd_X1_addFact ⟨(Nat.le_of_ble_eq_true rfl), (Nat.le_of_ble_eq_true rfl)⟩) ⟨fbW, va_recv hKc hPc (ci := 1) (q0 := 0) rfl rfl, pW_in hPc hKc hDc⟩ rfl rfl hl.1 rfl (lv_room (Nat.le_of_ble_eq_true rfl)) dX4_tellUsualGladness_13 ⟨(Nat.le_of_ble_eq_true rfl), (Nat.le_of_ble_eq_true rfl)⟩) hS (fun q _ h => hFc q h) hFc (fun u t H3 locs ht hvm hw hB hz1 hk1 hS => ?_)
  obtain ⟨zf5, hP1, hD1⟩ := hB
  rw [ht] at hP1
  obtain ⟨hP, hD⟩ := va_join (wr := [(a0, .inr (3, [.int 1, .int 0, .int 0, .int 0, .ref a1, .ref a2, .ref a3, .int 0, .ref a4, .ref a5, .ref a6, .int 0, .ref a7, .ref a8]))]) (w1 := [(a7, .inr (1, [.ref a9, .int 1, .ref a10])), (a9, .inl (c9, 300, .inl zf5))]) hP hD [2, 1] [0] rfl rfl (by decide) (by decide) hk1 hFc hP1 hD1
  have hP : va_P (dC, dI) vwCl [(a0, .inr (3, [.int 1, .int 0, .int 0, .int 0, .ref a1, .ref a2, .ref a3, .int 0, .ref a4, .ref a5, .ref a6, .int 0, .ref a7, .ref a8])), (a7, .inr (1, [.ref a9, .int 1, .ref a10])), (a9, .inl (c9, 300, .inl zf5))] H3 := hP
  have hD : va_D A [(a0, .inr (3, [.int 1, .int 0, .int 0, .int 0, .ref a1, .ref a2, .ref a3, .int 0, .ref a4, .ref a5, .ref a6, .int 0, .ref a7, .ref a8])), (a7, .inr (1, [.ref a9, .int 1, .ref a10])), (a9, .inl (c9, 300, .inl zf5))] := hD
  refine lv_aload_n hx hb dX4_tellUsualGladness_16 rfl (lv_at hl 0 rfl) ?_
  refine va_get (D := (dC, dI)) (ci := 3) (v := .ref a7) (C := RX4) (T := TX4) (N := 14) hx hb hG inX4 hown hK hP 0 rfl rfl 12 (by decide) (hG _ gw272) (fun _ h9 => h9) rfl dX4_tellUsualGladness_17 ?_
  refine lv_bipush (v := 113) hx hb dX4_tellUsualGladness_20 (by decide) ?_
  have hPc := hP.sub (ws' := [(a7, .inr (1, [.ref a9, .int 1, .ref a10])), (a9, .inl (c9, 300, .inl zf5))]) [1, 2] rfl
  have hKc := hK.sub (tys' := [(c9, .int)]) [0] rfl
  have hDc := hD.sub (ws' := [(a7, .inr (1, [.ref a9, .int 1, .ref a10])), (a9, .inl (c9, 300, .inl zf5))]) [1, 2] (by decide) rfl
  have hFc := va_free (wc := [(a7, .inr (1, [.ref a9, .int 1, .ref a10])), (a9, .inl (c9, 300, .inl zf5))]) hD hS hA [1, 2] rfl
  refine va_callv (va_runV (As := [.int 113]) (rest := []) ⟨hx, hb, hml, hown, hG⟩ (qX1_addFact_v1 l dC dI a7 a9 a10 c9 zf5 H3.size ) (cwV 1 hG (goodV gw218 gw219 gw220 gw133 gw221) rfl rfl rfl hd_X1_addFact ⟨(Nat.le_of_ble_eq_true rfl), (Nat.le_of_ble_eq_true rfl)⟩) ⟨fbW, va_recv hKc hPc (ci := 1) (q0 := 0) rfl rfl, pW_in hPc hKc hDc⟩ rfl rfl hl.1 rfl (lv_room (Nat.le_of_ble_eq_true rfl)) dX4_tellUsualGladness_22 ⟨(Nat.le_of_ble_eq_true rfl), (Nat.le_of_ble_eq_true rfl)⟩) hS (fun q _ h => hFc q h) hFc (fun u t H6 locs ht hvm hw hB hz1 hk1 hS => ?_)
  obtain ⟨zf8, hP1, hD1⟩ := hB
  rw [ht] at hP1
  obtain ⟨hP, hD⟩ := va_join (wr := [(a0, .inr (3, [.int 1, .int 0, .int 0, .int 0, .ref a1, .ref a2, .ref a3, .int 0, .ref a4, .ref a5, .ref a6, .int 0, .ref a7, .ref a8]))]) (w1 := [(a7, .inr (1, [.ref a9, .int 2, .ref a10])), (a9, .inl (c9, 300, .inl zf8))]) hP hD [1, 2] [0] rfl rfl (by decide) (by decide) hk1 hFc hP1 hD1
  have hP : va_P (dC, dI) vwCl [(a0, .inr (3, [.int 1, .int 0, .int 0, .int 0, .ref a1, .ref a2, .ref a3, .int 0, .ref a4, .ref a5, .ref a6, .int 0, .ref a7, .ref a8])), (a7, .inr (1, [.ref a9, .int 2, .ref a10])), (a9, .inl (c9, 300, .inl zf8))] H6 := hP
  have hD : va_D A [(a0, .inr (3, [.int 1, .int 0, .int 0, .int 0, .ref a1, .ref a2, .ref a3, .int 0, .ref a4, .ref a5, .ref a6, .int 0, .ref a7, .ref a8])), (a7, .inr (1, [.ref a9, .int 2, .ref a10])), (a9, .inl (c9, 300, .inl zf8))] := hD
  refine lv_aload_n hx hb dX4_tellUsualGladness_25 rfl (lv_at hl 0 rfl) ?_
  refine va_get (D := (dC, dI)) (ci := 3) (v := .ref a7) (C := RX4) (T := TX4) (N := 14) hx hb hG inX4 hown hK hP 0 rfl rfl 12 (by decide) (hG _ gw272) (fun _ h9 => h9) rfl dX4_tellUsualGladness_26 ?_
  refine lv_iconst (v := 3) hx hb dX4_tellUsualGladness_29 (by decide) ?_
  have hPc := hP.sub (ws' := [(a7, .inr (1, [.ref a9, .int 2, .ref a10])), (a9, .inl (c9, 300, .inl zf8))]) [1, 2] rfl
  have hKc := hK.sub (tys' := [(c9, .int)]) [0] rfl
  have hDc := hD.sub (ws' := [(a7, .inr (1, [.ref a9, .int 2, .ref a10])), (a9, .inl (c9, 300, .inl zf8))]) [1, 2] (by decide) rfl
  have hFc := va_free (wc := [(a7, .inr (1, [.ref a9, .int 2, .ref a10])), (a9, .inl (c9, 300, .inl zf8))]) hD hS hA [1, 2] rfl
  refine va_callv (va_runV (As := [.int 3]) (rest := []) ⟨hx, hb, hml, hown, hG⟩ (qX1_addNumber l dC dI a7 a9 a10 c9 zf8 H6.size ) (cwV 1 hG (goodV gw226 gw227 gw228 gw133 gw229) rfl rfl rfl hd_X1_addNumber ⟨(Nat.le_of_ble_eq_true rfl), (Nat.le_of_ble_eq_true rfl)⟩) ⟨fbW, va_recv hKc hPc (ci := 1) (q0 := 0) rfl rfl, pW_in hPc hKc hDc⟩ rfl rfl hl.1 rfl (lv_room (Nat.le_of_ble_eq_true rfl)) dX4_tellUsualGladness_30 ⟨(Nat.le_of_ble_eq_true rfl), (Nat.le_of_ble_eq_true rfl)⟩) hS (fun q _ h => hFc q h) hFc (fun u t H9 locs ht hvm hw hB hz1 hk1 hS => ?_)
  obtain ⟨zf11, hP1, hD1⟩ := hB
  rw [ht] at hP1
  obtain ⟨hP, hD⟩ := va_join (wr := [(a0, .inr (3, [.int 1, .int 0, .int 0, .int 0, .ref a1, .ref a2, .ref a3, .int 0, .ref a4, .ref a5, .ref a6, .int 0, .ref a7, .ref a8]))]) (w1 := [(a7, .inr (1, [.ref a9, .int 3, .ref a10])), (a9, .inl (c9, 300, .inl zf11))]) hP hD [1, 2] [0] rfl rfl (by decide) (by decide) hk1 hFc hP1 hD1
  have hP : va_P (dC, dI) vwCl [(a0, .inr (3, [.int 1, .int 0, .int 0, .int 0, .ref a1, .ref a2, .ref a3, .int 0, .ref a4, .ref a5, .ref a6, .int 0, .ref a7, .ref a8])), (a7, .inr (1, [.ref a9, .int 3, .ref a10])), (a9, .inl (c9, 300, .inl zf11))] H9 := hP
  have hD : va_D A [(a0, .inr (3, [.int 1, .int 0, .int 0, .int 0, .ref a1, .ref a2, .ref a3, .int 0, .ref a4, .ref a5, .ref a6, .int 0, .ref a7, .ref a8])), (a7, .inr (1, [.ref a9, .int 3, .ref a10])), (a9, .inl (c9, 300, .inl zf11))] := hD
  refine lv_aload_n hx hb dX4_tellUsualGladness_33 rfl (lv_at hl 0 rfl) ?_
  refine va_get (D := (dC, dI)) (ci := 3) (v := .ref a7) (C := RX4) (T := TX4) (N := 14) hx hb hG inX4 hown hK hP 0 rfl rfl 12 (by decide) (hG _ gw272) (fun _ h9 => h9) rfl dX4_tellUsualGladness_34 ?_
  refine lv_bipush (v := 42) hx hb dX4_tellUsualGladness_37 (by decide) ?_
  have hPc := hP.sub (ws' := [(a7, .inr (1, [.ref a9, .int 3, .ref a10])), (a9, .inl (c9, 300, .inl zf11))]) [1, 2] rfl
  have hKc := hK.sub (tys' := [(c9, .int)]) [0] rfl
  have hDc := hD.sub (ws' := [(a7, .inr (1, [.ref a9, .int 3, .ref a10])), (a9, .inl (c9, 300, .inl zf11))]) [1, 2] (by decide) rfl
  have hFc := va_free (wc := [(a7, .inr (1, [.ref a9, .int 3, .ref a10])), (a9, .inl (c9, 300, .inl zf11))]) hD hS hA [1, 2] rfl
  refine va_callv (va_runV (As := [.int 42]) (rest := []) ⟨hx, hb, hml, hown, hG⟩ (qX1_addOperator l dC dI a7 a9 a10 c9 zf11 H9.size ) (cwV 1 hG (goodV gw230 gw231 gw232 gw133 gw233) rfl rfl rfl hd_X1_addOperator ⟨(Nat.le_of_ble_eq_true rfl), (Nat.le_of_ble_eq_true rfl)⟩) ⟨fbW, va_recv hKc hPc (ci := 1) (q0 := 0) rfl rfl, pW_in hPc hKc hDc⟩ rfl rfl hl.1 rfl (lv_room (Nat.le_of_ble_eq_true rfl)) dX4_tellUsualGladness_39 ⟨(Nat.le_of_ble_eq_true rfl), (Nat.le_of_ble_eq_true rfl)⟩) hS (fun q _ h => hFc q h) hFc (fun u t H12 locs ht hvm hw hB hz1 hk1 hS => ?_)
  obtain ⟨zf14, hP1, hD1⟩ := hB
  rw [ht] at hP1
  obtain ⟨hP, hD⟩ := va_join (wr := [(a0, .inr (3, [.int 1, .int 0, .int 0, .int 0, .ref a1, .ref a2, .ref a3, .int 0, .ref a4, .ref a5, .ref a6, .int 0, .ref a7, .ref a8]))]) (w1 := [(a7, .inr (1, [.ref a9, .int 4, .ref a10])), (a9, .inl (c9, 300, .inl zf14))]) hP hD [1, 2] [0] rfl rfl (by decide) (by decide) hk1 hFc hP1 hD1
  have hP : va_P (dC, dI) vwCl [(a0, .inr (3, [.int 1, .int 0, .int 0, .int 0, .ref a1, .ref a2, .ref a3, .int 0, .ref a4, .ref a5, .ref a6, .int 0, .ref a7, .ref a8])), (a7, .inr (1, [.ref a9, .int 4, .ref a10])), (a9, .inl (c9, 300, .inl zf14))] H12 := hP
  have hD : va_D A [(a0, .inr (3, [.int 1, .int 0, .int 0, .int 0, .ref a1, .ref a2, .ref a3, .int 0, .ref a4, .ref a5, .ref a6, .int 0, .ref a7, .ref a8])), (a7, .inr (1, [.ref a9, .int 4, .ref a10])), (a9, .inl (c9, 300, .inl zf14))] := hD
  refine lv_aload_n hx hb dX4_tellUsualGladness_42 rfl (lv_at hl 0 rfl) ?_
  refine va_get (D := (dC, dI)) (ci := 3) (v := .ref a7) (C := RX4) (T := TX4) (N := 14) hx hb hG inX4 hown hK hP 0 rfl rfl 12 (by decide) (hG _ gw272) (fun _ h9 => h9) rfl dX4_tellUsualGladness_43 ?_
  refine lv_bipush (v := 43) hx hb dX4_tellUsualGladness_46 (by decide) ?_
  have hPc := hP.sub (ws' := [(a7, .inr (1, [.ref a9, .int 4, .ref a10])), (a9, .inl (c9, 300, .inl zf14))]) [1, 2] rfl
  have hKc := hK.sub (tys' := [(c9, .int)]) [0] rfl
  have hDc := hD.sub (ws' := [(a7, .inr (1, [.ref a9, .int 4, .ref a10])), (a9, .inl (c9, 300, .inl zf14))]) [1, 2] (by decide) rfl
  have hFc := va_free (wc := [(a7, .inr (1, [.ref a9, .int 4, .ref a10])), (a9, .inl (c9, 300, .inl zf14))]) hD hS hA [1, 2] rfl
  refine va_callv (va_runV (As := [.int 43]) (rest := []) ⟨hx, hb, hml, hown, hG⟩ (qX1_addOperator_v1 l dC dI a7 a9 a10 c9 zf14 H12.size ) (cwV 1 hG (goodV gw230 gw231 gw232 gw133 gw233) rfl rfl rfl hd_X1_addOperator ⟨(Nat.le_of_ble_eq_true rfl), (Nat.le_of_ble_eq_true rfl)⟩) ⟨fbW, va_recv hKc hPc (ci := 1) (q0 := 0) rfl rfl, pW_in hPc hKc hDc⟩ rfl rfl hl.1 rfl (lv_room (Nat.le_of_ble_eq_true rfl)) dX4_tellUsualGladness_48 ⟨(Nat.le_of_ble_eq_true rfl), (Nat.le_of_ble_eq_true rfl)⟩) hS (fun q _ h => hFc q h) hFc (fun u t H15 locs ht hvm hw hB hz1 hk1 hS => ?_)
  obtain ⟨zf17, hP1, hD1⟩ := hB
  rw [ht] at hP1
  obtain ⟨hP, hD⟩ := va_join (wr := [(a0, .inr (3, [.int 1, .int 0, .int 0, .int 0, .ref a1, .ref a2, .ref a3, .int 0, .ref a4, .ref a5, .ref a6, .int 0, .ref a7, .ref a8]))]) (w1 := [(a7, .inr (1, [.ref a9, .int 5, .ref a10])), (a9, .inl (c9, 300, .inl zf17))]) hP hD [1, 2] [0] rfl rfl (by decide) (by decide) hk1 hFc hP1 hD1
  have hP : va_P (dC, dI) vwCl [(a0, .inr (3, [.int 1, .int 0, .int 0, .int 0, .ref a1, .ref a2, .ref a3, .int 0, .ref a4, .ref a5, .ref a6, .int 0, .ref a7, .ref a8])), (a7, .inr (1, [.ref a9, .int 5, .ref a10])), (a9, .inl (c9, 300, .inl zf17))] H15 := hP
  have hD : va_D A [(a0, .inr (3, [.int 1, .int 0, .int 0, .int 0, .ref a1, .ref a2, .ref a3, .int 0, .ref a4, .ref a5, .ref a6, .int 0, .ref a7, .ref a8])), (a7, .inr (1, [.ref a9, .int 5, .ref a10])), (a9, .inl (c9, 300, .inl zf17))] := hD
  refine lv_aload_n hx hb dX4_tellUsualGladness_51 rfl (lv_at hl 0 rfl) ?_
  refine va_get (D := (dC, dI)) (ci := 3) (v := .ref a7) (C := RX4) (T := TX4) (N := 14) hx hb hG inX4 hown hK hP 0 rfl rfl 12 (by decide) (hG _ gw272) (fun _ h9 => h9) rfl dX4_tellUsualGladness_52 ?_
  refine lv_bipush (v := 115) hx hb dX4_tellUsualGladness_55 (by decide) ?_
  have hPc := hP.sub (ws' := [(a7, .inr (1, [.ref a9, .int 5, .ref a10])), (a9, .inl (c9, 300, .inl zf17))]) [1, 2] rfl
  have hKc := hK.sub (tys' := [(c9, .int)]) [0] rfl
  have hDc := hD.sub (ws' := [(a7, .inr (1, [.ref a9, .int 5, .ref a10])), (a9, .inl (c9, 300, .inl zf17))]) [1, 2] (by decide) rfl
  have hFc := va_free (wc := [(a7, .inr (1, [.ref a9, .int 5, .ref a10])), (a9, .inl (c9, 300, .inl zf17))]) hD hS hA [1, 2] rfl
  refine va_callv (va_runV (As := [.int 115]) (rest := []) ⟨hx, hb, hml, hown, hG⟩ (qX1_addFact_v2 l dC dI a7 a9 a10 c9 zf17 H15.size ) (cwV 1 hG (goodV gw218 gw219 gw220 gw133 gw221) rfl rfl rfl hd_X1_addFact ⟨(Nat.le_of_ble_eq_true rfl), (Nat.le_of_ble_eq_true rfl)⟩) ⟨fbW, va_recv hKc hPc (ci := 1) (q0 := 0) rfl rfl, pW_in hPc hKc hDc⟩ rfl rfl hl.1 rfl (lv_room (Nat.le_of_ble_eq_true rfl)) dX4_tellUsualGladness_57 ⟨(Nat.le_of_ble_eq_true rfl), (Nat.le_of_ble_eq_true rfl)⟩) hS (fun q _ h => hFc q h) hFc (fun u t H18 locs ht hvm hw hB hz1 hk1 hS => ?_)
  obtain ⟨zf20, hP1, hD1⟩ := hB
  rw [ht] at hP1
  obtain ⟨hP, hD⟩ := va_join (wr := [(a0, .inr (3, [.int 1, .int 0, .int 0, .int 0, .ref a1, .ref a2, .ref a3, .int 0, .ref a4, .ref a5, .ref a6, .int 0, .ref a7, .ref a8]))]) (w1 := [(a7, .inr (1, [.ref a9, .int 6, .ref a10])), (a9, .inl (c9, 300, .inl zf20))]) hP hD [1, 2] [0] rfl rfl (by decide) (by decide) hk1 hFc hP1 hD1
  have hP : va_P (dC, dI) vwCl [(a0, .inr (3, [.int 1, .int 0, .int 0, .int 0, .ref a1, .ref a2, .ref a3, .int 0, .ref a4, .ref a5, .ref a6, .int 0, .ref a7, .ref a8])), (a7, .inr (1, [.ref a9, .int 6, .ref a10])), (a9, .inl (c9, 300, .inl zf20))] H18 := hP
  have hD : va_D A [(a0, .inr (3, [.int 1, .int 0, .int 0, .int 0, .ref a1, .ref a2, .ref a3, .int 0, .ref a4, .ref a5, .ref a6, .int 0, .ref a7, .ref a8])), (a7, .inr (1, [.ref a9, .int 6, .ref a10])), (a9, .inl (c9, 300, .inl zf20))] := hD
  refine lv_aload_n hx hb dX4_tellUsualGladness_60 rfl (lv_at hl 0 rfl) ?_
  refine va_get (D := (dC, dI)) (ci := 3) (v := .ref a7) (C := RX4) (T := TX4) (N := 14) hx hb hG inX4 hown hK hP 0 rfl rfl 12 (by decide) (hG _ gw272) (fun _ h9 => h9) rfl dX4_tellUsualGladness_61 ?_
  refine lv_bipush (v := 45) hx hb dX4_tellUsualGladness_64 (by decide) ?_
  have hPc := hP.sub (ws' := [(a7, .inr (1, [.ref a9, .int 6, .ref a10])), (a9, .inl (c9, 300, .inl zf20))]) [1, 2] rfl
  have hKc := hK.sub (tys' := [(c9, .int)]) [0] rfl
  have hDc := hD.sub (ws' := [(a7, .inr (1, [.ref a9, .int 6, .ref a10])), (a9, .inl (c9, 300, .inl zf20))]) [1, 2] (by decide) rfl
  have hFc := va_free (wc := [(a7, .inr (1, [.ref a9, .int 6, .ref a10])), (a9, .inl (c9, 300, .inl zf20))]) hD hS hA [1, 2] rfl
  refine va_callv (va_runV (As := [.int 45]) (rest := []) ⟨hx, hb, hml, hown, hG⟩ (qX1_addOperator_v2 l dC dI a7 a9 a10 c9 zf20 H18.size ) (cwV 1 hG (goodV gw230 gw231 gw232 gw133 gw233) rfl rfl rfl hd_X1_addOperator ⟨(Nat.le_of_ble_eq_true rfl), (Nat.le_of_ble_eq_true rfl)⟩) ⟨fbW, va_recv hKc hPc (ci := 1) (q0 := 0) rfl rfl, pW_in hPc hKc hDc⟩ rfl rfl hl.1 rfl (lv_room (Nat.le_of_ble_eq_true rfl)) dX4_tellUsualGladness_66 ⟨(Nat.le_of_ble_eq_true rfl), (Nat.le_of_ble_eq_true rfl)⟩) hS (fun q _ h => hFc q h) hFc (fun u t H21 locs ht hvm hw hB hz1 hk1 hS => ?_)
  obtain ⟨zf23, hP1, hD1⟩ := hB
  rw [ht] at hP1
  obtain ⟨hP, hD⟩ := va_join (wr := [(a0, .inr (3, [.int 1, .int 0, .int 0, .int 0, .ref a1, .ref a2, .ref a3, .int 0, .ref a4, .ref a5, .ref a6, .int 0, .ref a7, .ref a8]))]) (w1 := [(a7, .inr (1, [.ref a9, .int 7, .ref a10])), (a9, .inl (c9, 300, .inl zf23))]) hP hD [1, 2] [0] rfl rfl (by decide) (by decide) hk1 hFc hP1 hD1
  have hP : va_P (dC, dI) vwCl [(a0, .inr (3, [.int 1, .int 0, .int 0, .int 0, .ref a1, .ref a2, .ref a3, .int 0, .ref a4, .ref a5, .ref a6, .int 0, .ref a7, .ref a8])), (a7, .inr (1, [.ref a9, .int 7, .ref a10])), (a9, .inl (c9, 300, .inl zf23))] H21 := hP
  have hD : va_D A [(a0, .inr (3, [.int 1, .int 0, .int 0, .int 0, .ref a1, .ref a2, .ref a3, .int 0, .ref a4, .ref a5, .ref a6, .int 0, .ref a7, .ref a8])), (a7, .inr (1, [.ref a9, .int 7, .ref a10])), (a9, .inl (c9, 300, .inl zf23))] := hD
  have hP9 := hP.sub (ws' := [(a0, .inr (3, [.int 1, .int 0, .int 0, .int 0, .ref a1, .ref a2, .ref a3, .int 0, .ref a4, .ref a5, .ref a6, .int 0, .ref a7, .ref a8])), (a7, .inr (1, [.ref a9, .int 7, .ref a10])), (a9, .inl (c9, 300, .inl zf23))]) [0, 1, 2] rfl
  have hD9 := hD.sub (ws' := [(a0, .inr (3, [.int 1, .int 0, .int 0, .int 0, .ref a1, .ref a2, .ref a3, .int 0, .ref a4, .ref a5, .ref a6, .int 0, .ref a7, .ref a8])), (a7, .inr (1, [.ref a9, .int 7, .ref a10])), (a9, .inl (c9, 300, .inl zf23))]) [0, 1, 2] (by decide) rfl
  exact W.vret hx hb hr (fun t ht hW => ⟨⟨(), rfl, trivial, ⟨zf23, by rw [ht]; exact hP9, hD9⟩⟩, hS.F ht⟩) hS.2.2 dX4_tellUsualGladness_69
set_option maxHeartbeats 4000000 in
set_option maxRecDepth 100000 in
theorem qX4_init (l : Launch) (dC : Nat → ClassId) (dI : Nat → Nat → Nat) (a0 : Nat) (sz : Nat) : Met l yX4_init (.code yX4_init cX4_init 1 none :: GW) { frames := 8, cells := 10, slots := 410, locals := 282 } (va_Pc [.ref a0] (pN (dC, dI) [(a0, .inr (3, [.int 0, .int 0, .int 0, .int 0, .null, .null, .null, .int 0, .null, .null, .null, .int 0, .null, .null]))] [] sz)) (va_Qv (fun _ : Unit => True) (fun (_ : Unit) (t : State) => ∃ (b0 b1 b2 b3 b4 b5 b6 b7 b8 b9 : Nat) (t0 t1 t2 t3 t4 t5 t6 t7 t9 : ClassId) (F0 : Nat → Int32), va_P (dC, dI) vwCl [(a0, .inr (3, [.int 1, .int 0, .int 0, .int 0, .ref b0, .ref b1, .ref b2, .int 0, .ref b3, .ref b4, .ref b5, .int 0, .ref b8, .ref b7])), (b0, .inl (t0, 5, .inl (fun _ => 0))), (b1, .inl (t1, 5, .inl (fun _ => 0))), (b2, .inl (t2, 40, .inl (fun _ => 0))), (b3, .inl (t3, 4, .inl (fun _ => 0))), (b4, .inl (t4, 4, .inl (fun _ => 0))), (b5, .inl (t5, 12, .inl (fun _ => 0))), (b6, .inl (t6, 30, .inl (fun _ => 0))), (b7, .inl (t7, 7, .inl (fun _ => 0))), (b8, .inr (1, [.ref b9, .int 7, .ref b6])), (b9, .inl (t9, 300, .inl F0))] t.heap ∧ va_K (dC, dI) vwCl [(t0, .int), (t1, .int), (t2, .int), (t3, .int), (t4, .int), (t5, .int), (t6, .int), (t7, .int), (t9, .int)] t ∧ va_D (va_A [(a0, .inr (3, [.int 0, .int 0, .int 0, .int 0, .null, .null, .null, .int 0, .null, .null, .null, .int 0, .null, .null]))] sz) [(a0, .inr (3, [.int 1, .int 0, .int 0, .int 0, .ref b0, .ref b1, .ref b2, .int 0, .ref b3, .ref b4, .ref b5, .int 0, .ref b8, .ref b7])), (b0, .inl (t0, 5, .inl (fun _ => 0))), (b1, .inl (t1, 5, .inl (fun _ => 0))), (b2, .inl (t2, 40, .inl (fun _ => 0))), (b3, .inl (t3, 4, .inl (fun _ => 0))), (b4, .inl (t4, 4, .inl (fun _ => 0))), (b5, .inl (t5, 12, .inl (fun _ => 0))), (b6, .inl (t6, 30, .inl (fun _ => 0))), (b7, .inl (t7, 7, .inl (fun _ => 0))), (b8, .inr (1, [.ref b9, .int 7, .ref b6])), (b9, .inl (t9, 300, .inl F0))]) (va_A [(a0, .inr (3, [.int 0, .int 0, .int 0, .int 0, .null, .null, .null, .int 0, .null, .null, .null, .int 0, .null, .null]))] sz)) 10 410 (va_A [(a0, .inr (3, [.int 0, .int 0, .int 0, .int 0, .null, .null, .null, .int 0, .null, .null, .null, .int 0, .null, .null]))] sz) := by
  refine Met.ofW (cc := cX4_init) (maxL := 1) (ret := none) (by decide) rfl ?_
  intro p e s m args below meth c0 s₁ B hml hv
  obtain ⟨rfl, hsz, hP, hK, hD0, hN⟩ := hv
  have hx := B.exec
  have hb := B.bytes
  have hr := B.returns
  have hts := atoms_spec (ws := .code yX4_init cX4_init 1 none :: GW) B.pre
  have hG : ∀ w ∈ GW, w.before _ s = true := fun w h => hts w (List.mem_cons_of_mem _ h)
  have hown : s.vm.findClass RX4 = some m.cls := findClass_of_methodNamed B.named
  have hlocks := B.notSynchronized
  have hin : meth.name = "<init>" := (name_of_methodNamed B.named B.method).1
  subst hsz
  have hD := hD0.self (sz := s.heap.size)
  generalize hAe : va_A [(a0, .inr (3, [.int 0, .int 0, .int 0, .int 0, .null, .null, .null, .int 0, .null, .null, .null, .int 0, .null, .null]))] s.heap.size = A at hD ⊢
  have hA : ∀ q : Nat, s.heap.size ≤ q → A q := fun q h => by rw [← hAe]; exact Or.inr h
  have hS : va_S A s.heap s.heap [] := va_S.rf
  have hP : va_P (dC, dI) vwCl [(a0, .inr (3, [.int 0, .int 0, .int 0, .int 0, .null, .null, .null, .int 0, .null, .null, .null, .int 0, .null, .null]))] s.heap := hP
  have hl := lv_entry ([.ref a0]) (n := 1) (Nat.le_of_ble_eq_true rfl)
  rw [lg_entry_eq]
  generalize (lg_sl ([.ref a0]) ++ List.replicate (1 - (lg_sl ([.ref a0])).length) Slot.unset).toArray = ls at hl ⊢
  have hl : lv_has ls 1 [(0, .ref a0)] := hl
  refine lv_aload_n hx hb dX4_init_0 rfl (lv_at hl 0 rfl) ?_
  refine W.objInit hx hb hown (hG _ gw193) (hG _ gw152) (hG _ gw153) rfl (by rw [hml]; exact hl.1) rfl dX4_init_1 (Nat.le_of_ble_eq_true rfl) (Nat.le_of_ble_eq_true rfl) ?_
  refine W.eq (g2 := F0 m 4 ls []) rfl ?_
  refine lv_aload_n hx hb dX4_init_4 rfl (lv_at hl 0 rfl) ?_
  refine lv_iconst (v := 1) hx hb dX4_init_5 (by decide) ?_
  refine va_put (D := (dC, dI)) (ci := 3) (v := .int 1) (ty := .int) (C := RX4) (T := TX4) (N := 14) hx hb hG inX4 tyX4 tyX4_ok nmX4 hown hK hP hD hS 0 rfl rfl 0 (by decide) (hG _ gw234) (fun _ h9 => h9) rfl (by decide +kernel) rfl rfl (Nat.le_of_ble_eq_true rfl) dX4_init_6 (fun H1 locs hP hD hS => ?_)
  have hP : va_P (dC, dI) vwCl [(a0, .inr (3, [.int 1, .int 0, .int 0, .int 0, .null, .null, .null, .int 0, .null, .null, .null, .int 0, .null, .null]))] H1 := hP
  have hD : va_D A [(a0, .inr (3, [.int 1, .int 0, .int 0, .int 0, .null, .null, .null, .int 0, .null, .null, .null, .int 0, .null, .null]))] := hD
  refine lv_aload_n hx hb dX4_init_9 rfl (lv_at hl 0 rfl) ?_
  refine lv_iconst (v := 5) hx hb dX4_init_10 (by decide) ?_
  refine va_newa (atype := .int) (ty := .int) (N' := 5) (a0 := (5, .inl (fun _ => 0))) hx hb (hG _ gw186) rfl hK hP hD hS hA (fun _ => rfl) (by decide) (by decide) (Nat.le_of_ble_eq_true rfl) (Nat.le_of_ble_eq_true rfl) (Nat.le_of_ble_eq_true rfl) dX4_init_11 (fun q2 d2 H3 hK hP hD hS => ?_)
  have hP : va_P (dC, dI) vwCl [(a0, .inr (3, [.int 1, .int 0, .int 0, .int 0, .null, .null, .null, .int 0, .null, .null, .null, .int 0, .null, .null])), (q2, .inl (d2, 5, .inl (fun _ => 0)))] H3 := hP
  have hD : va_D A [(a0, .inr (3, [.int 1, .int 0, .int 0, .int 0, .null, .null, .null, .int 0, .null, .null, .null, .int 0, .null, .null])), (q2, .inl (d2, 5, .inl (fun _ => 0)))] := hD
  have hK : va_K (dC, dI) vwCl [(d2, .int)] s := hK
  refine W.widen (k := 1) (n := 5) (Nat.le_of_ble_eq_true rfl) (Nat.le_of_ble_eq_true rfl) ?_
  refine va_putF (D := (dC, dI)) (ci := 3) (v := .ref q2) (ty := .array .int) (C := RX4) (T := TX4) (N := 14) hx hb hG inX4 tyX4 tyX4_ok nmX4 hown hK hP hD hS 0 rfl rfl 4 (by decide) (hG _ gw247) (fun _ h9 => h9) rfl hin rfl (by decide +kernel) rfl rfl (Nat.le_of_ble_eq_true rfl) dX4_init_13 (fun H4 locs hP hD hS => ?_)
  have hP : va_P (dC, dI) vwCl [(a0, .inr (3, [.int 1, .int 0, .int 0, .int 0, .ref q2, .null, .null, .int 0, .null, .null, .null, .int 0, .null, .null])), (q2, .inl (d2, 5, .inl (fun _ => 0)))] H4 := hP
  have hD : va_D A [(a0, .inr (3, [.int 1, .int 0, .int 0, .int 0, .ref q2, .null, .null, .int 0, .null, .null, .null, .int 0, .null, .null])), (q2, .inl (d2, 5, .inl (fun _ => 0)))] := hD
  refine lv_aload_n hx hb dX4_init_16 rfl (lv_at hl 0 rfl) ?_
  refine lv_iconst (v := 5) hx hb dX4_init_17 (by decide) ?_
  refine va_newa (atype := .int) (ty := .int) (N' := 5) (a0 := (5, .inl (fun _ => 0))) hx hb (hG _ gw186) rfl hK hP hD hS hA (fun _ => rfl) (by decide) (by decide) (Nat.le_of_ble_eq_true rfl) (Nat.le_of_ble_eq_true rfl) (Nat.le_of_ble_eq_true rfl) dX4_init_18 (fun q5 d5 H6 hK hP hD hS => ?_)
  have hP : va_P (dC, dI) vwCl [(a0, .inr (3, [.int 1, .int 0, .int 0, .int 0, .ref q2, .null, .null, .int 0, .null, .null, .null, .int 0, .null, .null])), (q2, .inl (d2, 5, .inl (fun _ => 0))), (q5, .inl (d5, 5, .inl (fun _ => 0)))] H6 := hP
  have hD : va_D A [(a0, .inr (3, [.int 1, .int 0, .int 0, .int 0, .ref q2, .null, .null, .int 0, .null, .null, .null, .int 0, .null, .null])), (q2, .inl (d2, 5, .inl (fun _ => 0))), (q5, .inl (d5, 5, .inl (fun _ => 0)))] := hD
  have hK : va_K (dC, dI) vwCl [(d2, .int), (d5, .int)] s := hK
  refine W.widen (k := 2) (n := 10) (Nat.le_of_ble_eq_true rfl) (Nat.le_of_ble_eq_true rfl) ?_
  refine va_putF (D := (dC, dI)) (ci := 3) (v := .ref q5) (ty := .array .int) (C := RX4) (T := TX4) (N := 14) hx hb hG inX4 tyX4 tyX4_ok nmX4 hown hK hP hD hS 0 rfl rfl 5 (by decide) (hG _ gw250) (fun _ h9 => h9) rfl hin rfl (by decide +kernel) rfl rfl (Nat.le_of_ble_eq_true rfl) dX4_init_20 (fun H7 locs hP hD hS => ?_)
  have hP : va_P (dC, dI) vwCl [(a0, .inr (3, [.int 1, .int 0, .int 0, .int 0, .ref q2, .ref q5, .null, .int 0, .null, .null, .null, .int 0, .null, .null])), (q2, .inl (d2, 5, .inl (fun _ => 0))), (q5, .inl (d5, 5, .inl (fun _ => 0)))] H7 := hP
  have hD : va_D A [(a0, .inr (3, [.int 1, .int 0, .int 0, .int 0, .ref q2, .ref q5, .null, .int 0, .null, .null, .null, .int 0, .null, .null])), (q2, .inl (d2, 5, .inl (fun _ => 0))), (q5, .inl (d5, 5, .inl (fun _ => 0)))] := hD
  refine lv_aload_n hx hb dX4_init_23 rfl (lv_at hl 0 rfl) ?_
  refine lv_bipush (v := 40) hx hb dX4_init_24 (by decide) ?_
  refine va_newa (atype := .int) (ty := .int) (N' := 40) (a0 := (40, .inl (fun _ => 0))) hx hb (hG _ gw186) rfl hK hP hD hS hA (fun _ => rfl) (by decide) (by decide) (Nat.le_of_ble_eq_true rfl) (Nat.le_of_ble_eq_true rfl) (Nat.le_of_ble_eq_true rfl) dX4_init_26 (fun q8 d8 H9 hK hP hD hS => ?_)
  have hP : va_P (dC, dI) vwCl [(a0, .inr (3, [.int 1, .int 0, .int 0, .int 0, .ref q2, .ref q5, .null, .int 0, .null, .null, .null, .int 0, .null, .null])), (q2, .inl (d2, 5, .inl (fun _ => 0))), (q5, .inl (d5, 5, .inl (fun _ => 0))), (q8, .inl (d8, 40, .inl (fun _ => 0)))] H9 := hP
  have hD : va_D A [(a0, .inr (3, [.int 1, .int 0, .int 0, .int 0, .ref q2, .ref q5, .null, .int 0, .null, .null, .null, .int 0, .null, .null])), (q2, .inl (d2, 5, .inl (fun _ => 0))), (q5, .inl (d5, 5, .inl (fun _ => 0))), (q8, .inl (d8, 40, .inl (fun _ => 0)))] := hD
  have hK : va_K (dC, dI) vwCl [(d2, .int), (d5, .int), (d8, .int)] s := hK
  refine W.widen (k := 3) (n := 50) (Nat.le_of_ble_eq_true rfl) (Nat.le_of_ble_eq_true rfl) ?_
  refine va_putF (D := (dC, dI)) (ci := 3) (v := .ref q8) (ty := .array .int) (C := RX4) (T := TX4) (N := 14) hx hb hG inX4 tyX4 tyX4_ok nmX4 hown hK hP hD hS 0 rfl rfl 6 (by decide) (hG _ gw253) (fun _ h9 => h9) rfl hin rfl (by decide +kernel) rfl rfl (Nat.le_of_ble_eq_true rfl) dX4_init_28 (fun H10 locs hP hD hS => ?_)
  have hP : va_P (dC, dI) vwCl [(a0, .inr (3, [.int 1, .int 0, .int 0, .int 0, .ref q2, .ref q5, .ref q8, .int 0, .null, .null, .null, .int 0, .null, .null])), (q2, .inl (d2, 5, .inl (fun _ => 0))), (q5, .inl (d5, 5, .inl (fun _ => 0))), (q8, .inl (d8, 40, .inl (fun _ => 0)))] H10 := hP
  have hD : va_D A [(a0, .inr (3, [.int 1, .int 0, .int 0, .int 0, .ref q2, .ref q5, .ref q8, .int 0, .null, .null, .null, .int 0, .null, .null])), (q2, .inl (d2, 5, .inl (fun _ => 0))), (q5, .inl (d5, 5, .inl (fun _ => 0))), (q8, .inl (d8, 40, .inl (fun _ => 0)))] := hD
  refine lv_aload_n hx hb dX4_init_31 rfl (lv_at hl 0 rfl) ?_
  refine lv_iconst (v := 4) hx hb dX4_init_32 (by decide) ?_
  refine va_newa (atype := .int) (ty := .int) (N' := 4) (a0 := (4, .inl (fun _ => 0))) hx hb (hG _ gw186) rfl hK hP hD hS hA (fun _ => rfl) (by decide) (by decide) (Nat.le_of_ble_eq_true rfl) (Nat.le_of_ble_eq_true rfl) (Nat.le_of_ble_eq_true rfl) dX4_init_33 (fun q11 d11 H12 hK hP hD hS => ?_)
  have hP : va_P (dC, dI) vwCl [(a0, .inr (3, [.int 1, .int 0, .int 0, .int 0, .ref q2, .ref q5, .ref q8, .int 0, .null, .null, .null, .int 0, .null, .null])), (q2, .inl (d2, 5, .inl (fun _ => 0))), (q5, .inl (d5, 5, .inl (fun _ => 0))), (q8, .inl (d8, 40, .inl (fun _ => 0))), (q11, .inl (d11, 4, .inl (fun _ => 0)))] H12 := hP
  have hD : va_D A [(a0, .inr (3, [.int 1, .int 0, .int 0, .int 0, .ref q2, .ref q5, .ref q8, .int 0, .null, .null, .null, .int 0, .null, .null])), (q2, .inl (d2, 5, .inl (fun _ => 0))), (q5, .inl (d5, 5, .inl (fun _ => 0))), (q8, .inl (d8, 40, .inl (fun _ => 0))), (q11, .inl (d11, 4, .inl (fun _ => 0)))] := hD
  have hK : va_K (dC, dI) vwCl [(d2, .int), (d5, .int), (d8, .int), (d11, .int)] s := hK
  refine W.widen (k := 4) (n := 54) (Nat.le_of_ble_eq_true rfl) (Nat.le_of_ble_eq_true rfl) ?_
  refine va_putF (D := (dC, dI)) (ci := 3) (v := .ref q11) (ty := .array .int) (C := RX4) (T := TX4) (N := 14) hx hb hG inX4 tyX4 tyX4_ok nmX4 hown hK hP hD hS 0 rfl rfl 8 (by decide) (hG _ gw260) (fun _ h9 => h9) rfl hin rfl (by decide +kernel) rfl rfl (Nat.le_of_ble_eq_true rfl) dX4_init_35 (fun H13 locs hP hD hS => ?_)
  have hP : va_P (dC, dI) vwCl [(a0, .inr (3, [.int 1, .int 0, .int 0, .int 0, .ref q2, .ref q5, .ref q8, .int 0, .ref q11, .null, .null, .int 0, .null, .null])), (q2, .inl (d2, 5, .inl (fun _ => 0))), (q5, .inl (d5, 5, .inl (fun _ => 0))), (q8, .inl (d8, 40, .inl (fun _ => 0))), (q11, .inl (d11, 4, .inl (fun _ => 0)))] H13 := hP
  have hD : va_D A [(a0, .inr (3, [.int 1, .int 0, .int 0, .int 0, .ref q2, .ref q5, .ref q8, .int 0, .ref q11, .null, .null, .int 0, .null, .null])), (q2, .inl (d2, 5, .inl (fun _ => 0))), (q5, .inl (d5, 5, .inl (fun _ => 0))), (q8, .inl (d8, 40, .inl (fun _ => 0))), (q11, .inl (d11, 4, .inl (fun _ => 0)))] := hD
  refine lv_aload_n hx hb dX4_init_38 rfl (lv_at hl 0 rfl) ?_
  refine lv_iconst (v := 4) hx hb dX4_init_39 (by decide) ?_
  refine va_newa (atype := .int) (ty := .int) (N' := 4) (a0 := (4, .inl (fun _ => 0))) hx hb (hG _ gw186) rfl hK hP hD hS hA (fun _ => rfl) (by decide) (by decide) (Nat.le_of_ble_eq_true rfl) (Nat.le_of_ble_eq_true rfl) (Nat.le_of_ble_eq_true rfl) dX4_init_40 (fun q14 d14 H15 hK hP hD hS => ?_)
  have hP : va_P (dC, dI) vwCl [(a0, .inr (3, [.int 1, .int 0, .int 0, .int 0, .ref q2, .ref q5, .ref q8, .int 0, .ref q11, .null, .null, .int 0, .null, .null])), (q2, .inl (d2, 5, .inl (fun _ => 0))), (q5, .inl (d5, 5, .inl (fun _ => 0))), (q8, .inl (d8, 40, .inl (fun _ => 0))), (q11, .inl (d11, 4, .inl (fun _ => 0))), (q14, .inl (d14, 4, .inl (fun _ => 0)))] H15 := hP
  have hD : va_D A [(a0, .inr (3, [.int 1, .int 0, .int 0, .int 0, .ref q2, .ref q5, .ref q8, .int 0, .ref q11, .null, .null, .int 0, .null, .null])), (q2, .inl (d2, 5, .inl (fun _ => 0))), (q5, .inl (d5, 5, .inl (fun _ => 0))), (q8, .inl (d8, 40, .inl (fun _ => 0))), (q11, .inl (d11, 4, .inl (fun _ => 0))), (q14, .inl (d14, 4, .inl (fun _ => 0)))] := hD
  have hK : va_K (dC, dI) vwCl [(d2, .int), (d5, .int), (d8, .int), (d11, .int), (d14, .int)] s := hK
  refine W.widen (k := 5) (n := 58) (Nat.le_of_ble_eq_true rfl) (Nat.le_of_ble_eq_true rfl) ?_
  refine va_putF (D := (dC, dI)) (ci := 3) (v := .ref q14) (ty := .array .int) (C := RX4) (T := TX4) (N := 14) hx hb hG inX4 tyX4 tyX4_ok nmX4 hown hK hP hD hS 0 rfl rfl 9 (by decide) (hG _ gw263) (fun _ h9 => h9) rfl hin rfl (by decide +kernel) rfl rfl (Nat.le_of_ble_eq_true rfl) dX4_init_42 (fun H16 locs hP hD hS => ?_)
  have hP : va_P (dC, dI) vwCl [(a0, .inr (3, [.int 1, .int 0, .int 0, .int 0, .ref q2, .ref q5, .ref q8, .int 0, .ref q11, .ref q14, .null, .int 0, .null, .null])), (q2, .inl (d2, 5, .inl (fun _ => 0))), (q5, .inl (d5, 5, .inl (fun _ => 0))), (q8, .inl (d8, 40, .inl (fun _ => 0))), (q11, .inl (d11, 4, .inl (fun _ => 0))), (q14, .inl (d14, 4, .inl (fun _ => 0)))] H16 := hP
  have hD : va_D A [(a0, .inr (3, [.int 1, .int 0, .int 0, .int 0, .ref q2, .ref q5, .ref q8, .int 0, .ref q11, .ref q14, .null, .int 0, .null, .null])), (q2, .inl (d2, 5, .inl (fun _ => 0))), (q5, .inl (d5, 5, .inl (fun _ => 0))), (q8, .inl (d8, 40, .inl (fun _ => 0))), (q11, .inl (d11, 4, .inl (fun _ => 0))), (q14, .inl (d14, 4, .inl (fun _ => 0)))] := hD
  refine lv_aload_n hx hb dX4_init_45 rfl (lv_at hl 0 rfl) ?_
  refine lv_bipush (v := 12) hx hb dX4_init_46 (by decide) ?_
  refine va_newa (atype := .int) (ty := .int) (N' := 12) (a0 := (12, .inl (fun _ => 0))) hx hb (hG _ gw186) rfl hK hP hD hS hA (fun _ => rfl) (by decide) (by decide) (Nat.le_of_ble_eq_true rfl) (Nat.le_of_ble_eq_true rfl) (Nat.le_of_ble_eq_true rfl) dX4_init_48 (fun q17 d17 H18 hK hP hD hS => ?_)
  have hP : va_P (dC, dI) vwCl [(a0, .inr (3, [.int 1, .int 0, .int 0, .int 0, .ref q2, .ref q5, .ref q8, .int 0, .ref q11, .ref q14, .null, .int 0, .null, .null])), (q2, .inl (d2, 5, .inl (fun _ => 0))), (q5, .inl (d5, 5, .inl (fun _ => 0))), (q8, .inl (d8, 40, .inl (fun _ => 0))), (q11, .inl (d11, 4, .inl (fun _ => 0))), (q14, .inl (d14, 4, .inl (fun _ => 0))), (q17, .inl (d17, 12, .inl (fun _ => 0)))] H18 := hP
  have hD : va_D A [(a0, .inr (3, [.int 1, .int 0, .int 0, .int 0, .ref q2, .ref q5, .ref q8, .int 0, .ref q11, .ref q14, .null, .int 0, .null, .null])), (q2, .inl (d2, 5, .inl (fun _ => 0))), (q5, .inl (d5, 5, .inl (fun _ => 0))), (q8, .inl (d8, 40, .inl (fun _ => 0))), (q11, .inl (d11, 4, .inl (fun _ => 0))), (q14, .inl (d14, 4, .inl (fun _ => 0))), (q17, .inl (d17, 12, .inl (fun _ => 0)))] := hD
  have hK : va_K (dC, dI) vwCl [(d2, .int), (d5, .int), (d8, .int), (d11, .int), (d14, .int), (d17, .int)] s := hK
  refine W.widen (k := 6) (n := 70) (Nat.le_of_ble_eq_true rfl) (Nat.le_of_ble_eq_true rfl) ?_
  refine va_putF (D := (dC, dI)) (ci := 3) (v := .ref q17) (ty := .array .int) (C := RX4) (T := TX4) (N := 14) hx hb hG inX4 tyX4 tyX4_ok nmX4 hown hK hP hD hS 0 rfl rfl 10 (by decide) (hG _ gw267) (fun _ h9 => h9) rfl hin rfl (by decide +kernel) rfl rfl (Nat.le_of_ble_eq_true rfl) dX4_init_50 (fun H19 locs hP hD hS => ?_)
  have hP : va_P (dC, dI) vwCl [(a0, .inr (3, [.int 1, .int 0, .int 0, .int 0, .ref q2, .ref q5, .ref q8, .int 0, .ref q11, .ref q14, .ref q17, .int 0, .null, .null])), (q2, .inl (d2, 5, .inl (fun _ => 0))), (q5, .inl (d5, 5, .inl (fun _ => 0))), (q8, .inl (d8, 40, .inl (fun _ => 0))), (q11, .inl (d11, 4, .inl (fun _ => 0))), (q14, .inl (d14, 4, .inl (fun _ => 0))), (q17, .inl (d17, 12, .inl (fun _ => 0)))] H19 := hP
  have hD : va_D A [(a0, .inr (3, [.int 1, .int 0, .int 0, .int 0, .ref q2, .ref q5, .ref q8, .int 0, .ref q11, .ref q14, .ref q17, .int 0, .null, .null])), (q2, .inl (d2, 5, .inl (fun _ => 0))), (q5, .inl (d5, 5, .inl (fun _ => 0))), (q8, .inl (d8, 40, .inl (fun _ => 0))), (q11, .inl (d11, 4, .inl (fun _ => 0))), (q14, .inl (d14, 4, .inl (fun _ => 0))), (q17, .inl (d17, 12, .inl (fun _ => 0)))] := hD
  refine lv_aload_n hx hb dX4_init_53 rfl (lv_at hl 0 rfl) ?_
  refine va_new (ci := 1) (fs := [.null, .int 0, .null]) (C := RX1) (T := TX1) (N := 3) hx hb hG inX1 tyX1 tyX1_ok hown (hG _ gw194) (hG _ gw195) (hG _ gw133) hK hP hD hS hA rfl (by decide) (Nat.le_of_ble_eq_true rfl) (Nat.le_of_ble_eq_true rfl) dX4_init_54 (fun q20 H21 hP hD hS => ?_)
  have hP : va_P (dC, dI) vwCl [(a0, .inr (3, [.int 1, .int 0, .int 0, .int 0, .ref q2, .ref q5, .ref q8, .int 0, .ref q11, .ref q14, .ref q17, .int 0, .null, .null])), (q2, .inl (d2, 5, .inl (fun _ => 0))), (q5, .inl (d5, 5, .inl (fun _ => 0))), (q8, .inl (d8, 40, .inl (fun _ => 0))), (q11, .inl (d11, 4, .inl (fun _ => 0))), (q14, .inl (d14, 4, .inl (fun _ => 0))), (q17, .inl (d17, 12, .inl (fun _ => 0))), (q20, .inr (1, [.null, .int 0, .null]))] H21 := hP
  have hD : va_D A [(a0, .inr (3, [.int 1, .int 0, .int 0, .int 0, .ref q2, .ref q5, .ref q8, .int 0, .ref q11, .ref q14, .ref q17, .int 0, .null, .null])), (q2, .inl (d2, 5, .inl (fun _ => 0))), (q5, .inl (d5, 5, .inl (fun _ => 0))), (q8, .inl (d8, 40, .inl (fun _ => 0))), (q11, .inl (d11, 4, .inl (fun _ => 0))), (q14, .inl (d14, 4, .inl (fun _ => 0))), (q17, .inl (d17, 12, .inl (fun _ => 0))), (q20, .inr (1, [.null, .int 0, .null]))] := hD
  refine W.widen (k := 7) (n := 73) (Nat.le_of_ble_eq_true rfl) (Nat.le_of_ble_eq_true rfl) ?_
  refine lv_dup hx hb dX4_init_57 rfl ?_
  have hPc := hP.sub (ws' := [(q20, .inr (1, [.null, .int 0, .null]))]) [7] rfl
  have hKc := hK.sub (tys' := []) [] rfl
  have hDc := hD.sub (ws' := [(q20, .inr (1, [.null, .int 0, .null]))]) [7] (by decide) rfl
  have hFc := va_free (wc := [(q20, .inr (1, [.null, .int 0, .null]))]) hD hS hA [7] rfl
  refine va_callv (va_runIN (As := []) (rest := [.ref q20, .ref a0]) ⟨hx, hb, hml, hown, hG⟩ (qX1_init l dC dI q20 H21.size ) ⟨va_cnB 0 hG (good1 gw198) rfl rfl rfl (cnw_X4_36 hN) (hG _ gw133) hd_X1_init ⟨(Nat.le_of_ble_eq_true rfl), (Nat.le_of_ble_eq_true rfl)⟩, rfl, (hG _ gw197)⟩ ⟨fbW, pW_in hPc hKc hDc⟩ rfl rfl hl.1 rfl (lv_room (Nat.le_of_ble_eq_true rfl)) dX4_init_58 ⟨(Nat.le_of_ble_eq_true rfl), (Nat.le_of_ble_eq_true rfl)⟩) hS (fun q _ h => hFc q h) hFc (fun u t H22 locs ht hvm hw hB hz1 hk1 hS => ?_)
  refine W.widen (k := 9) (n := 403) (Nat.le_of_ble_eq_true rfl) (Nat.le_of_ble_eq_true rfl) ?_
  obtain ⟨q24, q25, nd26, nd27, hP1, hK1, hD1⟩ := hB
  rw [ht] at hP1
  have hK1 := va_K.moved hvm.symm hK1
  obtain ⟨hP, hD⟩ := va_join (wr := [(a0, .inr (3, [.int 1, .int 0, .int 0, .int 0, .ref q2, .ref q5, .ref q8, .int 0, .ref q11, .ref q14, .ref q17, .int 0, .null, .null])), (q2, .inl (d2, 5, .inl (fun _ => 0))), (q5, .inl (d5, 5, .inl (fun _ => 0))), (q8, .inl (d8, 40, .inl (fun _ => 0))), (q11, .inl (d11, 4, .inl (fun _ => 0))), (q14, .inl (d14, 4, .inl (fun _ => 0))), (q17, .inl (d17, 12, .inl (fun _ => 0)))]) (w1 := [(q20, .inr (1, [.ref q24, .int 0, .ref q25])), (q24, .inl (nd26, 300, .inl (fun _ => 0))), (q25, .inl (nd27, 30, .inl (fun _ => 0)))]) hP hD [7] [0, 1, 2, 3, 4, 5, 6] rfl rfl (by decide) (by decide) hk1 hFc hP1 hD1
  have hP : va_P (dC, dI) vwCl [(a0, .inr (3, [.int 1, .int 0, .int 0, .int 0, .ref q2, .ref q5, .ref q8, .int 0, .ref q11, .ref q14, .ref q17, .int 0, .null, .null])), (q2, .inl (d2, 5, .inl (fun _ => 0))), (q5, .inl (d5, 5, .inl (fun _ => 0))), (q8, .inl (d8, 40, .inl (fun _ => 0))), (q11, .inl (d11, 4, .inl (fun _ => 0))), (q14, .inl (d14, 4, .inl (fun _ => 0))), (q17, .inl (d17, 12, .inl (fun _ => 0))), (q20, .inr (1, [.ref q24, .int 0, .ref q25])), (q24, .inl (nd26, 300, .inl (fun _ => 0))), (q25, .inl (nd27, 30, .inl (fun _ => 0)))] H22 := hP
  have hD : va_D A [(a0, .inr (3, [.int 1, .int 0, .int 0, .int 0, .ref q2, .ref q5, .ref q8, .int 0, .ref q11, .ref q14, .ref q17, .int 0, .null, .null])), (q2, .inl (d2, 5, .inl (fun _ => 0))), (q5, .inl (d5, 5, .inl (fun _ => 0))), (q8, .inl (d8, 40, .inl (fun _ => 0))), (q11, .inl (d11, 4, .inl (fun _ => 0))), (q14, .inl (d14, 4, .inl (fun _ => 0))), (q17, .inl (d17, 12, .inl (fun _ => 0))), (q20, .inr (1, [.ref q24, .int 0, .ref q25])), (q24, .inl (nd26, 300, .inl (fun _ => 0))), (q25, .inl (nd27, 30, .inl (fun _ => 0)))] := hD
  have hK := hK.app hK1
  have hK : va_K (dC, dI) vwCl [(d2, .int), (d5, .int), (d8, .int), (d11, .int), (d14, .int), (d17, .int), (nd26, .int), (nd27, .int)] s := hK
  refine va_putF (D := (dC, dI)) (ci := 3) (v := .ref q20) (ty := .object "TuneApproval$Formula") (C := RX4) (T := TX4) (N := 14) hx hb hG inX4 tyX4 tyX4_ok nmX4 hown hK hP hD hS 0 rfl rfl 12 (by decide) (hG _ gw272) (fun _ h9 => h9) rfl hin rfl (by decide +kernel) rfl rfl (Nat.le_of_ble_eq_true rfl) dX4_init_61 (fun H28 locs hP hD hS => ?_)
  have hP : va_P (dC, dI) vwCl [(a0, .inr (3, [.int 1, .int 0, .int 0, .int 0, .ref q2, .ref q5, .ref q8, .int 0, .ref q11, .ref q14, .ref q17, .int 0, .ref q20, .null])), (q2, .inl (d2, 5, .inl (fun _ => 0))), (q5, .inl (d5, 5, .inl (fun _ => 0))), (q8, .inl (d8, 40, .inl (fun _ => 0))), (q11, .inl (d11, 4, .inl (fun _ => 0))), (q14, .inl (d14, 4, .inl (fun _ => 0))), (q17, .inl (d17, 12, .inl (fun _ => 0))), (q20, .inr (1, [.ref q24, .int 0, .ref q25])), (q24, .inl (nd26, 300, .inl (fun _ => 0))), (q25, .inl (nd27, 30, .inl (fun _ => 0)))] H28 := hP
  have hD : va_D A [(a0, .inr (3, [.int 1, .int 0, .int 0, .int 0, .ref q2, .ref q5, .ref q8, .int 0, .ref q11, .ref q14, .ref q17, .int 0, .ref q20, .null])), (q2, .inl (d2, 5, .inl (fun _ => 0))), (q5, .inl (d5, 5, .inl (fun _ => 0))), (q8, .inl (d8, 40, .inl (fun _ => 0))), (q11, .inl (d11, 4, .inl (fun _ => 0))), (q14, .inl (d14, 4, .inl (fun _ => 0))), (q17, .inl (d17, 12, .inl (fun _ => 0))), (q20, .inr (1, [.ref q24, .int 0, .ref q25])), (q24, .inl (nd26, 300, .inl (fun _ => 0))), (q25, .inl (nd27, 30, .inl (fun _ => 0)))] := hD
  refine lv_aload_n hx hb dX4_init_64 rfl (lv_at hl 0 rfl) ?_
  refine lv_bipush (v := 7) hx hb dX4_init_65 (by decide) ?_
  refine va_newa (atype := .int) (ty := .int) (N' := 7) (a0 := (7, .inl (fun _ => 0))) hx hb (hG _ gw186) rfl hK hP hD hS hA (fun _ => rfl) (by decide) (by decide) (Nat.le_of_ble_eq_true rfl) (Nat.le_of_ble_eq_true rfl) (Nat.le_of_ble_eq_true rfl) dX4_init_67 (fun q29 d29 H30 hK hP hD hS => ?_)
  have hP : va_P (dC, dI) vwCl [(a0, .inr (3, [.int 1, .int 0, .int 0, .int 0, .ref q2, .ref q5, .ref q8, .int 0, .ref q11, .ref q14, .ref q17, .int 0, .ref q20, .null])), (q2, .inl (d2, 5, .inl (fun _ => 0))), (q5, .inl (d5, 5, .inl (fun _ => 0))), (q8, .inl (d8, 40, .inl (fun _ => 0))), (q11, .inl (d11, 4, .inl (fun _ => 0))), (q14, .inl (d14, 4, .inl (fun _ => 0))), (q17, .inl (d17, 12, .inl (fun _ => 0))), (q20, .inr (1, [.ref q24, .int 0, .ref q25])), (q24, .inl (nd26, 300, .inl (fun _ => 0))), (q25, .inl (nd27, 30, .inl (fun _ => 0))), (q29, .inl (d29, 7, .inl (fun _ => 0)))] H30 := hP
  have hD : va_D A [(a0, .inr (3, [.int 1, .int 0, .int 0, .int 0, .ref q2, .ref q5, .ref q8, .int 0, .ref q11, .ref q14, .ref q17, .int 0, .ref q20, .null])), (q2, .inl (d2, 5, .inl (fun _ => 0))), (q5, .inl (d5, 5, .inl (fun _ => 0))), (q8, .inl (d8, 40, .inl (fun _ => 0))), (q11, .inl (d11, 4, .inl (fun _ => 0))), (q14, .inl (d14, 4, .inl (fun _ => 0))), (q17, .inl (d17, 12, .inl (fun _ => 0))), (q20, .inr (1, [.ref q24, .int 0, .ref q25])), (q24, .inl (nd26, 300, .inl (fun _ => 0))), (q25, .inl (nd27, 30, .inl (fun _ => 0))), (q29, .inl (d29, 7, .inl (fun _ => 0)))] := hD
  have hK : va_K (dC, dI) vwCl [(d2, .int), (d5, .int), (d8, .int), (d11, .int), (d14, .int), (d17, .int), (nd26, .int), (nd27, .int), (d29, .int)] s := hK
  refine W.widen (k := 10) (n := 410) (Nat.le_of_ble_eq_true rfl) (Nat.le_of_ble_eq_true rfl) ?_
  refine va_putF (D := (dC, dI)) (ci := 3) (v := .ref q29) (ty := .array .int) (C := RX4) (T := TX4) (N := 14) hx hb hG inX4 tyX4 tyX4_ok nmX4 hown hK hP hD hS 0 rfl rfl 13 (by decide) (hG _ gw274) (fun _ h9 => h9) rfl hin rfl (by decide +kernel) rfl rfl (Nat.le_of_ble_eq_true rfl) dX4_init_69 (fun H31 locs hP hD hS => ?_)
  have hP : va_P (dC, dI) vwCl [(a0, .inr (3, [.int 1, .int 0, .int 0, .int 0, .ref q2, .ref q5, .ref q8, .int 0, .ref q11, .ref q14, .ref q17, .int 0, .ref q20, .ref q29])), (q2, .inl (d2, 5, .inl (fun _ => 0))), (q5, .inl (d5, 5, .inl (fun _ => 0))), (q8, .inl (d8, 40, .inl (fun _ => 0))), (q11, .inl (d11, 4, .inl (fun _ => 0))), (q14, .inl (d14, 4, .inl (fun _ => 0))), (q17, .inl (d17, 12, .inl (fun _ => 0))), (q20, .inr (1, [.ref q24, .int 0, .ref q25])), (q24, .inl (nd26, 300, .inl (fun _ => 0))), (q25, .inl (nd27, 30, .inl (fun _ => 0))), (q29, .inl (d29, 7, .inl (fun _ => 0)))] H31 := hP
  have hD : va_D A [(a0, .inr (3, [.int 1, .int 0, .int 0, .int 0, .ref q2, .ref q5, .ref q8, .int 0, .ref q11, .ref q14, .ref q17, .int 0, .ref q20, .ref q29])), (q2, .inl (d2, 5, .inl (fun _ => 0))), (q5, .inl (d5, 5, .inl (fun _ => 0))), (q8, .inl (d8, 40, .inl (fun _ => 0))), (q11, .inl (d11, 4, .inl (fun _ => 0))), (q14, .inl (d14, 4, .inl (fun _ => 0))), (q17, .inl (d17, 12, .inl (fun _ => 0))), (q20, .inr (1, [.ref q24, .int 0, .ref q25])), (q24, .inl (nd26, 300, .inl (fun _ => 0))), (q25, .inl (nd27, 30, .inl (fun _ => 0))), (q29, .inl (d29, 7, .inl (fun _ => 0)))] := hD
  refine lv_aload_n hx hb dX4_init_72 rfl (lv_at hl 0 rfl) ?_
  have hPc := hP.sub (ws' := [(a0, .inr (3, [.int 1, .int 0, .int 0, .int 0, .ref q2, .ref q5, .ref q8, .int 0, .ref q11, .ref q14, .ref q17, .int 0, .ref q20, .ref q29])), (q20, .inr (1, [.ref q24, .int 0, .ref q25])), (q24, .inl (nd26, 300, .inl (fun _ => 0)))]) [0, 7, 8] rfl
  have hKc := hK.sub (tys' := [(nd26, .int)]) [6] rfl
  have hDc := hD.sub (ws' := [(a0, .inr (3, [.int 1, .int 0, .int 0, .int 0, .ref q2, .ref q5, .ref q8, .int 0, .ref q11, .ref q14, .ref q17, .int 0, .ref q20, .ref q29])), (q20, .inr (1, [.ref q24, .int 0, .ref q25])), (q24, .inl (nd26, 300, .inl (fun _ => 0)))]) [0, 7, 8] (by decide) rfl
  have hFc := va_free (wc := [(a0, .inr (3, [.int 1, .int 0, .int 0, .int 0, .ref q2, .ref q5, .ref q8, .int 0, .ref q11, .ref q14, .ref q17, .int 0, .ref q20, .ref q29])), (q20, .inr (1, [.ref q24, .int 0, .ref q25])), (q24, .inl (nd26, 300, .inl (fun _ => 0)))]) hD hS hA [0, 7, 8] rfl
  refine va_callv (va_runV (As := []) (rest := []) ⟨hx, hb, hml, hown, hG⟩ (qX4_tellUsualGladness l dC dI a0 q2 q5 q8 q11 q14 q17 q20 q29 q24 q25 nd26 H31.size ) (cwV 0 hG (goodV gw210 gw212 gw0 gw132 gw213) rfl rfl rfl hd_X4_tellUsualGladness ⟨(Nat.le_of_ble_eq_true rfl), (Nat.le_of_ble_eq_true rfl)⟩) ⟨fbW, va_recv hKc hPc (ci := 3) (q0 := 0) rfl rfl, pW_in hPc hKc hDc⟩ rfl rfl hl.1 rfl (lv_room (Nat.le_of_ble_eq_true rfl)) dX4_init_73 ⟨(Nat.le_of_ble_eq_true rfl), (Nat.le_of_ble_eq_true rfl)⟩) hS (fun q _ h => hFc q h) hFc (fun u t H32 locs ht hvm hw hB hz1 hk1 hS => ?_)
  obtain ⟨zf34, hP1, hD1⟩ := hB
  rw [ht] at hP1
  obtain ⟨hP, hD⟩ := va_join (wr := [(q2, .inl (d2, 5, .inl (fun _ => 0))), (q5, .inl (d5, 5, .inl (fun _ => 0))), (q8, .inl (d8, 40, .inl (fun _ => 0))), (q11, .inl (d11, 4, .inl (fun _ => 0))), (q14, .inl (d14, 4, .inl (fun _ => 0))), (q17, .inl (d17, 12, .inl (fun _ => 0))), (q25, .inl (nd27, 30, .inl (fun _ => 0))), (q29, .inl (d29, 7, .inl (fun _ => 0)))]) (w1 := [(a0, .inr (3, [.int 1, .int 0, .int 0, .int 0, .ref q2, .ref q5, .ref q8, .int 0, .ref q11, .ref q14, .ref q17, .int 0, .ref q20, .ref q29])), (q20, .inr (1, [.ref q24, .int 7, .ref q25])), (q24, .inl (nd26, 300, .inl zf34))]) hP hD [0, 7, 8] [1, 2, 3, 4, 5, 6, 9, 10] rfl rfl (by decide) (by decide) hk1 hFc hP1 hD1
  have hP : va_P (dC, dI) vwCl [(q2, .inl (d2, 5, .inl (fun _ => 0))), (q5, .inl (d5, 5, .inl (fun _ => 0))), (q8, .inl (d8, 40, .inl (fun _ => 0))), (q11, .inl (d11, 4, .inl (fun _ => 0))), (q14, .inl (d14, 4, .inl (fun _ => 0))), (q17, .inl (d17, 12, .inl (fun _ => 0))), (q25, .inl (nd27, 30, .inl (fun _ => 0))), (q29, .inl (d29, 7, .inl (fun _ => 0))), (a0, .inr (3, [.int 1, .int 0, .int 0, .int 0, .ref q2, .ref q5, .ref q8, .int 0, .ref q11, .ref q14, .ref q17, .int 0, .ref q20, .ref q29])), (q20, .inr (1, [.ref q24, .int 7, .ref q25])), (q24, .inl (nd26, 300, .inl zf34))] H32 := hP
  have hD : va_D A [(q2, .inl (d2, 5, .inl (fun _ => 0))), (q5, .inl (d5, 5, .inl (fun _ => 0))), (q8, .inl (d8, 40, .inl (fun _ => 0))), (q11, .inl (d11, 4, .inl (fun _ => 0))), (q14, .inl (d14, 4, .inl (fun _ => 0))), (q17, .inl (d17, 12, .inl (fun _ => 0))), (q25, .inl (nd27, 30, .inl (fun _ => 0))), (q29, .inl (d29, 7, .inl (fun _ => 0))), (a0, .inr (3, [.int 1, .int 0, .int 0, .int 0, .ref q2, .ref q5, .ref q8, .int 0, .ref q11, .ref q14, .ref q17, .int 0, .ref q20, .ref q29])), (q20, .inr (1, [.ref q24, .int 7, .ref q25])), (q24, .inl (nd26, 300, .inl zf34))] := hD
  have hP9 := hP.sub (ws' := [(a0, .inr (3, [.int 1, .int 0, .int 0, .int 0, .ref q2, .ref q5, .ref q8, .int 0, .ref q11, .ref q14, .ref q17, .int 0, .ref q20, .ref q29])), (q2, .inl (d2, 5, .inl (fun _ => 0))), (q5, .inl (d5, 5, .inl (fun _ => 0))), (q8, .inl (d8, 40, .inl (fun _ => 0))), (q11, .inl (d11, 4, .inl (fun _ => 0))), (q14, .inl (d14, 4, .inl (fun _ => 0))), (q17, .inl (d17, 12, .inl (fun _ => 0))), (q25, .inl (nd27, 30, .inl (fun _ => 0))), (q29, .inl (d29, 7, .inl (fun _ => 0))), (q20, .inr (1, [.ref q24, .int 7, .ref q25])), (q24, .inl (nd26, 300, .inl zf34))]) [8, 0, 1, 2, 3, 4, 5, 6, 7, 9, 10] rfl
  have hD9 := hD.sub (ws' := [(a0, .inr (3, [.int 1, .int 0, .int 0, .int 0, .ref q2, .ref q5, .ref q8, .int 0, .ref q11, .ref q14, .ref q17, .int 0, .ref q20, .ref q29])), (q2, .inl (d2, 5, .inl (fun _ => 0))), (q5, .inl (d5, 5, .inl (fun _ => 0))), (q8, .inl (d8, 40, .inl (fun _ => 0))), (q11, .inl (d11, 4, .inl (fun _ => 0))), (q14, .inl (d14, 4, .inl (fun _ => 0))), (q17, .inl (d17, 12, .inl (fun _ => 0))), (q25, .inl (nd27, 30, .inl (fun _ => 0))), (q29, .inl (d29, 7, .inl (fun _ => 0))), (q20, .inr (1, [.ref q24, .int 7, .ref q25])), (q24, .inl (nd26, 300, .inl zf34))]) [8, 0, 1, 2, 3, 4, 5, 6, 7, 9, 10] (by decide) rfl
  have hK9 := hK.sub (tys' := [(d2, .int), (d5, .int), (d8, .int), (d11, .int), (d14, .int), (d17, .int), (nd27, .int), (d29, .int), (nd26, .int)]) [0, 1, 2, 3, 4, 5, 7, 8, 6] rfl
  refine W.widen (k := 10) (n := 410) (Nat.le_of_ble_eq_true rfl) (Nat.le_of_ble_eq_true rfl) ?_
  exact W.vret hx hb hr (fun t ht hW => ⟨⟨(), rfl, trivial, ⟨q2, q5, q8, q11, q14, q17, q25, q29, q20, q24, d2, d5, d8, d11, d14, d17, nd27, d29, nd26, zf34, by rw [ht]; exact hP9, va_K.moved hW.alike hK9, hD9⟩⟩, hS.F ht⟩) hS.2.2 dX4_init_76
set_option maxHeartbeats 4000000 in
set_option maxRecDepth 100000 in
theorem qX5_init (l : Launch) (dC : Nat → ClassId) (dI : Nat → Nat → Nat) (a0 : Nat) (sz : Nat) : Met l yX5_init (.code yX5_init cX5_init 1 none :: GW) { frames := 10, cells := 17, slots := 5241, locals := 342 } (va_Pc [.ref a0] (pN (dC, dI) [(a0, .inr (4, [.int 0, .int 0, .null, .null, .int 0, .int 0, .null, .null, .int 0, .int 0, .int 0, .int 0]))] [] sz)) (va_Qv (fun _ : Unit => True) (fun (_ : Unit) (t : State) => ∃ (b0 b1 b2 b3 b4 b5 b6 b7 b8 b9 b10 b11 b12 b13 b14 b15 b16 : Nat) (t1 t2 t3 t5 t6 t7 t8 t9 t10 t11 t12 t14 t15 t16 : ClassId) (F0 : Nat → Int32), va_P (dC, dI) vwCl [(a0, .inr (4, [.int 0, .int (-1), .ref b0, .ref b4, .int 0, .int 0, .ref b15, .ref b16, .int 0, .int 0, .int 0, .int 0])), (b0, .inr (5, [.ref b1, .ref b2, .ref b3, .int 0, .int 0])), (b1, .inl (t1, 1601, .inl (fun _ => 0))), (b2, .inl (t2, 1601, .inl (fun _ => 0))), (b3, .inl (t3, 1601, .inr (.inl (fun _ => 0)))), (b4, .inr (3, [.int 1, .int 0, .int 0, .int 0, .ref b5, .ref b6, .ref b7, .int 0, .ref b8, .ref b9, .ref b10, .int 0, .ref b13, .ref b12])), (b5, .inl (t5, 5, .inl (fun _ => 0))), (b6, .inl (t6, 5, .inl (fun _ => 0))), (b7, .inl (t7, 40, .inl (fun _ => 0))), (b8, .inl (t8, 4, .inl (fun _ => 0))), (b9, .inl (t9, 4, .inl (fun _ => 0))), (b10, .inl (t10, 12, .inl (fun _ => 0))), (b11, .inl (t11, 30, .inl (fun _ => 0))), (b12, .inl (t12, 7, .inl (fun _ => 0))), (b13, .inr (1, [.ref b14, .int 7, .ref b11])), (b14, .inl (t14, 300, .inl F0)), (b15, .inl (t15, 5, .inr (.inl (fun _ => 0)))), (b16, .inl (t16, 4, .inr (.inl (fun _ => 0))))] t.heap ∧ va_K (dC, dI) vwCl [(t1, .int), (t2, .int), (t3, .long), (t5, .int), (t6, .int), (t7, .int), (t8, .int), (t9, .int), (t10, .int), (t11, .int), (t12, .int), (t14, .int), (t15, .long), (t16, .long)] t ∧ va_D (va_A [(a0, .inr (4, [.int 0, .int 0, .null, .null, .int 0, .int 0, .null, .null, .int 0, .int 0, .int 0, .int 0]))] sz) [(a0, .inr (4, [.int 0, .int (-1), .ref b0, .ref b4, .int 0, .int 0, .ref b15, .ref b16, .int 0, .int 0, .int 0, .int 0])), (b0, .inr (5, [.ref b1, .ref b2, .ref b3, .int 0, .int 0])), (b1, .inl (t1, 1601, .inl (fun _ => 0))), (b2, .inl (t2, 1601, .inl (fun _ => 0))), (b3, .inl (t3, 1601, .inr (.inl (fun _ => 0)))), (b4, .inr (3, [.int 1, .int 0, .int 0, .int 0, .ref b5, .ref b6, .ref b7, .int 0, .ref b8, .ref b9, .ref b10, .int 0, .ref b13, .ref b12])), (b5, .inl (t5, 5, .inl (fun _ => 0))), (b6, .inl (t6, 5, .inl (fun _ => 0))), (b7, .inl (t7, 40, .inl (fun _ => 0))), (b8, .inl (t8, 4, .inl (fun _ => 0))), (b9, .inl (t9, 4, .inl (fun _ => 0))), (b10, .inl (t10, 12, .inl (fun _ => 0))), (b11, .inl (t11, 30, .inl (fun _ => 0))), (b12, .inl (t12, 7, .inl (fun _ => 0))), (b13, .inr (1, [.ref b14, .int 7, .ref b11])), (b14, .inl (t14, 300, .inl F0)), (b15, .inl (t15, 5, .inr (.inl (fun _ => 0)))), (b16, .inl (t16, 4, .inr (.inl (fun _ => 0))))]) (va_A [(a0, .inr (4, [.int 0, .int 0, .null, .null, .int 0, .int 0, .null, .null, .int 0, .int 0, .int 0, .int 0]))] sz)) 17 5241 (va_A [(a0, .inr (4, [.int 0, .int 0, .null, .null, .int 0, .int 0, .null, .null, .int 0, .int 0, .int 0, .int 0]))] sz) := by
  refine Met.ofW (cc := cX5_init) (maxL := 1) (ret := none) (by decide) rfl ?_
  intro p e s m args below meth c0 s₁ B hml hv
  obtain ⟨rfl, hsz, hP, hK, hD0, hN⟩ := hv
  have hx := B.exec
  have hb := B.bytes
  have hr := B.returns
  have hts := atoms_spec (ws := .code yX5_init cX5_init 1 none :: GW) B.pre
  have hG : ∀ w ∈ GW, w.before _ s = true := fun w h => hts w (List.mem_cons_of_mem _ h)
  have hown : s.vm.findClass RX5 = some m.cls := findClass_of_methodNamed B.named
  have hlocks := B.notSynchronized
  have hin : meth.name = "<init>" := (name_of_methodNamed B.named B.method).1
  subst hsz
  have hD := hD0.self (sz := s.heap.size)
  generalize hAe : va_A [(a0, .inr (4, [.int 0, .int 0, .null, .null, .int 0, .int 0, .null, .null, .int 0, .int 0, .int 0, .int 0]))] s.heap.size = A at hD ⊢
  have hA : ∀ q : Nat, s.heap.size ≤ q → A q := fun q h => by rw [← hAe]; exact Or.inr h
  have hS : va_S A s.heap s.heap [] := va_S.rf
  have hP : va_P (dC, dI) vwCl [(a0, .inr (4, [.int 0, .int 0, .null, .null, .int 0, .int 0, .null, .null, .int 0, .int 0, .int 0, .int 0]))] s.heap := hP
  have hl := lv_entry ([.ref a0]) (n := 1) (Nat.le_of_ble_eq_true rfl)
  rw [lg_entry_eq]
  generalize (lg_sl ([.ref a0]) ++ List.replicate (1 - (lg_sl ([.ref a0])).length) Slot.unset).toArray = ls at hl ⊢
  have hl : lv_has ls 1 [(0, .ref a0)] := hl
  refine lv_aload_n hx hb dX5_init_0 rfl (lv_at hl 0 rfl) ?_
  refine W.objInit hx hb hown (hG _ gw159) (hG _ gw152) (hG _ gw153) rfl (by rw [hml]; exact hl.1) rfl dX5_init_1 (Nat.le_of_ble_eq_true rfl) (Nat.le_of_ble_eq_true rfl) ?_
  refine W.eq (g2 := F0 m 4 ls []) rfl ?_
  refine lv_aload_n hx hb dX5_init_4 rfl (lv_at hl 0 rfl) ?_
  refine lv_iconst (v := (-1)) hx hb dX5_init_5 (by decide) ?_
  refine va_put (D := (dC, dI)) (ci := 4) (v := .int (-1)) (ty := .int) (C := RX5) (T := TX5) (N := 12) hx hb hG inX5 tyX5 tyX5_ok nmX5 hown hK hP hD hS 0 rfl rfl 1 (by decide) (hG _ gw306) (fun _ h9 => h9) rfl (by decide +kernel) rfl rfl (Nat.le_of_ble_eq_true rfl) dX5_init_6 (fun H1 locs hP hD hS => ?_)
  have hP : va_P (dC, dI) vwCl [(a0, .inr (4, [.int 0, .int (-1), .null, .null, .int 0, .int 0, .null, .null, .int 0, .int 0, .int 0, .int 0]))] H1 := hP
  have hD : va_D A [(a0, .inr (4, [.int 0, .int (-1), .null, .null, .int 0, .int 0, .null, .null, .int 0, .int 0, .int 0, .int 0]))] := hD
  refine lv_aload_n hx hb dX5_init_9 rfl (lv_at hl 0 rfl) ?_
  refine va_new (ci := 5) (fs := [.null, .null, .null, .int 0, .int 0]) (C := RX6) (T := TX6) (N := 5) hx hb hG inX6 tyX6 tyX6_ok hown (hG _ gw160) (hG _ gw161) (hG _ gw131) hK hP hD hS hA rfl (by decide) (Nat.le_of_ble_eq_true rfl) (Nat.le_of_ble_eq_true rfl) dX5_init_10 (fun q2 H3 hP hD hS => ?_)
  have hP : va_P (dC, dI) vwCl [(a0, .inr (4, [.int 0, .int (-1), .null, .null, .int 0, .int 0, .null, .null, .int 0, .int 0, .int 0, .int 0])), (q2, .inr (5, [.null, .null, .null, .int 0, .int 0]))] H3 := hP
  have hD : va_D A [(a0, .inr (4, [.int 0, .int (-1), .null, .null, .int 0, .int 0, .null, .null, .int 0, .int 0, .int 0, .int 0])), (q2, .inr (5, [.null, .null, .null, .int 0, .int 0]))] := hD
  refine W.widen (k := 1) (n := 5) (Nat.le_of_ble_eq_true rfl) (Nat.le_of_ble_eq_true rfl) ?_
  refine lv_dup hx hb dX5_init_13 rfl ?_
  have hPc := hP.sub (ws' := [(q2, .inr (5, [.null, .null, .null, .int 0, .int 0]))]) [1] rfl
  have hKc := hK.sub (tys' := []) [] rfl
  have hDc := hD.sub (ws' := [(q2, .inr (5, [.null, .null, .null, .int 0, .int 0]))]) [1] (by decide) rfl
  have hFc := va_free (wc := [(q2, .inr (5, [.null, .null, .null, .int 0, .int 0]))]) hD hS hA [1] rfl
  refine va_callv (va_runIN (As := []) (rest := [.ref q2, .ref a0]) ⟨hx, hb, hml, hown, hG⟩ (qX6_init l dC dI q2 H3.size ) ⟨va_cnB 0 hG (good1 gw164) rfl rfl rfl (cnw_X5_17 hN) (hG _ gw131) hd_X6_init ⟨(Nat.le_of_ble_eq_true rfl), (Nat.le_of_ble_eq_true rfl)⟩, rfl, (hG _ gw163)⟩ ⟨fbW, pW_in hPc hKc hDc⟩ rfl rfl hl.1 rfl (lv_room (Nat.le_of_ble_eq_true rfl)) dX5_init_14 ⟨(Nat.le_of_ble_eq_true rfl), (Nat.le_of_ble_eq_true rfl)⟩) hS (fun q _ h => hFc q h) hFc (fun u t H4 locs ht hvm hw hB hz1 hk1 hS => ?_)
  refine W.widen (k := 4) (n := 4808) (Nat.le_of_ble_eq_true rfl) (Nat.le_of_ble_eq_true rfl) ?_
  obtain ⟨q6, q7, q8, nd9, nd10, nd11, hP1, hK1, hD1⟩ := hB
  rw [ht] at hP1
  have hK1 := va_K.moved hvm.symm hK1
  obtain ⟨hP, hD⟩ := va_join (wr := [(a0, .inr (4, [.int 0, .int (-1), .null, .null, .int 0, .int 0, .null, .null, .int 0, .int 0, .int 0, .int 0]))]) (w1 := [(q2, .inr (5, [.ref q6, .ref q7, .ref q8, .int 0, .int 0])), (q6, .inl (nd9, 1601, .inl (fun _ => 0))), (q7, .inl (nd10, 1601, .inl (fun _ => 0))), (q8, .inl (nd11, 1601, .inr (.inl (fun _ => 0))))]) hP hD [1] [0] rfl rfl (by decide) (by decide) hk1 hFc hP1 hD1
  have hP : va_P (dC, dI) vwCl [(a0, .inr (4, [.int 0, .int (-1), .null, .null, .int 0, .int 0, .null, .null, .int 0, .int 0, .int 0, .int 0])), (q2, .inr (5, [.ref q6, .ref q7, .ref q8, .int 0, .int 0])), (q6, .inl (nd9, 1601, .inl (fun _ => 0))), (q7, .inl (nd10, 1601, .inl (fun _ => 0))), (q8, .inl (nd11, 1601, .inr (.inl (fun _ => 0))))] H4 := hP
  have hD : va_D A [(a0, .inr (4, [.int 0, .int (-1), .null, .null, .int 0, .int 0, .null, .null, .int 0, .int 0, .int 0, .int 0])), (q2, .inr (5, [.ref q6, .ref q7, .ref q8, .int 0, .int 0])), (q6, .inl (nd9, 1601, .inl (fun _ => 0))), (q7, .inl (nd10, 1601, .inl (fun _ => 0))), (q8, .inl (nd11, 1601, .inr (.inl (fun _ => 0))))] := hD
  have hK := hK.app hK1
  have hK : va_K (dC, dI) vwCl [(nd9, .int), (nd10, .int), (nd11, .long)] s := hK
  refine va_putF (D := (dC, dI)) (ci := 4) (v := .ref q2) (ty := .object "TuneApproval$Scanner") (C := RX5) (T := TX5) (N := 12) hx hb hG inX5 tyX5 tyX5_ok nmX5 hown hK hP hD hS 0 rfl rfl 2 (by decide) (hG _ gw308) (fun _ h9 => h9) rfl hin rfl (by decide +kernel) rfl rfl (Nat.le_of_ble_eq_true rfl) dX5_init_17 (fun H12 locs hP hD hS => ?_)
  have hP : va_P (dC, dI) vwCl [(a0, .inr (4, [.int 0, .int (-1), .ref q2, .null, .int 0, .int 0, .null, .null, .int 0, .int 0, .int 0, .int 0])), (q2, .inr (5, [.ref q6, .ref q7, .ref q8, .int 0, .int 0])), (q6, .inl (nd9, 1601, .inl (fun _ => 0))), (q7, .inl (nd10, 1601, .inl (fun _ => 0))), (q8, .inl (nd11, 1601, .inr (.inl (fun _ => 0))))] H12 := hP
  have hD : va_D A [(a0, .inr (4, [.int 0, .int (-1), .ref q2, .null, .int 0, .int 0, .null, .null, .int 0, .int 0, .int 0, .int 0])), (q2, .inr (5, [.ref q6, .ref q7, .ref q8, .int 0, .int 0])), (q6, .inl (nd9, 1601, .inl (fun _ => 0))), (q7, .inl (nd10, 1601, .inl (fun _ => 0))), (q8, .inl (nd11, 1601, .inr (.inl (fun _ => 0))))] := hD
  refine lv_aload_n hx hb dX5_init_20 rfl (lv_at hl 0 rfl) ?_
  refine va_new (ci := 3) (fs := [.int 0, .int 0, .int 0, .int 0, .null, .null, .null, .int 0, .null, .null, .null, .int 0, .null, .null]) (C := RX4) (T := TX4) (N := 14) hx hb hG inX4 tyX4 tyX4_ok hown (hG _ gw188) (hG _ gw189) (hG _ gw132) hK hP hD hS hA rfl (by decide) (Nat.le_of_ble_eq_true rfl) (Nat.le_of_ble_eq_true rfl) dX5_init_21 (fun q13 H14 hP hD hS => ?_)
  have hP : va_P (dC, dI) vwCl [(a0, .inr (4, [.int 0, .int (-1), .ref q2, .null, .int 0, .int 0, .null, .null, .int 0, .int 0, .int 0, .int 0])), (q2, .inr (5, [.ref q6, .ref q7, .ref q8, .int 0, .int 0])), (q6, .inl (nd9, 1601, .inl (fun _ => 0))), (q7, .inl (nd10, 1601, .inl (fun _ => 0))), (q8, .inl (nd11, 1601, .inr (.inl (fun _ => 0)))), (q13, .inr (3, [.int 0, .int 0, .int 0, .int 0, .null, .null, .null, .int 0, .null, .null, .null, .int 0, .null, .null]))] H14 := hP
  have hD : va_D A [(a0, .inr (4, [.int 0, .int (-1), .ref q2, .null, .int 0, .int 0, .null, .null, .int 0, .int 0, .int 0, .int 0])), (q2, .inr (5, [.ref q6, .ref q7, .ref q8, .int 0, .int 0])), (q6, .inl (nd9, 1601, .inl (fun _ => 0))), (q7, .inl (nd10, 1601, .inl (fun _ => 0))), (q8, .inl (nd11, 1601, .inr (.inl (fun _ => 0)))), (q13, .inr (3, [.int 0, .int 0, .int 0, .int 0, .null, .null, .null, .int 0, .null, .null, .null, .int 0, .null, .null]))] := hD
  refine W.widen (k := 5) (n := 4822) (Nat.le_of_ble_eq_true rfl) (Nat.le_of_ble_eq_true rfl) ?_
  refine lv_dup hx hb dX5_init_24 rfl ?_
  have hPc := hP.sub (ws' := [(q13, .inr (3, [.int 0, .int 0, .int 0, .int 0, .null, .null, .null, .int 0, .null, .null, .null, .int 0, .null, .null]))]) [5] rfl
  have hKc := hK.sub (tys' := []) [] rfl
  have hDc := hD.sub (ws' := [(q13, .inr (3, [.int 0, .int 0, .int 0, .int 0, .null, .null, .null, .int 0, .null, .null, .null, .int 0, .null, .null]))]) [5] (by decide) rfl
  have hFc := va_free (wc := [(q13, .inr (3, [.int 0, .int 0, .int 0, .int 0, .null, .null, .null, .int 0, .null, .null, .null, .int 0, .null, .null]))]) hD hS hA [5] rfl
  refine va_callv (va_runI (As := []) (rest := [.ref q13, .ref a0]) ⟨hx, hb, hml, hown, hG⟩ (qX4_init l dC dI q13 H14.size ) (cwI 0 hG (good1 gw192) rfl rfl rfl (hG _ gw132) (hG _ gw190) (hG _ gw191) rfl hd_X4_init ⟨(Nat.le_of_ble_eq_true rfl), (Nat.le_of_ble_eq_true rfl)⟩) ⟨fbN, pN_in hPc hKc hDc hN⟩ rfl rfl hl.1 rfl (lv_room (Nat.le_of_ble_eq_true rfl)) dX5_init_25 ⟨(Nat.le_of_ble_eq_true rfl), (Nat.le_of_ble_eq_true rfl)⟩) hS (fun q _ h => hFc q h) hFc (fun u t H15 locs ht hvm hw hB hz1 hk1 hS => ?_)
  refine W.widen (k := 15) (n := 5232) (Nat.le_of_ble_eq_true rfl) (Nat.le_of_ble_eq_true rfl) ?_
  obtain ⟨q17, q18, q19, q20, q21, q22, q23, q24, q25, q26, nd27, nd28, nd29, nd30, nd31, nd32, nd33, nd34, nd35, zf36, hP1, hK1, hD1⟩ := hB
  rw [ht] at hP1
  have hK1 := va_K.moved hvm.symm hK1
  obtain ⟨hP, hD⟩ := va_join (wr := [(a0, .inr (4, [.int 0, .int (-1), .ref q2, .null, .int 0, .int 0, .null, .null, .int 0, .int 0, .int 0, .int 0])), (q2, .inr (5, [.ref q6, .ref q7, .ref q8, .int 0, .int 0])), (q6, .inl (nd9, 1601, .inl (fun _ => 0))), (q7, .inl (nd10, 1601, .inl (fun _ => 0))), (q8, .inl (nd11, 1601, .inr (.inl (fun _ => 0))))]) (w1 := [(q13, .inr (3, [.int 1, .int 0, .int 0, .int 0, .ref q17, .ref q18, .ref q19, .int 0, .ref q20, .ref q21, .ref q22, .int 0, .ref q25, .ref q24])), (q17, .inl (nd27, 5, .inl (fun _ => 0))), (q18, .inl (nd28, 5, .inl (fun _ => 0))), (q19, .inl (nd29, 40, .inl (fun _ => 0))), (q20, .inl (nd30, 4, .inl (fun _ => 0))), (q21, .inl (nd31, 4, .inl (fun _ => 0))), (q22, .inl (nd32, 12, .inl (fun _ => 0))), (q23, .inl (nd33, 30, .inl (fun _ => 0))), (q24, .inl (nd34, 7, .inl (fun _ => 0))), (q25, .inr (1, [.ref q26, .int 7, .ref q23])), (q26, .inl (nd35, 300, .inl zf36))]) hP hD [5] [0, 1, 2, 3, 4] rfl rfl (by decide) (by decide) hk1 hFc hP1 hD1
  have hP : va_P (dC, dI) vwCl [(a0, .inr (4, [.int 0, .int (-1), .ref q2, .null, .int 0, .int 0, .null, .null, .int 0, .int 0, .int 0, .int 0])), (q2, .inr (5, [.ref q6, .ref q7, .ref q8, .int 0, .int 0])), (q6, .inl (nd9, 1601, .inl (fun _ => 0))), (q7, .inl (nd10, 1601, .inl (fun _ => 0))), (q8, .inl (nd11, 1601, .inr (.inl (fun _ => 0)))), (q13, .inr (3, [.int 1, .int 0, .int 0, .int 0, .ref q17, .ref q18, .ref q19, .int 0, .ref q20, .ref q21, .ref q22, .int 0, .ref q25, .ref q24])), (q17, .inl (nd27, 5, .inl (fun _ => 0))), (q18, .inl (nd28, 5, .inl (fun _ => 0))), (q19, .inl (nd29, 40, .inl (fun _ => 0))), (q20, .inl (nd30, 4, .inl (fun _ => 0))), (q21, .inl (nd31, 4, .inl (fun _ => 0))), (q22, .inl (nd32, 12, .inl (fun _ => 0))), (q23, .inl (nd33, 30, .inl (fun _ => 0))), (q24, .inl (nd34, 7, .inl (fun _ => 0))), (q25, .inr (1, [.ref q26, .int 7, .ref q23])), (q26, .inl (nd35, 300, .inl zf36))] H15 := hP
  have hD : va_D A [(a0, .inr (4, [.int 0, .int (-1), .ref q2, .null, .int 0, .int 0, .null, .null, .int 0, .int 0, .int 0, .int 0])), (q2, .inr (5, [.ref q6, .ref q7, .ref q8, .int 0, .int 0])), (q6, .inl (nd9, 1601, .inl (fun _ => 0))), (q7, .inl (nd10, 1601, .inl (fun _ => 0))), (q8, .inl (nd11, 1601, .inr (.inl (fun _ => 0)))), (q13, .inr (3, [.int 1, .int 0, .int 0, .int 0, .ref q17, .ref q18, .ref q19, .int 0, .ref q20, .ref q21, .ref q22, .int 0, .ref q25, .ref q24])), (q17, .inl (nd27, 5, .inl (fun _ => 0))), (q18, .inl (nd28, 5, .inl (fun _ => 0))), (q19, .inl (nd29, 40, .inl (fun _ => 0))), (q20, .inl (nd30, 4, .inl (fun _ => 0))), (q21, .inl (nd31, 4, .inl (fun _ => 0))), (q22, .inl (nd32, 12, .inl (fun _ => 0))), (q23, .inl (nd33, 30, .inl (fun _ => 0))), (q24, .inl (nd34, 7, .inl (fun _ => 0))), (q25, .inr (1, [.ref q26, .int 7, .ref q23])), (q26, .inl (nd35, 300, .inl zf36))] := hD
  have hK := hK.app hK1
  have hK : va_K (dC, dI) vwCl [(nd9, .int), (nd10, .int), (nd11, .long), (nd27, .int), (nd28, .int), (nd29, .int), (nd30, .int), (nd31, .int), (nd32, .int), (nd33, .int), (nd34, .int), (nd35, .int)] s := hK
  refine va_put (D := (dC, dI)) (ci := 4) (v := .ref q13) (ty := .object "TuneApproval$Lane") (C := RX5) (T := TX5) (N := 12) hx hb hG inX5 tyX5 tyX5_ok nmX5 hown hK hP hD hS 0 rfl rfl 3 (by decide) (hG _ gw309) (fun _ h9 => h9) rfl (by decide +kernel) rfl rfl (Nat.le_of_ble_eq_true rfl) dX5_init_28 (fun H37 locs hP hD hS => ?_)
  have hP : va_P (dC, dI) vwCl [(a0, .inr (4, [.int 0, .int (-1), .ref q2, .ref q13, .int 0, .int 0, .null, .null, .int 0, .int 0, .int 0, .int 0])), (q2, .inr (5, [.ref q6, .ref q7, .ref q8, .int 0, .int 0])), (q6, .inl (nd9, 1601, .inl (fun _ => 0))), (q7, .inl (nd10, 1601, .inl (fun _ => 0))), (q8, .inl (nd11, 1601, .inr (.inl (fun _ => 0)))), (q13, .inr (3, [.int 1, .int 0, .int 0, .int 0, .ref q17, .ref q18, .ref q19, .int 0, .ref q20, .ref q21, .ref q22, .int 0, .ref q25, .ref q24])), (q17, .inl (nd27, 5, .inl (fun _ => 0))), (q18, .inl (nd28, 5, .inl (fun _ => 0))), (q19, .inl (nd29, 40, .inl (fun _ => 0))), (q20, .inl (nd30, 4, .inl (fun _ => 0))), (q21, .inl (nd31, 4, .inl (fun _ => 0))), (q22, .inl (nd32, 12, .inl (fun _ => 0))), (q23, .inl (nd33, 30, .inl (fun _ => 0))), (q24, .inl (nd34, 7, .inl (fun _ => 0))), (q25, .inr (1, [.ref q26, .int 7, .ref q23])), (q26, .inl (nd35, 300, .inl zf36))] H37 := hP
  have hD : va_D A [(a0, .inr (4, [.int 0, .int (-1), .ref q2, .ref q13, .int 0, .int 0, .null, .null, .int 0, .int 0, .int 0, .int 0])), (q2, .inr (5, [.ref q6, .ref q7, .ref q8, .int 0, .int 0])), (q6, .inl (nd9, 1601, .inl (fun _ => 0))), (q7, .inl (nd10, 1601, .inl (fun _ => 0))), (q8, .inl (nd11, 1601, .inr (.inl (fun _ => 0)))), (q13, .inr (3, [.int 1, .int 0, .int 0, .int 0, .ref q17, .ref q18, .ref q19, .int 0, .ref q20, .ref q21, .ref q22, .int 0, .ref q25, .ref q24])), (q17, .inl (nd27, 5, .inl (fun _ => 0))), (q18, .inl (nd28, 5, .inl (fun _ => 0))), (q19, .inl (nd29, 40, .inl (fun _ => 0))), (q20, .inl (nd30, 4, .inl (fun _ => 0))), (q21, .inl (nd31, 4, .inl (fun _ => 0))), (q22, .inl (nd32, 12, .inl (fun _ => 0))), (q23, .inl (nd33, 30, .inl (fun _ => 0))), (q24, .inl (nd34, 7, .inl (fun _ => 0))), (q25, .inr (1, [.ref q26, .int 7, .ref q23])), (q26, .inl (nd35, 300, .inl zf36))] := hD
  refine lv_aload_n hx hb dX5_init_31 rfl (lv_at hl 0 rfl) ?_
  refine lv_iconst (v := 5) hx hb dX5_init_32 (by decide) ?_
  refine va_newa (atype := .long) (ty := .long) (N' := 5) (a0 := (5, .inr (.inl (fun _ => 0)))) hx hb (hG _ gw187) rfl hK hP hD hS hA (fun _ => rfl) (by decide) (by decide) (Nat.le_of_ble_eq_true rfl) (Nat.le_of_ble_eq_true rfl) (Nat.le_of_ble_eq_true rfl) dX5_init_33 (fun q38 d38 H39 hK hP hD hS => ?_)
  have hP : va_P (dC, dI) vwCl [(a0, .inr (4, [.int 0, .int (-1), .ref q2, .ref q13, .int 0, .int 0, .null, .null, .int 0, .int 0, .int 0, .int 0])), (q2, .inr (5, [.ref q6, .ref q7, .ref q8, .int 0, .int 0])), (q6, .inl (nd9, 1601, .inl (fun _ => 0))), (q7, .inl (nd10, 1601, .inl (fun _ => 0))), (q8, .inl (nd11, 1601, .inr (.inl (fun _ => 0)))), (q13, .inr (3, [.int 1, .int 0, .int 0, .int 0, .ref q17, .ref q18, .ref q19, .int 0, .ref q20, .ref q21, .ref q22, .int 0, .ref q25, .ref q24])), (q17, .inl (nd27, 5, .inl (fun _ => 0))), (q18, .inl (nd28, 5, .inl (fun _ => 0))), (q19, .inl (nd29, 40, .inl (fun _ => 0))), (q20, .inl (nd30, 4, .inl (fun _ => 0))), (q21, .inl (nd31, 4, .inl (fun _ => 0))), (q22, .inl (nd32, 12, .inl (fun _ => 0))), (q23, .inl (nd33, 30, .inl (fun _ => 0))), (q24, .inl (nd34, 7, .inl (fun _ => 0))), (q25, .inr (1, [.ref q26, .int 7, .ref q23])), (q26, .inl (nd35, 300, .inl zf36)), (q38, .inl (d38, 5, .inr (.inl (fun _ => 0))))] H39 := hP
  have hD : va_D A [(a0, .inr (4, [.int 0, .int (-1), .ref q2, .ref q13, .int 0, .int 0, .null, .null, .int 0, .int 0, .int 0, .int 0])), (q2, .inr (5, [.ref q6, .ref q7, .ref q8, .int 0, .int 0])), (q6, .inl (nd9, 1601, .inl (fun _ => 0))), (q7, .inl (nd10, 1601, .inl (fun _ => 0))), (q8, .inl (nd11, 1601, .inr (.inl (fun _ => 0)))), (q13, .inr (3, [.int 1, .int 0, .int 0, .int 0, .ref q17, .ref q18, .ref q19, .int 0, .ref q20, .ref q21, .ref q22, .int 0, .ref q25, .ref q24])), (q17, .inl (nd27, 5, .inl (fun _ => 0))), (q18, .inl (nd28, 5, .inl (fun _ => 0))), (q19, .inl (nd29, 40, .inl (fun _ => 0))), (q20, .inl (nd30, 4, .inl (fun _ => 0))), (q21, .inl (nd31, 4, .inl (fun _ => 0))), (q22, .inl (nd32, 12, .inl (fun _ => 0))), (q23, .inl (nd33, 30, .inl (fun _ => 0))), (q24, .inl (nd34, 7, .inl (fun _ => 0))), (q25, .inr (1, [.ref q26, .int 7, .ref q23])), (q26, .inl (nd35, 300, .inl zf36)), (q38, .inl (d38, 5, .inr (.inl (fun _ => 0))))] := hD
  have hK : va_K (dC, dI) vwCl [(nd9, .int), (nd10, .int), (nd11, .long), (nd27, .int), (nd28, .int), (nd29, .int), (nd30, .int), (nd31, .int), (nd32, .int), (nd33, .int), (nd34, .int), (nd35, .int), (d38, .long)] s := hK
  refine W.widen (k := 16) (n := 5237) (Nat.le_of_ble_eq_true rfl) (Nat.le_of_ble_eq_true rfl) ?_
  refine va_putF (D := (dC, dI)) (ci := 4) (v := .ref q38) (ty := .array .long) (C := RX5) (T := TX5) (N := 12) hx hb hG inX5 tyX5 tyX5_ok nmX5 hown hK hP hD hS 0 rfl rfl 6 (by decide) (hG _ gw312) (fun _ h9 => h9) rfl hin rfl (by decide +kernel) rfl rfl (Nat.le_of_ble_eq_true rfl) dX5_init_35 (fun H40 locs hP hD hS => ?_)
  have hP : va_P (dC, dI) vwCl [(a0, .inr (4, [.int 0, .int (-1), .ref q2, .ref q13, .int 0, .int 0, .ref q38, .null, .int 0, .int 0, .int 0, .int 0])), (q2, .inr (5, [.ref q6, .ref q7, .ref q8, .int 0, .int 0])), (q6, .inl (nd9, 1601, .inl (fun _ => 0))), (q7, .inl (nd10, 1601, .inl (fun _ => 0))), (q8, .inl (nd11, 1601, .inr (.inl (fun _ => 0)))), (q13, .inr (3, [.int 1, .int 0, .int 0, .int 0, .ref q17, .ref q18, .ref q19, .int 0, .ref q20, .ref q21, .ref q22, .int 0, .ref q25, .ref q24])), (q17, .inl (nd27, 5, .inl (fun _ => 0))), (q18, .inl (nd28, 5, .inl (fun _ => 0))), (q19, .inl (nd29, 40, .inl (fun _ => 0))), (q20, .inl (nd30, 4, .inl (fun _ => 0))), (q21, .inl (nd31, 4, .inl (fun _ => 0))), (q22, .inl (nd32, 12, .inl (fun _ => 0))), (q23, .inl (nd33, 30, .inl (fun _ => 0))), (q24, .inl (nd34, 7, .inl (fun _ => 0))), (q25, .inr (1, [.ref q26, .int 7, .ref q23])), (q26, .inl (nd35, 300, .inl zf36)), (q38, .inl (d38, 5, .inr (.inl (fun _ => 0))))] H40 := hP
  have hD : va_D A [(a0, .inr (4, [.int 0, .int (-1), .ref q2, .ref q13, .int 0, .int 0, .ref q38, .null, .int 0, .int 0, .int 0, .int 0])), (q2, .inr (5, [.ref q6, .ref q7, .ref q8, .int 0, .int 0])), (q6, .inl (nd9, 1601, .inl (fun _ => 0))), (q7, .inl (nd10, 1601, .inl (fun _ => 0))), (q8, .inl (nd11, 1601, .inr (.inl (fun _ => 0)))), (q13, .inr (3, [.int 1, .int 0, .int 0, .int 0, .ref q17, .ref q18, .ref q19, .int 0, .ref q20, .ref q21, .ref q22, .int 0, .ref q25, .ref q24])), (q17, .inl (nd27, 5, .inl (fun _ => 0))), (q18, .inl (nd28, 5, .inl (fun _ => 0))), (q19, .inl (nd29, 40, .inl (fun _ => 0))), (q20, .inl (nd30, 4, .inl (fun _ => 0))), (q21, .inl (nd31, 4, .inl (fun _ => 0))), (q22, .inl (nd32, 12, .inl (fun _ => 0))), (q23, .inl (nd33, 30, .inl (fun _ => 0))), (q24, .inl (nd34, 7, .inl (fun _ => 0))), (q25, .inr (1, [.ref q26, .int 7, .ref q23])), (q26, .inl (nd35, 300, .inl zf36)), (q38, .inl (d38, 5, .inr (.inl (fun _ => 0))))] := hD
  refine lv_aload_n hx hb dX5_init_38 rfl (lv_at hl 0 rfl) ?_
  refine lv_iconst (v := 4) hx hb dX5_init_39 (by decide) ?_
  refine va_newa (atype := .long) (ty := .long) (N' := 4) (a0 := (4, .inr (.inl (fun _ => 0)))) hx hb (hG _ gw187) rfl hK hP hD hS hA (fun _ => rfl) (by decide) (by decide) (Nat.le_of_ble_eq_true rfl) (Nat.le_of_ble_eq_true rfl) (Nat.le_of_ble_eq_true rfl) dX5_init_40 (fun q41 d41 H42 hK hP hD hS => ?_)
  have hP : va_P (dC, dI) vwCl [(a0, .inr (4, [.int 0, .int (-1), .ref q2, .ref q13, .int 0, .int 0, .ref q38, .null, .int 0, .int 0, .int 0, .int 0])), (q2, .inr (5, [.ref q6, .ref q7, .ref q8, .int 0, .int 0])), (q6, .inl (nd9, 1601, .inl (fun _ => 0))), (q7, .inl (nd10, 1601, .inl (fun _ => 0))), (q8, .inl (nd11, 1601, .inr (.inl (fun _ => 0)))), (q13, .inr (3, [.int 1, .int 0, .int 0, .int 0, .ref q17, .ref q18, .ref q19, .int 0, .ref q20, .ref q21, .ref q22, .int 0, .ref q25, .ref q24])), (q17, .inl (nd27, 5, .inl (fun _ => 0))), (q18, .inl (nd28, 5, .inl (fun _ => 0))), (q19, .inl (nd29, 40, .inl (fun _ => 0))), (q20, .inl (nd30, 4, .inl (fun _ => 0))), (q21, .inl (nd31, 4, .inl (fun _ => 0))), (q22, .inl (nd32, 12, .inl (fun _ => 0))), (q23, .inl (nd33, 30, .inl (fun _ => 0))), (q24, .inl (nd34, 7, .inl (fun _ => 0))), (q25, .inr (1, [.ref q26, .int 7, .ref q23])), (q26, .inl (nd35, 300, .inl zf36)), (q38, .inl (d38, 5, .inr (.inl (fun _ => 0)))), (q41, .inl (d41, 4, .inr (.inl (fun _ => 0))))] H42 := hP
  have hD : va_D A [(a0, .inr (4, [.int 0, .int (-1), .ref q2, .ref q13, .int 0, .int 0, .ref q38, .null, .int 0, .int 0, .int 0, .int 0])), (q2, .inr (5, [.ref q6, .ref q7, .ref q8, .int 0, .int 0])), (q6, .inl (nd9, 1601, .inl (fun _ => 0))), (q7, .inl (nd10, 1601, .inl (fun _ => 0))), (q8, .inl (nd11, 1601, .inr (.inl (fun _ => 0)))), (q13, .inr (3, [.int 1, .int 0, .int 0, .int 0, .ref q17, .ref q18, .ref q19, .int 0, .ref q20, .ref q21, .ref q22, .int 0, .ref q25, .ref q24])), (q17, .inl (nd27, 5, .inl (fun _ => 0))), (q18, .inl (nd28, 5, .inl (fun _ => 0))), (q19, .inl (nd29, 40, .inl (fun _ => 0))), (q20, .inl (nd30, 4, .inl (fun _ => 0))), (q21, .inl (nd31, 4, .inl (fun _ => 0))), (q22, .inl (nd32, 12, .inl (fun _ => 0))), (q23, .inl (nd33, 30, .inl (fun _ => 0))), (q24, .inl (nd34, 7, .inl (fun _ => 0))), (q25, .inr (1, [.ref q26, .int 7, .ref q23])), (q26, .inl (nd35, 300, .inl zf36)), (q38, .inl (d38, 5, .inr (.inl (fun _ => 0)))), (q41, .inl (d41, 4, .inr (.inl (fun _ => 0))))] := hD
  have hK : va_K (dC, dI) vwCl [(nd9, .int), (nd10, .int), (nd11, .long), (nd27, .int), (nd28, .int), (nd29, .int), (nd30, .int), (nd31, .int), (nd32, .int), (nd33, .int), (nd34, .int), (nd35, .int), (d38, .long), (d41, .long)] s := hK
  refine W.widen (k := 17) (n := 5241) (Nat.le_of_ble_eq_true rfl) (Nat.le_of_ble_eq_true rfl) ?_
  refine va_putF (D := (dC, dI)) (ci := 4) (v := .ref q41) (ty := .array .long) (C := RX5) (T := TX5) (N := 12) hx hb hG inX5 tyX5 tyX5_ok nmX5 hown hK hP hD hS 0 rfl rfl 7 (by decide) (hG _ gw313) (fun _ h9 => h9) rfl hin rfl (by decide +kernel) rfl rfl (Nat.le_of_ble_eq_true rfl) dX5_init_42 (fun H43 locs hP hD hS => ?_)
  have hP : va_P (dC, dI) vwCl [(a0, .inr (4, [.int 0, .int (-1), .ref q2, .ref q13, .int 0, .int 0, .ref q38, .ref q41, .int 0, .int 0, .int 0, .int 0])), (q2, .inr (5, [.ref q6, .ref q7, .ref q8, .int 0, .int 0])), (q6, .inl (nd9, 1601, .inl (fun _ => 0))), (q7, .inl (nd10, 1601, .inl (fun _ => 0))), (q8, .inl (nd11, 1601, .inr (.inl (fun _ => 0)))), (q13, .inr (3, [.int 1, .int 0, .int 0, .int 0, .ref q17, .ref q18, .ref q19, .int 0, .ref q20, .ref q21, .ref q22, .int 0, .ref q25, .ref q24])), (q17, .inl (nd27, 5, .inl (fun _ => 0))), (q18, .inl (nd28, 5, .inl (fun _ => 0))), (q19, .inl (nd29, 40, .inl (fun _ => 0))), (q20, .inl (nd30, 4, .inl (fun _ => 0))), (q21, .inl (nd31, 4, .inl (fun _ => 0))), (q22, .inl (nd32, 12, .inl (fun _ => 0))), (q23, .inl (nd33, 30, .inl (fun _ => 0))), (q24, .inl (nd34, 7, .inl (fun _ => 0))), (q25, .inr (1, [.ref q26, .int 7, .ref q23])), (q26, .inl (nd35, 300, .inl zf36)), (q38, .inl (d38, 5, .inr (.inl (fun _ => 0)))), (q41, .inl (d41, 4, .inr (.inl (fun _ => 0))))] H43 := hP
  have hD : va_D A [(a0, .inr (4, [.int 0, .int (-1), .ref q2, .ref q13, .int 0, .int 0, .ref q38, .ref q41, .int 0, .int 0, .int 0, .int 0])), (q2, .inr (5, [.ref q6, .ref q7, .ref q8, .int 0, .int 0])), (q6, .inl (nd9, 1601, .inl (fun _ => 0))), (q7, .inl (nd10, 1601, .inl (fun _ => 0))), (q8, .inl (nd11, 1601, .inr (.inl (fun _ => 0)))), (q13, .inr (3, [.int 1, .int 0, .int 0, .int 0, .ref q17, .ref q18, .ref q19, .int 0, .ref q20, .ref q21, .ref q22, .int 0, .ref q25, .ref q24])), (q17, .inl (nd27, 5, .inl (fun _ => 0))), (q18, .inl (nd28, 5, .inl (fun _ => 0))), (q19, .inl (nd29, 40, .inl (fun _ => 0))), (q20, .inl (nd30, 4, .inl (fun _ => 0))), (q21, .inl (nd31, 4, .inl (fun _ => 0))), (q22, .inl (nd32, 12, .inl (fun _ => 0))), (q23, .inl (nd33, 30, .inl (fun _ => 0))), (q24, .inl (nd34, 7, .inl (fun _ => 0))), (q25, .inr (1, [.ref q26, .int 7, .ref q23])), (q26, .inl (nd35, 300, .inl zf36)), (q38, .inl (d38, 5, .inr (.inl (fun _ => 0)))), (q41, .inl (d41, 4, .inr (.inl (fun _ => 0))))] := hD
  have hP9 := hP.sub (ws' := [(a0, .inr (4, [.int 0, .int (-1), .ref q2, .ref q13, .int 0, .int 0, .ref q38, .ref q41, .int 0, .int 0, .int 0, .int 0])), (q2, .inr (5, [.ref q6, .ref q7, .ref q8, .int 0, .int 0])), (q6, .inl (nd9, 1601, .inl (fun _ => 0))), (q7, .inl (nd10, 1601, .inl (fun _ => 0))), (q8, .inl (nd11, 1601, .inr (.inl (fun _ => 0)))), (q13, .inr (3, [.int 1, .int 0, .int 0, .int 0, .ref q17, .ref q18, .ref q19, .int 0, .ref q20, .ref q21, .ref q22, .int 0, .ref q25, .ref q24])), (q17, .inl (nd27, 5, .inl (fun _ => 0))), (q18, .inl (nd28, 5, .inl (fun _ => 0))), (q19, .inl (nd29, 40, .inl (fun _ => 0))), (q20, .inl (nd30, 4, .inl (fun _ => 0))), (q21, .inl (nd31, 4, .inl (fun _ => 0))), (q22, .inl (nd32, 12, .inl (fun _ => 0))), (q23, .inl (nd33, 30, .inl (fun _ => 0))), (q24, .inl (nd34, 7, .inl (fun _ => 0))), (q25, .inr (1, [.ref q26, .int 7, .ref q23])), (q26, .inl (nd35, 300, .inl zf36)), (q38, .inl (d38, 5, .inr (.inl (fun _ => 0)))), (q41, .inl (d41, 4, .inr (.inl (fun _ => 0))))]) [0, 1, 2, 3, 4, 5, 6, 7, 8, 9, 10, 11, 12, 13, 14, 15, 16, 17] rfl
  have hD9 := hD.sub (ws' := [(a0, .inr (4, [.int 0, .int (-1), .ref q2, .ref q13, .int 0, .int 0, .ref q38, .ref q41, .int 0, .int 0, .int 0, .int 0])), (q2, .inr (5, [.ref q6, .ref q7, .ref q8, .int 0, .int 0])), (q6, .inl (nd9, 1601, .inl (fun _ => 0))), (q7, .inl (nd10, 1601, .inl (fun _ => 0))), (q8, .inl (nd11, 1601, .inr (.inl (fun _ => 0)))), (q13, .inr (3, [.int 1, .int 0, .int 0, .int 0, .ref q17, .ref q18, .ref q19, .int 0, .ref q20, .ref q21, .ref q22, .int 0, .ref q25, .ref q24])), (q17, .inl (nd27, 5, .inl (fun _ => 0))), (q18, .inl (nd28, 5, .inl (fun _ => 0))), (q19, .inl (nd29, 40, .inl (fun _ => 0))), (q20, .inl (nd30, 4, .inl (fun _ => 0))), (q21, .inl (nd31, 4, .inl (fun _ => 0))), (q22, .inl (nd32, 12, .inl (fun _ => 0))), (q23, .inl (nd33, 30, .inl (fun _ => 0))), (q24, .inl (nd34, 7, .inl (fun _ => 0))), (q25, .inr (1, [.ref q26, .int 7, .ref q23])), (q26, .inl (nd35, 300, .inl zf36)), (q38, .inl (d38, 5, .inr (.inl (fun _ => 0)))), (q41, .inl (d41, 4, .inr (.inl (fun _ => 0))))]) [0, 1, 2, 3, 4, 5, 6, 7, 8, 9, 10, 11, 12, 13, 14, 15, 16, 17] (by decide) rfl
  have hK9 := hK.sub (tys' := [(nd9, .int), (nd10, .int), (nd11, .long), (nd27, .int), (nd28, .int), (nd29, .int), (nd30, .int), (nd31, .int), (nd32, .int), (nd33, .int), (nd34, .int), (nd35, .int), (d38, .long), (d41, .long)]) [0, 1, 2, 3, 4, 5, 6, 7, 8, 9, 10, 11, 12, 13] rfl
  refine W.widen (k := 17) (n := 5241) (Nat.le_of_ble_eq_true rfl) (Nat.le_of_ble_eq_true rfl) ?_
  exact W.vret hx hb hr (fun t ht hW => ⟨⟨(), rfl, trivial, ⟨q2, q6, q7, q8, q13, q17, q18, q19, q20, q21, q22, q23, q24, q25, q26, q38, q41, nd9, nd10, nd11, nd27, nd28, nd29, nd30, nd31, nd32, nd33, nd34, nd35, d38, d41, zf36, by rw [ht]; exact hP9, va_K.moved hW.alike hK9, hD9⟩⟩, hS.F ht⟩) hS.2.2 dX5_init_45
set_option maxHeartbeats 4000000 in
set_option maxRecDepth 100000 in
theorem qX7_init (l : Launch) (dC : Nat → ClassId) (dI : Nat → Nat → Nat) (a0 : Nat) (sz : Nat) : Met l yX7_init (.code yX7_init cX7_init 1 none :: GW) { frames := 2, cells := 5, slots := 24, locals := 100 } (va_Pc [.ref a0] (pW (dC, dI) [(a0, .inr (6, [.null, .null, .null, .null, .null, .int 0, .int 0]))] [] sz)) (va_Qv (fun _ : Unit => True) (fun (_ : Unit) (t : State) => ∃ (b0 b1 b2 b3 b4 : Nat) (t0 t1 t2 t3 t4 : ClassId), va_P (dC, dI) vwCl [(a0, .inr (6, [.ref b0, .ref b1, .ref b2, .ref b3, .ref b4, .int 0, .int 0])), (b0, .inl (t0, 5, .inl (fun _ => 0))), (b1, .inl (t1, 5, .inl (fun _ => 0))), (b2, .inl (t2, 5, .inl (fun _ => 0))), (b3, .inl (t3, 5, .inl (fun _ => 0))), (b4, .inl (t4, 4, .inl (fun _ => 0)))] t.heap ∧ va_K (dC, dI) vwCl [(t0, .int), (t1, .int), (t2, .int), (t3, .int), (t4, .int)] t ∧ va_D (va_A [(a0, .inr (6, [.null, .null, .null, .null, .null, .int 0, .int 0]))] sz) [(a0, .inr (6, [.ref b0, .ref b1, .ref b2, .ref b3, .ref b4, .int 0, .int 0])), (b0, .inl (t0, 5, .inl (fun _ => 0))), (b1, .inl (t1, 5, .inl (fun _ => 0))), (b2, .inl (t2, 5, .inl (fun _ => 0))), (b3, .inl (t3, 5, .inl (fun _ => 0))), (b4, .inl (t4, 4, .inl (fun _ => 0)))]) (va_A [(a0, .inr (6, [.null, .null, .null, .null, .null, .int 0, .int 0]))] sz)) 5 24 (va_A [(a0, .inr (6, [.null, .null, .null, .null, .null, .int 0, .int 0]))] sz) := by
  refine Met.ofW (cc := cX7_init) (maxL := 1) (ret := none) (by decide) rfl ?_
  intro p e s m args below meth c0 s₁ B hml hv
  obtain ⟨rfl, hsz, hP, hK, hD0⟩ := hv
  have hx := B.exec
  have hb := B.bytes
  have hr := B.returns
  have hts := atoms_spec (ws := .code yX7_init cX7_init 1 none :: GW) B.pre
  have hG : ∀ w ∈ GW, w.before _ s = true := fun w h => hts w (List.mem_cons_of_mem _ h)
  have hown : s.vm.findClass RX7 = some m.cls := findClass_of_methodNamed B.named
  have hlocks := B.notSynchronized
  have hin : meth.name = "<init>" := (name_of_methodNamed B.named B.method).1
  subst hsz
  have hD := hD0.self (sz := s.heap.size)
  generalize hAe : va_A [(a0, .inr (6, [.null, .null, .null, .null, .null, .int 0, .int 0]))] s.heap.size = A at hD ⊢
  have hA : ∀ q : Nat, s.heap.size ≤ q → A q := fun q h => by rw [← hAe]; exact Or.inr h
  have hS : va_S A s.heap s.heap [] := va_S.rf
  have hP : va_P (dC, dI) vwCl [(a0, .inr (6, [.null, .null, .null, .null, .null, .int 0, .int 0]))] s.heap := hP
  have hl := lv_entry ([.ref a0]) (n := 1) (Nat.le_of_ble_eq_true rfl)
  rw [lg_entry_eq]
  generalize (lg_sl ([.ref a0]) ++ List.replicate (1 - (lg_sl ([.ref a0])).length) Slot.unset).toArray = ls at hl ⊢
  have hl : lv_has ls 1 [(0, .ref a0)] := hl
  refine lv_aload_n hx hb dX7_init_0 rfl (lv_at hl 0 rfl) ?_
  refine W.objInit hx hb hown (hG _ gw350) (hG _ gw152) (hG _ gw153) rfl (by rw [hml]; exact hl.1) rfl dX7_init_1 (Nat.le_of_ble_eq_true rfl) (Nat.le_of_ble_eq_true rfl) ?_
  refine W.eq (g2 := F0 m 4 ls []) rfl ?_
  refine lv_aload_n hx hb dX7_init_4 rfl (lv_at hl 0 rfl) ?_
  refine lv_iconst (v := 5) hx hb dX7_init_5 (by decide) ?_
  refine va_newa (atype := .int) (ty := .int) (N' := 5) (a0 := (5, .inl (fun _ => 0))) hx hb (hG _ gw186) rfl hK hP hD hS hA (fun _ => rfl) (by decide) (by decide) (Nat.le_of_ble_eq_true rfl) (Nat.le_of_ble_eq_true rfl) (Nat.le_of_ble_eq_true rfl) dX7_init_6 (fun q1 d1 H2 hK hP hD hS => ?_)
  have hP : va_P (dC, dI) vwCl [(a0, .inr (6, [.null, .null, .null, .null, .null, .int 0, .int 0])), (q1, .inl (d1, 5, .inl (fun _ => 0)))] H2 := hP
  have hD : va_D A [(a0, .inr (6, [.null, .null, .null, .null, .null, .int 0, .int 0])), (q1, .inl (d1, 5, .inl (fun _ => 0)))] := hD
  have hK : va_K (dC, dI) vwCl [(d1, .int)] s := hK
  refine W.widen (k := 1) (n := 5) (Nat.le_of_ble_eq_true rfl) (Nat.le_of_ble_eq_true rfl) ?_
  refine va_putF (D := (dC, dI)) (ci := 6) (v := .ref q1) (ty := .array .int) (C := RX7) (T := TX7) (N := 7) hx hb hG inX7 tyX7 tyX7_ok nmX7 hown hK hP hD hS 0 rfl rfl 0 (by decide) (hG _ gw351) (fun _ h9 => h9) rfl hin rfl (by decide +kernel) rfl rfl (Nat.le_of_ble_eq_true rfl) dX7_init_8 (fun H3 locs hP hD hS => ?_)
  have hP : va_P (dC, dI) vwCl [(a0, .inr (6, [.ref q1, .null, .null, .null, .null, .int 0, .int 0])), (q1, .inl (d1, 5, .inl (fun _ => 0)))] H3 := hP
  have hD : va_D A [(a0, .inr (6, [.ref q1, .null, .null, .null, .null, .int 0, .int 0])), (q1, .inl (d1, 5, .inl (fun _ => 0)))] := hD
  refine lv_aload_n hx hb dX7_init_11 rfl (lv_at hl 0 rfl) ?_
  refine lv_iconst (v := 5) hx hb dX7_init_12 (by decide) ?_
  refine va_newa (atype := .int) (ty := .int) (N' := 5) (a0 := (5, .inl (fun _ => 0))) hx hb (hG _ gw186) rfl hK hP hD hS hA (fun _ => rfl) (by decide) (by decide) (Nat.le_of_ble_eq_true rfl) (Nat.le_of_ble_eq_true rfl) (Nat.le_of_ble_eq_true rfl) dX7_init_13 (fun q4 d4 H5 hK hP hD hS => ?_)
  have hP : va_P (dC, dI) vwCl [(a0, .inr (6, [.ref q1, .null, .null, .null, .null, .int 0, .int 0])), (q1, .inl (d1, 5, .inl (fun _ => 0))), (q4, .inl (d4, 5, .inl (fun _ => 0)))] H5 := hP
  have hD : va_D A [(a0, .inr (6, [.ref q1, .null, .null, .null, .null, .int 0, .int 0])), (q1, .inl (d1, 5, .inl (fun _ => 0))), (q4, .inl (d4, 5, .inl (fun _ => 0)))] := hD
  have hK : va_K (dC, dI) vwCl [(d1, .int), (d4, .int)] s := hK
  refine W.widen (k := 2) (n := 10) (Nat.le_of_ble_eq_true rfl) (Nat.le_of_ble_eq_true rfl) ?_
  refine va_putF (D := (dC, dI)) (ci := 6) (v := .ref q4) (ty := .array .int) (C := RX7) (T := TX7) (N := 7) hx hb hG inX7 tyX7 tyX7_ok nmX7 hown hK hP hD hS 0 rfl rfl 1 (by decide) (hG _ gw353) (fun _ h9 => h9) rfl hin rfl (by decide +kernel) rfl rfl (Nat.le_of_ble_eq_true rfl) dX7_init_15 (fun H6 locs hP hD hS => ?_)
  have hP : va_P (dC, dI) vwCl [(a0, .inr (6, [.ref q1, .ref q4, .null, .null, .null, .int 0, .int 0])), (q1, .inl (d1, 5, .inl (fun _ => 0))), (q4, .inl (d4, 5, .inl (fun _ => 0)))] H6 := hP
  have hD : va_D A [(a0, .inr (6, [.ref q1, .ref q4, .null, .null, .null, .int 0, .int 0])), (q1, .inl (d1, 5, .inl (fun _ => 0))), (q4, .inl (d4, 5, .inl (fun _ => 0)))] := hD
  refine lv_aload_n hx hb dX7_init_18 rfl (lv_at hl 0 rfl) ?_
  refine lv_iconst (v := 5) hx hb dX7_init_19 (by decide) ?_
  refine va_newa (atype := .int) (ty := .int) (N' := 5) (a0 := (5, .inl (fun _ => 0))) hx hb (hG _ gw186) rfl hK hP hD hS hA (fun _ => rfl) (by decide) (by decide) (Nat.le_of_ble_eq_true rfl) (Nat.le_of_ble_eq_true rfl) (Nat.le_of_ble_eq_true rfl) dX7_init_20 (fun q7 d7 H8 hK hP hD hS => ?_)
  have hP : va_P (dC, dI) vwCl [(a0, .inr (6, [.ref q1, .ref q4, .null, .null, .null, .int 0, .int 0])), (q1, .inl (d1, 5, .inl (fun _ => 0))), (q4, .inl (d4, 5, .inl (fun _ => 0))), (q7, .inl (d7, 5, .inl (fun _ => 0)))] H8 := hP
  have hD : va_D A [(a0, .inr (6, [.ref q1, .ref q4, .null, .null, .null, .int 0, .int 0])), (q1, .inl (d1, 5, .inl (fun _ => 0))), (q4, .inl (d4, 5, .inl (fun _ => 0))), (q7, .inl (d7, 5, .inl (fun _ => 0)))] := hD
  have hK : va_K (dC, dI) vwCl [(d1, .int), (d4, .int), (d7, .int)] s := hK
  refine W.widen (k := 3) (n := 15) (Nat.le_of_ble_eq_true rfl) (Nat.le_of_ble_eq_true rfl) ?_
  refine va_putF (D := (dC, dI)) (ci := 6) (v := .ref q7) (ty := .array .int) (C := RX7) (T := TX7) (N := 7) hx hb hG inX7 tyX7 tyX7_ok nmX7 hown hK hP hD hS 0 rfl rfl 2 (by decide) (hG _ gw355) (fun _ h9 => h9) rfl hin rfl (by decide +kernel) rfl rfl (Nat.le_of_ble_eq_true rfl) dX7_init_22 (fun H9 locs hP hD hS => ?_)
  have hP : va_P (dC, dI) vwCl [(a0, .inr (6, [.ref q1, .ref q4, .ref q7, .null, .null, .int 0, .int 0])), (q1, .inl (d1, 5, .inl (fun _ => 0))), (q4, .inl (d4, 5, .inl (fun _ => 0))), (q7, .inl (d7, 5, .inl (fun _ => 0)))] H9 := hP
  have hD : va_D A [(a0, .inr (6, [.ref q1, .ref q4, .ref q7, .null, .null, .int 0, .int 0])), (q1, .inl (d1, 5, .inl (fun _ => 0))), (q4, .inl (d4, 5, .inl (fun _ => 0))), (q7, .inl (d7, 5, .inl (fun _ => 0)))] := hD
  refine lv_aload_n hx hb dX7_init_25 rfl (lv_at hl 0 rfl) ?_
  refine lv_iconst (v := 5) hx hb dX7_init_26 (by decide) ?_
  refine va_newa (atype := .int) (ty := .int) (N' := 5) (a0 := (5, .inl (fun _ => 0))) hx hb (hG _ gw186) rfl hK hP hD hS hA (fun _ => rfl) (by decide) (by decide) (Nat.le_of_ble_eq_true rfl) (Nat.le_of_ble_eq_true rfl) (Nat.le_of_ble_eq_true rfl) dX7_init_27 (fun q10 d10 H11 hK hP hD hS => ?_)
  have hP : va_P (dC, dI) vwCl [(a0, .inr (6, [.ref q1, .ref q4, .ref q7, .null, .null, .int 0, .int 0])), (q1, .inl (d1, 5, .inl (fun _ => 0))), (q4, .inl (d4, 5, .inl (fun _ => 0))), (q7, .inl (d7, 5, .inl (fun _ => 0))), (q10, .inl (d10, 5, .inl (fun _ => 0)))] H11 := hP
  have hD : va_D A [(a0, .inr (6, [.ref q1, .ref q4, .ref q7, .null, .null, .int 0, .int 0])), (q1, .inl (d1, 5, .inl (fun _ => 0))), (q4, .inl (d4, 5, .inl (fun _ => 0))), (q7, .inl (d7, 5, .inl (fun _ => 0))), (q10, .inl (d10, 5, .inl (fun _ => 0)))] := hD
  have hK : va_K (dC, dI) vwCl [(d1, .int), (d4, .int), (d7, .int), (d10, .int)] s := hK
  refine W.widen (k := 4) (n := 20) (Nat.le_of_ble_eq_true rfl) (Nat.le_of_ble_eq_true rfl) ?_
  refine va_putF (D := (dC, dI)) (ci := 6) (v := .ref q10) (ty := .array .int) (C := RX7) (T := TX7) (N := 7) hx hb hG inX7 tyX7 tyX7_ok nmX7 hown hK hP hD hS 0 rfl rfl 3 (by decide) (hG _ gw357) (fun _ h9 => h9) rfl hin rfl (by decide +kernel) rfl rfl (Nat.le_of_ble_eq_true rfl) dX7_init_29 (fun H12 locs hP hD hS => ?_)
  have hP : va_P (dC, dI) vwCl [(a0, .inr (6, [.ref q1, .ref q4, .ref q7, .ref q10, .null, .int 0, .int 0])), (q1, .inl (d1, 5, .inl (fun _ => 0))), (q4, .inl (d4, 5, .inl (fun _ => 0))), (q7, .inl (d7, 5, .inl (fun _ => 0))), (q10, .inl (d10, 5, .inl (fun _ => 0)))] H12 := hP
  have hD : va_D A [(a0, .inr (6, [.ref q1, .ref q4, .ref q7, .ref q10, .null, .int 0, .int 0])), (q1, .inl (d1, 5, .inl (fun _ => 0))), (q4, .inl (d4, 5, .inl (fun _ => 0))), (q7, .inl (d7, 5, .inl (fun _ => 0))), (q10, .inl (d10, 5, .inl (fun _ => 0)))] := hD
  refine lv_aload_n hx hb dX7_init_32 rfl (lv_at hl 0 rfl) ?_
  refine lv_iconst (v := 4) hx hb dX7_init_33 (by decide) ?_
  refine va_newa (atype := .int) (ty := .int) (N' := 4) (a0 := (4, .inl (fun _ => 0))) hx hb (hG _ gw186) rfl hK hP hD hS hA (fun _ => rfl) (by decide) (by decide) (Nat.le_of_ble_eq_true rfl) (Nat.le_of_ble_eq_true rfl) (Nat.le_of_ble_eq_true rfl) dX7_init_34 (fun q13 d13 H14 hK hP hD hS => ?_)
  have hP : va_P (dC, dI) vwCl [(a0, .inr (6, [.ref q1, .ref q4, .ref q7, .ref q10, .null, .int 0, .int 0])), (q1, .inl (d1, 5, .inl (fun _ => 0))), (q4, .inl (d4, 5, .inl (fun _ => 0))), (q7, .inl (d7, 5, .inl (fun _ => 0))), (q10, .inl (d10, 5, .inl (fun _ => 0))), (q13, .inl (d13, 4, .inl (fun _ => 0)))] H14 := hP
  have hD : va_D A [(a0, .inr (6, [.ref q1, .ref q4, .ref q7, .ref q10, .null, .int 0, .int 0])), (q1, .inl (d1, 5, .inl (fun _ => 0))), (q4, .inl (d4, 5, .inl (fun _ => 0))), (q7, .inl (d7, 5, .inl (fun _ => 0))), (q10, .inl (d10, 5, .inl (fun _ => 0))), (q13, .inl (d13, 4, .inl (fun _ => 0)))] := hD
  have hK : va_K (dC, dI) vwCl [(d1, .int), (d4, .int), (d7, .int), (d10, .int), (d13, .int)] s := hK
  refine W.widen (k := 5) (n := 24) (Nat.le_of_ble_eq_true rfl) (Nat.le_of_ble_eq_true rfl) ?_
  refine va_putF (D := (dC, dI)) (ci := 6) (v := .ref q13) (ty := .array .int) (C := RX7) (T := TX7) (N := 7) hx hb hG inX7 tyX7 tyX7_ok nmX7 hown hK hP hD hS 0 rfl rfl 4 (by decide) (hG _ gw359) (fun _ h9 => h9) rfl hin rfl (by decide +kernel) rfl rfl (Nat.le_of_ble_eq_true rfl) dX7_init_36 (fun H15 locs hP hD hS => ?_)
  have hP : va_P (dC, dI) vwCl [(a0, .inr (6, [.ref q1, .ref q4, .ref q7, .ref q10, .ref q13, .int 0, .int 0])), (q1, .inl (d1, 5, .inl (fun _ => 0))), (q4, .inl (d4, 5, .inl (fun _ => 0))), (q7, .inl (d7, 5, .inl (fun _ => 0))), (q10, .inl (d10, 5, .inl (fun _ => 0))), (q13, .inl (d13, 4, .inl (fun _ => 0)))] H15 := hP
  have hD : va_D A [(a0, .inr (6, [.ref q1, .ref q4, .ref q7, .ref q10, .ref q13, .int 0, .int 0])), (q1, .inl (d1, 5, .inl (fun _ => 0))), (q4, .inl (d4, 5, .inl (fun _ => 0))), (q7, .inl (d7, 5, .inl (fun _ => 0))), (q10, .inl (d10, 5, .inl (fun _ => 0))), (q13, .inl (d13, 4, .inl (fun _ => 0)))] := hD
  have hP9 := hP.sub (ws' := [(a0, .inr (6, [.ref q1, .ref q4, .ref q7, .ref q10, .ref q13, .int 0, .int 0])), (q1, .inl (d1, 5, .inl (fun _ => 0))), (q4, .inl (d4, 5, .inl (fun _ => 0))), (q7, .inl (d7, 5, .inl (fun _ => 0))), (q10, .inl (d10, 5, .inl (fun _ => 0))), (q13, .inl (d13, 4, .inl (fun _ => 0)))]) [0, 1, 2, 3, 4, 5] rfl
  have hD9 := hD.sub (ws' := [(a0, .inr (6, [.ref q1, .ref q4, .ref q7, .ref q10, .ref q13, .int 0, .int 0])), (q1, .inl (d1, 5, .inl (fun _ => 0))), (q4, .inl (d4, 5, .inl (fun _ => 0))), (q7, .inl (d7, 5, .inl (fun _ => 0))), (q10, .inl (d10, 5, .inl (fun _ => 0))), (q13, .inl (d13, 4, .inl (fun _ => 0)))]) [0, 1, 2, 3, 4, 5] (by decide) rfl
  have hK9 := hK.sub (tys' := [(d1, .int), (d4, .int), (d7, .int), (d10, .int), (d13, .int)]) [0, 1, 2, 3, 4] rfl
  refine W.widen (k := 5) (n := 24) (Nat.le_of_ble_eq_true rfl) (Nat.le_of_ble_eq_true rfl) ?_
  exact W.vret hx hb hr (fun t ht hW => ⟨⟨(), rfl, trivial, ⟨q1, q4, q7, q10, q13, d1, d4, d7, d10, d13, by rw [ht]; exact hP9, va_K.moved hW.alike hK9, hD9⟩⟩, hS.F ht⟩) hS.2.2 dX7_init_39
set_option maxHeartbeats 4000000 in
set_option maxRecDepth 100000 in
theorem qX0_init (l : Launch) (dC : Nat → ClassId) (dI : Nat → Nat → Nat) (a0 : Nat) (sz : Nat) : Met l yX0_init (.code yX0_init cX0_init 1 none :: GW) { frames := 2, cells := 1, slots := 1066, locals := 100 } (va_Pc [.ref a0] (pW (dC, dI) [(a0, .inr (0, [.null, .int 0, .int 0]))] [] sz)) (va_Qv (fun _ : Unit => True) (fun (_ : Unit) (t : State) => ∃ (b0 : Nat) (t0 : ClassId), va_P (dC, dI) vwCl [(a0, .inr (0, [.ref b0, .int 0, .int 0])), (b0, .inl (t0, 1066, .inl (fun _ => 0)))] t.heap ∧ va_K (dC, dI) vwCl [(t0, .int)] t ∧ va_D (va_A [(a0, .inr (0, [.null, .int 0, .int 0]))] sz) [(a0, .inr (0, [.ref b0, .int 0, .int 0])), (b0, .inl (t0, 1066, .inl (fun _ => 0)))]) (va_A [(a0, .inr (0, [.null, .int 0, .int 0]))] sz)) 1 1066 (va_A [(a0, .inr (0, [.null, .int 0, .int 0]))] sz) := by
  refine Met.ofW (cc := cX0_init) (maxL := 1) (ret := none) (by decide) rfl ?_
  intro p e s m args below meth c0 s₁ B hml hv
  obtain ⟨rfl, hsz, hP, hK, hD0⟩ := hv
  have hx := B.exec
  have hb := B.bytes
  have hr := B.returns
  have hts := atoms_spec (ws := .code yX0_init cX0_init 1 none :: GW) B.pre
  have hG : ∀ w ∈ GW, w.before _ s = true := fun w h => hts w (List.mem_cons_of_mem _ h)
  have hown : s.vm.findClass RX0 = some m.cls := findClass_of_methodNamed B.named
  have hlocks := B.notSynchronized
  have hin : meth.name = "<init>" := (name_of_methodNamed B.named B.method).1
  subst hsz
  have hD := hD0.self (sz := s.heap.size)
  generalize hAe : va_A [(a0, .inr (0, [.null, .int 0, .int 0]))] s.heap.size = A at hD ⊢
  have hA : ∀ q : Nat, s.heap.size ≤ q → A q := fun q h => by rw [← hAe]; exact Or.inr h
  have hS : va_S A s.heap s.heap [] := va_S.rf
  have hP : va_P (dC, dI) vwCl [(a0, .inr (0, [.null, .int 0, .int 0]))] s.heap := hP
  have hl := lv_entry ([.ref a0]) (n := 1) (Nat.le_of_ble_eq_true rfl)
  rw [lg_entry_eq]
  generalize (lg_sl ([.ref a0]) ++ List.replicate (1 - (lg_sl ([.ref a0])).length) Slot.unset).toArray = ls at hl ⊢
  have hl : lv_has ls 1 [(0, .ref a0)] := hl
  refine lv_aload_n hx hb dX0_init_0 rfl (lv_at hl 0 rfl) ?_
  refine W.objInit hx hb hown (hG _ gw385) (hG _ gw152) (hG _ gw153) rfl (by rw [hml]; exact hl.1) rfl dX0_init_1 (Nat.le_of_ble_eq_true rfl) (Nat.le_of_ble_eq_true rfl) ?_
  refine W.eq (g2 := F0 m 4 ls []) rfl ?_
  refine lv_aload_n hx hb dX0_init_4 rfl (lv_at hl 0 rfl) ?_
  refine lv_sipush (v := 1066) hx hb dX0_init_5 (by decide) ?_
  refine va_newa (atype := .int) (ty := .int) (N' := 1066) (a0 := (1066, .inl (fun _ => 0))) hx hb (hG _ gw186) rfl hK hP hD hS hA (fun _ => rfl) (by decide) (by decide) (Nat.le_of_ble_eq_true rfl) (Nat.le_of_ble_eq_true rfl) (Nat.le_of_ble_eq_true rfl) dX0_init_8 (fun q1 d1 H2 hK hP hD hS => ?_)
  have hP : va_P (dC, dI) vwCl [(a0, .inr (0, [.null, .int 0, .int 0])), (q1, .inl (d1, 1066, .inl (fun _ => 0)))] H2 := hP
  have hD : va_D A [(a0, .inr (0, [.null, .int 0, .int 0])), (q1, .inl (d1, 1066, .inl (fun _ => 0)))] := hD
  have hK : va_K (dC, dI) vwCl [(d1, .int)] s := hK
  refine W.widen (k := 1) (n := 1066) (Nat.le_of_ble_eq_true rfl) (Nat.le_of_ble_eq_true rfl) ?_
  refine va_putF (D := (dC, dI)) (ci := 0) (v := .ref q1) (ty := .array .int) (C := RX0) (T := TX0) (N := 3) hx hb hG inX0 tyX0 tyX0_ok nmX0 hown hK hP hD hS 0 rfl rfl 0 (by decide) (hG _ gw386) (fun _ h9 => h9) rfl hin rfl (by decide +kernel) rfl rfl (Nat.le_of_ble_eq_true rfl) dX0_init_10 (fun H3 locs hP hD hS => ?_)
  have hP : va_P (dC, dI) vwCl [(a0, .inr (0, [.ref q1, .int 0, .int 0])), (q1, .inl (d1, 1066, .inl (fun _ => 0)))] H3 := hP
  have hD : va_D A [(a0, .inr (0, [.ref q1, .int 0, .int 0])), (q1, .inl (d1, 1066, .inl (fun _ => 0)))] := hD
  have hP9 := hP.sub (ws' := [(a0, .inr (0, [.ref q1, .int 0, .int 0])), (q1, .inl (d1, 1066, .inl (fun _ => 0)))]) [0, 1] rfl
  have hD9 := hD.sub (ws' := [(a0, .inr (0, [.ref q1, .int 0, .int 0])), (q1, .inl (d1, 1066, .inl (fun _ => 0)))]) [0, 1] (by decide) rfl
  have hK9 := hK.sub (tys' := [(d1, .int)]) [0] rfl
  refine W.widen (k := 1) (n := 1066) (Nat.le_of_ble_eq_true rfl) (Nat.le_of_ble_eq_true rfl) ?_
  exact W.vret hx hb hr (fun t ht hW => ⟨⟨(), rfl, trivial, ⟨q1, d1, by rw [ht]; exact hP9, va_K.moved hW.alike hK9, hD9⟩⟩, hS.F ht⟩) hS.2.2 dX0_init_13
set_option maxHeartbeats 4000000 in
set_option maxRecDepth 100000 in
theorem qX3_init (l : Launch) (dC : Nat → ClassId) (dI : Nat → Nat → Nat) (a0 : Nat) (sz : Nat) : Met l yX3_init (.code yX3_init cX3_init 1 none :: GW) { frames := 2, cells := 12, slots := 2269, locals := 100 } (va_Pc [.ref a0] (pW (dC, dI) [(a0, .inr (2, [.int 0, .null, .null, .null, .null, .null, .null, .int 0, .null, .null, .null, .null, .null, .null]))] [] sz)) (va_Qv (fun _ : Unit => True) (fun (_ : Unit) (t : State) => ∃ (b0 b1 b2 b3 b4 b5 b6 b7 b8 b9 b10 b11 : Nat) (t0 t1 t2 t3 t4 t5 t6 t7 t8 t9 t10 t11 : ClassId), va_P (dC, dI) vwCl [(a0, .inr (2, [.int 0, .ref b0, .ref b1, .ref b2, .ref b3, .ref b4, .ref b5, .int 0, .ref b6, .ref b7, .ref b8, .ref b9, .ref b10, .ref b11])), (b0, .inl (t0, 30, .inl (fun _ => 0))), (b1, .inl (t1, 30, .inl (fun _ => 0))), (b2, .inl (t2, 30, .inl (fun _ => 0))), (b3, .inl (t3, 30, .inl (fun _ => 0))), (b4, .inl (t4, 30, .inl (fun _ => 0))), (b5, .inl (t5, 1715, .inl (fun _ => 0))), (b6, .inl (t6, 343, .inl (fun _ => 0))), (b7, .inl (t7, 7, .inl (fun _ => 0))), (b8, .inl (t8, 9, .inl (fun _ => 0))), (b9, .inl (t9, 9, .inl (fun _ => 0))), (b10, .inl (t10, 18, .inl (fun _ => 0))), (b11, .inl (t11, 18, .inl (fun _ => 0)))] t.heap ∧ va_K (dC, dI) vwCl [(t0, .int), (t1, .int), (t2, .boolean), (t3, .int), (t4, .int), (t5, .int), (t6, .boolean), (t7, .int), (t8, .int), (t9, .int), (t10, .int), (t11, .int)] t ∧ va_D (va_A [(a0, .inr (2, [.int 0, .null, .null, .null, .null, .null, .null, .int 0, .null, .null, .null, .null, .null, .null]))] sz) [(a0, .inr (2, [.int 0, .ref b0, .ref b1, .ref b2, .ref b3, .ref b4, .ref b5, .int 0, .ref b6, .ref b7, .ref b8, .ref b9, .ref b10, .ref b11])), (b0, .inl (t0, 30, .inl (fun _ => 0))), (b1, .inl (t1, 30, .inl (fun _ => 0))), (b2, .inl (t2, 30, .inl (fun _ => 0))), (b3, .inl (t3, 30, .inl (fun _ => 0))), (b4, .inl (t4, 30, .inl (fun _ => 0))), (b5, .inl (t5, 1715, .inl (fun _ => 0))), (b6, .inl (t6, 343, .inl (fun _ => 0))), (b7, .inl (t7, 7, .inl (fun _ => 0))), (b8, .inl (t8, 9, .inl (fun _ => 0))), (b9, .inl (t9, 9, .inl (fun _ => 0))), (b10, .inl (t10, 18, .inl (fun _ => 0))), (b11, .inl (t11, 18, .inl (fun _ => 0)))]) (va_A [(a0, .inr (2, [.int 0, .null, .null, .null, .null, .null, .null, .int 0, .null, .null, .null, .null, .null, .null]))] sz)) 12 2269 (va_A [(a0, .inr (2, [.int 0, .null, .null, .null, .null, .null, .null, .int 0, .null, .null, .null, .null, .null, .null]))] sz) := by
  refine Met.ofW (cc := cX3_init) (maxL := 1) (ret := none) (by decide) rfl ?_
  intro p e s m args below meth c0 s₁ B hml hv
  obtain ⟨rfl, hsz, hP, hK, hD0⟩ := hv
  have hx := B.exec
  have hb := B.bytes
  have hr := B.returns
  have hts := atoms_spec (ws := .code yX3_init cX3_init 1 none :: GW) B.pre
  have hG : ∀ w ∈ GW, w.before _ s = true := fun w h => hts w (List.mem_cons_of_mem _ h)
  have hown : s.vm.findClass RX3 = some m.cls := findClass_of_methodNamed B.named
  have hlocks := B.notSynchronized
  have hin : meth.name = "<init>" := (name_of_methodNamed B.named B.method).1
  subst hsz
  have hD := hD0.self (sz := s.heap.size)
  generalize hAe : va_A [(a0, .inr (2, [.int 0, .null, .null, .null, .null, .null, .null, .int 0, .null, .null, .null, .null, .null, .null]))] s.heap.size = A at hD ⊢
  have hA : ∀ q : Nat, s.heap.size ≤ q → A q := fun q h => by rw [← hAe]; exact Or.inr h
  have hS : va_S A s.heap s.heap [] := va_S.rf
  have hP : va_P (dC, dI) vwCl [(a0, .inr (2, [.int 0, .null, .null, .null, .null, .null, .null, .int 0, .null, .null, .null, .null, .null, .null]))] s.heap := hP
  have hl := lv_entry ([.ref a0]) (n := 1) (Nat.le_of_ble_eq_true rfl)
  rw [lg_entry_eq]
  generalize (lg_sl ([.ref a0]) ++ List.replicate (1 - (lg_sl ([.ref a0])).length) Slot.unset).toArray = ls at hl ⊢
  have hl : lv_has ls 1 [(0, .ref a0)] := hl
  refine lv_aload_n hx hb dX3_init_0 rfl (lv_at hl 0 rfl) ?_
  refine W.objInit hx hb hown (hG _ gw403) (hG _ gw152) (hG _ gw153) rfl (by rw [hml]; exact hl.1) rfl dX3_init_1 (Nat.le_of_ble_eq_true rfl) (Nat.le_of_ble_eq_true rfl) ?_
  refine W.eq (g2 := F0 m 4 ls []) rfl ?_
  refine lv_aload_n hx hb dX3_init_4 rfl (lv_at hl 0 rfl) ?_
  refine lv_bipush (v := 30) hx hb dX3_init_5 (by decide) ?_
  refine va_newa (atype := .int) (ty := .int) (N' := 30) (a0 := (30, .inl (fun _ => 0))) hx hb (hG _ gw186) rfl hK hP hD hS hA (fun _ => rfl) (by decide) (by decide) (Nat.le_of_ble_eq_true rfl) (Nat.le_of_ble_eq_true rfl) (Nat.le_of_ble_eq_true rfl) dX3_init_7 (fun q1 d1 H2 hK hP hD hS => ?_)
  have hP : va_P (dC, dI) vwCl [(a0, .inr (2, [.int 0, .null, .null, .null, .null, .null, .null, .int 0, .null, .null, .null, .null, .null, .null])), (q1, .inl (d1, 30, .inl (fun _ => 0)))] H2 := hP
  have hD : va_D A [(a0, .inr (2, [.int 0, .null, .null, .null, .null, .null, .null, .int 0, .null, .null, .null, .null, .null, .null])), (q1, .inl (d1, 30, .inl (fun _ => 0)))] := hD
  have hK : va_K (dC, dI) vwCl [(d1, .int)] s := hK
  refine W.widen (k := 1) (n := 30) (Nat.le_of_ble_eq_true rfl) (Nat.le_of_ble_eq_true rfl) ?_
  refine va_putF (D := (dC, dI)) (ci := 2) (v := .ref q1) (ty := .array .int) (C := RX3) (T := TX3) (N := 14) hx hb hG inX3 tyX3 tyX3_ok nmX3 hown hK hP hD hS 0 rfl rfl 1 (by decide) (hG _ gw406) (fun _ h9 => h9) rfl hin rfl (by decide +kernel) rfl rfl (Nat.le_of_ble_eq_true rfl) dX3_init_9 (fun H3 locs hP hD hS => ?_)
  have hP : va_P (dC, dI) vwCl [(a0, .inr (2, [.int 0, .ref q1, .null, .null, .null, .null, .null, .int 0, .null, .null, .null, .null, .null, .null])), (q1, .inl (d1, 30, .inl (fun _ => 0)))] H3 := hP
  have hD : va_D A [(a0, .inr (2, [.int 0, .ref q1, .null, .null, .null, .null, .null, .int 0, .null, .null, .null, .null, .null, .null])), (q1, .inl (d1, 30, .inl (fun _ => 0)))] := hD
  refine lv_aload_n hx hb dX3_init_12 rfl (lv_at hl 0 rfl) ?_
  refine lv_bipush (v := 30) hx hb dX3_init_13 (by decide) ?_
  refine va_newa (atype := .int) (ty := .int) (N' := 30) (a0 := (30, .inl (fun _ => 0))) hx hb (hG _ gw186) rfl hK hP hD hS hA (fun _ => rfl) (by decide) (by decide) (Nat.le_of_ble_eq_true rfl) (Nat.le_of_ble_eq_true rfl) (Nat.le_of_ble_eq_true rfl) dX3_init_15 (fun q4 d4 H5 hK hP hD hS => ?_)
  have hP : va_P (dC, dI) vwCl [(a0, .inr (2, [.int 0, .ref q1, .null, .null, .null, .null, .null, .int 0, .null, .null, .null, .null, .null, .null])), (q1, .inl (d1, 30, .inl (fun _ => 0))), (q4, .inl (d4, 30, .inl (fun _ => 0)))] H5 := hP
  have hD : va_D A [(a0, .inr (2, [.int 0, .ref q1, .null, .null, .null, .null, .null, .int 0, .null, .null, .null, .null, .null, .null])), (q1, .inl (d1, 30, .inl (fun _ => 0))), (q4, .inl (d4, 30, .inl (fun _ => 0)))] := hD
  have hK : va_K (dC, dI) vwCl [(d1, .int), (d4, .int)] s := hK
  refine W.widen (k := 2) (n := 60) (Nat.le_of_ble_eq_true rfl) (Nat.le_of_ble_eq_true rfl) ?_
  refine va_putF (D := (dC, dI)) (ci := 2) (v := .ref q4) (ty := .array .int) (C := RX3) (T := TX3) (N := 14) hx hb hG inX3 tyX3 tyX3_ok nmX3 hown hK hP hD hS 0 rfl rfl 2 (by decide) (hG _ gw407) (fun _ h9 => h9) rfl hin rfl (by decide +kernel) rfl rfl (Nat.le_of_ble_eq_true rfl) dX3_init_17 (fun H6 locs hP hD hS => ?_)
  have hP : va_P (dC, dI) vwCl [(a0, .inr (2, [.int 0, .ref q1, .ref q4, .null, .null, .null, .null, .int 0, .null, .null, .null, .null, .null, .null])), (q1, .inl (d1, 30, .inl (fun _ => 0))), (q4, .inl (d4, 30, .inl (fun _ => 0)))] H6 := hP
  have hD : va_D A [(a0, .inr (2, [.int 0, .ref q1, .ref q4, .null, .null, .null, .null, .int 0, .null, .null, .null, .null, .null, .null])), (q1, .inl (d1, 30, .inl (fun _ => 0))), (q4, .inl (d4, 30, .inl (fun _ => 0)))] := hD
  refine lv_aload_n hx hb dX3_init_20 rfl (lv_at hl 0 rfl) ?_
  refine lv_bipush (v := 30) hx hb dX3_init_21 (by decide) ?_
  refine va_newa (atype := .boolean) (ty := .boolean) (N' := 30) (a0 := (30, .inl (fun _ => 0))) hx hb (hG _ gw448) rfl hK hP hD hS hA (fun _ => rfl) (by decide) (by decide) (Nat.le_of_ble_eq_true rfl) (Nat.le_of_ble_eq_true rfl) (Nat.le_of_ble_eq_true rfl) dX3_init_23 (fun q7 d7 H8 hK hP hD hS => ?_)
  have hP : va_P (dC, dI) vwCl [(a0, .inr (2, [.int 0, .ref q1, .ref q4, .null, .null, .null, .null, .int 0, .null, .null, .null, .null, .null, .null])), (q1, .inl (d1, 30, .inl (fun _ => 0))), (q4, .inl (d4, 30, .inl (fun _ => 0))), (q7, .inl (d7, 30, .inl (fun _ => 0)))] H8 := hP
  have hD : va_D A [(a0, .inr (2, [.int 0, .ref q1, .ref q4, .null, .null, .null, .null, .int 0, .null, .null, .null, .null, .null, .null])), (q1, .inl (d1, 30, .inl (fun _ => 0))), (q4, .inl (d4, 30, .inl (fun _ => 0))), (q7, .inl (d7, 30, .inl (fun _ => 0)))] := hD
  have hK : va_K (dC, dI) vwCl [(d1, .int), (d4, .int), (d7, .boolean)] s := hK
  refine W.widen (k := 3) (n := 90) (Nat.le_of_ble_eq_true rfl) (Nat.le_of_ble_eq_true rfl) ?_
  refine va_putF (D := (dC, dI)) (ci := 2) (v := .ref q7) (ty := .array .boolean) (C := RX3) (T := TX3) (N := 14) hx hb hG inX3 tyX3 tyX3_ok nmX3 hown hK hP hD hS 0 rfl rfl 3 (by decide) (hG _ gw408) (fun _ h9 => h9) rfl hin rfl (by decide +kernel) rfl rfl (Nat.le_of_ble_eq_true rfl) dX3_init_25 (fun H9 locs hP hD hS => ?_)
  have hP : va_P (dC, dI) vwCl [(a0, .inr (2, [.int 0, .ref q1, .ref q4, .ref q7, .null, .null, .null, .int 0, .null, .null, .null, .null, .null, .null])), (q1, .inl (d1, 30, .inl (fun _ => 0))), (q4, .inl (d4, 30, .inl (fun _ => 0))), (q7, .inl (d7, 30, .inl (fun _ => 0)))] H9 := hP
  have hD : va_D A [(a0, .inr (2, [.int 0, .ref q1, .ref q4, .ref q7, .null, .null, .null, .int 0, .null, .null, .null, .null, .null, .null])), (q1, .inl (d1, 30, .inl (fun _ => 0))), (q4, .inl (d4, 30, .inl (fun _ => 0))), (q7, .inl (d7, 30, .inl (fun _ => 0)))] := hD
  refine lv_aload_n hx hb dX3_init_28 rfl (lv_at hl 0 rfl) ?_
  refine lv_bipush (v := 30) hx hb dX3_init_29 (by decide) ?_
  refine va_newa (atype := .int) (ty := .int) (N' := 30) (a0 := (30, .inl (fun _ => 0))) hx hb (hG _ gw186) rfl hK hP hD hS hA (fun _ => rfl) (by decide) (by decide) (Nat.le_of_ble_eq_true rfl) (Nat.le_of_ble_eq_true rfl) (Nat.le_of_ble_eq_true rfl) dX3_init_31 (fun q10 d10 H11 hK hP hD hS => ?_)
  have hP : va_P (dC, dI) vwCl [(a0, .inr (2, [.int 0, .ref q1, .ref q4, .ref q7, .null, .null, .null, .int 0, .null, .null, .null, .null, .null, .null])), (q1, .inl (d1, 30, .inl (fun _ => 0))), (q4, .inl (d4, 30, .inl (fun _ => 0))), (q7, .inl (d7, 30, .inl (fun _ => 0))), (q10, .inl (d10, 30, .inl (fun _ => 0)))] H11 := hP
  have hD : va_D A [(a0, .inr (2, [.int 0, .ref q1, .ref q4, .ref q7, .null, .null, .null, .int 0, .null, .null, .null, .null, .null, .null])), (q1, .inl (d1, 30, .inl (fun _ => 0))), (q4, .inl (d4, 30, .inl (fun _ => 0))), (q7, .inl (d7, 30, .inl (fun _ => 0))), (q10, .inl (d10, 30, .inl (fun _ => 0)))] := hD
  have hK : va_K (dC, dI) vwCl [(d1, .int), (d4, .int), (d7, .boolean), (d10, .int)] s := hK
  refine W.widen (k := 4) (n := 120) (Nat.le_of_ble_eq_true rfl) (Nat.le_of_ble_eq_true rfl) ?_
  refine va_putF (D := (dC, dI)) (ci := 2) (v := .ref q10) (ty := .array .int) (C := RX3) (T := TX3) (N := 14) hx hb hG inX3 tyX3 tyX3_ok nmX3 hown hK hP hD hS 0 rfl rfl 4 (by decide) (hG _ gw409) (fun _ h9 => h9) rfl hin rfl (by decide +kernel) rfl rfl (Nat.le_of_ble_eq_true rfl) dX3_init_33 (fun H12 locs hP hD hS => ?_)
  have hP : va_P (dC, dI) vwCl [(a0, .inr (2, [.int 0, .ref q1, .ref q4, .ref q7, .ref q10, .null, .null, .int 0, .null, .null, .null, .null, .null, .null])), (q1, .inl (d1, 30, .inl (fun _ => 0))), (q4, .inl (d4, 30, .inl (fun _ => 0))), (q7, .inl (d7, 30, .inl (fun _ => 0))), (q10, .inl (d10, 30, .inl (fun _ => 0)))] H12 := hP
  have hD : va_D A [(a0, .inr (2, [.int 0, .ref q1, .ref q4, .ref q7, .ref q10, .null, .null, .int 0, .null, .null, .null, .null, .null, .null])), (q1, .inl (d1, 30, .inl (fun _ => 0))), (q4, .inl (d4, 30, .inl (fun _ => 0))), (q7, .inl (d7, 30, .inl (fun _ => 0))), (q10, .inl (d10, 30, .inl (fun _ => 0)))] := hD
  refine lv_aload_n hx hb dX3_init_36 rfl (lv_at hl 0 rfl) ?_
  refine lv_bipush (v := 30) hx hb dX3_init_37 (by decide) ?_
  refine va_newa (atype := .int) (ty := .int) (N' := 30) (a0 := (30, .inl (fun _ => 0))) hx hb (hG _ gw186) rfl hK hP hD hS hA (fun _ => rfl) (by decide) (by decide) (Nat.le_of_ble_eq_true rfl) (Nat.le_of_ble_eq_true rfl) (Nat.le_of_ble_eq_true rfl) dX3_init_39 (fun q13 d13 H14 hK hP hD hS => ?_)
  have hP : va_P (dC, dI) vwCl [(a0, .inr (2, [.int 0, .ref q1, .ref q4, .ref q7, .ref q10, .null, .null, .int 0, .null, .null, .null, .null, .null, .null])), (q1, .inl (d1, 30, .inl (fun _ => 0))), (q4, .inl (d4, 30, .inl (fun _ => 0))), (q7, .inl (d7, 30, .inl (fun _ => 0))), (q10, .inl (d10, 30, .inl (fun _ => 0))), (q13, .inl (d13, 30, .inl (fun _ => 0)))] H14 := hP
  have hD : va_D A [(a0, .inr (2, [.int 0, .ref q1, .ref q4, .ref q7, .ref q10, .null, .null, .int 0, .null, .null, .null, .null, .null, .null])), (q1, .inl (d1, 30, .inl (fun _ => 0))), (q4, .inl (d4, 30, .inl (fun _ => 0))), (q7, .inl (d7, 30, .inl (fun _ => 0))), (q10, .inl (d10, 30, .inl (fun _ => 0))), (q13, .inl (d13, 30, .inl (fun _ => 0)))] := hD
  have hK : va_K (dC, dI) vwCl [(d1, .int), (d4, .int), (d7, .boolean), (d10, .int), (d13, .int)] s := hK
  refine W.widen (k := 5) (n := 150) (Nat.le_of_ble_eq_true rfl) (Nat.le_of_ble_eq_true rfl) ?_
  refine va_putF (D := (dC, dI)) (ci := 2) (v := .ref q13) (ty := .array .int) (C := RX3) (T := TX3) (N := 14) hx hb hG inX3 tyX3 tyX3_ok nmX3 hown hK hP hD hS 0 rfl rfl 5 (by decide) (hG _ gw410) (fun _ h9 => h9) rfl hin rfl (by decide +kernel) rfl rfl (Nat.le_of_ble_eq_true rfl) dX3_init_41 (fun H15 locs hP hD hS => ?_)
  have hP : va_P (dC, dI) vwCl [(a0, .inr (2, [.int 0, .ref q1, .ref q4, .ref q7, .ref q10, .ref q13, .null, .int 0, .null, .null, .null, .null, .null, .null])), (q1, .inl (d1, 30, .inl (fun _ => 0))), (q4, .inl (d4, 30, .inl (fun _ => 0))), (q7, .inl (d7, 30, .inl (fun _ => 0))), (q10, .inl (d10, 30, .inl (fun _ => 0))), (q13, .inl (d13, 30, .inl (fun _ => 0)))] H15 := hP
  have hD : va_D A [(a0, .inr (2, [.int 0, .ref q1, .ref q4, .ref q7, .ref q10, .ref q13, .null, .int 0, .null, .null, .null, .null, .null, .null])), (q1, .inl (d1, 30, .inl (fun _ => 0))), (q4, .inl (d4, 30, .inl (fun _ => 0))), (q7, .inl (d7, 30, .inl (fun _ => 0))), (q10, .inl (d10, 30, .inl (fun _ => 0))), (q13, .inl (d13, 30, .inl (fun _ => 0)))] := hD
  refine lv_aload_n hx hb dX3_init_44 rfl (lv_at hl 0 rfl) ?_
  refine lv_sipush (v := 1715) hx hb dX3_init_45 (by decide) ?_
  refine va_newa (atype := .int) (ty := .int) (N' := 1715) (a0 := (1715, .inl (fun _ => 0))) hx hb (hG _ gw186) rfl hK hP hD hS hA (fun _ => rfl) (by decide) (by decide) (Nat.le_of_ble_eq_true rfl) (Nat.le_of_ble_eq_true rfl) (Nat.le_of_ble_eq_true rfl) dX3_init_48 (fun q16 d16 H17 hK hP hD hS => ?_)
  have hP : va_P (dC, dI) vwCl [(a0, .inr (2, [.int 0, .ref q1, .ref q4, .ref q7, .ref q10, .ref q13, .null, .int 0, .null, .null, .null, .null, .null, .null])), (q1, .inl (d1, 30, .inl (fun _ => 0))), (q4, .inl (d4, 30, .inl (fun _ => 0))), (q7, .inl (d7, 30, .inl (fun _ => 0))), (q10, .inl (d10, 30, .inl (fun _ => 0))), (q13, .inl (d13, 30, .inl (fun _ => 0))), (q16, .inl (d16, 1715, .inl (fun _ => 0)))] H17 := hP
  have hD : va_D A [(a0, .inr (2, [.int 0, .ref q1, .ref q4, .ref q7, .ref q10, .ref q13, .null, .int 0, .null, .null, .null, .null, .null, .null])), (q1, .inl (d1, 30, .inl (fun _ => 0))), (q4, .inl (d4, 30, .inl (fun _ => 0))), (q7, .inl (d7, 30, .inl (fun _ => 0))), (q10, .inl (d10, 30, .inl (fun _ => 0))), (q13, .inl (d13, 30, .inl (fun _ => 0))), (q16, .inl (d16, 1715, .inl (fun _ => 0)))] := hD
  have hK : va_K (dC, dI) vwCl [(d1, .int), (d4, .int), (d7, .boolean), (d10, .int), (d13, .int), (d16, .int)] s := hK
  refine W.widen (k := 6) (n := 1865) (Nat.le_of_ble_eq_true rfl) (Nat.le_of_ble_eq_true rfl) ?_
  refine va_putF (D := (dC, dI)) (ci := 2) (v := .ref q16) (ty := .array .int) (C := RX3) (T := TX3) (N := 14) hx hb hG inX3 tyX3 tyX3_ok nmX3 hown hK hP hD hS 0 rfl rfl 6 (by decide) (hG _ gw411) (fun _ h9 => h9) rfl hin rfl (by decide +kernel) rfl rfl (Nat.le_of_ble_eq_true rfl) dX3_init_50 (fun H18 locs hP hD hS => ?_)
  have hP : va_P (dC, dI) vwCl [(a0, .inr (2, [.int 0, .ref q1, .ref q4, .ref q7, .ref q10, .ref q13, .ref q16, .int 0, .null, .null, .null, .null, .null, .null])), (q1, .inl (d1, 30, .inl (fun _ => 0))), (q4, .inl (d4, 30, .inl (fun _ => 0))), (q7, .inl (d7, 30, .inl (fun _ => 0))), (q10, .inl (d10, 30, .inl (fun _ => 0))), (q13, .inl (d13, 30, .inl (fun _ => 0))), (q16, .inl (d16, 1715, .inl (fun _ => 0)))] H18 := hP
  have hD : va_D A [(a0, .inr (2, [.int 0, .ref q1, .ref q4, .ref q7, .ref q10, .ref q13, .ref q16, .int 0, .null, .null, .null, .null, .null, .null])), (q1, .inl (d1, 30, .inl (fun _ => 0))), (q4, .inl (d4, 30, .inl (fun _ => 0))), (q7, .inl (d7, 30, .inl (fun _ => 0))), (q10, .inl (d10, 30, .inl (fun _ => 0))), (q13, .inl (d13, 30, .inl (fun _ => 0))), (q16, .inl (d16, 1715, .inl (fun _ => 0)))] := hD
  refine lv_aload_n hx hb dX3_init_53 rfl (lv_at hl 0 rfl) ?_
  refine lv_sipush (v := 343) hx hb dX3_init_54 (by decide) ?_
  refine va_newa (atype := .boolean) (ty := .boolean) (N' := 343) (a0 := (343, .inl (fun _ => 0))) hx hb (hG _ gw448) rfl hK hP hD hS hA (fun _ => rfl) (by decide) (by decide) (Nat.le_of_ble_eq_true rfl) (Nat.le_of_ble_eq_true rfl) (Nat.le_of_ble_eq_true rfl) dX3_init_57 (fun q19 d19 H20 hK hP hD hS => ?_)
  have hP : va_P (dC, dI) vwCl [(a0, .inr (2, [.int 0, .ref q1, .ref q4, .ref q7, .ref q10, .ref q13, .ref q16, .int 0, .null, .null, .null, .null, .null, .null])), (q1, .inl (d1, 30, .inl (fun _ => 0))), (q4, .inl (d4, 30, .inl (fun _ => 0))), (q7, .inl (d7, 30, .inl (fun _ => 0))), (q10, .inl (d10, 30, .inl (fun _ => 0))), (q13, .inl (d13, 30, .inl (fun _ => 0))), (q16, .inl (d16, 1715, .inl (fun _ => 0))), (q19, .inl (d19, 343, .inl (fun _ => 0)))] H20 := hP
  have hD : va_D A [(a0, .inr (2, [.int 0, .ref q1, .ref q4, .ref q7, .ref q10, .ref q13, .ref q16, .int 0, .null, .null, .null, .null, .null, .null])), (q1, .inl (d1, 30, .inl (fun _ => 0))), (q4, .inl (d4, 30, .inl (fun _ => 0))), (q7, .inl (d7, 30, .inl (fun _ => 0))), (q10, .inl (d10, 30, .inl (fun _ => 0))), (q13, .inl (d13, 30, .inl (fun _ => 0))), (q16, .inl (d16, 1715, .inl (fun _ => 0))), (q19, .inl (d19, 343, .inl (fun _ => 0)))] := hD
  have hK : va_K (dC, dI) vwCl [(d1, .int), (d4, .int), (d7, .boolean), (d10, .int), (d13, .int), (d16, .int), (d19, .boolean)] s := hK
  refine W.widen (k := 7) (n := 2208) (Nat.le_of_ble_eq_true rfl) (Nat.le_of_ble_eq_true rfl) ?_
  refine va_putF (D := (dC, dI)) (ci := 2) (v := .ref q19) (ty := .array .boolean) (C := RX3) (T := TX3) (N := 14) hx hb hG inX3 tyX3 tyX3_ok nmX3 hown hK hP hD hS 0 rfl rfl 8 (by decide) (hG _ gw413) (fun _ h9 => h9) rfl hin rfl (by decide +kernel) rfl rfl (Nat.le_of_ble_eq_true rfl) dX3_init_59 (fun H21 locs hP hD hS => ?_)
  have hP : va_P (dC, dI) vwCl [(a0, .inr (2, [.int 0, .ref q1, .ref q4, .ref q7, .ref q10, .ref q13, .ref q16, .int 0, .ref q19, .null, .null, .null, .null, .null])), (q1, .inl (d1, 30, .inl (fun _ => 0))), (q4, .inl (d4, 30, .inl (fun _ => 0))), (q7, .inl (d7, 30, .inl (fun _ => 0))), (q10, .inl (d10, 30, .inl (fun _ => 0))), (q13, .inl (d13, 30, .inl (fun _ => 0))), (q16, .inl (d16, 1715, .inl (fun _ => 0))), (q19, .inl (d19, 343, .inl (fun _ => 0)))] H21 := hP
  have hD : va_D A [(a0, .inr (2, [.int 0, .ref q1, .ref q4, .ref q7, .ref q10, .ref q13, .ref q16, .int 0, .ref q19, .null, .null, .null, .null, .null])), (q1, .inl (d1, 30, .inl (fun _ => 0))), (q4, .inl (d4, 30, .inl (fun _ => 0))), (q7, .inl (d7, 30, .inl (fun _ => 0))), (q10, .inl (d10, 30, .inl (fun _ => 0))), (q13, .inl (d13, 30, .inl (fun _ => 0))), (q16, .inl (d16, 1715, .inl (fun _ => 0))), (q19, .inl (d19, 343, .inl (fun _ => 0)))] := hD
  refine lv_aload_n hx hb dX3_init_62 rfl (lv_at hl 0 rfl) ?_
  refine lv_bipush (v := 7) hx hb dX3_init_63 (by decide) ?_
  refine va_newa (atype := .int) (ty := .int) (N' := 7) (a0 := (7, .inl (fun _ => 0))) hx hb (hG _ gw186) rfl hK hP hD hS hA (fun _ => rfl) (by decide) (by decide) (Nat.le_of_ble_eq_true rfl) (Nat.le_of_ble_eq_true rfl) (Nat.le_of_ble_eq_true rfl) dX3_init_65 (fun q22 d22 H23 hK hP hD hS => ?_)
  have hP : va_P (dC, dI) vwCl [(a0, .inr (2, [.int 0, .ref q1, .ref q4, .ref q7, .ref q10, .ref q13, .ref q16, .int 0, .ref q19, .null, .null, .null, .null, .null])), (q1, .inl (d1, 30, .inl (fun _ => 0))), (q4, .inl (d4, 30, .inl (fun _ => 0))), (q7, .inl (d7, 30, .inl (fun _ => 0))), (q10, .inl (d10, 30, .inl (fun _ => 0))), (q13, .inl (d13, 30, .inl (fun _ => 0))), (q16, .inl (d16, 1715, .inl (fun _ => 0))), (q19, .inl (d19, 343, .inl (fun _ => 0))), (q22, .inl (d22, 7, .inl (fun _ => 0)))] H23 := hP
  have hD : va_D A [(a0, .inr (2, [.int 0, .ref q1, .ref q4, .ref q7, .ref q10, .ref q13, .ref q16, .int 0, .ref q19, .null, .null, .null, .null, .null])), (q1, .inl (d1, 30, .inl (fun _ => 0))), (q4, .inl (d4, 30, .inl (fun _ => 0))), (q7, .inl (d7, 30, .inl (fun _ => 0))), (q10, .inl (d10, 30, .inl (fun _ => 0))), (q13, .inl (d13, 30, .inl (fun _ => 0))), (q16, .inl (d16, 1715, .inl (fun _ => 0))), (q19, .inl (d19, 343, .inl (fun _ => 0))), (q22, .inl (d22, 7, .inl (fun _ => 0)))] := hD
  have hK : va_K (dC, dI) vwCl [(d1, .int), (d4, .int), (d7, .boolean), (d10, .int), (d13, .int), (d16, .int), (d19, .boolean), (d22, .int)] s := hK
  refine W.widen (k := 8) (n := 2215) (Nat.le_of_ble_eq_true rfl) (Nat.le_of_ble_eq_true rfl) ?_
  refine va_putF (D := (dC, dI)) (ci := 2) (v := .ref q22) (ty := .array .int) (C := RX3) (T := TX3) (N := 14) hx hb hG inX3 tyX3 tyX3_ok nmX3 hown hK hP hD hS 0 rfl rfl 9 (by decide) (hG _ gw414) (fun _ h9 => h9) rfl hin rfl (by decide +kernel) rfl rfl (Nat.le_of_ble_eq_true rfl) dX3_init_67 (fun H24 locs hP hD hS => ?_)
  have hP : va_P (dC, dI) vwCl [(a0, .inr (2, [.int 0, .ref q1, .ref q4, .ref q7, .ref q10, .ref q13, .ref q16, .int 0, .ref q19, .ref q22, .null, .null, .null, .null])), (q1, .inl (d1, 30, .inl (fun _ => 0))), (q4, .inl (d4, 30, .inl (fun _ => 0))), (q7, .inl (d7, 30, .inl (fun _ => 0))), (q10, .inl (d10, 30, .inl (fun _ => 0))), (q13, .inl (d13, 30, .inl (fun _ => 0))), (q16, .inl (d16, 1715, .inl (fun _ => 0))), (q19, .inl (d19, 343, .inl (fun _ => 0))), (q22, .inl (d22, 7, .inl (fun _ => 0)))] H24 := hP
  have hD : va_D A [(a0, .inr (2, [.int 0, .ref q1, .ref q4, .ref q7, .ref q10, .ref q13, .ref q16, .int 0, .ref q19, .ref q22, .null, .null, .null, .null])), (q1, .inl (d1, 30, .inl (fun _ => 0))), (q4, .inl (d4, 30, .inl (fun _ => 0))), (q7, .inl (d7, 30, .inl (fun _ => 0))), (q10, .inl (d10, 30, .inl (fun _ => 0))), (q13, .inl (d13, 30, .inl (fun _ => 0))), (q16, .inl (d16, 1715, .inl (fun _ => 0))), (q19, .inl (d19, 343, .inl (fun _ => 0))), (q22, .inl (d22, 7, .inl (fun _ => 0)))] := hD
  refine lv_aload_n hx hb dX3_init_70 rfl (lv_at hl 0 rfl) ?_
  refine lv_bipush (v := 9) hx hb dX3_init_71 (by decide) ?_
  refine va_newa (atype := .int) (ty := .int) (N' := 9) (a0 := (9, .inl (fun _ => 0))) hx hb (hG _ gw186) rfl hK hP hD hS hA (fun _ => rfl) (by decide) (by decide) (Nat.le_of_ble_eq_true rfl) (Nat.le_of_ble_eq_true rfl) (Nat.le_of_ble_eq_true rfl) dX3_init_73 (fun q25 d25 H26 hK hP hD hS => ?_)
  have hP : va_P (dC, dI) vwCl [(a0, .inr (2, [.int 0, .ref q1, .ref q4, .ref q7, .ref q10, .ref q13, .ref q16, .int 0, .ref q19, .ref q22, .null, .null, .null, .null])), (q1, .inl (d1, 30, .inl (fun _ => 0))), (q4, .inl (d4, 30, .inl (fun _ => 0))), (q7, .inl (d7, 30, .inl (fun _ => 0))), (q10, .inl (d10, 30, .inl (fun _ => 0))), (q13, .inl (d13, 30, .inl (fun _ => 0))), (q16, .inl (d16, 1715, .inl (fun _ => 0))), (q19, .inl (d19, 343, .inl (fun _ => 0))), (q22, .inl (d22, 7, .inl (fun _ => 0))), (q25, .inl (d25, 9, .inl (fun _ => 0)))] H26 := hP
  have hD : va_D A [(a0, .inr (2, [.int 0, .ref q1, .ref q4, .ref q7, .ref q10, .ref q13, .ref q16, .int 0, .ref q19, .ref q22, .null, .null, .null, .null])), (q1, .inl (d1, 30, .inl (fun _ => 0))), (q4, .inl (d4, 30, .inl (fun _ => 0))), (q7, .inl (d7, 30, .inl (fun _ => 0))), (q10, .inl (d10, 30, .inl (fun _ => 0))), (q13, .inl (d13, 30, .inl (fun _ => 0))), (q16, .inl (d16, 1715, .inl (fun _ => 0))), (q19, .inl (d19, 343, .inl (fun _ => 0))), (q22, .inl (d22, 7, .inl (fun _ => 0))), (q25, .inl (d25, 9, .inl (fun _ => 0)))] := hD
  have hK : va_K (dC, dI) vwCl [(d1, .int), (d4, .int), (d7, .boolean), (d10, .int), (d13, .int), (d16, .int), (d19, .boolean), (d22, .int), (d25, .int)] s := hK
  refine W.widen (k := 9) (n := 2224) (Nat.le_of_ble_eq_true rfl) (Nat.le_of_ble_eq_true rfl) ?_
  refine va_putF (D := (dC, dI)) (ci := 2) (v := .ref q25) (ty := .array .int) (C := RX3) (T := TX3) (N := 14) hx hb hG inX3 tyX3 tyX3_ok nmX3 hown hK hP hD hS 0 rfl rfl 10 (by decide) (hG _ gw415) (fun _ h9 => h9) rfl hin rfl (by decide +kernel) rfl rfl (Nat.le_of_ble_eq_true rfl) dX3_init_75 (fun H27 locs hP hD hS => ?_)
  have hP : va_P (dC, dI) vwCl [(a0, .inr (2, [.int 0, .ref q1, .ref q4, .ref q7, .ref q10, .ref q13, .ref q16, .int 0, .ref q19, .ref q22, .ref q25, .null, .null, .null])), (q1, .inl (d1, 30, .inl (fun _ => 0))), (q4, .inl (d4, 30, .inl (fun _ => 0))), (q7, .inl (d7, 30, .inl (fun _ => 0))), (q10, .inl (d10, 30, .inl (fun _ => 0))), (q13, .inl (d13, 30, .inl (fun _ => 0))), (q16, .inl (d16, 1715, .inl (fun _ => 0))), (q19, .inl (d19, 343, .inl (fun _ => 0))), (q22, .inl (d22, 7, .inl (fun _ => 0))), (q25, .inl (d25, 9, .inl (fun _ => 0)))] H27 := hP
  have hD : va_D A [(a0, .inr (2, [.int 0, .ref q1, .ref q4, .ref q7, .ref q10, .ref q13, .ref q16, .int 0, .ref q19, .ref q22, .ref q25, .null, .null, .null])), (q1, .inl (d1, 30, .inl (fun _ => 0))), (q4, .inl (d4, 30, .inl (fun _ => 0))), (q7, .inl (d7, 30, .inl (fun _ => 0))), (q10, .inl (d10, 30, .inl (fun _ => 0))), (q13, .inl (d13, 30, .inl (fun _ => 0))), (q16, .inl (d16, 1715, .inl (fun _ => 0))), (q19, .inl (d19, 343, .inl (fun _ => 0))), (q22, .inl (d22, 7, .inl (fun _ => 0))), (q25, .inl (d25, 9, .inl (fun _ => 0)))] := hD
  refine lv_aload_n hx hb dX3_init_78 rfl (lv_at hl 0 rfl) ?_
  refine lv_bipush (v := 9) hx hb dX3_init_79 (by decide) ?_
  refine va_newa (atype := .int) (ty := .int) (N' := 9) (a0 := (9, .inl (fun _ => 0))) hx hb (hG _ gw186) rfl hK hP hD hS hA (fun _ => rfl) (by decide) (by decide) (Nat.le_of_ble_eq_true rfl) (Nat.le_of_ble_eq_true rfl) (Nat.le_of_ble_eq_true rfl) dX3_init_81 (fun q28 d28 H29 hK hP hD hS => ?_)
  have hP : va_P (dC, dI) vwCl [(a0, .inr (2, [.int 0, .ref q1, .ref q4, .ref q7, .ref q10, .ref q13, .ref q16, .int 0, .ref q19, .ref q22, .ref q25, .null, .null, .null])), (q1, .inl (d1, 30, .inl (fun _ => 0))), (q4, .inl (d4, 30, .inl (fun _ => 0))), (q7, .inl (d7, 30, .inl (fun _ => 0))), (q10, .inl (d10, 30, .inl (fun _ => 0))), (q13, .inl (d13, 30, .inl (fun _ => 0))), (q16, .inl (d16, 1715, .inl (fun _ => 0))), (q19, .inl (d19, 343, .inl (fun _ => 0))), (q22, .inl (d22, 7, .inl (fun _ => 0))), (q25, .inl (d25, 9, .inl (fun _ => 0))), (q28, .inl (d28, 9, .inl (fun _ => 0)))] H29 := hP
  have hD : va_D A [(a0, .inr (2, [.int 0, .ref q1, .ref q4, .ref q7, .ref q10, .ref q13, .ref q16, .int 0, .ref q19, .ref q22, .ref q25, .null, .null, .null])), (q1, .inl (d1, 30, .inl (fun _ => 0))), (q4, .inl (d4, 30, .inl (fun _ => 0))), (q7, .inl (d7, 30, .inl (fun _ => 0))), (q10, .inl (d10, 30, .inl (fun _ => 0))), (q13, .inl (d13, 30, .inl (fun _ => 0))), (q16, .inl (d16, 1715, .inl (fun _ => 0))), (q19, .inl (d19, 343, .inl (fun _ => 0))), (q22, .inl (d22, 7, .inl (fun _ => 0))), (q25, .inl (d25, 9, .inl (fun _ => 0))), (q28, .inl (d28, 9, .inl (fun _ => 0)))] := hD
  have hK : va_K (dC, dI) vwCl [(d1, .int), (d4, .int), (d7, .boolean), (d10, .int), (d13, .int), (d16, .int), (d19, .boolean), (d22, .int), (d25, .int), (d28, .int)] s := hK
  refine W.widen (k := 10) (n := 2233) (Nat.le_of_ble_eq_true rfl) (Nat.le_of_ble_eq_true rfl) ?_
  refine va_putF (D := (dC, dI)) (ci := 2) (v := .ref q28) (ty := .array .int) (C := RX3) (T := TX3) (N := 14) hx hb hG inX3 tyX3 tyX3_ok nmX3 hown hK hP hD hS 0 rfl rfl 11 (by decide) (hG _ gw416) (fun _ h9 => h9) rfl hin rfl (by decide +kernel) rfl rfl (Nat.le_of_ble_eq_true rfl) dX3_init_83 (fun H30 locs hP hD hS => ?_)
  have hP : va_P (dC, dI) vwCl [(a0, .inr (2, [.int 0, .ref q1, .ref q4, .ref q7, .ref q10, .ref q13, .ref q16, .int 0, .ref q19, .ref q22, .ref q25, .ref q28, .null, .null])), (q1, .inl (d1, 30, .inl (fun _ => 0))), (q4, .inl (d4, 30, .inl (fun _ => 0))), (q7, .inl (d7, 30, .inl (fun _ => 0))), (q10, .inl (d10, 30, .inl (fun _ => 0))), (q13, .inl (d13, 30, .inl (fun _ => 0))), (q16, .inl (d16, 1715, .inl (fun _ => 0))), (q19, .inl (d19, 343, .inl (fun _ => 0))), (q22, .inl (d22, 7, .inl (fun _ => 0))), (q25, .inl (d25, 9, .inl (fun _ => 0))), (q28, .inl (d28, 9, .inl (fun _ => 0)))] H30 := hP
  have hD : va_D A [(a0, .inr (2, [.int 0, .ref q1, .ref q4, .ref q7, .ref q10, .ref q13, .ref q16, .int 0, .ref q19, .ref q22, .ref q25, .ref q28, .null, .null])), (q1, .inl (d1, 30, .inl (fun _ => 0))), (q4, .inl (d4, 30, .inl (fun _ => 0))), (q7, .inl (d7, 30, .inl (fun _ => 0))), (q10, .inl (d10, 30, .inl (fun _ => 0))), (q13, .inl (d13, 30, .inl (fun _ => 0))), (q16, .inl (d16, 1715, .inl (fun _ => 0))), (q19, .inl (d19, 343, .inl (fun _ => 0))), (q22, .inl (d22, 7, .inl (fun _ => 0))), (q25, .inl (d25, 9, .inl (fun _ => 0))), (q28, .inl (d28, 9, .inl (fun _ => 0)))] := hD
  refine lv_aload_n hx hb dX3_init_86 rfl (lv_at hl 0 rfl) ?_
  refine lv_bipush (v := 18) hx hb dX3_init_87 (by decide) ?_
  refine va_newa (atype := .int) (ty := .int) (N' := 18) (a0 := (18, .inl (fun _ => 0))) hx hb (hG _ gw186) rfl hK hP hD hS hA (fun _ => rfl) (by decide) (by decide) (Nat.le_of_ble_eq_true rfl) (Nat.le_of_ble_eq_true rfl) (Nat.le_of_ble_eq_true rfl) dX3_init_89 (fun q31 d31 H32 hK hP hD hS => ?_)
  have hP : va_P (dC, dI) vwCl [(a0, .inr (2, [.int 0, .ref q1, .ref q4, .ref q7, .ref q10, .ref q13, .ref q16, .int 0, .ref q19, .ref q22, .ref q25, .ref q28, .null, .null])), (q1, .inl (d1, 30, .inl (fun _ => 0))), (q4, .inl (d4, 30, .inl (fun _ => 0))), (q7, .inl (d7, 30, .inl (fun _ => 0))), (q10, .inl (d10, 30, .inl (fun _ => 0))), (q13, .inl (d13, 30, .inl (fun _ => 0))), (q16, .inl (d16, 1715, .inl (fun _ => 0))), (q19, .inl (d19, 343, .inl (fun _ => 0))), (q22, .inl (d22, 7, .inl (fun _ => 0))), (q25, .inl (d25, 9, .inl (fun _ => 0))), (q28, .inl (d28, 9, .inl (fun _ => 0))), (q31, .inl (d31, 18, .inl (fun _ => 0)))] H32 := hP
  have hD : va_D A [(a0, .inr (2, [.int 0, .ref q1, .ref q4, .ref q7, .ref q10, .ref q13, .ref q16, .int 0, .ref q19, .ref q22, .ref q25, .ref q28, .null, .null])), (q1, .inl (d1, 30, .inl (fun _ => 0))), (q4, .inl (d4, 30, .inl (fun _ => 0))), (q7, .inl (d7, 30, .inl (fun _ => 0))), (q10, .inl (d10, 30, .inl (fun _ => 0))), (q13, .inl (d13, 30, .inl (fun _ => 0))), (q16, .inl (d16, 1715, .inl (fun _ => 0))), (q19, .inl (d19, 343, .inl (fun _ => 0))), (q22, .inl (d22, 7, .inl (fun _ => 0))), (q25, .inl (d25, 9, .inl (fun _ => 0))), (q28, .inl (d28, 9, .inl (fun _ => 0))), (q31, .inl (d31, 18, .inl (fun _ => 0)))] := hD
  have hK : va_K (dC, dI) vwCl [(d1, .int), (d4, .int), (d7, .boolean), (d10, .int), (d13, .int), (d16, .int), (d19, .boolean), (d22, .int), (d25, .int), (d28, .int), (d31, .int)] s := hK
  refine W.widen (k := 11) (n := 2251) (Nat.le_of_ble_eq_true rfl) (Nat.le_of_ble_eq_true rfl) ?_
  refine va_putF (D := (dC, dI)) (ci := 2) (v := .ref q31) (ty := .array .int) (C := RX3) (T := TX3) (N := 14) hx hb hG inX3 tyX3 tyX3_ok nmX3 hown hK hP hD hS 0 rfl rfl 12 (by decide) (hG _ gw417) (fun _ h9 => h9) rfl hin rfl (by decide +kernel) rfl rfl (Nat.le_of_ble_eq_true rfl) dX3_init_91 (fun H33 locs hP hD hS => ?_)
  have hP : va_P (dC, dI) vwCl [(a0, .inr (2, [.int 0, .ref q1, .ref q4, .ref q7, .ref q10, .ref q13, .ref q16, .int 0, .ref q19, .ref q22, .ref q25, .ref q28, .ref q31, .null])), (q1, .inl (d1, 30, .inl (fun _ => 0))), (q4, .inl (d4, 30, .inl (fun _ => 0))), (q7, .inl (d7, 30, .inl (fun _ => 0))), (q10, .inl (d10, 30, .inl (fun _ => 0))), (q13, .inl (d13, 30, .inl (fun _ => 0))), (q16, .inl (d16, 1715, .inl (fun _ => 0))), (q19, .inl (d19, 343, .inl (fun _ => 0))), (q22, .inl (d22, 7, .inl (fun _ => 0))), (q25, .inl (d25, 9, .inl (fun _ => 0))), (q28, .inl (d28, 9, .inl (fun _ => 0))), (q31, .inl (d31, 18, .inl (fun _ => 0)))] H33 := hP
  have hD : va_D A [(a0, .inr (2, [.int 0, .ref q1, .ref q4, .ref q7, .ref q10, .ref q13, .ref q16, .int 0, .ref q19, .ref q22, .ref q25, .ref q28, .ref q31, .null])), (q1, .inl (d1, 30, .inl (fun _ => 0))), (q4, .inl (d4, 30, .inl (fun _ => 0))), (q7, .inl (d7, 30, .inl (fun _ => 0))), (q10, .inl (d10, 30, .inl (fun _ => 0))), (q13, .inl (d13, 30, .inl (fun _ => 0))), (q16, .inl (d16, 1715, .inl (fun _ => 0))), (q19, .inl (d19, 343, .inl (fun _ => 0))), (q22, .inl (d22, 7, .inl (fun _ => 0))), (q25, .inl (d25, 9, .inl (fun _ => 0))), (q28, .inl (d28, 9, .inl (fun _ => 0))), (q31, .inl (d31, 18, .inl (fun _ => 0)))] := hD
  refine lv_aload_n hx hb dX3_init_94 rfl (lv_at hl 0 rfl) ?_
  refine lv_bipush (v := 18) hx hb dX3_init_95 (by decide) ?_
  refine va_newa (atype := .int) (ty := .int) (N' := 18) (a0 := (18, .inl (fun _ => 0))) hx hb (hG _ gw186) rfl hK hP hD hS hA (fun _ => rfl) (by decide) (by decide) (Nat.le_of_ble_eq_true rfl) (Nat.le_of_ble_eq_true rfl) (Nat.le_of_ble_eq_true rfl) dX3_init_97 (fun q34 d34 H35 hK hP hD hS => ?_)
  have hP : va_P (dC, dI) vwCl [(a0, .inr (2, [.int 0, .ref q1, .ref q4, .ref q7, .ref q10, .ref q13, .ref q16, .int 0, .ref q19, .ref q22, .ref q25, .ref q28, .ref q31, .null])), (q1, .inl (d1, 30, .inl (fun _ => 0))), (q4, .inl (d4, 30, .inl (fun _ => 0))), (q7, .inl (d7, 30, .inl (fun _ => 0))), (q10, .inl (d10, 30, .inl (fun _ => 0))), (q13, .inl (d13, 30, .inl (fun _ => 0))), (q16, .inl (d16, 1715, .inl (fun _ => 0))), (q19, .inl (d19, 343, .inl (fun _ => 0))), (q22, .inl (d22, 7, .inl (fun _ => 0))), (q25, .inl (d25, 9, .inl (fun _ => 0))), (q28, .inl (d28, 9, .inl (fun _ => 0))), (q31, .inl (d31, 18, .inl (fun _ => 0))), (q34, .inl (d34, 18, .inl (fun _ => 0)))] H35 := hP
  have hD : va_D A [(a0, .inr (2, [.int 0, .ref q1, .ref q4, .ref q7, .ref q10, .ref q13, .ref q16, .int 0, .ref q19, .ref q22, .ref q25, .ref q28, .ref q31, .null])), (q1, .inl (d1, 30, .inl (fun _ => 0))), (q4, .inl (d4, 30, .inl (fun _ => 0))), (q7, .inl (d7, 30, .inl (fun _ => 0))), (q10, .inl (d10, 30, .inl (fun _ => 0))), (q13, .inl (d13, 30, .inl (fun _ => 0))), (q16, .inl (d16, 1715, .inl (fun _ => 0))), (q19, .inl (d19, 343, .inl (fun _ => 0))), (q22, .inl (d22, 7, .inl (fun _ => 0))), (q25, .inl (d25, 9, .inl (fun _ => 0))), (q28, .inl (d28, 9, .inl (fun _ => 0))), (q31, .inl (d31, 18, .inl (fun _ => 0))), (q34, .inl (d34, 18, .inl (fun _ => 0)))] := hD
  have hK : va_K (dC, dI) vwCl [(d1, .int), (d4, .int), (d7, .boolean), (d10, .int), (d13, .int), (d16, .int), (d19, .boolean), (d22, .int), (d25, .int), (d28, .int), (d31, .int), (d34, .int)] s := hK
  refine W.widen (k := 12) (n := 2269) (Nat.le_of_ble_eq_true rfl) (Nat.le_of_ble_eq_true rfl) ?_
  refine va_putF (D := (dC, dI)) (ci := 2) (v := .ref q34) (ty := .array .int) (C := RX3) (T := TX3) (N := 14) hx hb hG inX3 tyX3 tyX3_ok nmX3 hown hK hP hD hS 0 rfl rfl 13 (by decide) (hG _ gw418) (fun _ h9 => h9) rfl hin rfl (by decide +kernel) rfl rfl (Nat.le_of_ble_eq_true rfl) dX3_init_99 (fun H36 locs hP hD hS => ?_)
  have hP : va_P (dC, dI) vwCl [(a0, .inr (2, [.int 0, .ref q1, .ref q4, .ref q7, .ref q10, .ref q13, .ref q16, .int 0, .ref q19, .ref q22, .ref q25, .ref q28, .ref q31, .ref q34])), (q1, .inl (d1, 30, .inl (fun _ => 0))), (q4, .inl (d4, 30, .inl (fun _ => 0))), (q7, .inl (d7, 30, .inl (fun _ => 0))), (q10, .inl (d10, 30, .inl (fun _ => 0))), (q13, .inl (d13, 30, .inl (fun _ => 0))), (q16, .inl (d16, 1715, .inl (fun _ => 0))), (q19, .inl (d19, 343, .inl (fun _ => 0))), (q22, .inl (d22, 7, .inl (fun _ => 0))), (q25, .inl (d25, 9, .inl (fun _ => 0))), (q28, .inl (d28, 9, .inl (fun _ => 0))), (q31, .inl (d31, 18, .inl (fun _ => 0))), (q34, .inl (d34, 18, .inl (fun _ => 0)))] H36 := hP
  have hD : va_D A [(a0, .inr (2, [.int 0, .ref q1, .ref q4, .ref q7, .ref q10, .ref q13, .ref q16, .int 0, .ref q19, .ref q22, .ref q25, .ref q28, .ref q31, .ref q34])), (q1, .inl (d1, 30, .inl (fun _ => 0))), (q4, .inl (d4, 30, .inl (fun _ => 0))), (q7, .inl (d7, 30, .inl (fun _ => 0))), (q10, .inl (d10, 30, .inl (fun _ => 0))), (q13, .inl (d13, 30, .inl (fun _ => 0))), (q16, .inl (d16, 1715, .inl (fun _ => 0))), (q19, .inl (d19, 343, .inl (fun _ => 0))), (q22, .inl (d22, 7, .inl (fun _ => 0))), (q25, .inl (d25, 9, .inl (fun _ => 0))), (q28, .inl (d28, 9, .inl (fun _ => 0))), (q31, .inl (d31, 18, .inl (fun _ => 0))), (q34, .inl (d34, 18, .inl (fun _ => 0)))] := hD
  have hP9 := hP.sub (ws' := [(a0, .inr (2, [.int 0, .ref q1, .ref q4, .ref q7, .ref q10, .ref q13, .ref q16, .int 0, .ref q19, .ref q22, .ref q25, .ref q28, .ref q31, .ref q34])), (q1, .inl (d1, 30, .inl (fun _ => 0))), (q4, .inl (d4, 30, .inl (fun _ => 0))), (q7, .inl (d7, 30, .inl (fun _ => 0))), (q10, .inl (d10, 30, .inl (fun _ => 0))), (q13, .inl (d13, 30, .inl (fun _ => 0))), (q16, .inl (d16, 1715, .inl (fun _ => 0))), (q19, .inl (d19, 343, .inl (fun _ => 0))), (q22, .inl (d22, 7, .inl (fun _ => 0))), (q25, .inl (d25, 9, .inl (fun _ => 0))), (q28, .inl (d28, 9, .inl (fun _ => 0))), (q31, .inl (d31, 18, .inl (fun _ => 0))), (q34, .inl (d34, 18, .inl (fun _ => 0)))]) [0, 1, 2, 3, 4, 5, 6, 7, 8, 9, 10, 11, 12] rfl
  have hD9 := hD.sub (ws' := [(a0, .inr (2, [.int 0, .ref q1, .ref q4, .ref q7, .ref q10, .ref q13, .ref q16, .int 0, .ref q19, .ref q22, .ref q25, .ref q28, .ref q31, .ref q34])), (q1, .inl (d1, 30, .inl (fun _ => 0))), (q4, .inl (d4, 30, .inl (fun _ => 0))), (q7, .inl (d7, 30, .inl (fun _ => 0))), (q10, .inl (d10, 30, .inl (fun _ => 0))), (q13, .inl (d13, 30, .inl (fun _ => 0))), (q16, .inl (d16, 1715, .inl (fun _ => 0))), (q19, .inl (d19, 343, .inl (fun _ => 0))), (q22, .inl (d22, 7, .inl (fun _ => 0))), (q25, .inl (d25, 9, .inl (fun _ => 0))), (q28, .inl (d28, 9, .inl (fun _ => 0))), (q31, .inl (d31, 18, .inl (fun _ => 0))), (q34, .inl (d34, 18, .inl (fun _ => 0)))]) [0, 1, 2, 3, 4, 5, 6, 7, 8, 9, 10, 11, 12] (by decide) rfl
  have hK9 := hK.sub (tys' := [(d1, .int), (d4, .int), (d7, .boolean), (d10, .int), (d13, .int), (d16, .int), (d19, .boolean), (d22, .int), (d25, .int), (d28, .int), (d31, .int), (d34, .int)]) [0, 1, 2, 3, 4, 5, 6, 7, 8, 9, 10, 11] rfl
  refine W.widen (k := 12) (n := 2269) (Nat.le_of_ble_eq_true rfl) (Nat.le_of_ble_eq_true rfl) ?_
  exact W.vret hx hb hr (fun t ht hW => ⟨⟨(), rfl, trivial, ⟨q1, q4, q7, q10, q13, q16, q19, q22, q25, q28, q31, q34, d1, d4, d7, d10, d13, d16, d19, d22, d25, d28, d31, d34, by rw [ht]; exact hP9, va_K.moved hW.alike hK9, hD9⟩⟩, hS.F ht⟩) hS.2.2 dX3_init_102
