set_option maxHeartbeats 4000000 in
set_option maxRecDepth 100000 in
theorem kX7_backOnCart_v3 (l : Launch) (dC : Nat → ClassId) (dI : Nat → Nat → Nat) (a0 a1 a2 a3 a4 a5 : Nat) (c1 c2 c4 : ClassId) (f1 : Nat → Int32) (f2 : Nat → Int32) (f4 : Nat → Int32) (sz : Nat) : Met l yX7_backOnCart (.code yX7_backOnCart cX7_backOnCart 2 none :: GW) { frames := 2, cells := 0, slots := 0, locals := 100 } (va_Pc [.ref a0, .int 3] (pW (dC, dI) [(a0, .inr (6, [.ref a1, .ref a2, .ref a3, .ref a4, .ref a5, .int 0, .int 0])), (a1, .inl (c1, 5, .inl f1)), (a2, .inl (c2, 5, .inl f2)), (a4, .inl (c4, 5, .inl f4))] [(c1, .int), (c2, .int), (c4, .int)] sz)) (va_Qv (fun _ : Unit => True) (fun (_ : Unit) (t : State) => ∃ (F0 F1 F2 : Nat → Int32), va_P (dC, dI) vwCl [(a0, .inr (6, [.ref a1, .ref a2, .ref a3, .ref a4, .ref a5, .int 0, .int 0])), (a1, .inl (c1, 5, .inl F0)), (a2, .inl (c2, 5, .inl F1)), (a4, .inl (c4, 5, .inl F2))] t.heap ∧ va_D (va_A [(a0, .inr (6, [.ref a1, .ref a2, .ref a3, .ref a4, .ref a5, .int 0, .int 0])), (a1, .inl (c1, 5, .inl f1)), (a2, .inl (c2, 5, .inl f2)), (a4, .inl (c4, 5, .inl f4))] sz) [(a0, .inr (6, [.ref a1, .ref a2, .ref a3, .ref a4, .ref a5, .int 0, .int 0])), (a1, .inl (c1, 5, .inl F0)), (a2, .inl (c2, 5, .inl F1)), (a4, .inl (c4, 5, .inl F2))]) (va_A [(a0, .inr (6, [.ref a1, .ref a2, .ref a3, .ref a4, .ref a5, .int 0, .int 0])), (a1, .inl (c1, 5, .inl f1)), (a2, .inl (c2, 5, .inl f2)), (a4, .inl (c4, 5, .inl f4))] sz)) 0 0 (va_A [(a0, .inr (6, [.ref a1, .ref a2, .ref a3, .ref a4, .ref a5, .int 0, .int 0])), (a1, .inl (c1, 5, .inl f1)), (a2, .inl (c2, 5, .inl f2)), (a4, .inl (c4, 5, .inl f4))] sz) := by
  refine Met.ofW (cc := cX7_backOnCart) (maxL := 2) (ret := none) (by decide) rfl ?_
  intro p e s m args below meth c0 s₁ B hml hv
  obtain ⟨rfl, hsz, hP, hK, hD0⟩ := hv
  have hx := B.exec
  have hb := B.bytes
  have hr := B.returns
  have hts := atoms_spec (ws := .code yX7_backOnCart cX7_backOnCart 2 none :: GW) B.pre
  have hG : ∀ w ∈ GW, w.before _ s = true := fun w h => hts w (List.mem_cons_of_mem _ h)
  have hown : s.vm.findClass RX7 = some m.cls := findClass_of_methodNamed B.named
  have hlocks := B.notSynchronized
  subst hsz
  have hD := hD0.self (sz := s.heap.size)
  generalize hAe : va_A [(a0, .inr (6, [.ref a1, .ref a2, .ref a3, .ref a4, .ref a5, .int 0, .int 0])), (a1, .inl (c1, 5, .inl f1)), (a2, .inl (c2, 5, .inl f2)), (a4, .inl (c4, 5, .inl f4))] s.heap.size = A at hD ⊢
  have hA : ∀ q : Nat, s.heap.size ≤ q → A q := fun q h => by rw [← hAe]; exact Or.inr h
  have hS : va_S A s.heap s.heap [] := va_S.rf
  have hP : va_P (dC, dI) vwCl [(a0, .inr (6, [.ref a1, .ref a2, .ref a3, .ref a4, .ref a5, .int 0, .int 0])), (a1, .inl (c1, 5, .inl f1)), (a2, .inl (c2, 5, .inl f2)), (a4, .inl (c4, 5, .inl f4))] s.heap := hP
  have hl := lv_entry ([.ref a0, .int 3]) (n := 2) (Nat.le_of_ble_eq_true rfl)
  rw [lg_entry_eq]
  generalize (lg_sl ([.ref a0, .int 3]) ++ List.replicate (2 - (lg_sl ([.ref a0, .int 3])).length) Slot.unset).toArray = ls at hl ⊢
  have hl : lv_has ls 2 [(0, .ref a0), (1, .int 3)] := hl
  refine lv_aload_n hx hb dX7_backOnCart_0 rfl (lv_at hl 0 rfl) ?_
  refine va_get (D := (dC, dI)) (ci := 6) (v := .ref a1) (C := RX7) (T := TX7) (N := 7) hx hb hG inX7 hown hK hP 0 rfl rfl 0 (by decide) (hG _ gw351) (fun _ h9 => h9) rfl dX7_backOnCart_1 ?_
  refine lv_iload_n hx hb dX7_backOnCart_4 rfl (lv_at hl 1 rfl) ?_
  refine lv_iconst (v := (-1)) hx hb dX7_backOnCart_5 (by decide) ?_
  refine va_iast hx hb hK hP hD hS 1 0 rfl rfl (vin (by decide)) dX7_backOnCart_6 (fun H1 locs hP hD hS => ?_)
  obtain ⟨zf2, ezf2⟩ : ∃ z : Nat → Int32, z = upd f1 (3 : Int32).toNatClampNeg (-1) := ⟨_, rfl⟩
  have hP : va_P (dC, dI) vwCl [(a0, .inr (6, [.ref a1, .ref a2, .ref a3, .ref a4, .ref a5, .int 0, .int 0])), (a1, .inl (c1, 5, .inl zf2)), (a2, .inl (c2, 5, .inl f2)), (a4, .inl (c4, 5, .inl f4))] H1 := by rw [ezf2]; exact hP
  have hD : va_D A [(a0, .inr (6, [.ref a1, .ref a2, .ref a3, .ref a4, .ref a5, .int 0, .int 0])), (a1, .inl (c1, 5, .inl zf2)), (a2, .inl (c2, 5, .inl f2)), (a4, .inl (c4, 5, .inl f4))] := by rw [ezf2]; exact hD
  refine lv_aload_n hx hb dX7_backOnCart_7 rfl (lv_at hl 0 rfl) ?_
  refine va_get (D := (dC, dI)) (ci := 6) (v := .ref a2) (C := RX7) (T := TX7) (N := 7) hx hb hG inX7 hown hK hP 0 rfl rfl 1 (by decide) (hG _ gw353) (fun _ h9 => h9) rfl dX7_backOnCart_8 ?_
  refine lv_iload_n hx hb dX7_backOnCart_11 rfl (lv_at hl 1 rfl) ?_
  refine lv_iconst (v := 0) hx hb dX7_backOnCart_12 (by decide) ?_
  refine va_iast hx hb hK hP hD hS 2 1 rfl rfl (vin (by decide)) dX7_backOnCart_13 (fun H3 locs hP hD hS => ?_)
  obtain ⟨zf4, ezf4⟩ : ∃ z : Nat → Int32, z = upd f2 (3 : Int32).toNatClampNeg 0 := ⟨_, rfl⟩
  have hP : va_P (dC, dI) vwCl [(a0, .inr (6, [.ref a1, .ref a2, .ref a3, .ref a4, .ref a5, .int 0, .int 0])), (a1, .inl (c1, 5, .inl zf2)), (a2, .inl (c2, 5, .inl zf4)), (a4, .inl (c4, 5, .inl f4))] H3 := by rw [ezf4]; exact hP
  have hD : va_D A [(a0, .inr (6, [.ref a1, .ref a2, .ref a3, .ref a4, .ref a5, .int 0, .int 0])), (a1, .inl (c1, 5, .inl zf2)), (a2, .inl (c2, 5, .inl zf4)), (a4, .inl (c4, 5, .inl f4))] := by rw [ezf4]; exact hD
  refine lv_aload_n hx hb dX7_backOnCart_14 rfl (lv_at hl 0 rfl) ?_
  refine va_get (D := (dC, dI)) (ci := 6) (v := .ref a4) (C := RX7) (T := TX7) (N := 7) hx hb hG inX7 hown hK hP 0 rfl rfl 3 (by decide) (hG _ gw357) (fun _ h9 => h9) rfl dX7_backOnCart_15 ?_
  refine lv_iload_n hx hb dX7_backOnCart_18 rfl (lv_at hl 1 rfl) ?_
  refine lv_iconst (v := 0) hx hb dX7_backOnCart_19 (by decide) ?_
  refine va_iast hx hb hK hP hD hS 3 2 rfl rfl (vin (by decide)) dX7_backOnCart_20 (fun H5 locs hP hD hS => ?_)
  obtain ⟨zf6, ezf6⟩ : ∃ z : Nat → Int32, z = upd f4 (3 : Int32).toNatClampNeg 0 := ⟨_, rfl⟩
  have hP : va_P (dC, dI) vwCl [(a0, .inr (6, [.ref a1, .ref a2, .ref a3, .ref a4, .ref a5, .int 0, .int 0])), (a1, .inl (c1, 5, .inl zf2)), (a2, .inl (c2, 5, .inl zf4)), (a4, .inl (c4, 5, .inl zf6))] H5 := by rw [ezf6]; exact hP
  have hD : va_D A [(a0, .inr (6, [.ref a1, .ref a2, .ref a3, .ref a4, .ref a5, .int 0, .int 0])), (a1, .inl (c1, 5, .inl zf2)), (a2, .inl (c2, 5, .inl zf4)), (a4, .inl (c4, 5, .inl zf6))] := by rw [ezf6]; exact hD
  have hP9 := hP.sub (ws' := [(a0, .inr (6, [.ref a1, .ref a2, .ref a3, .ref a4, .ref a5, .int 0, .int 0])), (a1, .inl (c1, 5, .inl zf2)), (a2, .inl (c2, 5, .inl zf4)), (a4, .inl (c4, 5, .inl zf6))]) [0, 1, 2, 3] rfl
  have hD9 := hD.sub (ws' := [(a0, .inr (6, [.ref a1, .ref a2, .ref a3, .ref a4, .ref a5, .int 0, .int 0])), (a1, .inl (c1, 5, .inl zf2)), (a2, .inl (c2, 5, .inl zf4)), (a4, .inl (c4, 5, .inl zf6))]) [0, 1, 2, 3] (by decide) rfl
  exact W.vret hx hb hr (fun t ht hW => ⟨⟨(), rfl, trivial, ⟨zf2, zf4, zf6, by rw [ht]; exact hP9, hD9⟩⟩, hS.F ht⟩) hS.2.2 dX7_backOnCart_21
set_option maxHeartbeats 4000000 in
set_option maxRecDepth 100000 in
theorem kX7_backOnCart_v4 (l : Launch) (dC : Nat → ClassId) (dI : Nat → Nat → Nat) (a0 a1 a2 a3 a4 a5 : Nat) (c1 c2 c4 : ClassId) (f1 : Nat → Int32) (f2 : Nat → Int32) (f4 : Nat → Int32) (sz : Nat) : Met l yX7_backOnCart (.code yX7_backOnCart cX7_backOnCart 2 none :: GW) { frames := 2, cells := 0, slots := 0, locals := 100 } (va_Pc [.ref a0, .int 4] (pW (dC, dI) [(a0, .inr (6, [.ref a1, .ref a2, .ref a3, .ref a4, .ref a5, .int 0, .int 0])), (a1, .inl (c1, 5, .inl f1)), (a2, .inl (c2, 5, .inl f2)), (a4, .inl (c4, 5, .inl f4))] [(c1, .int), (c2, .int), (c4, .int)] sz)) (va_Qv (fun _ : Unit => True) (fun (_ : Unit) (t : State) => ∃ (F0 F1 F2 : Nat → Int32), va_P (dC, dI) vwCl [(a0, .inr (6, [.ref a1, .ref a2, .ref a3, .ref a4, .ref a5, .int 0, .int 0])), (a1, .inl (c1, 5, .inl F0)), (a2, .inl (c2, 5, .inl F1)), (a4, .inl (c4, 5, .inl F2))] t.heap ∧ va_D (va_A [(a0, .inr (6, [.ref a1, .ref a2, .ref a3, .ref a4, .ref a5, .int 0, .int 0])), (a1, .inl (c1, 5, .inl f1)), (a2, .inl (c2, 5, .inl f2)), (a4, .inl (c4, 5, .inl f4))] sz) [(a0, .inr (6, [.ref a1, .ref a2, .ref a3, .ref a4, .ref a5, .int 0, .int 0])), (a1, .inl (c1, 5, .inl F0)), (a2, .inl (c2, 5, .inl F1)), (a4, .inl (c4, 5, .inl F2))]) (va_A [(a0, .inr (6, [.ref a1, .ref a2, .ref a3, .ref a4, .ref a5, .int 0, .int 0])), (a1, .inl (c1, 5, .inl f1)), (a2, .inl (c2, 5, .inl f2)), (a4, .inl (c4, 5, .inl f4))] sz)) 0 0 (va_A [(a0, .inr (6, [.ref a1, .ref a2, .ref a3, .ref a4, .ref a5, .int 0, .int 0])), (a1, .inl (c1, 5, .inl f1)), (a2, .inl (c2, 5, .inl f2)), (a4, .inl (c4, 5, .inl f4))] sz) := by
  refine Met.ofW (cc := cX7_backOnCart) (maxL := 2) (ret := none) (by decide) rfl ?_
  intro p e s m args below meth c0 s₁ B hml hv
  obtain ⟨rfl, hsz, hP, hK, hD0⟩ := hv
  have hx := B.exec
  have hb := B.bytes
  have hr := B.returns
  have hts := atoms_spec (ws := .code yX7_backOnCart cX7_backOnCart 2 none :: GW) B.pre
  have hG : ∀ w ∈ GW, w.before _ s = true := fun w h => hts w (List.mem_cons_of_mem _ h)
  have hown : s.vm.findClass RX7 = some m.cls := findClass_of_methodNamed B.named
  have hlocks := B.notSynchronized
  subst hsz
  have hD := hD0.self (sz := s.heap.size)
  generalize hAe : va_A [(a0, .inr (6, [.ref a1, .ref a2, .ref a3, .ref a4, .ref a5, .int 0, .int 0])), (a1, .inl (c1, 5, .inl f1)), (a2, .inl (c2, 5, .inl f2)), (a4, .inl (c4, 5, .inl f4))] s.heap.size = A at hD ⊢
  have hA : ∀ q : Nat, s.heap.size ≤ q → A q := fun q h => by rw [← hAe]; exact Or.inr h
  have hS : va_S A s.heap s.heap [] := va_S.rf
  have hP : va_P (dC, dI) vwCl [(a0, .inr (6, [.ref a1, .ref a2, .ref a3, .ref a4, .ref a5, .int 0, .int 0])), (a1, .inl (c1, 5, .inl f1)), (a2, .inl (c2, 5, .inl f2)), (a4, .inl (c4, 5, .inl f4))] s.heap := hP
  have hl := lv_entry ([.ref a0, .int 4]) (n := 2) (Nat.le_of_ble_eq_true rfl)
  rw [lg_entry_eq]
  generalize (lg_sl ([.ref a0, .int 4]) ++ List.replicate (2 - (lg_sl ([.ref a0, .int 4])).length) Slot.unset).toArray = ls at hl ⊢
  have hl : lv_has ls 2 [(0, .ref a0), (1, .int 4)] := hl
  refine lv_aload_n hx hb dX7_backOnCart_0 rfl (lv_at hl 0 rfl) ?_
  refine va_get (D := (dC, dI)) (ci := 6) (v := .ref a1) (C := RX7) (T := TX7) (N := 7) hx hb hG inX7 hown hK hP 0 rfl rfl 0 (by decide) (hG _ gw351) (fun _ h9 => h9) rfl dX7_backOnCart_1 ?_
  refine lv_iload_n hx hb dX7_backOnCart_4 rfl (lv_at hl 1 rfl) ?_
  refine lv_iconst (v := (-1)) hx hb dX7_backOnCart_5 (by decide) ?_
  refine va_iast hx hb hK hP hD hS 1 0 rfl rfl (vin (by decide)) dX7_backOnCart_6 (fun H1 locs hP hD hS => ?_)
  obtain ⟨zf2, ezf2⟩ : ∃ z : Nat → Int32, z = upd f1 (4 : Int32).toNatClampNeg (-1) := ⟨_, rfl⟩
  have hP : va_P (dC, dI) vwCl [(a0, .inr (6, [.ref a1, .ref a2, .ref a3, .ref a4, .ref a5, .int 0, .int 0])), (a1, .inl (c1, 5, .inl zf2)), (a2, .inl (c2, 5, .inl f2)), (a4, .inl (c4, 5, .inl f4))] H1 := by rw [ezf2]; exact hP
  have hD : va_D A [(a0, .inr (6, [.ref a1, .ref a2, .ref a3, .ref a4, .ref a5, .int 0, .int 0])), (a1, .inl (c1, 5, .inl zf2)), (a2, .inl (c2, 5, .inl f2)), (a4, .inl (c4, 5, .inl f4))] := by rw [ezf2]; exact hD
  refine lv_aload_n hx hb dX7_backOnCart_7 rfl (lv_at hl 0 rfl) ?_
  refine va_get (D := (dC, dI)) (ci := 6) (v := .ref a2) (C := RX7) (T := TX7) (N := 7) hx hb hG inX7 hown hK hP 0 rfl rfl 1 (by decide) (hG _ gw353) (fun _ h9 => h9) rfl dX7_backOnCart_8 ?_
  refine lv_iload_n hx hb dX7_backOnCart_11 rfl (lv_at hl 1 rfl) ?_
  refine lv_iconst (v := 0) hx hb dX7_backOnCart_12 (by decide) ?_
  refine va_iast hx hb hK hP hD hS 2 1 rfl rfl (vin (by decide)) dX7_backOnCart_13 (fun H3 locs hP hD hS => ?_)
  obtain ⟨zf4, ezf4⟩ : ∃ z : Nat → Int32, z = upd f2 (4 : Int32).toNatClampNeg 0 := ⟨_, rfl⟩
  have hP : va_P (dC, dI) vwCl [(a0, .inr (6, [.ref a1, .ref a2, .ref a3, .ref a4, .ref a5, .int 0, .int 0])), (a1, .inl (c1, 5, .inl zf2)), (a2, .inl (c2, 5, .inl zf4)), (a4, .inl (c4, 5, .inl f4))] H3 := by rw [ezf4]; exact hP
  have hD : va_D A [(a0, .inr (6, [.ref a1, .ref a2, .ref a3, .ref a4, .ref a5, .int 0, .int 0])), (a1, .inl (c1, 5, .inl zf2)), (a2, .inl (c2, 5, .inl zf4)), (a4, .inl (c4, 5, .inl f4))] := by rw [ezf4]; exact hD
  refine lv_aload_n hx hb dX7_backOnCart_14 rfl (lv_at hl 0 rfl) ?_
  refine va_get (D := (dC, dI)) (ci := 6) (v := .ref a4) (C := RX7) (T := TX7) (N := 7) hx hb hG inX7 hown hK hP 0 rfl rfl 3 (by decide) (hG _ gw357) (fun _ h9 => h9) rfl dX7_backOnCart_15 ?_
  refine lv_iload_n hx hb dX7_backOnCart_18 rfl (lv_at hl 1 rfl) ?_
  refine lv_iconst (v := 0) hx hb dX7_backOnCart_19 (by decide) ?_
  refine va_iast hx hb hK hP hD hS 3 2 rfl rfl (vin (by decide)) dX7_backOnCart_20 (fun H5 locs hP hD hS => ?_)
  obtain ⟨zf6, ezf6⟩ : ∃ z : Nat → Int32, z = upd f4 (4 : Int32).toNatClampNeg 0 := ⟨_, rfl⟩
  have hP : va_P (dC, dI) vwCl [(a0, .inr (6, [.ref a1, .ref a2, .ref a3, .ref a4, .ref a5, .int 0, .int 0])), (a1, .inl (c1, 5, .inl zf2)), (a2, .inl (c2, 5, .inl zf4)), (a4, .inl (c4, 5, .inl zf6))] H5 := by rw [ezf6]; exact hP
  have hD : va_D A [(a0, .inr (6, [.ref a1, .ref a2, .ref a3, .ref a4, .ref a5, .int 0, .int 0])), (a1, .inl (c1, 5, .inl zf2)), (a2, .inl (c2, 5, .inl zf4)), (a4, .inl (c4, 5, .inl zf6))] := by rw [ezf6]; exact hD
  have hP9 := hP.sub (ws' := [(a0, .inr (6, [.ref a1, .ref a2, .ref a3, .ref a4, .ref a5, .int 0, .int 0])), (a1, .inl (c1, 5, .inl zf2)), (a2, .inl (c2, 5, .inl zf4)), (a4, .inl (c4, 5, .inl zf6))]) [0, 1, 2, 3] rfl
  have hD9 := hD.sub (ws' := [(a0, .inr (6, [.ref a1, .ref a2, .ref a3, .ref a4, .ref a5, .int 0, .int 0])), (a1, .inl (c1, 5, .inl zf2)), (a2, .inl (c2, 5, .inl zf4)), (a4, .inl (c4, 5, .inl zf6))]) [0, 1, 2, 3] (by decide) rfl
  exact W.vret hx hb hr (fun t ht hW => ⟨⟨(), rfl, trivial, ⟨zf2, zf4, zf6, by rw [ht]; exact hP9, hD9⟩⟩, hS.F ht⟩) hS.2.2 dX7_backOnCart_21
set_option maxHeartbeats 4000000 in
set_option maxRecDepth 100000 in
theorem kX7_begin (l : Launch) (dC : Nat → ClassId) (dI : Nat → Nat → Nat) (a0 a2 a3 a4 a5 a6 a1 a7 a8 a9 a10 a11 a12 a13 a14 : Nat) (c2 c3 c4 c5 c6 : ClassId) (sz : Nat) : Met l yX7_begin (.code yX7_begin cX7_begin 3 none :: GW) { frames := 4, cells := 0, slots := 0, locals := 161 } (va_Pc [.ref a0, .ref a1] (pW (dC, dI) [(a0, .inr (6, [.ref a2, .ref a3, .ref a4, .ref a5, .ref a6, .int 0, .int 0])), (a1, .inr (3, [.int 1, .int 0, .int 0, .int 0, .ref a7, .ref a8, .ref a9, .int 0, .ref a10, .ref a11, .ref a12, .int 0, .ref a13, .ref a14])), (a2, .inl (c2, 5, .inl (fun _ => 0))), (a3, .inl (c3, 5, .inl (fun _ => 0))), (a4, .inl (c4, 5, .inl (fun _ => 0))), (a5, .inl (c5, 5, .inl (fun _ => 0))), (a6, .inl (c6, 4, .inl (fun _ => 0)))] [(c2, .int), (c3, .int), (c4, .int), (c5, .int), (c6, .int)] sz)) (va_Qv (fun _ : Unit => True) (fun (_ : Unit) (t : State) => ∃ (F0 F1 F2 F3 F4 : Nat → Int32), va_P (dC, dI) vwCl [(a0, .inr (6, [.ref a2, .ref a3, .ref a4, .ref a5, .ref a6, .int 0, .int 0])), (a1, .inr (3, [.int 1, .int 0, .int 0, .int 0, .ref a7, .ref a8, .ref a9, .int 0, .ref a10, .ref a11, .ref a12, .int 0, .ref a13, .ref a14])), (a2, .inl (c2, 5, .inl F0)), (a3, .inl (c3, 5, .inl F1)), (a4, .inl (c4, 5, .inl F2)), (a5, .inl (c5, 5, .inl F3)), (a6, .inl (c6, 4, .inl F4))] t.heap ∧ va_D (va_A [(a0, .inr (6, [.ref a2, .ref a3, .ref a4, .ref a5, .ref a6, .int 0, .int 0])), (a1, .inr (3, [.int 1, .int 0, .int 0, .int 0, .ref a7, .ref a8, .ref a9, .int 0, .ref a10, .ref a11, .ref a12, .int 0, .ref a13, .ref a14])), (a2, .inl (c2, 5, .inl (fun _ => 0))), (a3, .inl (c3, 5, .inl (fun _ => 0))), (a4, .inl (c4, 5, .inl (fun _ => 0))), (a5, .inl (c5, 5, .inl (fun _ => 0))), (a6, .inl (c6, 4, .inl (fun _ => 0)))] sz) [(a0, .inr (6, [.ref a2, .ref a3, .ref a4, .ref a5, .ref a6, .int 0, .int 0])), (a1, .inr (3, [.int 1, .int 0, .int 0, .int 0, .ref a7, .ref a8, .ref a9, .int 0, .ref a10, .ref a11, .ref a12, .int 0, .ref a13, .ref a14])), (a2, .inl (c2, 5, .inl F0)), (a3, .inl (c3, 5, .inl F1)), (a4, .inl (c4, 5, .inl F2)), (a5, .inl (c5, 5, .inl F3)), (a6, .inl (c6, 4, .inl F4))]) (va_A [(a0, .inr (6, [.ref a2, .ref a3, .ref a4, .ref a5, .ref a6, .int 0, .int 0])), (a1, .inr (3, [.int 1, .int 0, .int 0, .int 0, .ref a7, .ref a8, .ref a9, .int 0, .ref a10, .ref a11, .ref a12, .int 0, .ref a13, .ref a14])), (a2, .inl (c2, 5, .inl (fun _ => 0))), (a3, .inl (c3, 5, .inl (fun _ => 0))), (a4, .inl (c4, 5, .inl (fun _ => 0))), (a5, .inl (c5, 5, .inl (fun _ => 0))), (a6, .inl (c6, 4, .inl (fun _ => 0)))] sz)) 0 0 (va_A [(a0, .inr (6, [.ref a2, .ref a3, .ref a4, .ref a5, .ref a6, .int 0, .int 0])), (a1, .inr (3, [.int 1, .int 0, .int 0, .int 0, .ref a7, .ref a8, .ref a9, .int 0, .ref a10, .ref a11, .ref a12, .int 0, .ref a13, .ref a14])), (a2, .inl (c2, 5, .inl (fun _ => 0))), (a3, .inl (c3, 5, .inl (fun _ => 0))), (a4, .inl (c4, 5, .inl (fun _ => 0))), (a5, .inl (c5, 5, .inl (fun _ => 0))), (a6, .inl (c6, 4, .inl (fun _ => 0)))] sz) := by
  refine Met.ofW (cc := cX7_begin) (maxL := 3) (ret := none) (by decide) rfl ?_
  intro p e s m args below meth c0 s₁ B hml hv
  obtain ⟨rfl, hsz, hP, hK, hD0⟩ := hv
  have hx := B.exec
  have hb := B.bytes
  have hr := B.returns
  have hts := atoms_spec (ws := .code yX7_begin cX7_begin 3 none :: GW) B.pre
  have hG : ∀ w ∈ GW, w.before _ s = true := fun w h => hts w (List.mem_cons_of_mem _ h)
  have hown : s.vm.findClass RX7 = some m.cls := findClass_of_methodNamed B.named
  have hlocks := B.notSynchronized
  subst hsz
  have hD := hD0.self (sz := s.heap.size)
  generalize hAe : va_A [(a0, .inr (6, [.ref a2, .ref a3, .ref a4, .ref a5, .ref a6, .int 0, .int 0])), (a1, .inr (3, [.int 1, .int 0, .int 0, .int 0, .ref a7, .ref a8, .ref a9, .int 0, .ref a10, .ref a11, .ref a12, .int 0, .ref a13, .ref a14])), (a2, .inl (c2, 5, .inl (fun _ => 0))), (a3, .inl (c3, 5, .inl (fun _ => 0))), (a4, .inl (c4, 5, .inl (fun _ => 0))), (a5, .inl (c5, 5, .inl (fun _ => 0))), (a6, .inl (c6, 4, .inl (fun _ => 0)))] s.heap.size = A at hD ⊢
  have hA : ∀ q : Nat, s.heap.size ≤ q → A q := fun q h => by rw [← hAe]; exact Or.inr h
  have hS : va_S A s.heap s.heap [] := va_S.rf
  have hP : va_P (dC, dI) vwCl [(a0, .inr (6, [.ref a2, .ref a3, .ref a4, .ref a5, .ref a6, .int 0, .int 0])), (a1, .inr (3, [.int 1, .int 0, .int 0, .int 0, .ref a7, .ref a8, .ref a9, .int 0, .ref a10, .ref a11, .ref a12, .int 0, .ref a13, .ref a14])), (a2, .inl (c2, 5, .inl (fun _ => 0))), (a3, .inl (c3, 5, .inl (fun _ => 0))), (a4, .inl (c4, 5, .inl (fun _ => 0))), (a5, .inl (c5, 5, .inl (fun _ => 0))), (a6, .inl (c6, 4, .inl (fun _ => 0)))] s.heap := hP
  have hl := lv_entry ([.ref a0, .ref a1]) (n := 3) (Nat.le_of_ble_eq_true rfl)
  rw [lg_entry_eq]
  generalize (lg_sl ([.ref a0, .ref a1]) ++ List.replicate (3 - (lg_sl ([.ref a0, .ref a1])).length) Slot.unset).toArray = ls at hl ⊢
  have hl : lv_has ls 3 [(0, .ref a0), (1, .ref a1)] := hl
  refine lv_iconst (v := 0) hx hb dX7_begin_0 (by decide) ?_
  refine lv_istore_n (lv' := [(2, .int 0), (0, .ref a0), (1, .ref a1)]) hx hb dX7_begin_1 rfl hl (by decide) rfl (fun ls hl => ?_)
  refine lv_iload_n hx hb dX7_begin_2 rfl (lv_at hl 0 rfl) ?_
  refine lv_iconst (v := 5) hx hb dX7_begin_3 (by decide) ?_
  refine lv_icmp_ge (tgt := 25) hx hb dX7_begin_4 (by decide) (fun c_1 => absurd c_1 (by decide)) (fun c_1 => ?_)
  refine lv_aload_n hx hb dX7_begin_7 rfl (lv_at hl 1 rfl) ?_
  refine lv_iload_n hx hb dX7_begin_8 rfl (lv_at hl 0 rfl) ?_
  have hPc := hP.sub (ws' := [(a0, .inr (6, [.ref a2, .ref a3, .ref a4, .ref a5, .ref a6, .int 0, .int 0])), (a2, .inl (c2, 5, .inl (fun _ => 0))), (a3, .inl (c3, 5, .inl (fun _ => 0))), (a5, .inl (c5, 5, .inl (fun _ => 0)))]) [0, 2, 3, 5] rfl
  have hKc := hK.sub (tys' := [(c2, .int), (c3, .int), (c5, .int)]) [0, 1, 3] rfl
  have hDc := hD.sub (ws' := [(a0, .inr (6, [.ref a2, .ref a3, .ref a4, .ref a5, .ref a6, .int 0, .int 0])), (a2, .inl (c2, 5, .inl (fun _ => 0))), (a3, .inl (c3, 5, .inl (fun _ => 0))), (a5, .inl (c5, 5, .inl (fun _ => 0)))]) [0, 2, 3, 5] (by decide) rfl
  have hFc := va_free (wc := [(a0, .inr (6, [.ref a2, .ref a3, .ref a4, .ref a5, .ref a6, .int 0, .int 0])), (a2, .inl (c2, 5, .inl (fun _ => 0))), (a3, .inl (c3, 5, .inl (fun _ => 0))), (a5, .inl (c5, 5, .inl (fun _ => 0)))]) hD hS hA [0, 2, 3, 5] rfl
  refine va_callv (va_runV (As := [.int 0]) (rest := []) ⟨hx, hb, hml, hown, hG⟩ (kX7_backOnCart l dC dI a0 a2 a3 a4 a5 a6 c2 c3 c5 s.heap.size ) (cwV 1 hG (goodV gw453 gw454 gw455 gw134 gw456) rfl rfl rfl hd_X7_backOnCart ⟨(Nat.le_of_ble_eq_true rfl), (Nat.le_of_ble_eq_true rfl)⟩) ⟨fbW, va_recv hKc hPc (ci := 6) (q0 := 0) rfl rfl, pW_in hPc hKc hDc⟩ rfl rfl hl.1 rfl (lv_room (Nat.le_of_ble_eq_true rfl)) dX7_begin_9 ⟨(Nat.le_of_ble_eq_true rfl), (Nat.le_of_ble_eq_true rfl)⟩) hS (fun q _ h => hFc q h) hFc (fun u t H2 locs ht hvm hw hB hz1 hk1 hS => ?_)
  obtain ⟨zf4, zf5, zf6, hP1, hD1⟩ := hB
  rw [ht] at hP1
  obtain ⟨hP, hD⟩ := va_join (wr := [(a1, .inr (3, [.int 1, .int 0, .int 0, .int 0, .ref a7, .ref a8, .ref a9, .int 0, .ref a10, .ref a11, .ref a12, .int 0, .ref a13, .ref a14])), (a4, .inl (c4, 5, .inl (fun _ => 0))), (a6, .inl (c6, 4, .inl (fun _ => 0)))]) (w1 := [(a0, .inr (6, [.ref a2, .ref a3, .ref a4, .ref a5, .ref a6, .int 0, .int 0])), (a2, .inl (c2, 5, .inl zf4)), (a3, .inl (c3, 5, .inl zf5)), (a5, .inl (c5, 5, .inl zf6))]) hP hD [0, 2, 3, 5] [1, 4, 6] rfl rfl (by decide) (by decide) hk1 hFc hP1 hD1
  have hP : va_P (dC, dI) vwCl [(a1, .inr (3, [.int 1, .int 0, .int 0, .int 0, .ref a7, .ref a8, .ref a9, .int 0, .ref a10, .ref a11, .ref a12, .int 0, .ref a13, .ref a14])), (a4, .inl (c4, 5, .inl (fun _ => 0))), (a6, .inl (c6, 4, .inl (fun _ => 0))), (a0, .inr (6, [.ref a2, .ref a3, .ref a4, .ref a5, .ref a6, .int 0, .int 0])), (a2, .inl (c2, 5, .inl zf4)), (a3, .inl (c3, 5, .inl zf5)), (a5, .inl (c5, 5, .inl zf6))] H2 := hP
  have hD : va_D A [(a1, .inr (3, [.int 1, .int 0, .int 0, .int 0, .ref a7, .ref a8, .ref a9, .int 0, .ref a10, .ref a11, .ref a12, .int 0, .ref a13, .ref a14])), (a4, .inl (c4, 5, .inl (fun _ => 0))), (a6, .inl (c6, 4, .inl (fun _ => 0))), (a0, .inr (6, [.ref a2, .ref a3, .ref a4, .ref a5, .ref a6, .int 0, .int 0])), (a2, .inl (c2, 5, .inl zf4)), (a3, .inl (c3, 5, .inl zf5)), (a5, .inl (c5, 5, .inl zf6))] := hD
  refine lv_aload_n hx hb dX7_begin_12 rfl (lv_at hl 1 rfl) ?_
  refine va_get (D := (dC, dI)) (ci := 6) (v := .ref a4) (C := RX7) (T := TX7) (N := 7) hx hb hG inX7 hown hK hP 3 rfl rfl 2 (by decide) (hG _ gw355) (fun _ h9 => h9) rfl dX7_begin_13 ?_
  refine lv_iload_n hx hb dX7_begin_16 rfl (lv_at hl 0 rfl) ?_
  refine lv_iconst (v := 0) hx hb dX7_begin_17 (by decide) ?_
  refine va_iast hx hb hK hP hD hS 1 2 rfl rfl (vin (by decide)) dX7_begin_18 (fun H7 locs hP hD hS => ?_)
  obtain ⟨zf8, ezf8⟩ : ∃ z : Nat → Int32, z = upd (fun _ => 0) (0 : Int32).toNatClampNeg 0 := ⟨_, rfl⟩
  have hP : va_P (dC, dI) vwCl [(a1, .inr (3, [.int 1, .int 0, .int 0, .int 0, .ref a7, .ref a8, .ref a9, .int 0, .ref a10, .ref a11, .ref a12, .int 0, .ref a13, .ref a14])), (a4, .inl (c4, 5, .inl zf8)), (a6, .inl (c6, 4, .inl (fun _ => 0))), (a0, .inr (6, [.ref a2, .ref a3, .ref a4, .ref a5, .ref a6, .int 0, .int 0])), (a2, .inl (c2, 5, .inl zf4)), (a3, .inl (c3, 5, .inl zf5)), (a5, .inl (c5, 5, .inl zf6))] H7 := by rw [ezf8]; exact hP
  have hD : va_D A [(a1, .inr (3, [.int 1, .int 0, .int 0, .int 0, .ref a7, .ref a8, .ref a9, .int 0, .ref a10, .ref a11, .ref a12, .int 0, .ref a13, .ref a14])), (a4, .inl (c4, 5, .inl zf8)), (a6, .inl (c6, 4, .inl (fun _ => 0))), (a0, .inr (6, [.ref a2, .ref a3, .ref a4, .ref a5, .ref a6, .int 0, .int 0])), (a2, .inl (c2, 5, .inl zf4)), (a3, .inl (c3, 5, .inl zf5)), (a5, .inl (c5, 5, .inl zf6))] := by rw [ezf8]; exact hD
  refine lv_iinc (v := 1) (lv' := [(2, .int 1), (0, .ref a0), (1, .ref a1)]) hx hb dX7_begin_19 hl (k := 0) rfl (by decide) (by decide) rfl (fun ls hl => ?_)
  refine lv_goto (tgt := 2) hx hb dX7_begin_22 (by decide) ?_
  refine lv_iload_n hx hb dX7_begin_2 rfl (lv_at hl 0 rfl) ?_
  refine lv_iconst (v := 5) hx hb dX7_begin_3 (by decide) ?_
  refine lv_icmp_ge (tgt := 25) hx hb dX7_begin_4 (by decide) (fun c_9 => absurd c_9 (by decide)) (fun c_9 => ?_)
  refine lv_aload_n hx hb dX7_begin_7 rfl (lv_at hl 1 rfl) ?_
  refine lv_iload_n hx hb dX7_begin_8 rfl (lv_at hl 0 rfl) ?_
  have hPc := hP.sub (ws' := [(a0, .inr (6, [.ref a2, .ref a3, .ref a4, .ref a5, .ref a6, .int 0, .int 0])), (a2, .inl (c2, 5, .inl zf4)), (a3, .inl (c3, 5, .inl zf5)), (a5, .inl (c5, 5, .inl zf6))]) [3, 4, 5, 6] rfl
  have hKc := hK.sub (tys' := [(c2, .int), (c3, .int), (c5, .int)]) [0, 1, 3] rfl
  have hDc := hD.sub (ws' := [(a0, .inr (6, [.ref a2, .ref a3, .ref a4, .ref a5, .ref a6, .int 0, .int 0])), (a2, .inl (c2, 5, .inl zf4)), (a3, .inl (c3, 5, .inl zf5)), (a5, .inl (c5, 5, .inl zf6))]) [3, 4, 5, 6] (by decide) rfl
  have hFc := va_free (wc := [(a0, .inr (6, [.ref a2, .ref a3, .ref a4, .ref a5, .ref a6, .int 0, .int 0])), (a2, .inl (c2, 5, .inl zf4)), (a3, .inl (c3, 5, .inl zf5)), (a5, .inl (c5, 5, .inl zf6))]) hD hS hA [3, 4, 5, 6] rfl
  refine va_callv (va_runV (As := [.int 1]) (rest := []) ⟨hx, hb, hml, hown, hG⟩ (kX7_backOnCart_v1 l dC dI a0 a2 a3 a4 a5 a6 c2 c3 c5 zf4 zf5 zf6 H7.size ) (cwV 1 hG (goodV gw453 gw454 gw455 gw134 gw456) rfl rfl rfl hd_X7_backOnCart ⟨(Nat.le_of_ble_eq_true rfl), (Nat.le_of_ble_eq_true rfl)⟩) ⟨fbW, va_recv hKc hPc (ci := 6) (q0 := 0) rfl rfl, pW_in hPc hKc hDc⟩ rfl rfl hl.1 rfl (lv_room (Nat.le_of_ble_eq_true rfl)) dX7_begin_9 ⟨(Nat.le_of_ble_eq_true rfl), (Nat.le_of_ble_eq_true rfl)⟩) hS (fun q _ h => hFc q h) hFc (fun u t H10 locs ht hvm hw hB hz1 hk1 hS => ?_)
  obtain ⟨zf12, zf13, zf14, hP1, hD1⟩ := hB
  rw [ht] at hP1
  obtain ⟨hP, hD⟩ := va_join (wr := [(a1, .inr (3, [.int 1, .int 0, .int 0, .int 0, .ref a7, .ref a8, .ref a9, .int 0, .ref a10, .ref a11, .ref a12, .int 0, .ref a13, .ref a14])), (a4, .inl (c4, 5, .inl zf8)), (a6, .inl (c6, 4, .inl (fun _ => 0)))]) (w1 := [(a0, .inr (6, [.ref a2, .ref a3, .ref a4, .ref a5, .ref a6, .int 0, .int 0])), (a2, .inl (c2, 5, .inl zf12)), (a3, .inl (c3, 5, .inl zf13)), (a5, .inl (c5, 5, .inl zf14))]) hP hD [3, 4, 5, 6] [0, 1, 2] rfl rfl (by decide) (by decide) hk1 hFc hP1 hD1
  have hP : va_P (dC, dI) vwCl [(a1, .inr (3, [.int 1, .int 0, .int 0, .int 0, .ref a7, .ref a8, .ref a9, .int 0, .ref a10, .ref a11, .ref a12, .int 0, .ref a13, .ref a14])), (a4, .inl (c4, 5, .inl zf8)), (a6, .inl (c6, 4, .inl (fun _ => 0))), (a0, .inr (6, [.ref a2, .ref a3, .ref a4, .ref a5, .ref a6, .int 0, .int 0])), (a2, .inl (c2, 5, .inl zf12)), (a3, .inl (c3, 5, .inl zf13)), (a5, .inl (c5, 5, .inl zf14))] H10 := hP
  have hD : va_D A [(a1, .inr (3, [.int 1, .int 0, .int 0, .int 0, .ref a7, .ref a8, .ref a9, .int 0, .ref a10, .ref a11, .ref a12, .int 0, .ref a13, .ref a14])), (a4, .inl (c4, 5, .inl zf8)), (a6, .inl (c6, 4, .inl (fun _ => 0))), (a0, .inr (6, [.ref a2, .ref a3, .ref a4, .ref a5, .ref a6, .int 0, .int 0])), (a2, .inl (c2, 5, .inl zf12)), (a3, .inl (c3, 5, .inl zf13)), (a5, .inl (c5, 5, .inl zf14))] := hD
  refine lv_aload_n hx hb dX7_begin_12 rfl (lv_at hl 1 rfl) ?_
  refine va_get (D := (dC, dI)) (ci := 6) (v := .ref a4) (C := RX7) (T := TX7) (N := 7) hx hb hG inX7 hown hK hP 3 rfl rfl 2 (by decide) (hG _ gw355) (fun _ h9 => h9) rfl dX7_begin_13 ?_
  refine lv_iload_n hx hb dX7_begin_16 rfl (lv_at hl 0 rfl) ?_
  refine lv_iconst (v := 0) hx hb dX7_begin_17 (by decide) ?_
  refine va_iast hx hb hK hP hD hS 1 2 rfl rfl (vin (by decide)) dX7_begin_18 (fun H15 locs hP hD hS => ?_)
  obtain ⟨zf16, ezf16⟩ : ∃ z : Nat → Int32, z = upd zf8 (1 : Int32).toNatClampNeg 0 := ⟨_, rfl⟩
  have hP : va_P (dC, dI) vwCl [(a1, .inr (3, [.int 1, .int 0, .int 0, .int 0, .ref a7, .ref a8, .ref a9, .int 0, .ref a10, .ref a11, .ref a12, .int 0, .ref a13, .ref a14])), (a4, .inl (c4, 5, .inl zf16)), (a6, .inl (c6, 4, .inl (fun _ => 0))), (a0, .inr (6, [.ref a2, .ref a3, .ref a4, .ref a5, .ref a6, .int 0, .int 0])), (a2, .inl (c2, 5, .inl zf12)), (a3, .inl (c3, 5, .inl zf13)), (a5, .inl (c5, 5, .inl zf14))] H15 := by rw [ezf16]; exact hP
  have hD : va_D A [(a1, .inr (3, [.int 1, .int 0, .int 0, .int 0, .ref a7, .ref a8, .ref a9, .int 0, .ref a10, .ref a11, .ref a12, .int 0, .ref a13, .ref a14])), (a4, .inl (c4, 5, .inl zf16)), (a6, .inl (c6, 4, .inl (fun _ => 0))), (a0, .inr (6, [.ref a2, .ref a3, .ref a4, .ref a5, .ref a6, .int 0, .int 0])), (a2, .inl (c2, 5, .inl zf12)), (a3, .inl (c3, 5, .inl zf13)), (a5, .inl (c5, 5, .inl zf14))] := by rw [ezf16]; exact hD
  refine lv_iinc (v := 2) (lv' := [(2, .int 2), (0, .ref a0), (1, .ref a1)]) hx hb dX7_begin_19 hl (k := 0) rfl (by decide) (by decide) rfl (fun ls hl => ?_)
  refine lv_goto (tgt := 2) hx hb dX7_begin_22 (by decide) ?_
  refine lv_iload_n hx hb dX7_begin_2 rfl (lv_at hl 0 rfl) ?_
  refine lv_iconst (v := 5) hx hb dX7_begin_3 (by decide) ?_
  refine lv_icmp_ge (tgt := 25) hx hb dX7_begin_4 (by decide) (fun c_17 => absurd c_17 (by decide)) (fun c_17 => ?_)
  refine lv_aload_n hx hb dX7_begin_7 rfl (lv_at hl 1 rfl) ?_
  refine lv_iload_n hx hb dX7_begin_8 rfl (lv_at hl 0 rfl) ?_
  have hPc := hP.sub (ws' := [(a0, .inr (6, [.ref a2, .ref a3, .ref a4, .ref a5, .ref a6, .int 0, .int 0])), (a2, .inl (c2, 5, .inl zf12)), (a3, .inl (c3, 5, .inl zf13)), (a5, .inl (c5, 5, .inl zf14))]) [3, 4, 5, 6] rfl
  have hKc := hK.sub (tys' := [(c2, .int), (c3, .int), (c5, .int)]) [0, 1, 3] rfl
  have hDc := hD.sub (ws' := [(a0, .inr (6, [.ref a2, .ref a3, .ref a4, .ref a5, .ref a6, .int 0, .int 0])), (a2, .inl (c2, 5, .inl zf12)), (a3, .inl (c3, 5, .inl zf13)), (a5, .inl (c5, 5, .inl zf14))]) [3, 4, 5, 6] (by decide) rfl
  have hFc := va_free (wc := [(a0, .inr (6, [.ref a2, .ref a3, .ref a4, .ref a5, .ref a6, .int 0, .int 0])), (a2, .inl (c2, 5, .inl zf12)), (a3, .inl (c3, 5, .inl zf13)), (a5, .inl (c5, 5, .inl zf14))]) hD hS hA [3, 4, 5, 6] rfl
  refine va_callv (va_runV (As := [.int 2]) (rest := []) ⟨hx, hb, hml, hown, hG⟩ (kX7_backOnCart_v2 l dC dI a0 a2 a3 a4 a5 a6 c2 c3 c5 zf12 zf13 zf14 H15.size ) (cwV 1 hG (goodV gw453 gw454 gw455 gw134 gw456) rfl rfl rfl hd_X7_backOnCart ⟨(Nat.le_of_ble_eq_true rfl), (Nat.le_of_ble_eq_true rfl)⟩) ⟨fbW, va_recv hKc hPc (ci := 6) (q0 := 0) rfl rfl, pW_in hPc hKc hDc⟩ rfl rfl hl.1 rfl (lv_room (Nat.le_of_ble_eq_true rfl)) dX7_begin_9 ⟨(Nat.le_of_ble_eq_true rfl), (Nat.le_of_ble_eq_true rfl)⟩) hS (fun q _ h => hFc q h) hFc (fun u t H18 locs ht hvm hw hB hz1 hk1 hS => ?_)
  obtain ⟨zf20, zf21, zf22, hP1, hD1⟩ := hB
  rw [ht] at hP1
  obtain ⟨hP, hD⟩ := va_join (wr := [(a1, .inr (3, [.int 1, .int 0, .int 0, .int 0, .ref a7, .ref a8, .ref a9, .int 0, .ref a10, .ref a11, .ref a12, .int 0, .ref a13, .ref a14])), (a4, .inl (c4, 5, .inl zf16)), (a6, .inl (c6, 4, .inl (fun _ => 0)))]) (w1 := [(a0, .inr (6, [.ref a2, .ref a3, .ref a4, .ref a5, .ref a6, .int 0, .int 0])), (a2, .inl (c2, 5, .inl zf20)), (a3, .inl (c3, 5, .inl zf21)), (a5, .inl (c5, 5, .inl zf22))]) hP hD [3, 4, 5, 6] [0, 1, 2] rfl rfl (by decide) (by decide) hk1 hFc hP1 hD1
  have hP : va_P (dC, dI) vwCl [(a1, .inr (3, [.int 1, .int 0, .int 0, .int 0, .ref a7, .ref a8, .ref a9, .int 0, .ref a10, .ref a11, .ref a12, .int 0, .ref a13, .ref a14])), (a4, .inl (c4, 5, .inl zf16)), (a6, .inl (c6, 4, .inl (fun _ => 0))), (a0, .inr (6, [.ref a2, .ref a3, .ref a4, .ref a5, .ref a6, .int 0, .int 0])), (a2, .inl (c2, 5, .inl zf20)), (a3, .inl (c3, 5, .inl zf21)), (a5, .inl (c5, 5, .inl zf22))] H18 := hP
  have hD : va_D A [(a1, .inr (3, [.int 1, .int 0, .int 0, .int 0, .ref a7, .ref a8, .ref a9, .int 0, .ref a10, .ref a11, .ref a12, .int 0, .ref a13, .ref a14])), (a4, .inl (c4, 5, .inl zf16)), (a6, .inl (c6, 4, .inl (fun _ => 0))), (a0, .inr (6, [.ref a2, .ref a3, .ref a4, .ref a5, .ref a6, .int 0, .int 0])), (a2, .inl (c2, 5, .inl zf20)), (a3, .inl (c3, 5, .inl zf21)), (a5, .inl (c5, 5, .inl zf22))] := hD
  refine lv_aload_n hx hb dX7_begin_12 rfl (lv_at hl 1 rfl) ?_
  refine va_get (D := (dC, dI)) (ci := 6) (v := .ref a4) (C := RX7) (T := TX7) (N := 7) hx hb hG inX7 hown hK hP 3 rfl rfl 2 (by decide) (hG _ gw355) (fun _ h9 => h9) rfl dX7_begin_13 ?_
  refine lv_iload_n hx hb dX7_begin_16 rfl (lv_at hl 0 rfl) ?_
  refine lv_iconst (v := 0) hx hb dX7_begin_17 (by decide) ?_
  refine va_iast hx hb hK hP hD hS 1 2 rfl rfl (vin (by decide)) dX7_begin_18 (fun H23 locs hP hD hS => ?_)
  obtain ⟨zf24, ezf24⟩ : ∃ z : Nat → Int32, z = upd zf16 (2 : Int32).toNatClampNeg 0 := ⟨_, rfl⟩
  have hP : va_P (dC, dI) vwCl [(a1, .inr (3, [.int 1, .int 0, .int 0, .int 0, .ref a7, .ref a8, .ref a9, .int 0, .ref a10, .ref a11, .ref a12, .int 0, .ref a13, .ref a14])), (a4, .inl (c4, 5, .inl zf24)), (a6, .inl (c6, 4, .inl (fun _ => 0))), (a0, .inr (6, [.ref a2, .ref a3, .ref a4, .ref a5, .ref a6, .int 0, .int 0])), (a2, .inl (c2, 5, .inl zf20)), (a3, .inl (c3, 5, .inl zf21)), (a5, .inl (c5, 5, .inl zf22))] H23 := by rw [ezf24]; exact hP
  have hD : va_D A [(a1, .inr (3, [.int 1, .int 0, .int 0, .int 0, .ref a7, .ref a8, .ref a9, .int 0, .ref a10, .ref a11, .ref a12, .int 0, .ref a13, .ref a14])), (a4, .inl (c4, 5, .inl zf24)), (a6, .inl (c6, 4, .inl (fun _ => 0))), (a0, .inr (6, [.ref a2, .ref a3, .ref a4, .ref a5, .ref a6, .int 0, .int 0])), (a2, .inl (c2, 5, .inl zf20)), (a3, .inl (c3, 5, .inl zf21)), (a5, .inl (c5, 5, .inl zf22))] := by rw [ezf24]; exact hD
  refine lv_iinc (v := 3) (lv' := [(2, .int 3), (0, .ref a0), (1, .ref a1)]) hx hb dX7_begin_19 hl (k := 0) rfl (by decide) (by decide) rfl (fun ls hl => ?_)
  refine lv_goto (tgt := 2) hx hb dX7_begin_22 (by decide) ?_
  refine lv_iload_n hx hb dX7_begin_2 rfl (lv_at hl 0 rfl) ?_
  refine lv_iconst (v := 5) hx hb dX7_begin_3 (by decide) ?_
  refine lv_icmp_ge (tgt := 25) hx hb dX7_begin_4 (by decide) (fun c_25 => absurd c_25 (by decide)) (fun c_25 => ?_)
  refine lv_aload_n hx hb dX7_begin_7 rfl (lv_at hl 1 rfl) ?_
  refine lv_iload_n hx hb dX7_begin_8 rfl (lv_at hl 0 rfl) ?_
  have hPc := hP.sub (ws' := [(a0, .inr (6, [.ref a2, .ref a3, .ref a4, .ref a5, .ref a6, .int 0, .int 0])), (a2, .inl (c2, 5, .inl zf20)), (a3, .inl (c3, 5, .inl zf21)), (a5, .inl (c5, 5, .inl zf22))]) [3, 4, 5, 6] rfl
  have hKc := hK.sub (tys' := [(c2, .int), (c3, .int), (c5, .int)]) [0, 1, 3] rfl
  have hDc := hD.sub (ws' := [(a0, .inr (6, [.ref a2, .ref a3, .ref a4, .ref a5, .ref a6, .int 0, .int 0])), (a2, .inl (c2, 5, .inl zf20)), (a3, .inl (c3, 5, .inl zf21)), (a5, .inl (c5, 5, .inl zf22))]) [3, 4, 5, 6] (by decide) rfl
  have hFc := va_free (wc := [(a0, .inr (6, [.ref a2, .ref a3, .ref a4, .ref a5, .ref a6, .int 0, .int 0])), (a2, .inl (c2, 5, .inl zf20)), (a3, .inl (c3, 5, .inl zf21)), (a5, .inl (c5, 5, .inl zf22))]) hD hS hA [3, 4, 5, 6] rfl
  refine va_callv (va_runV (As := [.int 3]) (rest := []) ⟨hx, hb, hml, hown, hG⟩ (kX7_backOnCart_v3 l dC dI a0 a2 a3 a4 a5 a6 c2 c3 c5 zf20 zf21 zf22 H23.size ) (cwV 1 hG (goodV gw453 gw454 gw455 gw134 gw456) rfl rfl rfl hd_X7_backOnCart ⟨(Nat.le_of_ble_eq_true rfl), (Nat.le_of_ble_eq_true rfl)⟩) ⟨fbW, va_recv hKc hPc (ci := 6) (q0 := 0) rfl rfl, pW_in hPc hKc hDc⟩ rfl rfl hl.1 rfl (lv_room (Nat.le_of_ble_eq_true rfl)) dX7_begin_9 ⟨(Nat.le_of_ble_eq_true rfl), (Nat.le_of_ble_eq_true rfl)⟩) hS (fun q _ h => hFc q h) hFc (fun u t H26 locs ht hvm hw hB hz1 hk1 hS => ?_)
  obtain ⟨zf28, zf29, zf30, hP1, hD1⟩ := hB
  rw [ht] at hP1
  obtain ⟨hP, hD⟩ := va_join (wr := [(a1, .inr (3, [.int 1, .int 0, .int 0, .int 0, .ref a7, .ref a8, .ref a9, .int 0, .ref a10, .ref a11, .ref a12, .int 0, .ref a13, .ref a14])), (a4, .inl (c4, 5, .inl zf24)), (a6, .inl (c6, 4, .inl (fun _ => 0)))]) (w1 := [(a0, .inr (6, [.ref a2, .ref a3, .ref a4, .ref a5, .ref a6, .int 0, .int 0])), (a2, .inl (c2, 5, .inl zf28)), (a3, .inl (c3, 5, .inl zf29)), (a5, .inl (c5, 5, .inl zf30))]) hP hD [3, 4, 5, 6] [0, 1, 2] rfl rfl (by decide) (by decide) hk1 hFc hP1 hD1
  have hP : va_P (dC, dI) vwCl [(a1, .inr (3, [.int 1, .int 0, .int 0, .int 0, .ref a7, .ref a8, .ref a9, .int 0, .ref a10, .ref a11, .ref a12, .int 0, .ref a13, .ref a14])), (a4, .inl (c4, 5, .inl zf24)), (a6, .inl (c6, 4, .inl (fun _ => 0))), (a0, .inr (6, [.ref a2, .ref a3, .ref a4, .ref a5, .ref a6, .int 0, .int 0])), (a2, .inl (c2, 5, .inl zf28)), (a3, .inl (c3, 5, .inl zf29)), (a5, .inl (c5, 5, .inl zf30))] H26 := hP
  have hD : va_D A [(a1, .inr (3, [.int 1, .int 0, .int 0, .int 0, .ref a7, .ref a8, .ref a9, .int 0, .ref a10, .ref a11, .ref a12, .int 0, .ref a13, .ref a14])), (a4, .inl (c4, 5, .inl zf24)), (a6, .inl (c6, 4, .inl (fun _ => 0))), (a0, .inr (6, [.ref a2, .ref a3, .ref a4, .ref a5, .ref a6, .int 0, .int 0])), (a2, .inl (c2, 5, .inl zf28)), (a3, .inl (c3, 5, .inl zf29)), (a5, .inl (c5, 5, .inl zf30))] := hD
  refine lv_aload_n hx hb dX7_begin_12 rfl (lv_at hl 1 rfl) ?_
  refine va_get (D := (dC, dI)) (ci := 6) (v := .ref a4) (C := RX7) (T := TX7) (N := 7) hx hb hG inX7 hown hK hP 3 rfl rfl 2 (by decide) (hG _ gw355) (fun _ h9 => h9) rfl dX7_begin_13 ?_
  refine lv_iload_n hx hb dX7_begin_16 rfl (lv_at hl 0 rfl) ?_
  refine lv_iconst (v := 0) hx hb dX7_begin_17 (by decide) ?_
  refine va_iast hx hb hK hP hD hS 1 2 rfl rfl (vin (by decide)) dX7_begin_18 (fun H31 locs hP hD hS => ?_)
  obtain ⟨zf32, ezf32⟩ : ∃ z : Nat → Int32, z = upd zf24 (3 : Int32).toNatClampNeg 0 := ⟨_, rfl⟩
  have hP : va_P (dC, dI) vwCl [(a1, .inr (3, [.int 1, .int 0, .int 0, .int 0, .ref a7, .ref a8, .ref a9, .int 0, .ref a10, .ref a11, .ref a12, .int 0, .ref a13, .ref a14])), (a4, .inl (c4, 5, .inl zf32)), (a6, .inl (c6, 4, .inl (fun _ => 0))), (a0, .inr (6, [.ref a2, .ref a3, .ref a4, .ref a5, .ref a6, .int 0, .int 0])), (a2, .inl (c2, 5, .inl zf28)), (a3, .inl (c3, 5, .inl zf29)), (a5, .inl (c5, 5, .inl zf30))] H31 := by rw [ezf32]; exact hP
  have hD : va_D A [(a1, .inr (3, [.int 1, .int 0, .int 0, .int 0, .ref a7, .ref a8, .ref a9, .int 0, .ref a10, .ref a11, .ref a12, .int 0, .ref a13, .ref a14])), (a4, .inl (c4, 5, .inl zf32)), (a6, .inl (c6, 4, .inl (fun _ => 0))), (a0, .inr (6, [.ref a2, .ref a3, .ref a4, .ref a5, .ref a6, .int 0, .int 0])), (a2, .inl (c2, 5, .inl zf28)), (a3, .inl (c3, 5, .inl zf29)), (a5, .inl (c5, 5, .inl zf30))] := by rw [ezf32]; exact hD
  refine lv_iinc (v := 4) (lv' := [(2, .int 4), (0, .ref a0), (1, .ref a1)]) hx hb dX7_begin_19 hl (k := 0) rfl (by decide) (by decide) rfl (fun ls hl => ?_)
  refine lv_goto (tgt := 2) hx hb dX7_begin_22 (by decide) ?_
  refine lv_iload_n hx hb dX7_begin_2 rfl (lv_at hl 0 rfl) ?_
  refine lv_iconst (v := 5) hx hb dX7_begin_3 (by decide) ?_
  refine lv_icmp_ge (tgt := 25) hx hb dX7_begin_4 (by decide) (fun c_33 => absurd c_33 (by decide)) (fun c_33 => ?_)
  refine lv_aload_n hx hb dX7_begin_7 rfl (lv_at hl 1 rfl) ?_
  refine lv_iload_n hx hb dX7_begin_8 rfl (lv_at hl 0 rfl) ?_
  have hPc := hP.sub (ws' := [(a0, .inr (6, [.ref a2, .ref a3, .ref a4, .ref a5, .ref a6, .int 0, .int 0])), (a2, .inl (c2, 5, .inl zf28)), (a3, .inl (c3, 5, .inl zf29)), (a5, .inl (c5, 5, .inl zf30))]) [3, 4, 5, 6] rfl
  have hKc := hK.sub (tys' := [(c2, .int), (c3, .int), (c5, .int)]) [0, 1, 3] rfl
  have hDc := hD.sub (ws' := [(a0, .inr (6, [.ref a2, .ref a3, .ref a4, .ref a5, .ref a6, .int 0, .int 0])), (a2, .inl (c2, 5, .inl zf28)), (a3, .inl (c3, 5, .inl zf29)), (a5, .inl (c5, 5, .inl zf30))]) [3, 4, 5, 6] (by decide) rfl
  have hFc := va_free (wc := [(a0, .inr (6, [.ref a2, .ref a3, .ref a4, .ref a5, .ref a6, .int 0, .int 0])), (a2, .inl (c2, 5, .inl zf28)), (a3, .inl (c3, 5, .inl zf29)), (a5, .inl (c5, 5, .inl zf30))]) hD hS hA [3, 4, 5, 6] rfl
  refine va_callv (va_runV (As := [.int 4]) (rest := []) ⟨hx, hb, hml, hown, hG⟩ (kX7_backOnCart_v4 l dC dI a0 a2 a3 a4 a5 a6 c2 c3 c5 zf28 zf29 zf30 H31.size ) (cwV 1 hG (goodV gw453 gw454 gw455 gw134 gw456) rfl rfl rfl hd_X7_backOnCart ⟨(Nat.le_of_ble_eq_true rfl), (Nat.le_of_ble_eq_true rfl)⟩) ⟨fbW, va_recv hKc hPc (ci := 6) (q0 := 0) rfl rfl, pW_in hPc hKc hDc⟩ rfl rfl hl.1 rfl (lv_room (Nat.le_of_ble_eq_true rfl)) dX7_begin_9 ⟨(Nat.le_of_ble_eq_true rfl), (Nat.le_of_ble_eq_true rfl)⟩) hS (fun q _ h => hFc q h) hFc (fun u t H34 locs ht hvm hw hB hz1 hk1 hS => ?_)
  obtain ⟨zf36, zf37, zf38, hP1, hD1⟩ := hB
  rw [ht] at hP1
  obtain ⟨hP, hD⟩ := va_join (wr := [(a1, .inr (3, [.int 1, .int 0, .int 0, .int 0, .ref a7, .ref a8, .ref a9, .int 0, .ref a10, .ref a11, .ref a12, .int 0, .ref a13, .ref a14])), (a4, .inl (c4, 5, .inl zf32)), (a6, .inl (c6, 4, .inl (fun _ => 0)))]) (w1 := [(a0, .inr (6, [.ref a2, .ref a3, .ref a4, .ref a5, .ref a6, .int 0, .int 0])), (a2, .inl (c2, 5, .inl zf36)), (a3, .inl (c3, 5, .inl zf37)), (a5, .inl (c5, 5, .inl zf38))]) hP hD [3, 4, 5, 6] [0, 1, 2] rfl rfl (by decide) (by decide) hk1 hFc hP1 hD1
  have hP : va_P (dC, dI) vwCl [(a1, .inr (3, [.int 1, .int 0, .int 0, .int 0, .ref a7, .ref a8, .ref a9, .int 0, .ref a10, .ref a11, .ref a12, .int 0, .ref a13, .ref a14])), (a4, .inl (c4, 5, .inl zf32)), (a6, .inl (c6, 4, .inl (fun _ => 0))), (a0, .inr (6, [.ref a2, .ref a3, .ref a4, .ref a5, .ref a6, .int 0, .int 0])), (a2, .inl (c2, 5, .inl zf36)), (a3, .inl (c3, 5, .inl zf37)), (a5, .inl (c5, 5, .inl zf38))] H34 := hP
  have hD : va_D A [(a1, .inr (3, [.int 1, .int 0, .int 0, .int 0, .ref a7, .ref a8, .ref a9, .int 0, .ref a10, .ref a11, .ref a12, .int 0, .ref a13, .ref a14])), (a4, .inl (c4, 5, .inl zf32)), (a6, .inl (c6, 4, .inl (fun _ => 0))), (a0, .inr (6, [.ref a2, .ref a3, .ref a4, .ref a5, .ref a6, .int 0, .int 0])), (a2, .inl (c2, 5, .inl zf36)), (a3, .inl (c3, 5, .inl zf37)), (a5, .inl (c5, 5, .inl zf38))] := hD
  refine lv_aload_n hx hb dX7_begin_12 rfl (lv_at hl 1 rfl) ?_
  refine va_get (D := (dC, dI)) (ci := 6) (v := .ref a4) (C := RX7) (T := TX7) (N := 7) hx hb hG inX7 hown hK hP 3 rfl rfl 2 (by decide) (hG _ gw355) (fun _ h9 => h9) rfl dX7_begin_13 ?_
  refine lv_iload_n hx hb dX7_begin_16 rfl (lv_at hl 0 rfl) ?_
  refine lv_iconst (v := 0) hx hb dX7_begin_17 (by decide) ?_
  refine va_iast hx hb hK hP hD hS 1 2 rfl rfl (vin (by decide)) dX7_begin_18 (fun H39 locs hP hD hS => ?_)
  obtain ⟨zf40, ezf40⟩ : ∃ z : Nat → Int32, z = upd zf32 (4 : Int32).toNatClampNeg 0 := ⟨_, rfl⟩
  have hP : va_P (dC, dI) vwCl [(a1, .inr (3, [.int 1, .int 0, .int 0, .int 0, .ref a7, .ref a8, .ref a9, .int 0, .ref a10, .ref a11, .ref a12, .int 0, .ref a13, .ref a14])), (a4, .inl (c4, 5, .inl zf40)), (a6, .inl (c6, 4, .inl (fun _ => 0))), (a0, .inr (6, [.ref a2, .ref a3, .ref a4, .ref a5, .ref a6, .int 0, .int 0])), (a2, .inl (c2, 5, .inl zf36)), (a3, .inl (c3, 5, .inl zf37)), (a5, .inl (c5, 5, .inl zf38))] H39 := by rw [ezf40]; exact hP
  have hD : va_D A [(a1, .inr (3, [.int 1, .int 0, .int 0, .int 0, .ref a7, .ref a8, .ref a9, .int 0, .ref a10, .ref a11, .ref a12, .int 0, .ref a13, .ref a14])), (a4, .inl (c4, 5, .inl zf40)), (a6, .inl (c6, 4, .inl (fun _ => 0))), (a0, .inr (6, [.ref a2, .ref a3, .ref a4, .ref a5, .ref a6, .int 0, .int 0])), (a2, .inl (c2, 5, .inl zf36)), (a3, .inl (c3, 5, .inl zf37)), (a5, .inl (c5, 5, .inl zf38))] := by rw [ezf40]; exact hD
  refine lv_iinc (v := 5) (lv' := [(2, .int 5), (0, .ref a0), (1, .ref a1)]) hx hb dX7_begin_19 hl (k := 0) rfl (by decide) (by decide) rfl (fun ls hl => ?_)
  refine lv_goto (tgt := 2) hx hb dX7_begin_22 (by decide) ?_
  refine lv_iload_n hx hb dX7_begin_2 rfl (lv_at hl 0 rfl) ?_
  refine lv_iconst (v := 5) hx hb dX7_begin_3 (by decide) ?_
  refine lv_icmp_ge (tgt := 25) hx hb dX7_begin_4 (by decide) (fun c_41 => ?_) (fun c_41 => absurd (by decide) c_41)
  refine lv_iconst (v := 0) hx hb dX7_begin_25 (by decide) ?_
  refine lv_istore_n (lv' := [(2, .int 0), (0, .ref a0), (1, .ref a1)]) hx hb dX7_begin_26 rfl hl (by decide) rfl (fun ls hl => ?_)
  refine lv_iload_n hx hb dX7_begin_27 rfl (lv_at hl 0 rfl) ?_
  refine lv_iconst (v := 4) hx hb dX7_begin_28 (by decide) ?_
  refine lv_icmp_ge (tgt := 62) hx hb dX7_begin_29 (by decide) (fun c_42 => absurd c_42 (by decide)) (fun c_42 => ?_)
  refine lv_aload_n hx hb dX7_begin_32 rfl (lv_at hl 1 rfl) ?_
  refine va_get (D := (dC, dI)) (ci := 6) (v := .ref a6) (C := RX7) (T := TX7) (N := 7) hx hb hG inX7 hown hK hP 3 rfl rfl 4 (by decide) (hG _ gw359) (fun _ h9 => h9) rfl dX7_begin_33 ?_
  refine lv_iload_n hx hb dX7_begin_36 rfl (lv_at hl 0 rfl) ?_
  refine lv_iload_n hx hb dX7_begin_37 rfl (lv_at hl 0 rfl) ?_
  refine lv_aload_n hx hb dX7_begin_38 rfl (lv_at hl 2 rfl) ?_
  refine va_get (D := (dC, dI)) (ci := 3) (v := .int 0) (C := RX4) (T := TX4) (N := 14) hx hb hG inX4 hown hK hP 0 rfl rfl 7 (by decide) (hG _ gw256) (fun _ h9 => h9) rfl dX7_begin_39 ?_
  refine lv_icmp_ge (tgt := 54) hx hb dX7_begin_42 (by decide) (fun c_43 => ?_) (fun c_43 => absurd (by decide) c_43)
  refine lv_iconst (v := 0) hx hb dX7_begin_54 (by decide) ?_
  refine va_iast hx hb hK hP hD hS 2 4 rfl rfl (vin (by decide)) dX7_begin_55 (fun H44 locs hP hD hS => ?_)
  obtain ⟨zf45, ezf45⟩ : ∃ z : Nat → Int32, z = upd (fun _ => 0) (0 : Int32).toNatClampNeg 0 := ⟨_, rfl⟩
  have hP : va_P (dC, dI) vwCl [(a1, .inr (3, [.int 1, .int 0, .int 0, .int 0, .ref a7, .ref a8, .ref a9, .int 0, .ref a10, .ref a11, .ref a12, .int 0, .ref a13, .ref a14])), (a4, .inl (c4, 5, .inl zf40)), (a6, .inl (c6, 4, .inl zf45)), (a0, .inr (6, [.ref a2, .ref a3, .ref a4, .ref a5, .ref a6, .int 0, .int 0])), (a2, .inl (c2, 5, .inl zf36)), (a3, .inl (c3, 5, .inl zf37)), (a5, .inl (c5, 5, .inl zf38))] H44 := by rw [ezf45]; exact hP
  have hD : va_D A [(a1, .inr (3, [.int 1, .int 0, .int 0, .int 0, .ref a7, .ref a8, .ref a9, .int 0, .ref a10, .ref a11, .ref a12, .int 0, .ref a13, .ref a14])), (a4, .inl (c4, 5, .inl zf40)), (a6, .inl (c6, 4, .inl zf45)), (a0, .inr (6, [.ref a2, .ref a3, .ref a4, .ref a5, .ref a6, .int 0, .int 0])), (a2, .inl (c2, 5, .inl zf36)), (a3, .inl (c3, 5, .inl zf37)), (a5, .inl (c5, 5, .inl zf38))] := by rw [ezf45]; exact hD
  refine lv_iinc (v := 1) (lv' := [(2, .int 1), (0, .ref a0), (1, .ref a1)]) hx hb dX7_begin_56 hl (k := 0) rfl (by decide) (by decide) rfl (fun ls hl => ?_)
  refine lv_goto (tgt := 27) hx hb dX7_begin_59 (by decide) ?_
  refine lv_iload_n hx hb dX7_begin_27 rfl (lv_at hl 0 rfl) ?_
  refine lv_iconst (v := 4) hx hb dX7_begin_28 (by decide) ?_
  refine lv_icmp_ge (tgt := 62) hx hb dX7_begin_29 (by decide) (fun c_46 => absurd c_46 (by decide)) (fun c_46 => ?_)
  refine lv_aload_n hx hb dX7_begin_32 rfl (lv_at hl 1 rfl) ?_
  refine va_get (D := (dC, dI)) (ci := 6) (v := .ref a6) (C := RX7) (T := TX7) (N := 7) hx hb hG inX7 hown hK hP 3 rfl rfl 4 (by decide) (hG _ gw359) (fun _ h9 => h9) rfl dX7_begin_33 ?_
  refine lv_iload_n hx hb dX7_begin_36 rfl (lv_at hl 0 rfl) ?_
  refine lv_iload_n hx hb dX7_begin_37 rfl (lv_at hl 0 rfl) ?_
  refine lv_aload_n hx hb dX7_begin_38 rfl (lv_at hl 2 rfl) ?_
  refine va_get (D := (dC, dI)) (ci := 3) (v := .int 0) (C := RX4) (T := TX4) (N := 14) hx hb hG inX4 hown hK hP 0 rfl rfl 7 (by decide) (hG _ gw256) (fun _ h9 => h9) rfl dX7_begin_39 ?_
  refine lv_icmp_ge (tgt := 54) hx hb dX7_begin_42 (by decide) (fun c_47 => ?_) (fun c_47 => absurd (by decide) c_47)
  refine lv_iconst (v := 0) hx hb dX7_begin_54 (by decide) ?_
  refine va_iast hx hb hK hP hD hS 2 4 rfl rfl (vin (by decide)) dX7_begin_55 (fun H48 locs hP hD hS => ?_)
  obtain ⟨zf49, ezf49⟩ : ∃ z : Nat → Int32, z = upd zf45 (1 : Int32).toNatClampNeg 0 := ⟨_, rfl⟩
  have hP : va_P (dC, dI) vwCl [(a1, .inr (3, [.int 1, .int 0, .int 0, .int 0, .ref a7, .ref a8, .ref a9, .int 0, .ref a10, .ref a11, .ref a12, .int 0, .ref a13, .ref a14])), (a4, .inl (c4, 5, .inl zf40)), (a6, .inl (c6, 4, .inl zf49)), (a0, .inr (6, [.ref a2, .ref a3, .ref a4, .ref a5, .ref a6, .int 0, .int 0])), (a2, .inl (c2, 5, .inl zf36)), (a3, .inl (c3, 5, .inl zf37)), (a5, .inl (c5, 5, .inl zf38))] H48 := by rw [ezf49]; exact hP
  have hD : va_D A [(a1, .inr (3, [.int 1, .int 0, .int 0, .int 0, .ref a7, .ref a8, .ref a9, .int 0, .ref a10, .ref a11, .ref a12, .int 0, .ref a13, .ref a14])), (a4, .inl (c4, 5, .inl zf40)), (a6, .inl (c6, 4, .inl zf49)), (a0, .inr (6, [.ref a2, .ref a3, .ref a4, .ref a5, .ref a6, .int 0, .int 0])), (a2, .inl (c2, 5, .inl zf36)), (a3, .inl (c3, 5, .inl zf37)), (a5, .inl (c5, 5, .inl zf38))] := by rw [ezf49]; exact hD
  refine lv_iinc (v := 2) (lv' := [(2, .int 2), (0, .ref a0), (1, .ref a1)]) hx hb dX7_begin_56 hl (k := 0) rfl (by decide) (by decide) rfl (fun ls hl => ?_)
  refine lv_goto (tgt := 27) hx hb dX7_begin_59 (by decide) ?_
  refine lv_iload_n hx hb dX7_begin_27 rfl (lv_at hl 0 rfl) ?_
  refine lv_iconst (v := 4) hx hb dX7_begin_28 (by decide) ?_
  refine lv_icmp_ge (tgt := 62) hx hb dX7_begin_29 (by decide) (fun c_50 => absurd c_50 (by decide)) (fun c_50 => ?_)
  refine lv_aload_n hx hb dX7_begin_32 rfl (lv_at hl 1 rfl) ?_
  refine va_get (D := (dC, dI)) (ci := 6) (v := .ref a6) (C := RX7) (T := TX7) (N := 7) hx hb hG inX7 hown hK hP 3 rfl rfl 4 (by decide) (hG _ gw359) (fun _ h9 => h9) rfl dX7_begin_33 ?_
  refine lv_iload_n hx hb dX7_begin_36 rfl (lv_at hl 0 rfl) ?_
  refine lv_iload_n hx hb dX7_begin_37 rfl (lv_at hl 0 rfl) ?_
  refine lv_aload_n hx hb dX7_begin_38 rfl (lv_at hl 2 rfl) ?_
  refine va_get (D := (dC, dI)) (ci := 3) (v := .int 0) (C := RX4) (T := TX4) (N := 14) hx hb hG inX4 hown hK hP 0 rfl rfl 7 (by decide) (hG _ gw256) (fun _ h9 => h9) rfl dX7_begin_39 ?_
  refine lv_icmp_ge (tgt := 54) hx hb dX7_begin_42 (by decide) (fun c_51 => ?_) (fun c_51 => absurd (by decide) c_51)
  refine lv_iconst (v := 0) hx hb dX7_begin_54 (by decide) ?_
  refine va_iast hx hb hK hP hD hS 2 4 rfl rfl (vin (by decide)) dX7_begin_55 (fun H52 locs hP hD hS => ?_)
  obtain ⟨zf53, ezf53⟩ : ∃ z : Nat → Int32, z = upd zf49 (2 : Int32).toNatClampNeg 0 := ⟨_, rfl⟩
  have hP : va_P (dC, dI) vwCl [(a1, .inr (3, [.int 1, .int 0, .int 0, .int 0, .ref a7, .ref a8, .ref a9, .int 0, .ref a10, .ref a11, .ref a12, .int 0, .ref a13, .ref a14])), (a4, .inl (c4, 5, .inl zf40)), (a6, .inl (c6, 4, .inl zf53)), (a0, .inr (6, [.ref a2, .ref a3, .ref a4, .ref a5, .ref a6, .int 0, .int 0])), (a2, .inl (c2, 5, .inl zf36)), (a3, .inl (c3, 5, .inl zf37)), (a5, .inl (c5, 5, .inl zf38))] H52 := by rw [ezf53]; exact hP
  have hD : va_D A [(a1, .inr (3, [.int 1, .int 0, .int 0, .int 0, .ref a7, .ref a8, .ref a9, .int 0, .ref a10, .ref a11, .ref a12, .int 0, .ref a13, .ref a14])), (a4, .inl (c4, 5, .inl zf40)), (a6, .inl (c6, 4, .inl zf53)), (a0, .inr (6, [.ref a2, .ref a3, .ref a4, .ref a5, .ref a6, .int 0, .int 0])), (a2, .inl (c2, 5, .inl zf36)), (a3, .inl (c3, 5, .inl zf37)), (a5, .inl (c5, 5, .inl zf38))] := by rw [ezf53]; exact hD
  refine lv_iinc (v := 3) (lv' := [(2, .int 3), (0, .ref a0), (1, .ref a1)]) hx hb dX7_begin_56 hl (k := 0) rfl (by decide) (by decide) rfl (fun ls hl => ?_)
  refine lv_goto (tgt := 27) hx hb dX7_begin_59 (by decide) ?_
  refine lv_iload_n hx hb dX7_begin_27 rfl (lv_at hl 0 rfl) ?_
  refine lv_iconst (v := 4) hx hb dX7_begin_28 (by decide) ?_
  refine lv_icmp_ge (tgt := 62) hx hb dX7_begin_29 (by decide) (fun c_54 => absurd c_54 (by decide)) (fun c_54 => ?_)
  refine lv_aload_n hx hb dX7_begin_32 rfl (lv_at hl 1 rfl) ?_
  refine va_get (D := (dC, dI)) (ci := 6) (v := .ref a6) (C := RX7) (T := TX7) (N := 7) hx hb hG inX7 hown hK hP 3 rfl rfl 4 (by decide) (hG _ gw359) (fun _ h9 => h9) rfl dX7_begin_33 ?_
  refine lv_iload_n hx hb dX7_begin_36 rfl (lv_at hl 0 rfl) ?_
  refine lv_iload_n hx hb dX7_begin_37 rfl (lv_at hl 0 rfl) ?_
  refine lv_aload_n hx hb dX7_begin_38 rfl (lv_at hl 2 rfl) ?_
  refine va_get (D := (dC, dI)) (ci := 3) (v := .int 0) (C := RX4) (T := TX4) (N := 14) hx hb hG inX4 hown hK hP 0 rfl rfl 7 (by decide) (hG _ gw256) (fun _ h9 => h9) rfl dX7_begin_39 ?_
  refine lv_icmp_ge (tgt := 54) hx hb dX7_begin_42 (by decide) (fun c_55 => ?_) (fun c_55 => absurd (by decide) c_55)
  refine lv_iconst (v := 0) hx hb dX7_begin_54 (by decide) ?_
  refine va_iast hx hb hK hP hD hS 2 4 rfl rfl (vin (by decide)) dX7_begin_55 (fun H56 locs hP hD hS => ?_)
  obtain ⟨zf57, ezf57⟩ : ∃ z : Nat → Int32, z = upd zf53 (3 : Int32).toNatClampNeg 0 := ⟨_, rfl⟩
  have hP : va_P (dC, dI) vwCl [(a1, .inr (3, [.int 1, .int 0, .int 0, .int 0, .ref a7, .ref a8, .ref a9, .int 0, .ref a10, .ref a11, .ref a12, .int 0, .ref a13, .ref a14])), (a4, .inl (c4, 5, .inl zf40)), (a6, .inl (c6, 4, .inl zf57)), (a0, .inr (6, [.ref a2, .ref a3, .ref a4, .ref a5, .ref a6, .int 0, .int 0])), (a2, .inl (c2, 5, .inl zf36)), (a3, .inl (c3, 5, .inl zf37)), (a5, .inl (c5, 5, .inl zf38))] H56 := by rw [ezf57]; exact hP
  have hD : va_D A [(a1, .inr (3, [.int 1, .int 0, .int 0, .int 0, .ref a7, .ref a8, .ref a9, .int 0, .ref a10, .ref a11, .ref a12, .int 0, .ref a13, .ref a14])), (a4, .inl (c4, 5, .inl zf40)), (a6, .inl (c6, 4, .inl zf57)), (a0, .inr (6, [.ref a2, .ref a3, .ref a4, .ref a5, .ref a6, .int 0, .int 0])), (a2, .inl (c2, 5, .inl zf36)), (a3, .inl (c3, 5, .inl zf37)), (a5, .inl (c5, 5, .inl zf38))] := by rw [ezf57]; exact hD
  refine lv_iinc (v := 4) (lv' := [(2, .int 4), (0, .ref a0), (1, .ref a1)]) hx hb dX7_begin_56 hl (k := 0) rfl (by decide) (by decide) rfl (fun ls hl => ?_)
  refine lv_goto (tgt := 27) hx hb dX7_begin_59 (by decide) ?_
  refine lv_iload_n hx hb dX7_begin_27 rfl (lv_at hl 0 rfl) ?_
  refine lv_iconst (v := 4) hx hb dX7_begin_28 (by decide) ?_
  refine lv_icmp_ge (tgt := 62) hx hb dX7_begin_29 (by decide) (fun c_58 => ?_) (fun c_58 => absurd (by decide) c_58)
  refine lv_aload_n hx hb dX7_begin_62 rfl (lv_at hl 1 rfl) ?_
  refine lv_iconst (v := 0) hx hb dX7_begin_63 (by decide) ?_
  refine va_put (D := (dC, dI)) (ci := 6) (v := .int 0) (ty := .int) (C := RX7) (T := TX7) (N := 7) hx hb hG inX7 tyX7 tyX7_ok nmX7 hown hK hP hD hS 3 rfl rfl 5 (by decide) (hG _ gw361) (fun _ h9 => h9) rfl (by decide +kernel) rfl rfl (Nat.le_of_ble_eq_true rfl) dX7_begin_64 (fun H59 locs hP hD hS => ?_)
  have hP : va_P (dC, dI) vwCl [(a1, .inr (3, [.int 1, .int 0, .int 0, .int 0, .ref a7, .ref a8, .ref a9, .int 0, .ref a10, .ref a11, .ref a12, .int 0, .ref a13, .ref a14])), (a4, .inl (c4, 5, .inl zf40)), (a6, .inl (c6, 4, .inl zf57)), (a0, .inr (6, [.ref a2, .ref a3, .ref a4, .ref a5, .ref a6, .int 0, .int 0])), (a2, .inl (c2, 5, .inl zf36)), (a3, .inl (c3, 5, .inl zf37)), (a5, .inl (c5, 5, .inl zf38))] H59 := hP
  have hD : va_D A [(a1, .inr (3, [.int 1, .int 0, .int 0, .int 0, .ref a7, .ref a8, .ref a9, .int 0, .ref a10, .ref a11, .ref a12, .int 0, .ref a13, .ref a14])), (a4, .inl (c4, 5, .inl zf40)), (a6, .inl (c6, 4, .inl zf57)), (a0, .inr (6, [.ref a2, .ref a3, .ref a4, .ref a5, .ref a6, .int 0, .int 0])), (a2, .inl (c2, 5, .inl zf36)), (a3, .inl (c3, 5, .inl zf37)), (a5, .inl (c5, 5, .inl zf38))] := hD
  refine lv_aload_n hx hb dX7_begin_67 rfl (lv_at hl 1 rfl) ?_
  refine lv_aload_n hx hb dX7_begin_68 rfl (lv_at hl 2 rfl) ?_
  refine va_get (D := (dC, dI)) (ci := 3) (v := .int 0) (C := RX4) (T := TX4) (N := 14) hx hb hG inX4 hown hK hP 0 rfl rfl 2 (by decide) (hG _ gw241) (fun _ h9 => h9) rfl dX7_begin_69 ?_
  refine va_put (D := (dC, dI)) (ci := 6) (v := .int 0) (ty := .int) (C := RX7) (T := TX7) (N := 7) hx hb hG inX7 tyX7 tyX7_ok nmX7 hown hK hP hD hS 3 rfl rfl 6 (by decide) (hG _ gw363) (fun _ h9 => h9) rfl (by decide +kernel) rfl rfl (Nat.le_of_ble_eq_true rfl) dX7_begin_72 (fun H60 locs hP hD hS => ?_)
  have hP : va_P (dC, dI) vwCl [(a1, .inr (3, [.int 1, .int 0, .int 0, .int 0, .ref a7, .ref a8, .ref a9, .int 0, .ref a10, .ref a11, .ref a12, .int 0, .ref a13, .ref a14])), (a4, .inl (c4, 5, .inl zf40)), (a6, .inl (c6, 4, .inl zf57)), (a0, .inr (6, [.ref a2, .ref a3, .ref a4, .ref a5, .ref a6, .int 0, .int 0])), (a2, .inl (c2, 5, .inl zf36)), (a3, .inl (c3, 5, .inl zf37)), (a5, .inl (c5, 5, .inl zf38))] H60 := hP
  have hD : va_D A [(a1, .inr (3, [.int 1, .int 0, .int 0, .int 0, .ref a7, .ref a8, .ref a9, .int 0, .ref a10, .ref a11, .ref a12, .int 0, .ref a13, .ref a14])), (a4, .inl (c4, 5, .inl zf40)), (a6, .inl (c6, 4, .inl zf57)), (a0, .inr (6, [.ref a2, .ref a3, .ref a4, .ref a5, .ref a6, .int 0, .int 0])), (a2, .inl (c2, 5, .inl zf36)), (a3, .inl (c3, 5, .inl zf37)), (a5, .inl (c5, 5, .inl zf38))] := hD
  have hP9 := hP.sub (ws' := [(a0, .inr (6, [.ref a2, .ref a3, .ref a4, .ref a5, .ref a6, .int 0, .int 0])), (a1, .inr (3, [.int 1, .int 0, .int 0, .int 0, .ref a7, .ref a8, .ref a9, .int 0, .ref a10, .ref a11, .ref a12, .int 0, .ref a13, .ref a14])), (a2, .inl (c2, 5, .inl zf36)), (a3, .inl (c3, 5, .inl zf37)), (a4, .inl (c4, 5, .inl zf40)), (a5, .inl (c5, 5, .inl zf38)), (a6, .inl (c6, 4, .inl zf57))]) [3, 0, 4, 5, 1, 6, 2] rfl
  have hD9 := hD.sub (ws' := [(a0, .inr (6, [.ref a2, .ref a3, .ref a4, .ref a5, .ref a6, .int 0, .int 0])), (a1, .inr (3, [.int 1, .int 0, .int 0, .int 0, .ref a7, .ref a8, .ref a9, .int 0, .ref a10, .ref a11, .ref a12, .int 0, .ref a13, .ref a14])), (a2, .inl (c2, 5, .inl zf36)), (a3, .inl (c3, 5, .inl zf37)), (a4, .inl (c4, 5, .inl zf40)), (a5, .inl (c5, 5, .inl zf38)), (a6, .inl (c6, 4, .inl zf57))]) [3, 0, 4, 5, 1, 6, 2] (by decide) rfl
  exact W.vret hx hb hr (fun t ht hW => ⟨⟨(), rfl, trivial, ⟨zf36, zf37, zf40, zf38, zf57, by rw [ht]; exact hP9, hD9⟩⟩, hS.F ht⟩) hS.2.2 dX7_begin_75
set_option maxHeartbeats 4000000 in
set_option maxRecDepth 100000 in
theorem kX7_writeTo (l : Launch) (dC : Nat → ClassId) (dI : Nat → Nat → Nat) (a0 a2 a3 a4 a5 a6 a1 : Nat) (c1 c2 c3 c4 c5 c6 : ClassId) (f2 : Nat → Int32) (f3 : Nat → Int32) (f4 : Nat → Int32) (f5 : Nat → Int32) (f6 : Nat → Int32) (sz : Nat) : Met l yX7_writeTo (.code yX7_writeTo cX7_writeTo 4 none :: GW) { frames := 2, cells := 0, slots := 0, locals := 100 } (va_Pc [.ref a0, .ref a1, .int 0] (pW (dC, dI) [(a0, .inr (6, [.ref a2, .ref a3, .ref a4, .ref a5, .ref a6, .int 0, .int 0])), (a1, .inl (c1, 1066, .inl (fun _ => 0))), (a2, .inl (c2, 5, .inl f2)), (a3, .inl (c3, 5, .inl f3)), (a4, .inl (c4, 5, .inl f4)), (a5, .inl (c5, 5, .inl f5)), (a6, .inl (c6, 4, .inl f6))] [(c1, .int), (c2, .int), (c3, .int), (c4, .int), (c5, .int), (c6, .int)] sz)) (va_Qv (fun _ : Unit => True) (fun (_ : Unit) (t : State) => ∃ (F0 : Nat → Int32), va_P (dC, dI) vwCl [(a0, .inr (6, [.ref a2, .ref a3, .ref a4, .ref a5, .ref a6, .int 0, .int 0])), (a1, .inl (c1, 1066, .inl F0)), (a2, .inl (c2, 5, .inl f2)), (a3, .inl (c3, 5, .inl f3)), (a4, .inl (c4, 5, .inl f4)), (a5, .inl (c5, 5, .inl f5)), (a6, .inl (c6, 4, .inl f6))] t.heap ∧ va_D (va_A [(a0, .inr (6, [.ref a2, .ref a3, .ref a4, .ref a5, .ref a6, .int 0, .int 0])), (a1, .inl (c1, 1066, .inl (fun _ => 0))), (a2, .inl (c2, 5, .inl f2)), (a3, .inl (c3, 5, .inl f3)), (a4, .inl (c4, 5, .inl f4)), (a5, .inl (c5, 5, .inl f5)), (a6, .inl (c6, 4, .inl f6))] sz) [(a0, .inr (6, [.ref a2, .ref a3, .ref a4, .ref a5, .ref a6, .int 0, .int 0])), (a1, .inl (c1, 1066, .inl F0)), (a2, .inl (c2, 5, .inl f2)), (a3, .inl (c3, 5, .inl f3)), (a4, .inl (c4, 5, .inl f4)), (a5, .inl (c5, 5, .inl f5)), (a6, .inl (c6, 4, .inl f6))]) (va_A [(a0, .inr (6, [.ref a2, .ref a3, .ref a4, .ref a5, .ref a6, .int 0, .int 0])), (a1, .inl (c1, 1066, .inl (fun _ => 0))), (a2, .inl (c2, 5, .inl f2)), (a3, .inl (c3, 5, .inl f3)), (a4, .inl (c4, 5, .inl f4)), (a5, .inl (c5, 5, .inl f5)), (a6, .inl (c6, 4, .inl f6))] sz)) 0 0 (va_A [(a0, .inr (6, [.ref a2, .ref a3, .ref a4, .ref a5, .ref a6, .int 0, .int 0])), (a1, .inl (c1, 1066, .inl (fun _ => 0))), (a2, .inl (c2, 5, .inl f2)), (a3, .inl (c3, 5, .inl f3)), (a4, .inl (c4, 5, .inl f4)), (a5, .inl (c5, 5, .inl f5)), (a6, .inl (c6, 4, .inl f6))] sz) := by
  refine Met.ofW (cc := cX7_writeTo) (maxL := 4) (ret := none) (by decide) rfl ?_
  intro p e s m args below meth c0 s₁ B hml hv
  obtain ⟨rfl, hsz, hP, hK, hD0⟩ := hv
  have hx := B.exec
  have hb := B.bytes
  have hr := B.returns
  have hts := atoms_spec (ws := .code yX7_writeTo cX7_writeTo 4 none :: GW) B.pre
  have hG : ∀ w ∈ GW, w.before _ s = true := fun w h => hts w (List.mem_cons_of_mem _ h)
  have hown : s.vm.findClass RX7 = some m.cls := findClass_of_methodNamed B.named
  have hlocks := B.notSynchronized
  subst hsz
  have hD := hD0.self (sz := s.heap.size)
  generalize hAe : va_A [(a0, .inr (6, [.ref a2, .ref a3, .ref a4, .ref a5, .ref a6, .int 0, .int 0])), (a1, .inl (c1, 1066, .inl (fun _ => 0))), (a2, .inl (c2, 5, .inl f2)), (a3, .inl (c3, 5, .inl f3)), (a4, .inl (c4, 5, .inl f4)), (a5, .inl (c5, 5, .inl f5)), (a6, .inl (c6, 4, .inl f6))] s.heap.size = A at hD ⊢
  have hA : ∀ q : Nat, s.heap.size ≤ q → A q := fun q h => by rw [← hAe]; exact Or.inr h
  have hS : va_S A s.heap s.heap [] := va_S.rf
  have hP : va_P (dC, dI) vwCl [(a0, .inr (6, [.ref a2, .ref a3, .ref a4, .ref a5, .ref a6, .int 0, .int 0])), (a1, .inl (c1, 1066, .inl (fun _ => 0))), (a2, .inl (c2, 5, .inl f2)), (a3, .inl (c3, 5, .inl f3)), (a4, .inl (c4, 5, .inl f4)), (a5, .inl (c5, 5, .inl f5)), (a6, .inl (c6, 4, .inl f6))] s.heap := hP
  have hl := lv_entry ([.ref a0, .ref a1, .int 0]) (n := 4) (Nat.le_of_ble_eq_true rfl)
  rw [lg_entry_eq]
  generalize (lg_sl ([.ref a0, .ref a1, .int 0]) ++ List.replicate (4 - (lg_sl ([.ref a0, .ref a1, .int 0])).length) Slot.unset).toArray = ls at hl ⊢
  have hl : lv_has ls 4 [(0, .ref a0), (1, .ref a1), (2, .int 0)] := hl
  refine lv_iload_n hx hb dX7_writeTo_0 rfl (lv_at hl 2 rfl) ?_
  refine lv_bipush (v := 26) hx hb dX7_writeTo_1 (by decide) ?_
  refine lv_imul hx hb dX7_writeTo_3 ?_
  refine wt_c (v := 0) (by decide) ?_
  refine lv_istore_n (lv' := [(3, .int 0), (0, .ref a0), (1, .ref a1), (2, .int 0)]) hx hb dX7_writeTo_4 rfl hl (by decide) rfl (fun ls hl => ?_)
  refine lv_iload_n hx hb dX7_writeTo_5 rfl (lv_at hl 0 rfl) ?_
  refine lv_if_lt (tgt := 18) hx hb dX7_writeTo_6 (by decide) (fun c_1 => absurd c_1 (by decide)) (fun c_1 => ?_)
  refine lv_iload_n hx hb dX7_writeTo_9 rfl (lv_at hl 0 rfl) ?_
  refine lv_bipush (v := 26) hx hb dX7_writeTo_10 (by decide) ?_
  refine lv_iadd hx hb dX7_writeTo_12 ?_
  refine wt_c (v := 26) (by decide) ?_
  refine lv_aload_n hx hb dX7_writeTo_13 rfl (lv_at hl 2 rfl) ?_
  refine va_alen (v := 1066) hx hb hK hP 1 0 rfl rfl (show Int32.ofNat 1066 = 1066 by decide) dX7_writeTo_14 ?_
  refine lv_icmp_le (tgt := 19) hx hb dX7_writeTo_15 (by decide) (fun c_2 => ?_) (fun c_2 => absurd (by decide) c_2)
  refine lv_aload_n hx hb dX7_writeTo_19 rfl (lv_at hl 1 rfl) ?_
  refine va_get (D := (dC, dI)) (ci := 6) (v := .ref a2) (C := RX7) (T := TX7) (N := 7) hx hb hG inX7 hown hK hP 0 rfl rfl 0 (by decide) (hG _ gw351) (fun _ h9 => h9) rfl dX7_writeTo_20 ?_
  refine lv_iconst (v := 0) hx hb dX7_writeTo_23 (by decide) ?_
  refine lv_aload_n hx hb dX7_writeTo_24 rfl (lv_at hl 2 rfl) ?_
  refine lv_iload_n hx hb dX7_writeTo_25 rfl (lv_at hl 0 rfl) ?_
  refine lv_iconst (v := 5) hx hb dX7_writeTo_26 (by decide) ?_
  refine va_copyi (ty := .int) hx hb (hml.trans hl.1.symm) hown (hG _ gw465) (hG _ gw467) (hG _ gw466) (hG _ gw137) hK hP hD hS 2 1 1 0 rfl rfl rfl rfl rfl (by decide) (by decide) (by decide) (by decide) (by decide) (fun _ _ => rfl) (Nat.le_of_ble_eq_true rfl) (Nat.le_of_ble_eq_true rfl) dX7_writeTo_27 (fun H3 locs hP hD hS => ?_)
  obtain ⟨zf4, ezf4⟩ : ∃ z : Nat → Int32, z = va_cpy f2 (fun _ => 0) (0 : Int32).toNatClampNeg (0 : Int32).toNatClampNeg (5 : Int32).toNatClampNeg := ⟨_, rfl⟩
  have hP : va_P (dC, dI) vwCl [(a0, .inr (6, [.ref a2, .ref a3, .ref a4, .ref a5, .ref a6, .int 0, .int 0])), (a1, .inl (c1, 1066, .inl zf4)), (a2, .inl (c2, 5, .inl f2)), (a3, .inl (c3, 5, .inl f3)), (a4, .inl (c4, 5, .inl f4)), (a5, .inl (c5, 5, .inl f5)), (a6, .inl (c6, 4, .inl f6))] H3 := by rw [ezf4]; exact hP
  have hD : va_D A [(a0, .inr (6, [.ref a2, .ref a3, .ref a4, .ref a5, .ref a6, .int 0, .int 0])), (a1, .inl (c1, 1066, .inl zf4)), (a2, .inl (c2, 5, .inl f2)), (a3, .inl (c3, 5, .inl f3)), (a4, .inl (c4, 5, .inl f4)), (a5, .inl (c5, 5, .inl f5)), (a6, .inl (c6, 4, .inl f6))] := by rw [ezf4]; exact hD
  refine lv_aload_n hx hb dX7_writeTo_30 rfl (lv_at hl 1 rfl) ?_
  refine va_get (D := (dC, dI)) (ci := 6) (v := .ref a3) (C := RX7) (T := TX7) (N := 7) hx hb hG inX7 hown hK hP 0 rfl rfl 1 (by decide) (hG _ gw353) (fun _ h9 => h9) rfl dX7_writeTo_31 ?_
  refine lv_iconst (v := 0) hx hb dX7_writeTo_34 (by decide) ?_
  refine lv_aload_n hx hb dX7_writeTo_35 rfl (lv_at hl 2 rfl) ?_
  refine lv_iload_n hx hb dX7_writeTo_36 rfl (lv_at hl 0 rfl) ?_
  refine lv_iconst (v := 5) hx hb dX7_writeTo_37 (by decide) ?_
  refine lv_iadd hx hb dX7_writeTo_38 ?_
  refine wt_c (v := 5) (by decide) ?_
  refine lv_iconst (v := 5) hx hb dX7_writeTo_39 (by decide) ?_
  refine va_copyi (ty := .int) hx hb (hml.trans hl.1.symm) hown (hG _ gw465) (hG _ gw467) (hG _ gw466) (hG _ gw137) hK hP hD hS 3 1 2 0 rfl rfl rfl rfl rfl (by decide) (by decide) (by decide) (by decide) (by decide) (fun _ _ => rfl) (Nat.le_of_ble_eq_true rfl) (Nat.le_of_ble_eq_true rfl) dX7_writeTo_40 (fun H5 locs hP hD hS => ?_)
  obtain ⟨zf6, ezf6⟩ : ∃ z : Nat → Int32, z = va_cpy f3 zf4 (0 : Int32).toNatClampNeg (5 : Int32).toNatClampNeg (5 : Int32).toNatClampNeg := ⟨_, rfl⟩
  have hP : va_P (dC, dI) vwCl [(a0, .inr (6, [.ref a2, .ref a3, .ref a4, .ref a5, .ref a6, .int 0, .int 0])), (a1, .inl (c1, 1066, .inl zf6)), (a2, .inl (c2, 5, .inl f2)), (a3, .inl (c3, 5, .inl f3)), (a4, .inl (c4, 5, .inl f4)), (a5, .inl (c5, 5, .inl f5)), (a6, .inl (c6, 4, .inl f6))] H5 := by rw [ezf6]; exact hP
  have hD : va_D A [(a0, .inr (6, [.ref a2, .ref a3, .ref a4, .ref a5, .ref a6, .int 0, .int 0])), (a1, .inl (c1, 1066, .inl zf6)), (a2, .inl (c2, 5, .inl f2)), (a3, .inl (c3, 5, .inl f3)), (a4, .inl (c4, 5, .inl f4)), (a5, .inl (c5, 5, .inl f5)), (a6, .inl (c6, 4, .inl f6))] := by rw [ezf6]; exact hD
  refine lv_aload_n hx hb dX7_writeTo_43 rfl (lv_at hl 1 rfl) ?_
  refine va_get (D := (dC, dI)) (ci := 6) (v := .ref a4) (C := RX7) (T := TX7) (N := 7) hx hb hG inX7 hown hK hP 0 rfl rfl 2 (by decide) (hG _ gw355) (fun _ h9 => h9) rfl dX7_writeTo_44 ?_
  refine lv_iconst (v := 0) hx hb dX7_writeTo_47 (by decide) ?_
  refine lv_aload_n hx hb dX7_writeTo_48 rfl (lv_at hl 2 rfl) ?_
  refine lv_iload_n hx hb dX7_writeTo_49 rfl (lv_at hl 0 rfl) ?_
  refine lv_bipush (v := 10) hx hb dX7_writeTo_50 (by decide) ?_
  refine lv_iadd hx hb dX7_writeTo_52 ?_
  refine wt_c (v := 10) (by decide) ?_
  refine lv_iconst (v := 5) hx hb dX7_writeTo_53 (by decide) ?_
  refine va_copyi (ty := .int) hx hb (hml.trans hl.1.symm) hown (hG _ gw465) (hG _ gw467) (hG _ gw466) (hG _ gw137) hK hP hD hS 4 1 3 0 rfl rfl rfl rfl rfl (by decide) (by decide) (by decide) (by decide) (by decide) (fun _ _ => rfl) (Nat.le_of_ble_eq_true rfl) (Nat.le_of_ble_eq_true rfl) dX7_writeTo_54 (fun H7 locs hP hD hS => ?_)
  obtain ⟨zf8, ezf8⟩ : ∃ z : Nat → Int32, z = va_cpy f4 zf6 (0 : Int32).toNatClampNeg (10 : Int32).toNatClampNeg (5 : Int32).toNatClampNeg := ⟨_, rfl⟩
  have hP : va_P (dC, dI) vwCl [(a0, .inr (6, [.ref a2, .ref a3, .ref a4, .ref a5, .ref a6, .int 0, .int 0])), (a1, .inl (c1, 1066, .inl zf8)), (a2, .inl (c2, 5, .inl f2)), (a3, .inl (c3, 5, .inl f3)), (a4, .inl (c4, 5, .inl f4)), (a5, .inl (c5, 5, .inl f5)), (a6, .inl (c6, 4, .inl f6))] H7 := by rw [ezf8]; exact hP
  have hD : va_D A [(a0, .inr (6, [.ref a2, .ref a3, .ref a4, .ref a5, .ref a6, .int 0, .int 0])), (a1, .inl (c1, 1066, .inl zf8)), (a2, .inl (c2, 5, .inl f2)), (a3, .inl (c3, 5, .inl f3)), (a4, .inl (c4, 5, .inl f4)), (a5, .inl (c5, 5, .inl f5)), (a6, .inl (c6, 4, .inl f6))] := by rw [ezf8]; exact hD
  refine lv_aload_n hx hb dX7_writeTo_57 rfl (lv_at hl 1 rfl) ?_
  refine va_get (D := (dC, dI)) (ci := 6) (v := .ref a5) (C := RX7) (T := TX7) (N := 7) hx hb hG inX7 hown hK hP 0 rfl rfl 3 (by decide) (hG _ gw357) (fun _ h9 => h9) rfl dX7_writeTo_58 ?_
  refine lv_iconst (v := 0) hx hb dX7_writeTo_61 (by decide) ?_
  refine lv_aload_n hx hb dX7_writeTo_62 rfl (lv_at hl 2 rfl) ?_
  refine lv_iload_n hx hb dX7_writeTo_63 rfl (lv_at hl 0 rfl) ?_
  refine lv_bipush (v := 15) hx hb dX7_writeTo_64 (by decide) ?_
  refine lv_iadd hx hb dX7_writeTo_66 ?_
  refine wt_c (v := 15) (by decide) ?_
  refine lv_iconst (v := 5) hx hb dX7_writeTo_67 (by decide) ?_
  refine va_copyi (ty := .int) hx hb (hml.trans hl.1.symm) hown (hG _ gw465) (hG _ gw467) (hG _ gw466) (hG _ gw137) hK hP hD hS 5 1 4 0 rfl rfl rfl rfl rfl (by decide) (by decide) (by decide) (by decide) (by decide) (fun _ _ => rfl) (Nat.le_of_ble_eq_true rfl) (Nat.le_of_ble_eq_true rfl) dX7_writeTo_68 (fun H9 locs hP hD hS => ?_)
  obtain ⟨zf10, ezf10⟩ : ∃ z : Nat → Int32, z = va_cpy f5 zf8 (0 : Int32).toNatClampNeg (15 : Int32).toNatClampNeg (5 : Int32).toNatClampNeg := ⟨_, rfl⟩
  have hP : va_P (dC, dI) vwCl [(a0, .inr (6, [.ref a2, .ref a3, .ref a4, .ref a5, .ref a6, .int 0, .int 0])), (a1, .inl (c1, 1066, .inl zf10)), (a2, .inl (c2, 5, .inl f2)), (a3, .inl (c3, 5, .inl f3)), (a4, .inl (c4, 5, .inl f4)), (a5, .inl (c5, 5, .inl f5)), (a6, .inl (c6, 4, .inl f6))] H9 := by rw [ezf10]; exact hP
  have hD : va_D A [(a0, .inr (6, [.ref a2, .ref a3, .ref a4, .ref a5, .ref a6, .int 0, .int 0])), (a1, .inl (c1, 1066, .inl zf10)), (a2, .inl (c2, 5, .inl f2)), (a3, .inl (c3, 5, .inl f3)), (a4, .inl (c4, 5, .inl f4)), (a5, .inl (c5, 5, .inl f5)), (a6, .inl (c6, 4, .inl f6))] := by rw [ezf10]; exact hD
  refine lv_aload_n hx hb dX7_writeTo_71 rfl (lv_at hl 1 rfl) ?_
  refine va_get (D := (dC, dI)) (ci := 6) (v := .ref a6) (C := RX7) (T := TX7) (N := 7) hx hb hG inX7 hown hK hP 0 rfl rfl 4 (by decide) (hG _ gw359) (fun _ h9 => h9) rfl dX7_writeTo_72 ?_
  refine lv_iconst (v := 0) hx hb dX7_writeTo_75 (by decide) ?_
  refine lv_aload_n hx hb dX7_writeTo_76 rfl (lv_at hl 2 rfl) ?_
  refine lv_iload_n hx hb dX7_writeTo_77 rfl (lv_at hl 0 rfl) ?_
  refine lv_bipush (v := 20) hx hb dX7_writeTo_78 (by decide) ?_
  refine lv_iadd hx hb dX7_writeTo_80 ?_
  refine wt_c (v := 20) (by decide) ?_
  refine lv_iconst (v := 4) hx hb dX7_writeTo_81 (by decide) ?_
  refine va_copyi (ty := .int) hx hb (hml.trans hl.1.symm) hown (hG _ gw465) (hG _ gw467) (hG _ gw466) (hG _ gw137) hK hP hD hS 6 1 5 0 rfl rfl rfl rfl rfl (by decide) (by decide) (by decide) (by decide) (by decide) (fun _ _ => rfl) (Nat.le_of_ble_eq_true rfl) (Nat.le_of_ble_eq_true rfl) dX7_writeTo_82 (fun H11 locs hP hD hS => ?_)
  obtain ⟨zf12, ezf12⟩ : ∃ z : Nat → Int32, z = va_cpy f6 zf10 (0 : Int32).toNatClampNeg (20 : Int32).toNatClampNeg (4 : Int32).toNatClampNeg := ⟨_, rfl⟩
  have hP : va_P (dC, dI) vwCl [(a0, .inr (6, [.ref a2, .ref a3, .ref a4, .ref a5, .ref a6, .int 0, .int 0])), (a1, .inl (c1, 1066, .inl zf12)), (a2, .inl (c2, 5, .inl f2)), (a3, .inl (c3, 5, .inl f3)), (a4, .inl (c4, 5, .inl f4)), (a5, .inl (c5, 5, .inl f5)), (a6, .inl (c6, 4, .inl f6))] H11 := by rw [ezf12]; exact hP
  have hD : va_D A [(a0, .inr (6, [.ref a2, .ref a3, .ref a4, .ref a5, .ref a6, .int 0, .int 0])), (a1, .inl (c1, 1066, .inl zf12)), (a2, .inl (c2, 5, .inl f2)), (a3, .inl (c3, 5, .inl f3)), (a4, .inl (c4, 5, .inl f4)), (a5, .inl (c5, 5, .inl f5)), (a6, .inl (c6, 4, .inl f6))] := by rw [ezf12]; exact hD
  refine lv_aload_n hx hb dX7_writeTo_85 rfl (lv_at hl 2 rfl) ?_
  refine lv_iload_n hx hb dX7_writeTo_86 rfl (lv_at hl 0 rfl) ?_
  refine lv_bipush (v := 26) hx hb dX7_writeTo_87 (by decide) ?_
  refine lv_iadd hx hb dX7_writeTo_89 ?_
  refine wt_c (v := 26) (by decide) ?_
  refine lv_iconst (v := 2) hx hb dX7_writeTo_90 (by decide) ?_
  refine lv_isub hx hb dX7_writeTo_91 ?_
  refine wt_c (v := 24) (by decide) ?_
  refine lv_aload_n hx hb dX7_writeTo_92 rfl (lv_at hl 1 rfl) ?_
  refine va_get (D := (dC, dI)) (ci := 6) (v := .int 0) (C := RX7) (T := TX7) (N := 7) hx hb hG inX7 hown hK hP 0 rfl rfl 5 (by decide) (hG _ gw361) (fun _ h9 => h9) rfl dX7_writeTo_93 ?_
  refine va_iast hx hb hK hP hD hS 1 0 rfl rfl (vin (by decide)) dX7_writeTo_96 (fun H13 locs hP hD hS => ?_)
  obtain ⟨zf14, ezf14⟩ : ∃ z : Nat → Int32, z = upd zf12 (24 : Int32).toNatClampNeg 0 := ⟨_, rfl⟩
  have hP : va_P (dC, dI) vwCl [(a0, .inr (6, [.ref a2, .ref a3, .ref a4, .ref a5, .ref a6, .int 0, .int 0])), (a1, .inl (c1, 1066, .inl zf14)), (a2, .inl (c2, 5, .inl f2)), (a3, .inl (c3, 5, .inl f3)), (a4, .inl (c4, 5, .inl f4)), (a5, .inl (c5, 5, .inl f5)), (a6, .inl (c6, 4, .inl f6))] H13 := by rw [ezf14]; exact hP
  have hD : va_D A [(a0, .inr (6, [.ref a2, .ref a3, .ref a4, .ref a5, .ref a6, .int 0, .int 0])), (a1, .inl (c1, 1066, .inl zf14)), (a2, .inl (c2, 5, .inl f2)), (a3, .inl (c3, 5, .inl f3)), (a4, .inl (c4, 5, .inl f4)), (a5, .inl (c5, 5, .inl f5)), (a6, .inl (c6, 4, .inl f6))] := by rw [ezf14]; exact hD
  refine lv_aload_n hx hb dX7_writeTo_97 rfl (lv_at hl 2 rfl) ?_
  refine lv_iload_n hx hb dX7_writeTo_98 rfl (lv_at hl 0 rfl) ?_
  refine lv_bipush (v := 26) hx hb dX7_writeTo_99 (by decide) ?_
  refine lv_iadd hx hb dX7_writeTo_101 ?_
  refine wt_c (v := 26) (by decide) ?_
  refine lv_iconst (v := 1) hx hb dX7_writeTo_102 (by decide) ?_
  refine lv_isub hx hb dX7_writeTo_103 ?_
  refine wt_c (v := 25) (by decide) ?_
  refine lv_aload_n hx hb dX7_writeTo_104 rfl (lv_at hl 1 rfl) ?_
  refine va_get (D := (dC, dI)) (ci := 6) (v := .int 0) (C := RX7) (T := TX7) (N := 7) hx hb hG inX7 hown hK hP 0 rfl rfl 6 (by decide) (hG _ gw363) (fun _ h9 => h9) rfl dX7_writeTo_105 ?_
  refine va_iast hx hb hK hP hD hS 1 0 rfl rfl (vin (by decide)) dX7_writeTo_108 (fun H15 locs hP hD hS => ?_)
  obtain ⟨zf16, ezf16⟩ : ∃ z : Nat → Int32, z = upd zf14 (25 : Int32).toNatClampNeg 0 := ⟨_, rfl⟩
  have hP : va_P (dC, dI) vwCl [(a0, .inr (6, [.ref a2, .ref a3, .ref a4, .ref a5, .ref a6, .int 0, .int 0])), (a1, .inl (c1, 1066, .inl zf16)), (a2, .inl (c2, 5, .inl f2)), (a3, .inl (c3, 5, .inl f3)), (a4, .inl (c4, 5, .inl f4)), (a5, .inl (c5, 5, .inl f5)), (a6, .inl (c6, 4, .inl f6))] H15 := by rw [ezf16]; exact hP
  have hD : va_D A [(a0, .inr (6, [.ref a2, .ref a3, .ref a4, .ref a5, .ref a6, .int 0, .int 0])), (a1, .inl (c1, 1066, .inl zf16)), (a2, .inl (c2, 5, .inl f2)), (a3, .inl (c3, 5, .inl f3)), (a4, .inl (c4, 5, .inl f4)), (a5, .inl (c5, 5, .inl f5)), (a6, .inl (c6, 4, .inl f6))] := by rw [ezf16]; exact hD
  have hP9 := hP.sub (ws' := [(a0, .inr (6, [.ref a2, .ref a3, .ref a4, .ref a5, .ref a6, .int 0, .int 0])), (a1, .inl (c1, 1066, .inl zf16)), (a2, .inl (c2, 5, .inl f2)), (a3, .inl (c3, 5, .inl f3)), (a4, .inl (c4, 5, .inl f4)), (a5, .inl (c5, 5, .inl f5)), (a6, .inl (c6, 4, .inl f6))]) [0, 1, 2, 3, 4, 5, 6] rfl
  have hD9 := hD.sub (ws' := [(a0, .inr (6, [.ref a2, .ref a3, .ref a4, .ref a5, .ref a6, .int 0, .int 0])), (a1, .inl (c1, 1066, .inl zf16)), (a2, .inl (c2, 5, .inl f2)), (a3, .inl (c3, 5, .inl f3)), (a4, .inl (c4, 5, .inl f4)), (a5, .inl (c5, 5, .inl f5)), (a6, .inl (c6, 4, .inl f6))]) [0, 1, 2, 3, 4, 5, 6] (by decide) rfl
  exact W.vret hx hb hr (fun t ht hW => ⟨⟨(), rfl, trivial, ⟨zf16, by rw [ht]; exact hP9, hD9⟩⟩, hS.F ht⟩) hS.2.2 dX7_writeTo_109
set_option maxHeartbeats 4000000 in
set_option maxRecDepth 100000 in
theorem kX0_begin (l : Launch) (dC : Nat → ClassId) (dI : Nat → Nat → Nat) (a0 a2 a1 a3 a4 a5 a6 a7 : Nat) (c2 c3 c4 c5 c6 c7 : ClassId) (f3 : Nat → Int32) (f4 : Nat → Int32) (f5 : Nat → Int32) (f6 : Nat → Int32) (f7 : Nat → Int32) (sz : Nat) : Met l yX0_begin (.code yX0_begin cX0_begin 2 none :: GW) { frames := 4, cells := 0, slots := 0, locals := 163 } (va_Pc [.ref a0, .ref a1] (pW (dC, dI) [(a0, .inr (0, [.ref a2, .int 0, .int 0])), (a1, .inr (6, [.ref a3, .ref a4, .ref a5, .ref a6, .ref a7, .int 0, .int 0])), (a2, .inl (c2, 1066, .inl (fun _ => 0))), (a3, .inl (c3, 5, .inl f3)), (a4, .inl (c4, 5, .inl f4)), (a5, .inl (c5, 5, .inl f5)), (a6, .inl (c6, 5, .inl f6)), (a7, .inl (c7, 4, .inl f7))] [(c2, .int), (c3, .int), (c4, .int), (c5, .int), (c6, .int), (c7, .int)] sz)) (va_Qv (fun _ : Unit => True) (fun (_ : Unit) (t : State) => ∃ (F0 : Nat → Int32), va_P (dC, dI) vwCl [(a0, .inr (0, [.ref a2, .int 0, .int 0])), (a1, .inr (6, [.ref a3, .ref a4, .ref a5, .ref a6, .ref a7, .int 0, .int 0])), (a2, .inl (c2, 1066, .inl F0)), (a3, .inl (c3, 5, .inl f3)), (a4, .inl (c4, 5, .inl f4)), (a5, .inl (c5, 5, .inl f5)), (a6, .inl (c6, 5, .inl f6)), (a7, .inl (c7, 4, .inl f7))] t.heap ∧ va_D (va_A [(a0, .inr (0, [.ref a2, .int 0, .int 0])), (a1, .inr (6, [.ref a3, .ref a4, .ref a5, .ref a6, .ref a7, .int 0, .int 0])), (a2, .inl (c2, 1066, .inl (fun _ => 0))), (a3, .inl (c3, 5, .inl f3)), (a4, .inl (c4, 5, .inl f4)), (a5, .inl (c5, 5, .inl f5)), (a6, .inl (c6, 5, .inl f6)), (a7, .inl (c7, 4, .inl f7))] sz) [(a0, .inr (0, [.ref a2, .int 0, .int 0])), (a1, .inr (6, [.ref a3, .ref a4, .ref a5, .ref a6, .ref a7, .int 0, .int 0])), (a2, .inl (c2, 1066, .inl F0)), (a3, .inl (c3, 5, .inl f3)), (a4, .inl (c4, 5, .inl f4)), (a5, .inl (c5, 5, .inl f5)), (a6, .inl (c6, 5, .inl f6)), (a7, .inl (c7, 4, .inl f7))]) (va_A [(a0, .inr (0, [.ref a2, .int 0, .int 0])), (a1, .inr (6, [.ref a3, .ref a4, .ref a5, .ref a6, .ref a7, .int 0, .int 0])), (a2, .inl (c2, 1066, .inl (fun _ => 0))), (a3, .inl (c3, 5, .inl f3)), (a4, .inl (c4, 5, .inl f4)), (a5, .inl (c5, 5, .inl f5)), (a6, .inl (c6, 5, .inl f6)), (a7, .inl (c7, 4, .inl f7))] sz)) 0 0 (va_A [(a0, .inr (0, [.ref a2, .int 0, .int 0])), (a1, .inr (6, [.ref a3, .ref a4, .ref a5, .ref a6, .ref a7, .int 0, .int 0])), (a2, .inl (c2, 1066, .inl (fun _ => 0))), (a3, .inl (c3, 5, .inl f3)), (a4, .inl (c4, 5, .inl f4)), (a5, .inl (c5, 5, .inl f5)), (a6, .inl (c6, 5, .inl f6)), (a7, .inl (c7, 4, .inl f7))] sz) := by
  refine Met.ofW (cc := cX0_begin) (maxL := 2) (ret := none) (by decide) rfl ?_
  intro p e s m args below meth c0 s₁ B hml hv
  obtain ⟨rfl, hsz, hP, hK, hD0⟩ := hv
  have hx := B.exec
  have hb := B.bytes
  have hr := B.returns
  have hts := atoms_spec (ws := .code yX0_begin cX0_begin 2 none :: GW) B.pre
  have hG : ∀ w ∈ GW, w.before _ s = true := fun w h => hts w (List.mem_cons_of_mem _ h)
  have hown : s.vm.findClass RX0 = some m.cls := findClass_of_methodNamed B.named
  have hlocks := B.notSynchronized
  subst hsz
  have hD := hD0.self (sz := s.heap.size)
  generalize hAe : va_A [(a0, .inr (0, [.ref a2, .int 0, .int 0])), (a1, .inr (6, [.ref a3, .ref a4, .ref a5, .ref a6, .ref a7, .int 0, .int 0])), (a2, .inl (c2, 1066, .inl (fun _ => 0))), (a3, .inl (c3, 5, .inl f3)), (a4, .inl (c4, 5, .inl f4)), (a5, .inl (c5, 5, .inl f5)), (a6, .inl (c6, 5, .inl f6)), (a7, .inl (c7, 4, .inl f7))] s.heap.size = A at hD ⊢
  have hA : ∀ q : Nat, s.heap.size ≤ q → A q := fun q h => by rw [← hAe]; exact Or.inr h
  have hS : va_S A s.heap s.heap [] := va_S.rf
  have hP : va_P (dC, dI) vwCl [(a0, .inr (0, [.ref a2, .int 0, .int 0])), (a1, .inr (6, [.ref a3, .ref a4, .ref a5, .ref a6, .ref a7, .int 0, .int 0])), (a2, .inl (c2, 1066, .inl (fun _ => 0))), (a3, .inl (c3, 5, .inl f3)), (a4, .inl (c4, 5, .inl f4)), (a5, .inl (c5, 5, .inl f5)), (a6, .inl (c6, 5, .inl f6)), (a7, .inl (c7, 4, .inl f7))] s.heap := hP
  have hl := lv_entry ([.ref a0, .ref a1]) (n := 2) (Nat.le_of_ble_eq_true rfl)
  rw [lg_entry_eq]
  generalize (lg_sl ([.ref a0, .ref a1]) ++ List.replicate (2 - (lg_sl ([.ref a0, .ref a1])).length) Slot.unset).toArray = ls at hl ⊢
  have hl : lv_has ls 2 [(0, .ref a0), (1, .ref a1)] := hl
  refine lv_aload_n hx hb dX0_begin_0 rfl (lv_at hl 0 rfl) ?_
  refine lv_iconst (v := 0) hx hb dX0_begin_1 (by decide) ?_
  refine va_put (D := (dC, dI)) (ci := 0) (v := .int 0) (ty := .int) (C := RX0) (T := TX0) (N := 3) hx hb hG inX0 tyX0 tyX0_ok nmX0 hown hK hP hD hS 0 rfl rfl 1 (by decide) (hG _ gw387) (fun _ h9 => h9) rfl (by decide +kernel) rfl rfl (Nat.le_of_ble_eq_true rfl) dX0_begin_2 (fun H1 locs hP hD hS => ?_)
  have hP : va_P (dC, dI) vwCl [(a0, .inr (0, [.ref a2, .int 0, .int 0])), (a1, .inr (6, [.ref a3, .ref a4, .ref a5, .ref a6, .ref a7, .int 0, .int 0])), (a2, .inl (c2, 1066, .inl (fun _ => 0))), (a3, .inl (c3, 5, .inl f3)), (a4, .inl (c4, 5, .inl f4)), (a5, .inl (c5, 5, .inl f5)), (a6, .inl (c6, 5, .inl f6)), (a7, .inl (c7, 4, .inl f7))] H1 := hP
  have hD : va_D A [(a0, .inr (0, [.ref a2, .int 0, .int 0])), (a1, .inr (6, [.ref a3, .ref a4, .ref a5, .ref a6, .ref a7, .int 0, .int 0])), (a2, .inl (c2, 1066, .inl (fun _ => 0))), (a3, .inl (c3, 5, .inl f3)), (a4, .inl (c4, 5, .inl f4)), (a5, .inl (c5, 5, .inl f5)), (a6, .inl (c6, 5, .inl f6)), (a7, .inl (c7, 4, .inl f7))] := hD
  refine lv_aload_n hx hb dX0_begin_5 rfl (lv_at hl 0 rfl) ?_
  refine lv_iconst (v := 0) hx hb dX0_begin_6 (by decide) ?_
  refine va_put (D := (dC, dI)) (ci := 0) (v := .int 0) (ty := .int) (C := RX0) (T := TX0) (N := 3) hx hb hG inX0 tyX0 tyX0_ok nmX0 hown hK hP hD hS 0 rfl rfl 2 (by decide) (hG _ gw389) (fun _ h9 => h9) rfl (by decide +kernel) rfl rfl (Nat.le_of_ble_eq_true rfl) dX0_begin_7 (fun H2 locs hP hD hS => ?_)
  have hP : va_P (dC, dI) vwCl [(a0, .inr (0, [.ref a2, .int 0, .int 0])), (a1, .inr (6, [.ref a3, .ref a4, .ref a5, .ref a6, .ref a7, .int 0, .int 0])), (a2, .inl (c2, 1066, .inl (fun _ => 0))), (a3, .inl (c3, 5, .inl f3)), (a4, .inl (c4, 5, .inl f4)), (a5, .inl (c5, 5, .inl f5)), (a6, .inl (c6, 5, .inl f6)), (a7, .inl (c7, 4, .inl f7))] H2 := hP
  have hD : va_D A [(a0, .inr (0, [.ref a2, .int 0, .int 0])), (a1, .inr (6, [.ref a3, .ref a4, .ref a5, .ref a6, .ref a7, .int 0, .int 0])), (a2, .inl (c2, 1066, .inl (fun _ => 0))), (a3, .inl (c3, 5, .inl f3)), (a4, .inl (c4, 5, .inl f4)), (a5, .inl (c5, 5, .inl f5)), (a6, .inl (c6, 5, .inl f6)), (a7, .inl (c7, 4, .inl f7))] := hD
  refine lv_aload_n hx hb dX0_begin_10 rfl (lv_at hl 1 rfl) ?_
  refine lv_aload_n hx hb dX0_begin_11 rfl (lv_at hl 0 rfl) ?_
  refine va_get (D := (dC, dI)) (ci := 0) (v := .ref a2) (C := RX0) (T := TX0) (N := 3) hx hb hG inX0 hown hK hP 0 rfl rfl 0 (by decide) (hG _ gw386) (fun _ h9 => h9) rfl dX0_begin_12 ?_
  refine lv_iconst (v := 0) hx hb dX0_begin_15 (by decide) ?_
  have hPc := hP.sub (ws' := [(a1, .inr (6, [.ref a3, .ref a4, .ref a5, .ref a6, .ref a7, .int 0, .int 0])), (a2, .inl (c2, 1066, .inl (fun _ => 0))), (a3, .inl (c3, 5, .inl f3)), (a4, .inl (c4, 5, .inl f4)), (a5, .inl (c5, 5, .inl f5)), (a6, .inl (c6, 5, .inl f6)), (a7, .inl (c7, 4, .inl f7))]) [1, 2, 3, 4, 5, 6, 7] rfl
  have hKc := hK.sub (tys' := [(c2, .int), (c3, .int), (c4, .int), (c5, .int), (c6, .int), (c7, .int)]) [0, 1, 2, 3, 4, 5] rfl
  have hDc := hD.sub (ws' := [(a1, .inr (6, [.ref a3, .ref a4, .ref a5, .ref a6, .ref a7, .int 0, .int 0])), (a2, .inl (c2, 1066, .inl (fun _ => 0))), (a3, .inl (c3, 5, .inl f3)), (a4, .inl (c4, 5, .inl f4)), (a5, .inl (c5, 5, .inl f5)), (a6, .inl (c6, 5, .inl f6)), (a7, .inl (c7, 4, .inl f7))]) [1, 2, 3, 4, 5, 6, 7] (by decide) rfl
  have hFc := va_free (wc := [(a1, .inr (6, [.ref a3, .ref a4, .ref a5, .ref a6, .ref a7, .int 0, .int 0])), (a2, .inl (c2, 1066, .inl (fun _ => 0))), (a3, .inl (c3, 5, .inl f3)), (a4, .inl (c4, 5, .inl f4)), (a5, .inl (c5, 5, .inl f5)), (a6, .inl (c6, 5, .inl f6)), (a7, .inl (c7, 4, .inl f7))]) hD hS hA [1, 2, 3, 4, 5, 6, 7] rfl
  refine va_callv (va_runV (As := [.ref a2, .int 0]) (rest := []) ⟨hx, hb, hml, hown, hG⟩ (kX7_writeTo l dC dI a1 a3 a4 a5 a6 a7 a2 c2 c3 c4 c5 c6 c7 f3 f4 f5 f6 f7 H2.size ) (cwV 2 hG (goodV gw461 gw462 gw463 gw134 gw464) rfl rfl rfl hd_X7_writeTo ⟨(Nat.le_of_ble_eq_true rfl), (Nat.le_of_ble_eq_true rfl)⟩) ⟨fbW, va_recv hKc hPc (ci := 6) (q0 := 0) rfl rfl, pW_in hPc hKc hDc⟩ rfl rfl hl.1 rfl (lv_room (Nat.le_of_ble_eq_true rfl)) dX0_begin_16 ⟨(Nat.le_of_ble_eq_true rfl), (Nat.le_of_ble_eq_true rfl)⟩) hS (fun q _ h => hFc q h) hFc (fun u t H3 locs ht hvm hw hB hz1 hk1 hS => ?_)
  obtain ⟨zf5, hP1, hD1⟩ := hB
  rw [ht] at hP1
  obtain ⟨hP, hD⟩ := va_join (wr := [(a0, .inr (0, [.ref a2, .int 0, .int 0]))]) (w1 := [(a1, .inr (6, [.ref a3, .ref a4, .ref a5, .ref a6, .ref a7, .int 0, .int 0])), (a2, .inl (c2, 1066, .inl zf5)), (a3, .inl (c3, 5, .inl f3)), (a4, .inl (c4, 5, .inl f4)), (a5, .inl (c5, 5, .inl f5)), (a6, .inl (c6, 5, .inl f6)), (a7, .inl (c7, 4, .inl f7))]) hP hD [1, 2, 3, 4, 5, 6, 7] [0] rfl rfl (by decide) (by decide) hk1 hFc hP1 hD1
  have hP : va_P (dC, dI) vwCl [(a0, .inr (0, [.ref a2, .int 0, .int 0])), (a1, .inr (6, [.ref a3, .ref a4, .ref a5, .ref a6, .ref a7, .int 0, .int 0])), (a2, .inl (c2, 1066, .inl zf5)), (a3, .inl (c3, 5, .inl f3)), (a4, .inl (c4, 5, .inl f4)), (a5, .inl (c5, 5, .inl f5)), (a6, .inl (c6, 5, .inl f6)), (a7, .inl (c7, 4, .inl f7))] H3 := hP
  have hD : va_D A [(a0, .inr (0, [.ref a2, .int 0, .int 0])), (a1, .inr (6, [.ref a3, .ref a4, .ref a5, .ref a6, .ref a7, .int 0, .int 0])), (a2, .inl (c2, 1066, .inl zf5)), (a3, .inl (c3, 5, .inl f3)), (a4, .inl (c4, 5, .inl f4)), (a5, .inl (c5, 5, .inl f5)), (a6, .inl (c6, 5, .inl f6)), (a7, .inl (c7, 4, .inl f7))] := hD
  have hP9 := hP.sub (ws' := [(a0, .inr (0, [.ref a2, .int 0, .int 0])), (a1, .inr (6, [.ref a3, .ref a4, .ref a5, .ref a6, .ref a7, .int 0, .int 0])), (a2, .inl (c2, 1066, .inl zf5)), (a3, .inl (c3, 5, .inl f3)), (a4, .inl (c4, 5, .inl f4)), (a5, .inl (c5, 5, .inl f5)), (a6, .inl (c6, 5, .inl f6)), (a7, .inl (c7, 4, .inl f7))]) [0, 1, 2, 3, 4, 5, 6, 7] rfl
  have hD9 := hD.sub (ws' := [(a0, .inr (0, [.ref a2, .int 0, .int 0])), (a1, .inr (6, [.ref a3, .ref a4, .ref a5, .ref a6, .ref a7, .int 0, .int 0])), (a2, .inl (c2, 1066, .inl zf5)), (a3, .inl (c3, 5, .inl f3)), (a4, .inl (c4, 5, .inl f4)), (a5, .inl (c5, 5, .inl f5)), (a6, .inl (c6, 5, .inl f6)), (a7, .inl (c7, 4, .inl f7))]) [0, 1, 2, 3, 4, 5, 6, 7] (by decide) rfl
  exact W.vret hx hb hr (fun t ht hW => ⟨⟨(), rfl, trivial, ⟨zf5, by rw [ht]; exact hP9, hD9⟩⟩, hS.F ht⟩) hS.2.2 dX0_begin_19
