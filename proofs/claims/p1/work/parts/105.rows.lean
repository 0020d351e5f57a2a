set_option maxHeartbeats 4000000 in
set_option maxRecDepth 100000 in
theorem kX8_putBytes (l : Launch) (dC : Nat → ClassId) (dI : Nat → Nat → Nat) (r : Nat → Nat) (c : Nat → ClassId) (p0 : Int32) (sz : Nat) : Met l yX8_putBytes (.code yX8_putBytes cX8_putBytes 3 none :: GW) { frames := 2, cells := 0, slots := 0, locals := 100 } (va_Pc [.ref (r 0), .int p0] (pW (dC, dI) [(r 0, .inr (7, [.ref (r 1), .int 0, .ref (r 2), .ref (r 55), .ref (r 57), .ref (r 30), .ref (r 56), .ref (r 36), .ref (r 37), .ref (r 38), .int 0, .ref (r 51), .int 0, .ref (r 52), .ref (r 53), .ref (r 54)])), (r 1, .inl ((c 1), 1600, .inl (fun _ => 0)))] [((c 1), .byte)] sz)) (va_Qv (fun _ : Unit => True) (fun (_ : Unit) (t : State) => ∃ (F0 : Nat → Int32), va_P (dC, dI) vwCl [(r 0, .inr (7, [.ref (r 1), .int 4, .ref (r 2), .ref (r 55), .ref (r 57), .ref (r 30), .ref (r 56), .ref (r 36), .ref (r 37), .ref (r 38), .int 0, .ref (r 51), .int 0, .ref (r 52), .ref (r 53), .ref (r 54)])), (r 1, .inl ((c 1), 1600, .inl F0))] t.heap ∧ va_D (va_A [(r 0, .inr (7, [.ref (r 1), .int 0, .ref (r 2), .ref (r 55), .ref (r 57), .ref (r 30), .ref (r 56), .ref (r 36), .ref (r 37), .ref (r 38), .int 0, .ref (r 51), .int 0, .ref (r 52), .ref (r 53), .ref (r 54)])), (r 1, .inl ((c 1), 1600, .inl (fun _ => 0)))] sz) [(r 0, .inr (7, [.ref (r 1), .int 4, .ref (r 2), .ref (r 55), .ref (r 57), .ref (r 30), .ref (r 56), .ref (r 36), .ref (r 37), .ref (r 38), .int 0, .ref (r 51), .int 0, .ref (r 52), .ref (r 53), .ref (r 54)])), (r 1, .inl ((c 1), 1600, .inl F0))]) (va_A [(r 0, .inr (7, [.ref (r 1), .int 0, .ref (r 2), .ref (r 55), .ref (r 57), .ref (r 30), .ref (r 56), .ref (r 36), .ref (r 37), .ref (r 38), .int 0, .ref (r 51), .int 0, .ref (r 52), .ref (r 53), .ref (r 54)])), (r 1, .inl ((c 1), 1600, .inl (fun _ => 0)))] sz)) 0 0 (va_A [(r 0, .inr (7, [.ref (r 1), .int 0, .ref (r 2), .ref (r 55), .ref (r 57), .ref (r 30), .ref (r 56), .ref (r 36), .ref (r 37), .ref (r 38), .int 0, .ref (r 51), .int 0, .ref (r 52), .ref (r 53), .ref (r 54)])), (r 1, .inl ((c 1), 1600, .inl (fun _ => 0)))] sz) := by
  refine Met.ofW (cc := cX8_putBytes) (maxL := 3) (ret := none) (by decide) rfl ?_
  intro p e s m args below meth c0 s₁ B hml hv
  obtain ⟨rfl, hsz, hP, hK, hD0⟩ := hv
  have hx := B.exec
  have hb := B.bytes
  have hr := B.returns
  have hts := atoms_spec (ws := .code yX8_putBytes cX8_putBytes 3 none :: GW) B.pre
  have hG : ∀ w ∈ GW, w.before _ s = true := fun w h => hts w (List.mem_cons_of_mem _ h)
  have hown : s.vm.findClass RX8 = some m.cls := findClass_of_methodNamed B.named
  have hlocks := B.notSynchronized
  subst hsz
  have hD := hD0.self (sz := s.heap.size)
  generalize hAe : va_A [(r 0, .inr (7, [.ref (r 1), .int 0, .ref (r 2), .ref (r 55), .ref (r 57), .ref (r 30), .ref (r 56), .ref (r 36), .ref (r 37), .ref (r 38), .int 0, .ref (r 51), .int 0, .ref (r 52), .ref (r 53), .ref (r 54)])), (r 1, .inl ((c 1), 1600, .inl (fun _ => 0)))] s.heap.size = A at hD ⊢
  have hA : ∀ q : Nat, s.heap.size ≤ q → A q := fun q h => by rw [← hAe]; exact Or.inr h
  have hS : va_S A s.heap s.heap [] := va_S.rf
  have hP : va_P (dC, dI) vwCl [(r 0, .inr (7, [.ref (r 1), .int 0, .ref (r 2), .ref (r 55), .ref (r 57), .ref (r 30), .ref (r 56), .ref (r 36), .ref (r 37), .ref (r 38), .int 0, .ref (r 51), .int 0, .ref (r 52), .ref (r 53), .ref (r 54)])), (r 1, .inl ((c 1), 1600, .inl (fun _ => 0)))] s.heap := hP
  have hl := lv_entry ([.ref (r 0), .int p0]) (n := 3) (Nat.le_of_ble_eq_true rfl)
  rw [lg_entry_eq]
  generalize (lg_sl ([.ref (r 0), .int p0]) ++ List.replicate (3 - (lg_sl ([.ref (r 0), .int p0])).length) Slot.unset).toArray = ls at hl ⊢
  have hl : lv_has ls 3 [(0, .ref (r 0)), (1, .int p0)] := hl
  refine lv_bipush (v := 24) hx hb dX8_putBytes_0 (by decide) ?_
  refine lv_istore_n (lv' := [(2, .int 24), (0, .ref (r 0)), (1, .int p0)]) hx hb dX8_putBytes_2 rfl hl (by decide) rfl (fun ls hl => ?_)
  refine lv_iload_n hx hb dX8_putBytes_3 rfl (lv_at hl 0 rfl) ?_
  refine lv_if_lt (tgt := 46) hx hb dX8_putBytes_4 (by decide) (fun c_1 => absurd c_1 (by decide)) (fun c_1 => ?_)
  refine lv_aload_n hx hb dX8_putBytes_7 rfl (lv_at hl 1 rfl) ?_
  refine va_get (D := (dC, dI)) (ci := 7) (v := .int 0) (C := RX8) (T := TX8) (N := 16) hx hb hG inX8 hown hK hP 0 rfl rfl 1 (by decide) (hG _ gw469) (fun _ h9 => h9) rfl dX8_putBytes_8 ?_
  refine lv_sipush (v := 1600) hx hb dX8_putBytes_11 (by decide) ?_
  refine lv_icmp_ge (tgt := 40) hx hb dX8_putBytes_14 (by decide) (fun c_2 => absurd c_2 (by decide)) (fun c_2 => ?_)
  refine lv_aload_n hx hb dX8_putBytes_17 rfl (lv_at hl 1 rfl) ?_
  refine va_get (D := (dC, dI)) (ci := 7) (v := .ref (r 1)) (C := RX8) (T := TX8) (N := 16) hx hb hG inX8 hown hK hP 0 rfl rfl 0 (by decide) (hG _ gw468) (fun _ h9 => h9) rfl dX8_putBytes_18 ?_
  refine lv_aload_n hx hb dX8_putBytes_21 rfl (lv_at hl 1 rfl) ?_
  refine va_get (D := (dC, dI)) (ci := 7) (v := .int 0) (C := RX8) (T := TX8) (N := 16) hx hb hG inX8 hown hK hP 0 rfl rfl 1 (by decide) (hG _ gw469) (fun _ h9 => h9) rfl dX8_putBytes_22 ?_
  refine lv_iload_n hx hb dX8_putBytes_25 rfl (lv_at hl 2 rfl) ?_
  refine lv_iload_n hx hb dX8_putBytes_26 rfl (lv_at hl 0 rfl) ?_
  refine lv_iushr (v := _) hx hb dX8_putBytes_27 rfl ?_
  refine lv_topi (fun x3 ex3 => ?_)
  refine lv_i2b (v := _) hx hb dX8_putBytes_28 rfl ?_
  refine lv_topi (fun x4 ex4 => ?_)
  refine va_bast hx hb hK hP hD hS 1 0 rfl rfl (vin (by decide)) dX8_putBytes_29 (fun H5 locs hP hD hS => ?_)
  obtain ⟨zf6, ezf6⟩ : ∃ z : Nat → Int32, z = upd (fun _ => 0) (0 : Int32).toNatClampNeg (vp_nar .byte x4) := ⟨_, rfl⟩
  have hP : va_P (dC, dI) vwCl [(r 0, .inr (7, [.ref (r 1), .int 0, .ref (r 2), .ref (r 55), .ref (r 57), .ref (r 30), .ref (r 56), .ref (r 36), .ref (r 37), .ref (r 38), .int 0, .ref (r 51), .int 0, .ref (r 52), .ref (r 53), .ref (r 54)])), (r 1, .inl ((c 1), 1600, .inl zf6))] H5 := by rw [ezf6]; exact hP
  have hD : va_D A [(r 0, .inr (7, [.ref (r 1), .int 0, .ref (r 2), .ref (r 55), .ref (r 57), .ref (r 30), .ref (r 56), .ref (r 36), .ref (r 37), .ref (r 38), .int 0, .ref (r 51), .int 0, .ref (r 52), .ref (r 53), .ref (r 54)])), (r 1, .inl ((c 1), 1600, .inl zf6))] := by rw [ezf6]; exact hD
  refine lv_aload_n hx hb dX8_putBytes_30 rfl (lv_at hl 1 rfl) ?_
  refine lv_dup hx hb dX8_putBytes_31 rfl ?_
  refine va_get (D := (dC, dI)) (ci := 7) (v := .int 0) (C := RX8) (T := TX8) (N := 16) hx hb hG inX8 hown hK hP 0 rfl rfl 1 (by decide) (hG _ gw469) (fun _ h9 => h9) rfl dX8_putBytes_32 ?_
  refine lv_iconst (v := 1) hx hb dX8_putBytes_35 (by decide) ?_
  refine lv_iadd hx hb dX8_putBytes_36 ?_
  refine wt_c (v := 1) (by decide) ?_
  refine va_put (D := (dC, dI)) (ci := 7) (v := .int 1) (ty := .int) (C := RX8) (T := TX8) (N := 16) hx hb hG inX8 tyX8 tyX8_ok nmX8 hown hK hP hD hS 0 rfl rfl 1 (by decide) (hG _ gw469) (fun _ h9 => h9) rfl (by decide +kernel) rfl rfl (Nat.le_of_ble_eq_true rfl) dX8_putBytes_37 (fun H7 locs hP hD hS => ?_)
  have hP : va_P (dC, dI) vwCl [(r 0, .inr (7, [.ref (r 1), .int 1, .ref (r 2), .ref (r 55), .ref (r 57), .ref (r 30), .ref (r 56), .ref (r 36), .ref (r 37), .ref (r 38), .int 0, .ref (r 51), .int 0, .ref (r 52), .ref (r 53), .ref (r 54)])), (r 1, .inl ((c 1), 1600, .inl zf6))] H7 := hP
  have hD : va_D A [(r 0, .inr (7, [.ref (r 1), .int 1, .ref (r 2), .ref (r 55), .ref (r 57), .ref (r 30), .ref (r 56), .ref (r 36), .ref (r 37), .ref (r 38), .int 0, .ref (r 51), .int 0, .ref (r 52), .ref (r 53), .ref (r 54)])), (r 1, .inl ((c 1), 1600, .inl zf6))] := hD
  refine lv_iinc (v := 16) (lv' := [(2, .int 16), (0, .ref (r 0)), (1, .int p0)]) hx hb dX8_putBytes_40 hl (k := 0) rfl (by decide) (by decide) rfl (fun ls hl => ?_)
  refine lv_goto (tgt := 3) hx hb dX8_putBytes_43 (by decide) ?_
  refine lv_iload_n hx hb dX8_putBytes_3 rfl (lv_at hl 0 rfl) ?_
  refine lv_if_lt (tgt := 46) hx hb dX8_putBytes_4 (by decide) (fun c_8 => absurd c_8 (by decide)) (fun c_8 => ?_)
  refine lv_aload_n hx hb dX8_putBytes_7 rfl (lv_at hl 1 rfl) ?_
  refine va_get (D := (dC, dI)) (ci := 7) (v := .int 1) (C := RX8) (T := TX8) (N := 16) hx hb hG inX8 hown hK hP 0 rfl rfl 1 (by decide) (hG _ gw469) (fun _ h9 => h9) rfl dX8_putBytes_8 ?_
  refine lv_sipush (v := 1600) hx hb dX8_putBytes_11 (by decide) ?_
  refine lv_icmp_ge (tgt := 40) hx hb dX8_putBytes_14 (by decide) (fun c_9 => absurd c_9 (by decide)) (fun c_9 => ?_)
  refine lv_aload_n hx hb dX8_putBytes_17 rfl (lv_at hl 1 rfl) ?_
  refine va_get (D := (dC, dI)) (ci := 7) (v := .ref (r 1)) (C := RX8) (T := TX8) (N := 16) hx hb hG inX8 hown hK hP 0 rfl rfl 0 (by decide) (hG _ gw468) (fun _ h9 => h9) rfl dX8_putBytes_18 ?_
  refine lv_aload_n hx hb dX8_putBytes_21 rfl (lv_at hl 1 rfl) ?_
  refine va_get (D := (dC, dI)) (ci := 7) (v := .int 1) (C := RX8) (T := TX8) (N := 16) hx hb hG inX8 hown hK hP 0 rfl rfl 1 (by decide) (hG _ gw469) (fun _ h9 => h9) rfl dX8_putBytes_22 ?_
  refine lv_iload_n hx hb dX8_putBytes_25 rfl (lv_at hl 2 rfl) ?_
  refine lv_iload_n hx hb dX8_putBytes_26 rfl (lv_at hl 0 rfl) ?_
  refine lv_iushr (v := _) hx hb dX8_putBytes_27 rfl ?_
  refine lv_topi (fun x10 ex10 => ?_)
  refine lv_i2b (v := _) hx hb dX8_putBytes_28 rfl ?_
  refine lv_topi (fun x11 ex11 => ?_)
  refine va_bast hx hb hK hP hD hS 1 0 rfl rfl (vin (by decide)) dX8_putBytes_29 (fun H12 locs hP hD hS => ?_)
  obtain ⟨zf13, ezf13⟩ : ∃ z : Nat → Int32, z = upd zf6 (1 : Int32).toNatClampNeg (vp_nar .byte x11) := ⟨_, rfl⟩
  have hP : va_P (dC, dI) vwCl [(r 0, .inr (7, [.ref (r 1), .int 1, .ref (r 2), .ref (r 55), .ref (r 57), .ref (r 30), .ref (r 56), .ref (r 36), .ref (r 37), .ref (r 38), .int 0, .ref (r 51), .int 0, .ref (r 52), .ref (r 53), .ref (r 54)])), (r 1, .inl ((c 1), 1600, .inl zf13))] H12 := by rw [ezf13]; exact hP
  have hD : va_D A [(r 0, .inr (7, [.ref (r 1), .int 1, .ref (r 2), .ref (r 55), .ref (r 57), .ref (r 30), .ref (r 56), .ref (r 36), .ref (r 37), .ref (r 38), .int 0, .ref (r 51), .int 0, .ref (r 52), .ref (r 53), .ref (r 54)])), (r 1, .inl ((c 1), 1600, .inl zf13))] := by rw [ezf13]; exact hD
  refine lv_aload_n hx hb dX8_putBytes_30 rfl (lv_at hl 1 rfl) ?_
  refine lv_dup hx hb dX8_putBytes_31 rfl ?_
  refine va_get (D := (dC, dI)) (ci := 7) (v := .int 1) (C := RX8) (T := TX8) (N := 16) hx hb hG inX8 hown hK hP 0 rfl rfl 1 (by decide) (hG _ gw469) (fun _ h9 => h9) rfl dX8_putBytes_32 ?_
  refine lv_iconst (v := 1) hx hb dX8_putBytes_35 (by decide) ?_
  refine lv_iadd hx hb dX8_putBytes_36 ?_
  refine wt_c (v := 2) (by decide) ?_
  refine va_put (D := (dC, dI)) (ci := 7) (v := .int 2) (ty := .int) (C := RX8) (T := TX8) (N := 16) hx hb hG inX8 tyX8 tyX8_ok nmX8 hown hK hP hD hS 0 rfl rfl 1 (by decide) (hG _ gw469) (fun _ h9 => h9) rfl (by decide +kernel) rfl rfl (Nat.le_of_ble_eq_true rfl) dX8_putBytes_37 (fun H14 locs hP hD hS => ?_)
  have hP : va_P (dC, dI) vwCl [(r 0, .inr (7, [.ref (r 1), .int 2, .ref (r 2), .ref (r 55), .ref (r 57), .ref (r 30), .ref (r 56), .ref (r 36), .ref (r 37), .ref (r 38), .int 0, .ref (r 51), .int 0, .ref (r 52), .ref (r 53), .ref (r 54)])), (r 1, .inl ((c 1), 1600, .inl zf13))] H14 := hP
  have hD : va_D A [(r 0, .inr (7, [.ref (r 1), .int 2, .ref (r 2), .ref (r 55), .ref (r 57), .ref (r 30), .ref (r 56), .ref (r 36), .ref (r 37), .ref (r 38), .int 0, .ref (r 51), .int 0, .ref (r 52), .ref (r 53), .ref (r 54)])), (r 1, .inl ((c 1), 1600, .inl zf13))] := hD
  refine lv_iinc (v := 8) (lv' := [(2, .int 8), (0, .ref (r 0)), (1, .int p0)]) hx hb dX8_putBytes_40 hl (k := 0) rfl (by decide) (by decide) rfl (fun ls hl => ?_)
  refine lv_goto (tgt := 3) hx hb dX8_putBytes_43 (by decide) ?_
  refine lv_iload_n hx hb dX8_putBytes_3 rfl (lv_at hl 0 rfl) ?_
  refine lv_if_lt (tgt := 46) hx hb dX8_putBytes_4 (by decide) (fun c_15 => absurd c_15 (by decide)) (fun c_15 => ?_)
  refine lv_aload_n hx hb dX8_putBytes_7 rfl (lv_at hl 1 rfl) ?_
  refine va_get (D := (dC, dI)) (ci := 7) (v := .int 2) (C := RX8) (T := TX8) (N := 16) hx hb hG inX8 hown hK hP 0 rfl rfl 1 (by decide) (hG _ gw469) (fun _ h9 => h9) rfl dX8_putBytes_8 ?_
  refine lv_sipush (v := 1600) hx hb dX8_putBytes_11 (by decide) ?_
  refine lv_icmp_ge (tgt := 40) hx hb dX8_putBytes_14 (by decide) (fun c_16 => absurd c_16 (by decide)) (fun c_16 => ?_)
  refine lv_aload_n hx hb dX8_putBytes_17 rfl (lv_at hl 1 rfl) ?_
  refine va_get (D := (dC, dI)) (ci := 7) (v := .ref (r 1)) (C := RX8) (T := TX8) (N := 16) hx hb hG inX8 hown hK hP 0 rfl rfl 0 (by decide) (hG _ gw468) (fun _ h9 => h9) rfl dX8_putBytes_18 ?_
  refine lv_aload_n hx hb dX8_putBytes_21 rfl (lv_at hl 1 rfl) ?_
  refine va_get (D := (dC, dI)) (ci := 7) (v := .int 2) (C := RX8) (T := TX8) (N := 16) hx hb hG inX8 hown hK hP 0 rfl rfl 1 (by decide) (hG _ gw469) (fun _ h9 => h9) rfl dX8_putBytes_22 ?_
  refine lv_iload_n hx hb dX8_putBytes_25 rfl (lv_at hl 2 rfl) ?_
  refine lv_iload_n hx hb dX8_putBytes_26 rfl (lv_at hl 0 rfl) ?_
  refine lv_iushr (v := _) hx hb dX8_putBytes_27 rfl ?_
  refine lv_topi (fun x17 ex17 => ?_)
  refine lv_i2b (v := _) hx hb dX8_putBytes_28 rfl ?_
  refine lv_topi (fun x18 ex18 => ?_)
  refine va_bast hx hb hK hP hD hS 1 0 rfl rfl (vin (by decide)) dX8_putBytes_29 (fun H19 locs hP hD hS => ?_)
  obtain ⟨zf20, ezf20⟩ : ∃ z : Nat → Int32, z = upd zf13 (2 : Int32).toNatClampNeg (vp_nar .byte x18) := ⟨_, rfl⟩
  have hP : va_P (dC, dI) vwCl [(r 0, .inr (7, [.ref (r 1), .int 2, .ref (r 2), .ref (r 55), .ref (r 57), .ref (r 30), .ref (r 56), .ref (r 36), .ref (r 37), .ref (r 38), .int 0, .ref (r 51), .int 0, .ref (r 52), .ref (r 53), .ref (r 54)])), (r 1, .inl ((c 1), 1600, .inl zf20))] H19 := by rw [ezf20]; exact hP
  have hD : va_D A [(r 0, .inr (7, [.ref (r 1), .int 2, .ref (r 2), .ref (r 55), .ref (r 57), .ref (r 30), .ref (r 56), .ref (r 36), .ref (r 37), .ref (r 38), .int 0, .ref (r 51), .int 0, .ref (r 52), .ref (r 53), .ref (r 54)])), (r 1, .inl ((c 1), 1600, .inl zf20))] := by rw [ezf20]; exact hD
  refine lv_aload_n hx hb dX8_putBytes_30 rfl (lv_at hl 1 rfl) ?_
  refine lv_dup hx hb dX8_putBytes_31 rfl ?_
  refine va_get (D := (dC, dI)) (ci := 7) (v := .int 2) (C := RX8) (T := TX8) (N := 16) hx hb hG inX8 hown hK hP 0 rfl rfl 1 (by decide) (hG _ gw469) (fun _ h9 => h9) rfl dX8_putBytes_32 ?_
  refine lv_iconst (v := 1) hx hb dX8_putBytes_35 (by decide) ?_
  refine lv_iadd hx hb dX8_putBytes_36 ?_
  refine wt_c (v := 3) (by decide) ?_
  refine va_put (D := (dC, dI)) (ci := 7) (v := .int 3) (ty := .int) (C := RX8) (T := TX8) (N := 16) hx hb hG inX8 tyX8 tyX8_ok nmX8 hown hK hP hD hS 0 rfl rfl 1 (by decide) (hG _ gw469) (fun _ h9 => h9) rfl (by decide +kernel) rfl rfl (Nat.le_of_ble_eq_true rfl) dX8_putBytes_37 (fun H21 locs hP hD hS => ?_)
  have hP : va_P (dC, dI) vwCl [(r 0, .inr (7, [.ref (r 1), .int 3, .ref (r 2), .ref (r 55), .ref (r 57), .ref (r 30), .ref (r 56), .ref (r 36), .ref (r 37), .ref (r 38), .int 0, .ref (r 51), .int 0, .ref (r 52), .ref (r 53), .ref (r 54)])), (r 1, .inl ((c 1), 1600, .inl zf20))] H21 := hP
  have hD : va_D A [(r 0, .inr (7, [.ref (r 1), .int 3, .ref (r 2), .ref (r 55), .ref (r 57), .ref (r 30), .ref (r 56), .ref (r 36), .ref (r 37), .ref (r 38), .int 0, .ref (r 51), .int 0, .ref (r 52), .ref (r 53), .ref (r 54)])), (r 1, .inl ((c 1), 1600, .inl zf20))] := hD
  refine lv_iinc (v := 0) (lv' := [(2, .int 0), (0, .ref (r 0)), (1, .int p0)]) hx hb dX8_putBytes_40 hl (k := 0) rfl (by decide) (by decide) rfl (fun ls hl => ?_)
  refine lv_goto (tgt := 3) hx hb dX8_putBytes_43 (by decide) ?_
  refine lv_iload_n hx hb dX8_putBytes_3 rfl (lv_at hl 0 rfl) ?_
  refine lv_if_lt (tgt := 46) hx hb dX8_putBytes_4 (by decide) (fun c_22 => absurd c_22 (by decide)) (fun c_22 => ?_)
  refine lv_aload_n hx hb dX8_putBytes_7 rfl (lv_at hl 1 rfl) ?_
  refine va_get (D := (dC, dI)) (ci := 7) (v := .int 3) (C := RX8) (T := TX8) (N := 16) hx hb hG inX8 hown hK hP 0 rfl rfl 1 (by decide) (hG _ gw469) (fun _ h9 => h9) rfl dX8_putBytes_8 ?_
  refine lv_sipush (v := 1600) hx hb dX8_putBytes_11 (by decide) ?_
  refine lv_icmp_ge (tgt := 40) hx hb dX8_putBytes_14 (by decide) (fun c_23 => absurd c_23 (by decide)) (fun c_23 => ?_)
  refine lv_aload_n hx hb dX8_putBytes_17 rfl (lv_at hl 1 rfl) ?_
  refine va_get (D := (dC, dI)) (ci := 7) (v := .ref (r 1)) (C := RX8) (T := TX8) (N := 16) hx hb hG inX8 hown hK hP 0 rfl rfl 0 (by decide) (hG _ gw468) (fun _ h9 => h9) rfl dX8_putBytes_18 ?_
  refine lv_aload_n hx hb dX8_putBytes_21 rfl (lv_at hl 1 rfl) ?_
  refine va_get (D := (dC, dI)) (ci := 7) (v := .int 3) (C := RX8) (T := TX8) (N := 16) hx hb hG inX8 hown hK hP 0 rfl rfl 1 (by decide) (hG _ gw469) (fun _ h9 => h9) rfl dX8_putBytes_22 ?_
  refine lv_iload_n hx hb dX8_putBytes_25 rfl (lv_at hl 2 rfl) ?_
  refine lv_iload_n hx hb dX8_putBytes_26 rfl (lv_at hl 0 rfl) ?_
  refine lv_iushr (v := _) hx hb dX8_putBytes_27 rfl ?_
  refine lv_topi (fun x24 ex24 => ?_)
  refine lv_i2b (v := _) hx hb dX8_putBytes_28 rfl ?_
  refine lv_topi (fun x25 ex25 => ?_)
  refine va_bast hx hb hK hP hD hS 1 0 rfl rfl (vin (by decide)) dX8_putBytes_29 (fun H26 locs hP hD hS => ?_)
  obtain ⟨zf27, ezf27⟩ : ∃ z : Nat → Int32, z = upd zf20 (3 : Int32).toNatClampNeg (vp_nar .byte x25) := ⟨_, rfl⟩
  have hP : va_P (dC, dI) vwCl [(r 0, .inr (7, [.ref (r 1), .int 3, .ref (r 2), .ref (r 55), .ref (r 57), .ref (r 30), .ref (r 56), .ref (r 36), .ref (r 37), .ref (r 38), .int 0, .ref (r 51), .int 0, .ref (r 52), .ref (r 53), .ref (r 54)])), (r 1, .inl ((c 1), 1600, .inl zf27))] H26 := by rw [ezf27]; exact hP
  have hD : va_D A [(r 0, .inr (7, [.ref (r 1), .int 3, .ref (r 2), .ref (r 55), .ref (r 57), .ref (r 30), .ref (r 56), .ref (r 36), .ref (r 37), .ref (r 38), .int 0, .ref (r 51), .int 0, .ref (r 52), .ref (r 53), .ref (r 54)])), (r 1, .inl ((c 1), 1600, .inl zf27))] := by rw [ezf27]; exact hD
  refine lv_aload_n hx hb dX8_putBytes_30 rfl (lv_at hl 1 rfl) ?_
  refine lv_dup hx hb dX8_putBytes_31 rfl ?_
  refine va_get (D := (dC, dI)) (ci := 7) (v := .int 3) (C := RX8) (T := TX8) (N := 16) hx hb hG inX8 hown hK hP 0 rfl rfl 1 (by decide) (hG _ gw469) (fun _ h9 => h9) rfl dX8_putBytes_32 ?_
  refine lv_iconst (v := 1) hx hb dX8_putBytes_35 (by decide) ?_
  refine lv_iadd hx hb dX8_putBytes_36 ?_
  refine wt_c (v := 4) (by decide) ?_
  refine va_put (D := (dC, dI)) (ci := 7) (v := .int 4) (ty := .int) (C := RX8) (T := TX8) (N := 16) hx hb hG inX8 tyX8 tyX8_ok nmX8 hown hK hP hD hS 0 rfl rfl 1 (by decide) (hG _ gw469) (fun _ h9 => h9) rfl (by decide +kernel) rfl rfl (Nat.le_of_ble_eq_true rfl) dX8_putBytes_37 (fun H28 locs hP hD hS => ?_)
  have hP : va_P (dC, dI) vwCl [(r 0, .inr (7, [.ref (r 1), .int 4, .ref (r 2), .ref (r 55), .ref (r 57), .ref (r 30), .ref (r 56), .ref (r 36), .ref (r 37), .ref (r 38), .int 0, .ref (r 51), .int 0, .ref (r 52), .ref (r 53), .ref (r 54)])), (r 1, .inl ((c 1), 1600, .inl zf27))] H28 := hP
  have hD : va_D A [(r 0, .inr (7, [.ref (r 1), .int 4, .ref (r 2), .ref (r 55), .ref (r 57), .ref (r 30), .ref (r 56), .ref (r 36), .ref (r 37), .ref (r 38), .int 0, .ref (r 51), .int 0, .ref (r 52), .ref (r 53), .ref (r 54)])), (r 1, .inl ((c 1), 1600, .inl zf27))] := hD
  refine lv_iinc (v := (-8)) (lv' := [(2, .int (-8)), (0, .ref (r 0)), (1, .int p0)]) hx hb dX8_putBytes_40 hl (k := 0) rfl (by decide) (by decide) rfl (fun ls hl => ?_)
  refine lv_goto (tgt := 3) hx hb dX8_putBytes_43 (by decide) ?_
  refine lv_iload_n hx hb dX8_putBytes_3 rfl (lv_at hl 0 rfl) ?_
  refine lv_if_lt (tgt := 46) hx hb dX8_putBytes_4 (by decide) (fun c_29 => ?_) (fun c_29 => absurd (by decide) c_29)
  have hP9 := hP.sub (ws' := [(r 0, .inr (7, [.ref (r 1), .int 4, .ref (r 2), .ref (r 55), .ref (r 57), .ref (r 30), .ref (r 56), .ref (r 36), .ref (r 37), .ref (r 38), .int 0, .ref (r 51), .int 0, .ref (r 52), .ref (r 53), .ref (r 54)])), (r 1, .inl ((c 1), 1600, .inl zf27))]) [0, 1] rfl
  have hD9 := hD.sub (ws' := [(r 0, .inr (7, [.ref (r 1), .int 4, .ref (r 2), .ref (r 55), .ref (r 57), .ref (r 30), .ref (r 56), .ref (r 36), .ref (r 37), .ref (r 38), .int 0, .ref (r 51), .int 0, .ref (r 52), .ref (r 53), .ref (r 54)])), (r 1, .inl ((c 1), 1600, .inl zf27))]) [0, 1] (by decide) rfl
  exact W.vret hx hb hr (fun t ht hW => ⟨⟨(), rfl, trivial, ⟨zf27, by rw [ht]; exact hP9, hD9⟩⟩, hS.F ht⟩) hS.2.2 dX8_putBytes_46
set_option maxHeartbeats 4000000 in
set_option maxRecDepth 100000 in
theorem kX8_putBytes_v1 (l : Launch) (dC : Nat → ClassId) (dI : Nat → Nat → Nat) (r : Nat → Nat) (c : Nat → ClassId) (f1 : Nat → Int32) (p0 : Int32) (sz : Nat) : Met l yX8_putBytes (.code yX8_putBytes cX8_putBytes 3 none :: GW) { frames := 2, cells := 0, slots := 0, locals := 100 } (va_Pc [.ref (r 0), .int p0] (pW (dC, dI) [(r 0, .inr (7, [.ref (r 1), .int 4, .ref (r 2), .ref (r 55), .ref (r 57), .ref (r 30), .ref (r 56), .ref (r 36), .ref (r 37), .ref (r 38), .int 0, .ref (r 51), .int 0, .ref (r 52), .ref (r 53), .ref (r 54)])), (r 1, .inl ((c 1), 1600, .inl f1))] [((c 1), .byte)] sz)) (va_Qv (fun _ : Unit => True) (fun (_ : Unit) (t : State) => ∃ (F0 : Nat → Int32), va_P (dC, dI) vwCl [(r 0, .inr (7, [.ref (r 1), .int 8, .ref (r 2), .ref (r 55), .ref (r 57), .ref (r 30), .ref (r 56), .ref (r 36), .ref (r 37), .ref (r 38), .int 0, .ref (r 51), .int 0, .ref (r 52), .ref (r 53), .ref (r 54)])), (r 1, .inl ((c 1), 1600, .inl F0))] t.heap ∧ va_D (va_A [(r 0, .inr (7, [.ref (r 1), .int 4, .ref (r 2), .ref (r 55), .ref (r 57), .ref (r 30), .ref (r 56), .ref (r 36), .ref (r 37), .ref (r 38), .int 0, .ref (r 51), .int 0, .ref (r 52), .ref (r 53), .ref (r 54)])), (r 1, .inl ((c 1), 1600, .inl f1))] sz) [(r 0, .inr (7, [.ref (r 1), .int 8, .ref (r 2), .ref (r 55), .ref (r 57), .ref (r 30), .ref (r 56), .ref (r 36), .ref (r 37), .ref (r 38), .int 0, .ref (r 51), .int 0, .ref (r 52), .ref (r 53), .ref (r 54)])), (r 1, .inl ((c 1), 1600, .inl F0))]) (va_A [(r 0, .inr (7, [.ref (r 1), .int 4, .ref (r 2), .ref (r 55), .ref (r 57), .ref (r 30), .ref (r 56), .ref (r 36), .ref (r 37), .ref (r 38), .int 0, .ref (r 51), .int 0, .ref (r 52), .ref (r 53), .ref (r 54)])), (r 1, .inl ((c 1), 1600, .inl f1))] sz)) 0 0 (va_A [(r 0, .inr (7, [.ref (r 1), .int 4, .ref (r 2), .ref (r 55), .ref (r 57), .ref (r 30), .ref (r 56), .ref (r 36), .ref (r 37), .ref (r 38), .int 0, .ref (r 51), .int 0, .ref (r 52), .ref (r 53), .ref (r 54)])), (r 1, .inl ((c 1), 1600, .inl f1))] sz) := by
  refine Met.ofW (cc := cX8_putBytes) (maxL := 3) (ret := none) (by decide) rfl ?_
  intro p e s m args below meth c0 s₁ B hml hv
  obtain ⟨rfl, hsz, hP, hK, hD0⟩ := hv
  have hx := B.exec
  have hb := B.bytes
  have hr := B.returns
  have hts := atoms_spec (ws := .code yX8_putBytes cX8_putBytes 3 none :: GW) B.pre
  have hG : ∀ w ∈ GW, w.before _ s = true := fun w h => hts w (List.mem_cons_of_mem _ h)
  have hown : s.vm.findClass RX8 = some m.cls := findClass_of_methodNamed B.named
  have hlocks := B.notSynchronized
  subst hsz
  have hD := hD0.self (sz := s.heap.size)
  generalize hAe : va_A [(r 0, .inr (7, [.ref (r 1), .int 4, .ref (r 2), .ref (r 55), .ref (r 57), .ref (r 30), .ref (r 56), .ref (r 36), .ref (r 37), .ref (r 38), .int 0, .ref (r 51), .int 0, .ref (r 52), .ref (r 53), .ref (r 54)])), (r 1, .inl ((c 1), 1600, .inl f1))] s.heap.size = A at hD ⊢
  have hA : ∀ q : Nat, s.heap.size ≤ q → A q := fun q h => by rw [← hAe]; exact Or.inr h
  have hS : va_S A s.heap s.heap [] := va_S.rf
  have hP : va_P (dC, dI) vwCl [(r 0, .inr (7, [.ref (r 1), .int 4, .ref (r 2), .ref (r 55), .ref (r 57), .ref (r 30), .ref (r 56), .ref (r 36), .ref (r 37), .ref (r 38), .int 0, .ref (r 51), .int 0, .ref (r 52), .ref (r 53), .ref (r 54)])), (r 1, .inl ((c 1), 1600, .inl f1))] s.heap := hP
  have hl := lv_entry ([.ref (r 0), .int p0]) (n := 3) (Nat.le_of_ble_eq_true rfl)
  rw [lg_entry_eq]
  generalize (lg_sl ([.ref (r 0), .int p0]) ++ List.replicate (3 - (lg_sl ([.ref (r 0), .int p0])).length) Slot.unset).toArray = ls at hl ⊢
  have hl : lv_has ls 3 [(0, .ref (r 0)), (1, .int p0)] := hl
  refine lv_bipush (v := 24) hx hb dX8_putBytes_0 (by decide) ?_
  refine lv_istore_n (lv' := [(2, .int 24), (0, .ref (r 0)), (1, .int p0)]) hx hb dX8_putBytes_2 rfl hl (by decide) rfl (fun ls hl => ?_)
  refine lv_iload_n hx hb dX8_putBytes_3 rfl (lv_at hl 0 rfl) ?_
  refine lv_if_lt (tgt := 46) hx hb dX8_putBytes_4 (by decide) (fun c_1 => absurd c_1 (by decide)) (fun c_1 => ?_)
  refine lv_aload_n hx hb dX8_putBytes_7 rfl (lv_at hl 1 rfl) ?_
  refine va_get (D := (dC, dI)) (ci := 7) (v := .int 4) (C := RX8) (T := TX8) (N := 16) hx hb hG inX8 hown hK hP 0 rfl rfl 1 (by decide) (hG _ gw469) (fun _ h9 => h9) rfl dX8_putBytes_8 ?_
  refine lv_sipush (v := 1600) hx hb dX8_putBytes_11 (by decide) ?_
  refine lv_icmp_ge (tgt := 40) hx hb dX8_putBytes_14 (by decide) (fun c_2 => absurd c_2 (by decide)) (fun c_2 => ?_)
  refine lv_aload_n hx hb dX8_putBytes_17 rfl (lv_at hl 1 rfl) ?_
  refine va_get (D := (dC, dI)) (ci := 7) (v := .ref (r 1)) (C := RX8) (T := TX8) (N := 16) hx hb hG inX8 hown hK hP 0 rfl rfl 0 (by decide) (hG _ gw468) (fun _ h9 => h9) rfl dX8_putBytes_18 ?_
  refine lv_aload_n hx hb dX8_putBytes_21 rfl (lv_at hl 1 rfl) ?_
  refine va_get (D := (dC, dI)) (ci := 7) (v := .int 4) (C := RX8) (T := TX8) (N := 16) hx hb hG inX8 hown hK hP 0 rfl rfl 1 (by decide) (hG _ gw469) (fun _ h9 => h9) rfl dX8_putBytes_22 ?_
  refine lv_iload_n hx hb dX8_putBytes_25 rfl (lv_at hl 2 rfl) ?_
  refine lv_iload_n hx hb dX8_putBytes_26 rfl (lv_at hl 0 rfl) ?_
  refine lv_iushr (v := _) hx hb dX8_putBytes_27 rfl ?_
  refine lv_topi (fun x3 ex3 => ?_)
  refine lv_i2b (v := _) hx hb dX8_putBytes_28 rfl ?_
  refine lv_topi (fun x4 ex4 => ?_)
  refine va_bast hx hb hK hP hD hS 1 0 rfl rfl (vin (by decide)) dX8_putBytes_29 (fun H5 locs hP hD hS => ?_)
  obtain ⟨zf6, ezf6⟩ : ∃ z : Nat → Int32, z = upd f1 (4 : Int32).toNatClampNeg (vp_nar .byte x4) := ⟨_, rfl⟩
  have hP : va_P (dC, dI) vwCl [(r 0, .inr (7, [.ref (r 1), .int 4, .ref (r 2), .ref (r 55), .ref (r 57), .ref (r 30), .ref (r 56), .ref (r 36), .ref (r 37), .ref (r 38), .int 0, .ref (r 51), .int 0, .ref (r 52), .ref (r 53), .ref (r 54)])), (r 1, .inl ((c 1), 1600, .inl zf6))] H5 := by rw [ezf6]; exact hP
  have hD : va_D A [(r 0, .inr (7, [.ref (r 1), .int 4, .ref (r 2), .ref (r 55), .ref (r 57), .ref (r 30), .ref (r 56), .ref (r 36), .ref (r 37), .ref (r 38), .int 0, .ref (r 51), .int 0, .ref (r 52), .ref (r 53), .ref (r 54)])), (r 1, .inl ((c 1), 1600, .inl zf6))] := by rw [ezf6]; exact hD
  refine lv_aload_n hx hb dX8_putBytes_30 rfl (lv_at hl 1 rfl) ?_
  refine lv_dup hx hb dX8_putBytes_31 rfl ?_
  refine va_get (D := (dC, dI)) (ci := 7) (v := .int 4) (C := RX8) (T := TX8) (N := 16) hx hb hG inX8 hown hK hP 0 rfl rfl 1 (by decide) (hG _ gw469) (fun _ h9 => h9) rfl dX8_putBytes_32 ?_
  refine lv_iconst (v := 1) hx hb dX8_putBytes_35 (by decide) ?_
  refine lv_iadd hx hb dX8_putBytes_36 ?_
  refine wt_c (v := 5) (by decide) ?_
  refine va_put (D := (dC, dI)) (ci := 7) (v := .int 5) (ty := .int) (C := RX8) (T := TX8) (N := 16) hx hb hG inX8 tyX8 tyX8_ok nmX8 hown hK hP hD hS 0 rfl rfl 1 (by decide) (hG _ gw469) (fun _ h9 => h9) rfl (by decide +kernel) rfl rfl (Nat.le_of_ble_eq_true rfl) dX8_putBytes_37 (fun H7 locs hP hD hS => ?_)
  have hP : va_P (dC, dI) vwCl [(r 0, .inr (7, [.ref (r 1), .int 5, .ref (r 2), .ref (r 55), .ref (r 57), .ref (r 30), .ref (r 56), .ref (r 36), .ref (r 37), .ref (r 38), .int 0, .ref (r 51), .int 0, .ref (r 52), .ref (r 53), .ref (r 54)])), (r 1, .inl ((c 1), 1600, .inl zf6))] H7 := hP
  have hD : va_D A [(r 0, .inr (7, [.ref (r 1), .int 5, .ref (r 2), .ref (r 55), .ref (r 57), .ref (r 30), .ref (r 56), .ref (r 36), .ref (r 37), .ref (r 38), .int 0, .ref (r 51), .int 0, .ref (r 52), .ref (r 53), .ref (r 54)])), (r 1, .inl ((c 1), 1600, .inl zf6))] := hD
  refine lv_iinc (v := 16) (lv' := [(2, .int 16), (0, .ref (r 0)), (1, .int p0)]) hx hb dX8_putBytes_40 hl (k := 0) rfl (by decide) (by decide) rfl (fun ls hl => ?_)
  refine lv_goto (tgt := 3) hx hb dX8_putBytes_43 (by decide) ?_
  refine lv_iload_n hx hb dX8_putBytes_3 rfl (lv_at hl 0 rfl) ?_
  refine lv_if_lt (tgt := 46) hx hb dX8_putBytes_4 (by decide) (fun c_8 => absurd c_8 (by decide)) (fun c_8 => ?_)
  refine lv_aload_n hx hb dX8_putBytes_7 rfl (lv_at hl 1 rfl) ?_
  refine va_get (D := (dC, dI)) (ci := 7) (v := .int 5) (C := RX8) (T := TX8) (N := 16) hx hb hG inX8 hown hK hP 0 rfl rfl 1 (by decide) (hG _ gw469) (fun _ h9 => h9) rfl dX8_putBytes_8 ?_
  refine lv_sipush (v := 1600) hx hb dX8_putBytes_11 (by decide) ?_
  refine lv_icmp_ge (tgt := 40) hx hb dX8_putBytes_14 (by decide) (fun c_9 => absurd c_9 (by decide)) (fun c_9 => ?_)
  refine lv_aload_n hx hb dX8_putBytes_17 rfl (lv_at hl 1 rfl) ?_
  refine va_get (D := (dC, dI)) (ci := 7) (v := .ref (r 1)) (C := RX8) (T := TX8) (N := 16) hx hb hG inX8 hown hK hP 0 rfl rfl 0 (by decide) (hG _ gw468) (fun _ h9 => h9) rfl dX8_putBytes_18 ?_
  refine lv_aload_n hx hb dX8_putBytes_21 rfl (lv_at hl 1 rfl) ?_
  refine va_get (D := (dC, dI)) (ci := 7) (v := .int 5) (C := RX8) (T := TX8) (N := 16) hx hb hG inX8 hown hK hP 0 rfl rfl 1 (by decide) (hG _ gw469) (fun _ h9 => h9) rfl dX8_putBytes_22 ?_
  refine lv_iload_n hx hb dX8_putBytes_25 rfl (lv_at hl 2 rfl) ?_
  refine lv_iload_n hx hb dX8_putBytes_26 rfl (lv_at hl 0 rfl) ?_
  refine lv_iushr (v := _) hx hb dX8_putBytes_27 rfl ?_
  refine lv_topi (fun x10 ex10 => ?_)
  refine lv_i2b (v := _) hx hb dX8_putBytes_28 rfl ?_
  refine lv_topi (fun x11 ex11 => ?_)
  refine va_bast hx hb hK hP hD hS 1 0 rfl rfl (vin (by decide)) dX8_putBytes_29 (fun H12 locs hP hD hS => ?_)
  obtain ⟨zf13, ezf13⟩ : ∃ z : Nat → Int32, z = upd zf6 (5 : Int32).toNatClampNeg (vp_nar .byte x11) := ⟨_, rfl⟩
  have hP : va_P (dC, dI) vwCl [(r 0, .inr (7, [.ref (r 1), .int 5, .ref (r 2), .ref (r 55), .ref (r 57), .ref (r 30), .ref (r 56), .ref (r 36), .ref (r 37), .ref (r 38), .int 0, .ref (r 51), .int 0, .ref (r 52), .ref (r 53), .ref (r 54)])), (r 1, .inl ((c 1), 1600, .inl zf13))] H12 := by rw [ezf13]; exact hP
  have hD : va_D A [(r 0, .inr (7, [.ref (r 1), .int 5, .ref (r 2), .ref (r 55), .ref (r 57), .ref (r 30), .ref (r 56), .ref (r 36), .ref (r 37), .ref (r 38), .int 0, .ref (r 51), .int 0, .ref (r 52), .ref (r 53), .ref (r 54)])), (r 1, .inl ((c 1), 1600, .inl zf13))] := by rw [ezf13]; exact hD
  refine lv_aload_n hx hb dX8_putBytes_30 rfl (lv_at hl 1 rfl) ?_
  refine lv_dup hx hb dX8_putBytes_31 rfl ?_
  refine va_get (D := (dC, dI)) (ci := 7) (v := .int 5) (C := RX8) (T := TX8) (N := 16) hx hb hG inX8 hown hK hP 0 rfl rfl 1 (by decide) (hG _ gw469) (fun _ h9 => h9) rfl dX8_putBytes_32 ?_
  refine lv_iconst (v := 1) hx hb dX8_putBytes_35 (by decide) ?_
  refine lv_iadd hx hb dX8_putBytes_36 ?_
  refine wt_c (v := 6) (by decide) ?_
  refine va_put (D := (dC, dI)) (ci := 7) (v := .int 6) (ty := .int) (C := RX8) (T := TX8) (N := 16) hx hb hG inX8 tyX8 tyX8_ok nmX8 hown hK hP hD hS 0 rfl rfl 1 (by decide) (hG _ gw469) (fun _ h9 => h9) rfl (by decide +kernel) rfl rfl (Nat.le_of_ble_eq_true rfl) dX8_putBytes_37 (fun H14 locs hP hD hS => ?_)
  have hP : va_P (dC, dI) vwCl [(r 0, .inr (7, [.ref (r 1), .int 6, .ref (r 2), .ref (r 55), .ref (r 57), .ref (r 30), .ref (r 56), .ref (r 36), .ref (r 37), .ref (r 38), .int 0, .ref (r 51), .int 0, .ref (r 52), .ref (r 53), .ref (r 54)])), (r 1, .inl ((c 1), 1600, .inl zf13))] H14 := hP
  have hD : va_D A [(r 0, .inr (7, [.ref (r 1), .int 6, .ref (r 2), .ref (r 55), .ref (r 57), .ref (r 30), .ref (r 56), .ref (r 36), .ref (r 37), .ref (r 38), .int 0, .ref (r 51), .int 0, .ref (r 52), .ref (r 53), .ref (r 54)])), (r 1, .inl ((c 1), 1600, .inl zf13))] := hD
  refine lv_iinc (v := 8) (lv' := [(2, .int 8), (0, .ref (r 0)), (1, .int p0)]) hx hb dX8_putBytes_40 hl (k := 0) rfl (by decide) (by decide) rfl (fun ls hl => ?_)
  refine lv_goto (tgt := 3) hx hb dX8_putBytes_43 (by decide) ?_
  refine lv_iload_n hx hb dX8_putBytes_3 rfl (lv_at hl 0 rfl) ?_
  refine lv_if_lt (tgt := 46) hx hb dX8_putBytes_4 (by decide) (fun c_15 => absurd c_15 (by decide)) (fun c_15 => ?_)
  refine lv_aload_n hx hb dX8_putBytes_7 rfl (lv_at hl 1 rfl) ?_
  refine va_get (D := (dC, dI)) (ci := 7) (v := .int 6) (C := RX8) (T := TX8) (N := 16) hx hb hG inX8 hown hK hP 0 rfl rfl 1 (by decide) (hG _ gw469) (fun _ h9 => h9) rfl dX8_putBytes_8 ?_
  refine lv_sipush (v := 1600) hx hb dX8_putBytes_11 (by decide) ?_
  refine lv_icmp_ge (tgt := 40) hx hb dX8_putBytes_14 (by decide) (fun c_16 => absurd c_16 (by decide)) (fun c_16 => ?_)
  refine lv_aload_n hx hb dX8_putBytes_17 rfl (lv_at hl 1 rfl) ?_
  refine va_get (D := (dC, dI)) (ci := 7) (v := .ref (r 1)) (C := RX8) (T := TX8) (N := 16) hx hb hG inX8 hown hK hP 0 rfl rfl 0 (by decide) (hG _ gw468) (fun _ h9 => h9) rfl dX8_putBytes_18 ?_
  refine lv_aload_n hx hb dX8_putBytes_21 rfl (lv_at hl 1 rfl) ?_
  refine va_get (D := (dC, dI)) (ci := 7) (v := .int 6) (C := RX8) (T := TX8) (N := 16) hx hb hG inX8 hown hK hP 0 rfl rfl 1 (by decide) (hG _ gw469) (fun _ h9 => h9) rfl dX8_putBytes_22 ?_
  refine lv_iload_n hx hb dX8_putBytes_25 rfl (lv_at hl 2 rfl) ?_
  refine lv_iload_n hx hb dX8_putBytes_26 rfl (lv_at hl 0 rfl) ?_
  refine lv_iushr (v := _) hx hb dX8_putBytes_27 rfl ?_
  refine lv_topi (fun x17 ex17 => ?_)
  refine lv_i2b (v := _) hx hb dX8_putBytes_28 rfl ?_
  refine lv_topi (fun x18 ex18 => ?_)
  refine va_bast hx hb hK hP hD hS 1 0 rfl rfl (vin (by decide)) dX8_putBytes_29 (fun H19 locs hP hD hS => ?_)
  obtain ⟨zf20, ezf20⟩ : ∃ z : Nat → Int32, z = upd zf13 (6 : Int32).toNatClampNeg (vp_nar .byte x18) := ⟨_, rfl⟩
  have hP : va_P (dC, dI) vwCl [(r 0, .inr (7, [.ref (r 1), .int 6, .ref (r 2), .ref (r 55), .ref (r 57), .ref (r 30), .ref (r 56), .ref (r 36), .ref (r 37), .ref (r 38), .int 0, .ref (r 51), .int 0, .ref (r 52), .ref (r 53), .ref (r 54)])), (r 1, .inl ((c 1), 1600, .inl zf20))] H19 := by rw [ezf20]; exact hP
  have hD : va_D A [(r 0, .inr (7, [.ref (r 1), .int 6, .ref (r 2), .ref (r 55), .ref (r 57), .ref (r 30), .ref (r 56), .ref (r 36), .ref (r 37), .ref (r 38), .int 0, .ref (r 51), .int 0, .ref (r 52), .ref (r 53), .ref (r 54)])), (r 1, .inl ((c 1), 1600, .inl zf20))] := by rw [ezf20]; exact hD
  refine lv_aload_n hx hb dX8_putBytes_30 rfl (lv_at hl 1 rfl) ?_
  refine lv_dup hx hb dX8_putBytes_31 rfl ?_
  refine va_get (D := (dC, dI)) (ci := 7) (v := .int 6) (C := RX8) (T := TX8) (N := 16) hx hb hG inX8 hown hK hP 0 rfl rfl 1 (by decide) (hG _ gw469) (fun _ h9 => h9) rfl dX8_putBytes_32 ?_
  refine lv_iconst (v := 1) hx hb dX8_putBytes_35 (by decide) ?_
  refine lv_iadd hx hb dX8_putBytes_36 ?_
  refine wt_c (v := 7) (by decide) ?_
  refine va_put (D := (dC, dI)) (ci := 7) (v := .int 7) (ty := .int) (C := RX8) (T := TX8) (N := 16) hx hb hG inX8 tyX8 tyX8_ok nmX8 hown hK hP hD hS 0 rfl rfl 1 (by decide) (hG _ gw469) (fun _ h9 => h9) rfl (by decide +kernel) rfl rfl (Nat.le_of_ble_eq_true rfl) dX8_putBytes_37 (fun H21 locs hP hD hS => ?_)
  have hP : va_P (dC, dI) vwCl [(r 0, .inr (7, [.ref (r 1), .int 7, .ref (r 2), .ref (r 55), .ref (r 57), .ref (r 30), .ref (r 56), .ref (r 36), .ref (r 37), .ref (r 38), .int 0, .ref (r 51), .int 0, .ref (r 52), .ref (r 53), .ref (r 54)])), (r 1, .inl ((c 1), 1600, .inl zf20))] H21 := hP
  have hD : va_D A [(r 0, .inr (7, [.ref (r 1), .int 7, .ref (r 2), .ref (r 55), .ref (r 57), .ref (r 30), .ref (r 56), .ref (r 36), .ref (r 37), .ref (r 38), .int 0, .ref (r 51), .int 0, .ref (r 52), .ref (r 53), .ref (r 54)])), (r 1, .inl ((c 1), 1600, .inl zf20))] := hD
  refine lv_iinc (v := 0) (lv' := [(2, .int 0), (0, .ref (r 0)), (1, .int p0)]) hx hb dX8_putBytes_40 hl (k := 0) rfl (by decide) (by decide) rfl (fun ls hl => ?_)
  refine lv_goto (tgt := 3) hx hb dX8_putBytes_43 (by decide) ?_
  refine lv_iload_n hx hb dX8_putBytes_3 rfl (lv_at hl 0 rfl) ?_
  refine lv_if_lt (tgt := 46) hx hb dX8_putBytes_4 (by decide) (fun c_22 => absurd c_22 (by decide)) (fun c_22 => ?_)
  refine lv_aload_n hx hb dX8_putBytes_7 rfl (lv_at hl 1 rfl) ?_
  refine va_get (D := (dC, dI)) (ci := 7) (v := .int 7) (C := RX8) (T := TX8) (N := 16) hx hb hG inX8 hown hK hP 0 rfl rfl 1 (by decide) (hG _ gw469) (fun _ h9 => h9) rfl dX8_putBytes_8 ?_
  refine lv_sipush (v := 1600) hx hb dX8_putBytes_11 (by decide) ?_
  refine lv_icmp_ge (tgt := 40) hx hb dX8_putBytes_14 (by decide) (fun c_23 => absurd c_23 (by decide)) (fun c_23 => ?_)
  refine lv_aload_n hx hb dX8_putBytes_17 rfl (lv_at hl 1 rfl) ?_
  refine va_get (D := (dC, dI)) (ci := 7) (v := .ref (r 1)) (C := RX8) (T := TX8) (N := 16) hx hb hG inX8 hown hK hP 0 rfl rfl 0 (by decide) (hG _ gw468) (fun _ h9 => h9) rfl dX8_putBytes_18 ?_
  refine lv_aload_n hx hb dX8_putBytes_21 rfl (lv_at hl 1 rfl) ?_
  refine va_get (D := (dC, dI)) (ci := 7) (v := .int 7) (C := RX8) (T := TX8) (N := 16) hx hb hG inX8 hown hK hP 0 rfl rfl 1 (by decide) (hG _ gw469) (fun _ h9 => h9) rfl dX8_putBytes_22 ?_
  refine lv_iload_n hx hb dX8_putBytes_25 rfl (lv_at hl 2 rfl) ?_
  refine lv_iload_n hx hb dX8_putBytes_26 rfl (lv_at hl 0 rfl) ?_
  refine lv_iushr (v := _) hx hb dX8_putBytes_27 rfl ?_
  refine lv_topi (fun x24 ex24 => ?_)
  refine lv_i2b (v := _) hx hb dX8_putBytes_28 rfl ?_
  refine lv_topi (fun x25 ex25 => ?_)
  refine va_bast hx hb hK hP hD hS 1 0 rfl rfl (vin (by decide)) dX8_putBytes_29 (fun H26 locs hP hD hS => ?_)
  obtain ⟨zf27, ezf27⟩ : ∃ z : Nat → Int32, z = upd zf20 (7 : Int32).toNatClampNeg (vp_nar .byte x25) := ⟨_, rfl⟩
  have hP : va_P (dC, dI) vwCl [(r 0, .inr (7, [.ref (r 1), .int 7, .ref (r 2), .ref (r 55), .ref (r 57), .ref (r 30), .ref (r 56), .ref (r 36), .ref (r 37), .ref (r 38), .int 0, .ref (r 51), .int 0, .ref (r 52), .ref (r 53), .ref (r 54)])), (r 1, .inl ((c 1), 1600, .inl zf27))] H26 := by rw [ezf27]; exact hP
  have hD : va_D A [(r 0, .inr (7, [.ref (r 1), .int 7, .ref (r 2), .ref (r 55), .ref (r 57), .ref (r 30), .ref (r 56), .ref (r 36), .ref (r 37), .ref (r 38), .int 0, .ref (r 51), .int 0, .ref (r 52), .ref (r 53), .ref (r 54)])), (r 1, .inl ((c 1), 1600, .inl zf27))] := by rw [ezf27]; exact hD
  refine lv_aload_n hx hb dX8_putBytes_30 rfl (lv_at hl 1 rfl) ?_
  refine lv_dup hx hb dX8_putBytes_31 rfl ?_
  refine va_get (D := (dC, dI)) (ci := 7) (v := .int 7) (C := RX8) (T := TX8) (N := 16) hx hb hG inX8 hown hK hP 0 rfl rfl 1 (by decide) (hG _ gw469) (fun _ h9 => h9) rfl dX8_putBytes_32 ?_
  refine lv_iconst (v := 1) hx hb dX8_putBytes_35 (by decide) ?_
  refine lv_iadd hx hb dX8_putBytes_36 ?_
  refine wt_c (v := 8) (by decide) ?_
  refine va_put (D := (dC, dI)) (ci := 7) (v := .int 8) (ty := .int) (C := RX8) (T := TX8) (N := 16) hx hb hG inX8 tyX8 tyX8_ok nmX8 hown hK hP hD hS 0 rfl rfl 1 (by decide) (hG _ gw469) (fun _ h9 => h9) rfl (by decide +kernel) rfl rfl (Nat.le_of_ble_eq_true rfl) dX8_putBytes_37 (fun H28 locs hP hD hS => ?_)
  have hP : va_P (dC, dI) vwCl [(r 0, .inr (7, [.ref (r 1), .int 8, .ref (r 2), .ref (r 55), .ref (r 57), .ref (r 30), .ref (r 56), .ref (r 36), .ref (r 37), .ref (r 38), .int 0, .ref (r 51), .int 0, .ref (r 52), .ref (r 53), .ref (r 54)])), (r 1, .inl ((c 1), 1600, .inl zf27))] H28 := hP
  have hD : va_D A [(r 0, .inr (7, [.ref (r 1), .int 8, .ref (r 2), .ref (r 55), .ref (r 57), .ref (r 30), .ref (r 56), .ref (r 36), .ref (r 37), .ref (r 38), .int 0, .ref (r 51), .int 0, .ref (r 52), .ref (r 53), .ref (r 54)])), (r 1, .inl ((c 1), 1600, .inl zf27))] := hD
  refine lv_iinc (v := (-8)) (lv' := [(2, .int (-8)), (0, .ref (r 0)), (1, .int p0)]) hx hb dX8_putBytes_40 hl (k := 0) rfl (by decide) (by decide) rfl (fun ls hl => ?_)
  refine lv_goto (tgt := 3) hx hb dX8_putBytes_43 (by decide) ?_
  refine lv_iload_n hx hb dX8_putBytes_3 rfl (lv_at hl 0 rfl) ?_
  refine lv_if_lt (tgt := 46) hx hb dX8_putBytes_4 (by decide) (fun c_29 => ?_) (fun c_29 => absurd (by decide) c_29)
  have hP9 := hP.sub (ws' := [(r 0, .inr (7, [.ref (r 1), .int 8, .ref (r 2), .ref (r 55), .ref (r 57), .ref (r 30), .ref (r 56), .ref (r 36), .ref (r 37), .ref (r 38), .int 0, .ref (r 51), .int 0, .ref (r 52), .ref (r 53), .ref (r 54)])), (r 1, .inl ((c 1), 1600, .inl zf27))]) [0, 1] rfl
  have hD9 := hD.sub (ws' := [(r 0, .inr (7, [.ref (r 1), .int 8, .ref (r 2), .ref (r 55), .ref (r 57), .ref (r 30), .ref (r 56), .ref (r 36), .ref (r 37), .ref (r 38), .int 0, .ref (r 51), .int 0, .ref (r 52), .ref (r 53), .ref (r 54)])), (r 1, .inl ((c 1), 1600, .inl zf27))]) [0, 1] (by decide) rfl
  exact W.vret hx hb hr (fun t ht hW => ⟨⟨(), rfl, trivial, ⟨zf27, by rw [ht]; exact hP9, hD9⟩⟩, hS.F ht⟩) hS.2.2 dX8_putBytes_46
set_option maxHeartbeats 4000000 in
set_option maxRecDepth 100000 in
theorem kX8_putBytes_v2 (l : Launch) (dC : Nat → ClassId) (dI : Nat → Nat → Nat) (r : Nat → Nat) (c : Nat → ClassId) (f1 : Nat → Int32) (p0 : Int32) (sz : Nat) : Met l yX8_putBytes (.code yX8_putBytes cX8_putBytes 3 none :: GW) { frames := 2, cells := 0, slots := 0, locals := 100 } (va_Pc [.ref (r 0), .int p0] (pW (dC, dI) [(r 0, .inr (7, [.ref (r 1), .int 8, .ref (r 2), .ref (r 55), .ref (r 57), .ref (r 30), .ref (r 56), .ref (r 36), .ref (r 37), .ref (r 38), .int 0, .ref (r 51), .int 0, .ref (r 52), .ref (r 53), .ref (r 54)])), (r 1, .inl ((c 1), 1600, .inl f1))] [((c 1), .byte)] sz)) (va_Qv (fun _ : Unit => True) (fun (_ : Unit) (t : State) => ∃ (F0 : Nat → Int32), va_P (dC, dI) vwCl [(r 0, .inr (7, [.ref (r 1), .int 12, .ref (r 2), .ref (r 55), .ref (r 57), .ref (r 30), .ref (r 56), .ref (r 36), .ref (r 37), .ref (r 38), .int 0, .ref (r 51), .int 0, .ref (r 52), .ref (r 53), .ref (r 54)])), (r 1, .inl ((c 1), 1600, .inl F0))] t.heap ∧ va_D (va_A [(r 0, .inr (7, [.ref (r 1), .int 8, .ref (r 2), .ref (r 55), .ref (r 57), .ref (r 30), .ref (r 56), .ref (r 36), .ref (r 37), .ref (r 38), .int 0, .ref (r 51), .int 0, .ref (r 52), .ref (r 53), .ref (r 54)])), (r 1, .inl ((c 1), 1600, .inl f1))] sz) [(r 0, .inr (7, [.ref (r 1), .int 12, .ref (r 2), .ref (r 55), .ref (r 57), .ref (r 30), .ref (r 56), .ref (r 36), .ref (r 37), .ref (r 38), .int 0, .ref (r 51), .int 0, .ref (r 52), .ref (r 53), .ref (r 54)])), (r 1, .inl ((c 1), 1600, .inl F0))]) (va_A [(r 0, .inr (7, [.ref (r 1), .int 8, .ref (r 2), .ref (r 55), .ref (r 57), .ref (r 30), .ref (r 56), .ref (r 36), .ref (r 37), .ref (r 38), .int 0, .ref (r 51), .int 0, .ref (r 52), .ref (r 53), .ref (r 54)])), (r 1, .inl ((c 1), 1600, .inl f1))] sz)) 0 0 (va_A [(r 0, .inr (7, [.ref (r 1), .int 8, .ref (r 2), .ref (r 55), .ref (r 57), .ref (r 30), .ref (r 56), .ref (r 36), .ref (r 37), .ref (r 38), .int 0, .ref (r 51), .int 0, .ref (r 52), .ref (r 53), .ref (r 54)])), (r 1, .inl ((c 1), 1600, .inl f1))] sz) := by
  refine Met.ofW (cc := cX8_putBytes) (maxL := 3) (ret := none) (by decide) rfl ?_
  intro p e s m args below meth c0 s₁ B hml hv
  obtain ⟨rfl, hsz, hP, hK, hD0⟩ := hv
  have hx := B.exec
  have hb := B.bytes
  have hr := B.returns
  have hts := atoms_spec (ws := .code yX8_putBytes cX8_putBytes 3 none :: GW) B.pre
  have hG : ∀ w ∈ GW, w.before _ s = true := fun w h => hts w (List.mem_cons_of_mem _ h)
  have hown : s.vm.findClass RX8 = some m.cls := findClass_of_methodNamed B.named
  have hlocks := B.notSynchronized
  subst hsz
  have hD := hD0.self (sz := s.heap.size)
  generalize hAe : va_A [(r 0, .inr (7, [.ref (r 1), .int 8, .ref (r 2), .ref (r 55), .ref (r 57), .ref (r 30), .ref (r 56), .ref (r 36), .ref (r 37), .ref (r 38), .int 0, .ref (r 51), .int 0, .ref (r 52), .ref (r 53), .ref (r 54)])), (r 1, .inl ((c 1), 1600, .inl f1))] s.heap.size = A at hD ⊢
  have hA : ∀ q : Nat, s.heap.size ≤ q → A q := fun q h => by rw [← hAe]; exact Or.inr h
  have hS : va_S A s.heap s.heap [] := va_S.rf
  have hP : va_P (dC, dI) vwCl [(r 0, .inr (7, [.ref (r 1), .int 8, .ref (r 2), .ref (r 55), .ref (r 57), .ref (r 30), .ref (r 56), .ref (r 36), .ref (r 37), .ref (r 38), .int 0, .ref (r 51), .int 0, .ref (r 52), .ref (r 53), .ref (r 54)])), (r 1, .inl ((c 1), 1600, .inl f1))] s.heap := hP
  have hl := lv_entry ([.ref (r 0), .int p0]) (n := 3) (Nat.le_of_ble_eq_true rfl)
  rw [lg_entry_eq]
  generalize (lg_sl ([.ref (r 0), .int p0]) ++ List.replicate (3 - (lg_sl ([.ref (r 0), .int p0])).length) Slot.unset).toArray = ls at hl ⊢
  have hl : lv_has ls 3 [(0, .ref (r 0)), (1, .int p0)] := hl
  refine lv_bipush (v := 24) hx hb dX8_putBytes_0 (by decide) ?_
  refine lv_istore_n (lv' := [(2, .int 24), (0, .ref (r 0)), (1, .int p0)]) hx hb dX8_putBytes_2 rfl hl (by decide) rfl (fun ls hl => ?_)
  refine lv_iload_n hx hb dX8_putBytes_3 rfl (lv_at hl 0 rfl) ?_
  refine lv_if_lt (tgt := 46) hx hb dX8_putBytes_4 (by decide) (fun c_1 => absurd c_1 (by decide)) (fun c_1 => ?_)
  refine lv_aload_n hx hb dX8_putBytes_7 rfl (lv_at hl 1 rfl) ?_
  refine va_get (D := (dC, dI)) (ci := 7) (v := .int 8) (C := RX8) (T := TX8) (N := 16) hx hb hG inX8 hown hK hP 0 rfl rfl 1 (by decide) (hG _ gw469) (fun _ h9 => h9) rfl dX8_putBytes_8 ?_
  refine lv_sipush (v := 1600) hx hb dX8_putBytes_11 (by decide) ?_
  refine lv_icmp_ge (tgt := 40) hx hb dX8_putBytes_14 (by decide) (fun c_2 => absurd c_2 (by decide)) (fun c_2 => ?_)
  refine lv_aload_n hx hb dX8_putBytes_17 rfl (lv_at hl 1 rfl) ?_
  refine va_get (D := (dC, dI)) (ci := 7) (v := .ref (r 1)) (C := RX8) (T := TX8) (N := 16) hx hb hG inX8 hown hK hP 0 rfl rfl 0 (by decide) (hG _ gw468) (fun _ h9 => h9) rfl dX8_putBytes_18 ?_
  refine lv_aload_n hx hb dX8_putBytes_21 rfl (lv_at hl 1 rfl) ?_
  refine va_get (D := (dC, dI)) (ci := 7) (v := .int 8) (C := RX8) (T := TX8) (N := 16) hx hb hG inX8 hown hK hP 0 rfl rfl 1 (by decide) (hG _ gw469) (fun _ h9 => h9) rfl dX8_putBytes_22 ?_
  refine lv_iload_n hx hb dX8_putBytes_25 rfl (lv_at hl 2 rfl) ?_
  refine lv_iload_n hx hb dX8_putBytes_26 rfl (lv_at hl 0 rfl) ?_
  refine lv_iushr (v := _) hx hb dX8_putBytes_27 rfl ?_
  refine lv_topi (fun x3 ex3 => ?_)
  refine lv_i2b (v := _) hx hb dX8_putBytes_28 rfl ?_
  refine lv_topi (fun x4 ex4 => ?_)
  refine va_bast hx hb hK hP hD hS 1 0 rfl rfl (vin (by decide)) dX8_putBytes_29 (fun H5 locs hP hD hS => ?_)
  obtain ⟨zf6, ezf6⟩ : ∃ z : Nat → Int32, z = upd f1 (8 : Int32).toNatClampNeg (vp_nar .byte x4) := ⟨_, rfl⟩
  have hP : va_P (dC, dI) vwCl [(r 0, .inr (7, [.ref (r 1), .int 8, .ref (r 2), .ref (r 55), .ref (r 57), .ref (r 30), .ref (r 56), .ref (r 36), .ref (r 37), .ref (r 38), .int 0, .ref (r 51), .int 0, .ref (r 52), .ref (r 53), .ref (r 54)])), (r 1, .inl ((c 1), 1600, .inl zf6))] H5 := by rw [ezf6]; exact hP
  have hD : va_D A [(r 0, .inr (7, [.ref (r 1), .int 8, .ref (r 2), .ref (r 55), .ref (r 57), .ref (r 30), .ref (r 56), .ref (r 36), .ref (r 37), .ref (r 38), .int 0, .ref (r 51), .int 0, .ref (r 52), .ref (r 53), .ref (r 54)])), (r 1, .inl ((c 1), 1600, .inl zf6))] := by rw [ezf6]; exact hD
  refine lv_aload_n hx hb dX8_putBytes_30 rfl (lv_at hl 1 rfl) ?_
  refine lv_dup hx hb dX8_putBytes_31 rfl ?_
  refine va_get (D := (dC, dI)) (ci := 7) (v := .int 8) (C := RX8) (T := TX8) (N := 16) hx hb hG inX8 hown hK hP 0 rfl rfl 1 (by decide) (hG _ gw469) (fun _ h9 => h9) rfl dX8_putBytes_32 ?_
  refine lv_iconst (v := 1) hx hb dX8_putBytes_35 (by decide) ?_
  refine lv_iadd hx hb dX8_putBytes_36 ?_
  refine wt_c (v := 9) (by decide) ?_
  refine va_put (D := (dC, dI)) (ci := 7) (v := .int 9) (ty := .int) (C := RX8) (T := TX8) (N := 16) hx hb hG inX8 tyX8 tyX8_ok nmX8 hown hK hP hD hS 0 rfl rfl 1 (by decide) (hG _ gw469) (fun _ h9 => h9) rfl (by decide +kernel) rfl rfl (Nat.le_of_ble_eq_true rfl) dX8_putBytes_37 (fun H7 locs hP hD hS => ?_)
  have hP : va_P (dC, dI) vwCl [(r 0, .inr (7, [.ref (r 1), .int 9, .ref (r 2), .ref (r 55), .ref (r 57), .ref (r 30), .ref (r 56), .ref (r 36), .ref (r 37), .ref (r 38), .int 0, .ref (r 51), .int 0, .ref (r 52), .ref (r 53), .ref (r 54)])), (r 1, .inl ((c 1), 1600, .inl zf6))] H7 := hP
  have hD : va_D A [(r 0, .inr (7, [.ref (r 1), .int 9, .ref (r 2), .ref (r 55), .ref (r 57), .ref (r 30), .ref (r 56), .ref (r 36), .ref (r 37), .ref (r 38), .int 0, .ref (r 51), .int 0, .ref (r 52), .ref (r 53), .ref (r 54)])), (r 1, .inl ((c 1), 1600, .inl zf6))] := hD
  refine lv_iinc (v := 16) (lv' := [(2, .int 16), (0, .ref (r 0)), (1, .int p0)]) hx hb dX8_putBytes_40 hl (k := 0) rfl (by decide) (by decide) rfl (fun ls hl => ?_)
  refine lv_goto (tgt := 3) hx hb dX8_putBytes_43 (by decide) ?_
  refine lv_iload_n hx hb dX8_putBytes_3 rfl (lv_at hl 0 rfl) ?_
  refine lv_if_lt (tgt := 46) hx hb dX8_putBytes_4 (by decide) (fun c_8 => absurd c_8 (by decide)) (fun c_8 => ?_)
  refine lv_aload_n hx hb dX8_putBytes_7 rfl (lv_at hl 1 rfl) ?_
  refine va_get (D := (dC, dI)) (ci := 7) (v := .int 9) (C := RX8) (T := TX8) (N := 16) hx hb hG inX8 hown hK hP 0 rfl rfl 1 (by decide) (hG _ gw469) (fun _ h9 => h9) rfl dX8_putBytes_8 ?_
  refine lv_sipush (v := 1600) hx hb dX8_putBytes_11 (by decide) ?_
  refine lv_icmp_ge (tgt := 40) hx hb dX8_putBytes_14 (by decide) (fun c_9 => absurd c_9 (by decide)) (fun c_9 => ?_)
  refine lv_aload_n hx hb dX8_putBytes_17 rfl (lv_at hl 1 rfl) ?_
  refine va_get (D := (dC, dI)) (ci := 7) (v := .ref (r 1)) (C := RX8) (T := TX8) (N := 16) hx hb hG inX8 hown hK hP 0 rfl rfl 0 (by decide) (hG _ gw468) (fun _ h9 => h9) rfl dX8_putBytes_18 ?_
  refine lv_aload_n hx hb dX8_putBytes_21 rfl (lv_at hl 1 rfl) ?_
  refine va_get (D := (dC, dI)) (ci := 7) (v := .int 9) (C := RX8) (T := TX8) (N := 16) hx hb hG inX8 hown hK hP 0 rfl rfl 1 (by decide) (hG _ gw469) (fun _ h9 => h9) rfl dX8_putBytes_22 ?_
  refine lv_iload_n hx hb dX8_putBytes_25 rfl (lv_at hl 2 rfl) ?_
  refine lv_iload_n hx hb dX8_putBytes_26 rfl (lv_at hl 0 rfl) ?_
  refine lv_iushr (v := _) hx hb dX8_putBytes_27 rfl ?_
  refine lv_topi (fun x10 ex10 => ?_)
  refine lv_i2b (v := _) hx hb dX8_putBytes_28 rfl ?_
  refine lv_topi (fun x11 ex11 => ?_)
  refine va_bast hx hb hK hP hD hS 1 0 rfl rfl (vin (by decide)) dX8_putBytes_29 (fun H12 locs hP hD hS => ?_)
  obtain ⟨zf13, ezf13⟩ : ∃ z : Nat → Int32, z = upd zf6 (9 : Int32).toNatClampNeg (vp_nar .byte x11) := ⟨_, rfl⟩
  have hP : va_P (dC, dI) vwCl [(r 0, .inr (7, [.ref (r 1), .int 9, .ref (r 2), .ref (r 55), .ref (r 57), .ref (r 30), .ref (r 56), .ref (r 36), .ref (r 37), .ref (r 38), .int 0, .ref (r 51), .int 0, .ref (r 52), .ref (r 53), .ref (r 54)])), (r 1, .inl ((c 1), 1600, .inl zf13))] H12 := by rw [ezf13]; exact hP
  have hD : va_D A [(r 0, .inr (7, [.ref (r 1), .int 9, .ref (r 2), .ref (r 55), .ref (r 57), .ref (r 30), .ref (r 56), .ref (r 36), .ref (r 37), .ref (r 38), .int 0, .ref (r 51), .int 0, .ref (r 52), .ref (r 53), .ref (r 54)])), (r 1, .inl ((c 1), 1600, .inl zf13))] := by rw [ezf13]; exact hD
  refine lv_aload_n hx hb dX8_putBytes_30 rfl (lv_at hl 1 rfl) ?_
  refine lv_dup hx hb dX8_putBytes_31 rfl ?_
  refine va_get (D := (dC, dI)) (ci := 7) (v := .int 9) (C := RX8) (T := TX8) (N := 16) hx hb hG inX8 hown hK hP 0 rfl rfl 1 (by decide) (hG _ gw469) (fun _ h9 => h9) rfl dX8_putBytes_32 ?_
  refine lv_iconst (v := 1) hx hb dX8_putBytes_35 (by decide) ?_
  refine lv_iadd hx hb dX8_putBytes_36 ?_
  refine wt_c (v := 10) (by decide) ?_
  refine va_put (D := (dC, dI)) (ci := 7) (v := .int 10) (ty := .int) (C := RX8) (T := TX8) (N := 16) hx hb hG inX8 tyX8 tyX8_ok nmX8 hown hK hP hD hS 0 rfl rfl 1 (by decide) (hG _ gw469) (fun _ h9 => h9) rfl (by decide +kernel) rfl rfl (Nat.le_of_ble_eq_true rfl) dX8_putBytes_37 (fun H14 locs hP hD hS => ?_)
  have hP : va_P (dC, dI) vwCl [(r 0, .inr (7, [.ref (r 1), .int 10, .ref (r 2), .ref (r 55), .ref (r 57), .ref (r 30), .ref (r 56), .ref (r 36), .ref (r 37), .ref (r 38), .int 0, .ref (r 51), .int 0, .ref (r 52), .ref (r 53), .ref (r 54)])), (r 1, .inl ((c 1), 1600, .inl zf13))] H14 := hP
  have hD : va_D A [(r 0, .inr (7, [.ref (r 1), .int 10, .ref (r 2), .ref (r 55), .ref (r 57), .ref (r 30), .ref (r 56), .ref (r 36), .ref (r 37), .ref (r 38), .int 0, .ref (r 51), .int 0, .ref (r 52), .ref (r 53), .ref (r 54)])), (r 1, .inl ((c 1), 1600, .inl zf13))] := hD
  refine lv_iinc (v := 8) (lv' := [(2, .int 8), (0, .ref (r 0)), (1, .int p0)]) hx hb dX8_putBytes_40 hl (k := 0) rfl (by decide) (by decide) rfl (fun ls hl => ?_)
  refine lv_goto (tgt := 3) hx hb dX8_putBytes_43 (by decide) ?_
  refine lv_iload_n hx hb dX8_putBytes_3 rfl (lv_at hl 0 rfl) ?_
  refine lv_if_lt (tgt := 46) hx hb dX8_putBytes_4 (by decide) (fun c_15 => absurd c_15 (by decide)) (fun c_15 => ?_)
  refine lv_aload_n hx hb dX8_putBytes_7 rfl (lv_at hl 1 rfl) ?_
  refine va_get (D := (dC, dI)) (ci := 7) (v := .int 10) (C := RX8) (T := TX8) (N := 16) hx hb hG inX8 hown hK hP 0 rfl rfl 1 (by decide) (hG _ gw469) (fun _ h9 => h9) rfl dX8_putBytes_8 ?_
  refine lv_sipush (v := 1600) hx hb dX8_putBytes_11 (by decide) ?_
  refine lv_icmp_ge (tgt := 40) hx hb dX8_putBytes_14 (by decide) (fun c_16 => absurd c_16 (by decide)) (fun c_16 => ?_)
  refine lv_aload_n hx hb dX8_putBytes_17 rfl (lv_at hl 1 rfl) ?_
  refine va_get (D := (dC, dI)) (ci := 7) (v := .ref (r 1)) (C := RX8) (T := TX8) (N := 16) hx hb hG inX8 hown hK hP 0 rfl rfl 0 (by decide) (hG _ gw468) (fun _ h9 => h9) rfl dX8_putBytes_18 ?_
  refine lv_aload_n hx hb dX8_putBytes_21 rfl (lv_at hl 1 rfl) ?_
  refine va_get (D := (dC, dI)) (ci := 7) (v := .int 10) (C := RX8) (T := TX8) (N := 16) hx hb hG inX8 hown hK hP 0 rfl rfl 1 (by decide) (hG _ gw469) (fun _ h9 => h9) rfl dX8_putBytes_22 ?_
  refine lv_iload_n hx hb dX8_putBytes_25 rfl (lv_at hl 2 rfl) ?_
  refine lv_iload_n hx hb dX8_putBytes_26 rfl (lv_at hl 0 rfl) ?_
  refine lv_iushr (v := _) hx hb dX8_putBytes_27 rfl ?_
  refine lv_topi (fun x17 ex17 => ?_)
  refine lv_i2b (v := _) hx hb dX8_putBytes_28 rfl ?_
  refine lv_topi (fun x18 ex18 => ?_)
  refine va_bast hx hb hK hP hD hS 1 0 rfl rfl (vin (by decide)) dX8_putBytes_29 (fun H19 locs hP hD hS => ?_)
  obtain ⟨zf20, ezf20⟩ : ∃ z : Nat → Int32, z = upd zf13 (10 : Int32).toNatClampNeg (vp_nar .byte x18) := ⟨_, rfl⟩
  have hP : va_P (dC, dI) vwCl [(r 0, .inr (7, [.ref (r 1), .int 10, .ref (r 2), .ref (r 55), .ref (r 57), .ref (r 30), .ref (r 56), .ref (r 36), .ref (r 37), .ref (r 38), .int 0, .ref (r 51), .int 0, .ref (r 52), .ref (r 53), .ref (r 54)])), (r 1, .inl ((c 1), 1600, .inl zf20))] H19 := by rw [ezf20]; exact hP
  have hD : va_D A [(r 0, .inr (7, [.ref (r 1), .int 10, .ref (r 2), .ref (r 55), .ref (r 57), .ref (r 30), .ref (r 56), .ref (r 36), .ref (r 37), .ref (r 38), .int 0, .ref (r 51), .int 0, .ref (r 52), .ref (r 53), .ref (r 54)])), (r 1, .inl ((c 1), 1600, .inl zf20))] := by rw [ezf20]; exact hD
  refine lv_aload_n hx hb dX8_putBytes_30 rfl (lv_at hl 1 rfl) ?_
  refine lv_dup hx hb dX8_putBytes_31 rfl ?_
  refine va_get (D := (dC, dI)) (ci := 7) (v := .int 10) (C := RX8) (T := TX8) (N := 16) hx hb hG inX8 hown hK hP 0 rfl rfl 1 (by decide) (hG _ gw469) (fun _ h9 => h9) rfl dX8_putBytes_32 ?_
  refine lv_iconst (v := 1) hx hb dX8_putBytes_35 (by decide) ?_
  refine lv_iadd hx hb dX8_putBytes_36 ?_
  refine wt_c (v := 11) (by decide) ?_
  refine va_put (D := (dC, dI)) (ci := 7) (v := .int 11) (ty := .int) (C := RX8) (T := TX8) (N := 16) hx hb hG inX8 tyX8 tyX8_ok nmX8 hown hK hP hD hS 0 rfl rfl 1 (by decide) (hG _ gw469) (fun _ h9 => h9) rfl (by decide +kernel) rfl rfl (Nat.le_of_ble_eq_true rfl) dX8_putBytes_37 (fun H21 locs hP hD hS => ?_)
  have hP : va_P (dC, dI) vwCl [(r 0, .inr (7, [.ref (r 1), .int 11, .ref (r 2), .ref (r 55), .ref (r 57), .ref (r 30), .ref (r 56), .ref (r 36), .ref (r 37), .ref (r 38), .int 0, .ref (r 51), .int 0, .ref (r 52), .ref (r 53), .ref (r 54)])), (r 1, .inl ((c 1), 1600, .inl zf20))] H21 := hP
  have hD : va_D A [(r 0, .inr (7, [.ref (r 1), .int 11, .ref (r 2), .ref (r 55), .ref (r 57), .ref (r 30), .ref (r 56), .ref (r 36), .ref (r 37), .ref (r 38), .int 0, .ref (r 51), .int 0, .ref (r 52), .ref (r 53), .ref (r 54)])), (r 1, .inl ((c 1), 1600, .inl zf20))] := hD
  refine lv_iinc (v := 0) (lv' := [(2, .int 0), (0, .ref (r 0)), (1, .int p0)]) hx hb dX8_putBytes_40 hl (k := 0) rfl (by decide) (by decide) rfl (fun ls hl => ?_)
  refine lv_goto (tgt := 3) hx hb dX8_putBytes_43 (by decide) ?_
  refine lv_iload_n hx hb dX8_putBytes_3 rfl (lv_at hl 0 rfl) ?_
  refine lv_if_lt (tgt := 46) hx hb dX8_putBytes_4 (by decide) (fun c_22 => absurd c_22 (by decide)) (fun c_22 => ?_)
  refine lv_aload_n hx hb dX8_putBytes_7 rfl (lv_at hl 1 rfl) ?_
  refine va_get (D := (dC, dI)) (ci := 7) (v := .int 11) (C := RX8) (T := TX8) (N := 16) hx hb hG inX8 hown hK hP 0 rfl rfl 1 (by decide) (hG _ gw469) (fun _ h9 => h9) rfl dX8_putBytes_8 ?_
  refine lv_sipush (v := 1600) hx hb dX8_putBytes_11 (by decide) ?_
  refine lv_icmp_ge (tgt := 40) hx hb dX8_putBytes_14 (by decide) (fun c_23 => absurd c_23 (by decide)) (fun c_23 => ?_)
  refine lv_aload_n hx hb dX8_putBytes_17 rfl (lv_at hl 1 rfl) ?_
  refine va_get (D := (dC, dI)) (ci := 7) (v := .ref (r 1)) (C := RX8) (T := TX8) (N := 16) hx hb hG inX8 hown hK hP 0 rfl rfl 0 (by decide) (hG _ gw468) (fun _ h9 => h9) rfl dX8_putBytes_18 ?_
  refine lv_aload_n hx hb dX8_putBytes_21 rfl (lv_at hl 1 rfl) ?_
  refine va_get (D := (dC, dI)) (ci := 7) (v := .int 11) (C := RX8) (T := TX8) (N := 16) hx hb hG inX8 hown hK hP 0 rfl rfl 1 (by decide) (hG _ gw469) (fun _ h9 => h9) rfl dX8_putBytes_22 ?_
  refine lv_iload_n hx hb dX8_putBytes_25 rfl (lv_at hl 2 rfl) ?_
  refine lv_iload_n hx hb dX8_putBytes_26 rfl (lv_at hl 0 rfl) ?_
  refine lv_iushr (v := _) hx hb dX8_putBytes_27 rfl ?_
  refine lv_topi (fun x24 ex24 => ?_)
  refine lv_i2b (v := _) hx hb dX8_putBytes_28 rfl ?_
  refine lv_topi (fun x25 ex25 => ?_)
  refine va_bast hx hb hK hP hD hS 1 0 rfl rfl (vin (by decide)) dX8_putBytes_29 (fun H26 locs hP hD hS => ?_)
  obtain ⟨zf27, ezf27⟩ : ∃ z : Nat → Int32, z = upd zf20 (11 : Int32).toNatClampNeg (vp_nar .byte x25) := ⟨_, rfl⟩
  have hP : va_P (dC, dI) vwCl [(r 0, .inr (7, [.ref (r 1), .int 11, .ref (r 2), .ref (r 55), .ref (r 57), .ref (r 30), .ref (r 56), .ref (r 36), .ref (r 37), .ref (r 38), .int 0, .ref (r 51), .int 0, .ref (r 52), .ref (r 53), .ref (r 54)])), (r 1, .inl ((c 1), 1600, .inl zf27))] H26 := by rw [ezf27]; exact hP
  have hD : va_D A [(r 0, .inr (7, [.ref (r 1), .int 11, .ref (r 2), .ref (r 55), .ref (r 57), .ref (r 30), .ref (r 56), .ref (r 36), .ref (r 37), .ref (r 38), .int 0, .ref (r 51), .int 0, .ref (r 52), .ref (r 53), .ref (r 54)])), (r 1, .inl ((c 1), 1600, .inl zf27))] := by rw [ezf27]; exact hD
  refine lv_aload_n hx hb dX8_putBytes_30 rfl (lv_at hl 1 rfl) ?_
  refine lv_dup hx hb dX8_putBytes_31 rfl ?_
  refine va_get (D := (dC, dI)) (ci := 7) (v := .int 11) (C := RX8) (T := TX8) (N := 16) hx hb hG inX8 hown hK hP 0 rfl rfl 1 (by decide) (hG _ gw469) (fun _ h9 => h9) rfl dX8_putBytes_32 ?_
  refine lv_iconst (v := 1) hx hb dX8_putBytes_35 (by decide) ?_
  refine lv_iadd hx hb dX8_putBytes_36 ?_
  refine wt_c (v := 12) (by decide) ?_
  refine va_put (D := (dC, dI)) (ci := 7) (v := .int 12) (ty := .int) (C := RX8) (T := TX8) (N := 16) hx hb hG inX8 tyX8 tyX8_ok nmX8 hown hK hP hD hS 0 rfl rfl 1 (by decide) (hG _ gw469) (fun _ h9 => h9) rfl (by decide +kernel) rfl rfl (Nat.le_of_ble_eq_true rfl) dX8_putBytes_37 (fun H28 locs hP hD hS => ?_)
  have hP : va_P (dC, dI) vwCl [(r 0, .inr (7, [.ref (r 1), .int 12, .ref (r 2), .ref (r 55), .ref (r 57), .ref (r 30), .ref (r 56), .ref (r 36), .ref (r 37), .ref (r 38), .int 0, .ref (r 51), .int 0, .ref (r 52), .ref (r 53), .ref (r 54)])), (r 1, .inl ((c 1), 1600, .inl zf27))] H28 := hP
  have hD : va_D A [(r 0, .inr (7, [.ref (r 1), .int 12, .ref (r 2), .ref (r 55), .ref (r 57), .ref (r 30), .ref (r 56), .ref (r 36), .ref (r 37), .ref (r 38), .int 0, .ref (r 51), .int 0, .ref (r 52), .ref (r 53), .ref (r 54)])), (r 1, .inl ((c 1), 1600, .inl zf27))] := hD
  refine lv_iinc (v := (-8)) (lv' := [(2, .int (-8)), (0, .ref (r 0)), (1, .int p0)]) hx hb dX8_putBytes_40 hl (k := 0) rfl (by decide) (by decide) rfl (fun ls hl => ?_)
  refine lv_goto (tgt := 3) hx hb dX8_putBytes_43 (by decide) ?_
  refine lv_iload_n hx hb dX8_putBytes_3 rfl (lv_at hl 0 rfl) ?_
  refine lv_if_lt (tgt := 46) hx hb dX8_putBytes_4 (by decide) (fun c_29 => ?_) (fun c_29 => absurd (by decide) c_29)
  have hP9 := hP.sub (ws' := [(r 0, .inr (7, [.ref (r 1), .int 12, .ref (r 2), .ref (r 55), .ref (r 57), .ref (r 30), .ref (r 56), .ref (r 36), .ref (r 37), .ref (r 38), .int 0, .ref (r 51), .int 0, .ref (r 52), .ref (r 53), .ref (r 54)])), (r 1, .inl ((c 1), 1600, .inl zf27))]) [0, 1] rfl
  have hD9 := hD.sub (ws' := [(r 0, .inr (7, [.ref (r 1), .int 12, .ref (r 2), .ref (r 55), .ref (r 57), .ref (r 30), .ref (r 56), .ref (r 36), .ref (r 37), .ref (r 38), .int 0, .ref (r 51), .int 0, .ref (r 52), .ref (r 53), .ref (r 54)])), (r 1, .inl ((c 1), 1600, .inl zf27))]) [0, 1] (by decide) rfl
  exact W.vret hx hb hr (fun t ht hW => ⟨⟨(), rfl, trivial, ⟨zf27, by rw [ht]; exact hP9, hD9⟩⟩, hS.F ht⟩) hS.2.2 dX8_putBytes_46
set_option maxHeartbeats 4000000 in
set_option maxRecDepth 100000 in
theorem kX8_putBytes_v3 (l : Launch) (dC : Nat → ClassId) (dI : Nat → Nat → Nat) (r : Nat → Nat) (c : Nat → ClassId) (f1 : Nat → Int32) (p0 : Int32) (sz : Nat) : Met l yX8_putBytes (.code yX8_putBytes cX8_putBytes 3 none :: GW) { frames := 2, cells := 0, slots := 0, locals := 100 } (va_Pc [.ref (r 0), .int p0] (pW (dC, dI) [(r 0, .inr (7, [.ref (r 1), .int 12, .ref (r 2), .ref (r 55), .ref (r 57), .ref (r 30), .ref (r 56), .ref (r 36), .ref (r 37), .ref (r 38), .int 0, .ref (r 51), .int 0, .ref (r 52), .ref (r 53), .ref (r 54)])), (r 1, .inl ((c 1), 1600, .inl f1))] [((c 1), .byte)] sz)) (va_Qv (fun _ : Unit => True) (fun (_ : Unit) (t : State) => ∃ (F0 : Nat → Int32), va_P (dC, dI) vwCl [(r 0, .inr (7, [.ref (r 1), .int 16, .ref (r 2), .ref (r 55), .ref (r 57), .ref (r 30), .ref (r 56), .ref (r 36), .ref (r 37), .ref (r 38), .int 0, .ref (r 51), .int 0, .ref (r 52), .ref (r 53), .ref (r 54)])), (r 1, .inl ((c 1), 1600, .inl F0))] t.heap ∧ va_D (va_A [(r 0, .inr (7, [.ref (r 1), .int 12, .ref (r 2), .ref (r 55), .ref (r 57), .ref (r 30), .ref (r 56), .ref (r 36), .ref (r 37), .ref (r 38), .int 0, .ref (r 51), .int 0, .ref (r 52), .ref (r 53), .ref (r 54)])), (r 1, .inl ((c 1), 1600, .inl f1))] sz) [(r 0, .inr (7, [.ref (r 1), .int 16, .ref (r 2), .ref (r 55), .ref (r 57), .ref (r 30), .ref (r 56), .ref (r 36), .ref (r 37), .ref (r 38), .int 0, .ref (r 51), .int 0, .ref (r 52), .ref (r 53), .ref (r 54)])), (r 1, .inl ((c 1), 1600, .inl F0))]) (va_A [(r 0, .inr (7, [.ref (r 1), .int 12, .ref (r 2), .ref (r 55), .ref (r 57), .ref (r 30), .ref (r 56), .ref (r 36), .ref (r 37), .ref (r 38), .int 0, .ref (r 51), .int 0, .ref (r 52), .ref (r 53), .ref (r 54)])), (r 1, .inl ((c 1), 1600, .inl f1))] sz)) 0 0 (va_A [(r 0, .inr (7, [.ref (r 1), .int 12, .ref (r 2), .ref (r 55), .ref (r 57), .ref (r 30), .ref (r 56), .ref (r 36), .ref (r 37), .ref (r 38), .int 0, .ref (r 51), .int 0, .ref (r 52), .ref (r 53), .ref (r 54)])), (r 1, .inl ((c 1), 1600, .inl f1))] sz) := by
  refine Met.ofW (cc := cX8_putBytes) (maxL := 3) (ret := none) (by decide) rfl ?_
  intro p e s m args below meth c0 s₁ B hml hv
  obtain ⟨rfl, hsz, hP, hK, hD0⟩ := hv
  have hx := B.exec
  have hb := B.bytes
  have hr := B.returns
  have hts := atoms_spec (ws := .code yX8_putBytes cX8_putBytes 3 none :: GW) B.pre
  have hG : ∀ w ∈ GW, w.before _ s = true := fun w h => hts w (List.mem_cons_of_mem _ h)
  have hown : s.vm.findClass RX8 = some m.cls := findClass_of_methodNamed B.named
  have hlocks := B.notSynchronized
  subst hsz
  have hD := hD0.self (sz := s.heap.size)
  generalize hAe : va_A [(r 0, .inr (7, [.ref (r 1), .int 12, .ref (r 2), .ref (r 55), .ref (r 57), .ref (r 30), .ref (r 56), .ref (r 36), .ref (r 37), .ref (r 38), .int 0, .ref (r 51), .int 0, .ref (r 52), .ref (r 53), .ref (r 54)])), (r 1, .inl ((c 1), 1600, .inl f1))] s.heap.size = A at hD ⊢
  have hA : ∀ q : Nat, s.heap.size ≤ q → A q := fun q h => by rw [← hAe]; exact Or.inr h
  have hS : va_S A s.heap s.heap [] := va_S.rf
  have hP : va_P (dC, dI) vwCl [(r 0, .inr (7, [.ref (r 1), .int 12, .ref (r 2), .ref (r 55), .ref (r 57), .ref (r 30), .ref (r 56), .ref (r 36), .ref (r 37), .ref (r 38), .int 0, .ref (r 51), .int 0, .ref (r 52), .ref (r 53), .ref (r 54)])), (r 1, .inl ((c 1), 1600, .inl f1))] s.heap := hP
  have hl := lv_entry ([.ref (r 0), .int p0]) (n := 3) (Nat.le_of_ble_eq_true rfl)
  rw [lg_entry_eq]
  generalize (lg_sl ([.ref (r 0), .int p0]) ++ List.replicate (3 - (lg_sl ([.ref (r 0), .int p0])).length) Slot.unset).toArray = ls at hl ⊢
  have hl : lv_has ls 3 [(0, .ref (r 0)), (1, .int p0)] := hl
  refine lv_bipush (v := 24) hx hb dX8_putBytes_0 (by decide) ?_
  refine lv_istore_n (lv' := [(2, .int 24), (0, .ref (r 0)), (1, .int p0)]) hx hb dX8_putBytes_2 rfl hl (by decide) rfl (fun ls hl => ?_)
  refine lv_iload_n hx hb dX8_putBytes_3 rfl (lv_at hl 0 rfl) ?_
  refine lv_if_lt (tgt := 46) hx hb dX8_putBytes_4 (by decide) (fun c_1 => absurd c_1 (by decide)) (fun c_1 => ?_)
  refine lv_aload_n hx hb dX8_putBytes_7 rfl (lv_at hl 1 rfl) ?_
  refine va_get (D := (dC, dI)) (ci := 7) (v := .int 12) (C := RX8) (T := TX8) (N := 16) hx hb hG inX8 hown hK hP 0 rfl rfl 1 (by decide) (hG _ gw469) (fun _ h9 => h9) rfl dX8_putBytes_8 ?_
  refine lv_sipush (v := 1600) hx hb dX8_putBytes_11 (by decide) ?_
  refine lv_icmp_ge (tgt := 40) hx hb dX8_putBytes_14 (by decide) (fun c_2 => absurd c_2 (by decide)) (fun c_2 => ?_)
  refine lv_aload_n hx hb dX8_putBytes_17 rfl (lv_at hl 1 rfl) ?_
  refine va_get (D := (dC, dI)) (ci := 7) (v := .ref (r 1)) (C := RX8) (T := TX8) (N := 16) hx hb hG inX8 hown hK hP 0 rfl rfl 0 (by decide) (hG _ gw468) (fun _ h9 => h9) rfl dX8_putBytes_18 ?_
  refine lv_aload_n hx hb dX8_putBytes_21 rfl (lv_at hl 1 rfl) ?_
  refine va_get (D := (dC, dI)) (ci := 7) (v := .int 12) (C := RX8) (T := TX8) (N := 16) hx hb hG inX8 hown hK hP 0 rfl rfl 1 (by decide) (hG _ gw469) (fun _ h9 => h9) rfl dX8_putBytes_22 ?_
  refine lv_iload_n hx hb dX8_putBytes_25 rfl (lv_at hl 2 rfl) ?_
  refine lv_iload_n hx hb dX8_putBytes_26 rfl (lv_at hl 0 rfl) ?_
  refine lv_iushr (v := _) hx hb dX8_putBytes_27 rfl ?_
  refine lv_topi (fun x3 ex3 => ?_)
  refine lv_i2b (v := _) hx hb dX8_putBytes_28 rfl ?_
  refine lv_topi (fun x4 ex4 => ?_)
  refine va_bast hx hb hK hP hD hS 1 0 rfl rfl (vin (by decide)) dX8_putBytes_29 (fun H5 locs hP hD hS => ?_)
  obtain ⟨zf6, ezf6⟩ : ∃ z : Nat → Int32, z = upd f1 (12 : Int32).toNatClampNeg (vp_nar .byte x4) := ⟨_, rfl⟩
  have hP : va_P (dC, dI) vwCl [(r 0, .inr (7, [.ref (r 1), .int 12, .ref (r 2), .ref (r 55), .ref (r 57), .ref (r 30), .ref (r 56), .ref (r 36), .ref (r 37), .ref (r 38), .int 0, .ref (r 51), .int 0, .ref (r 52), .ref (r 53), .ref (r 54)])), (r 1, .inl ((c 1), 1600, .inl zf6))] H5 := by rw [ezf6]; exact hP
  have hD : va_D A [(r 0, .inr (7, [.ref (r 1), .int 12, .ref (r 2), .ref (r 55), .ref (r 57), .ref (r 30), .ref (r 56), .ref (r 36), .ref (r 37), .ref (r 38), .int 0, .ref (r 51), .int 0, .ref (r 52), .ref (r 53), .ref (r 54)])), (r 1, .inl ((c 1), 1600, .inl zf6))] := by rw [ezf6]; exact hD
  refine lv_aload_n hx hb dX8_putBytes_30 rfl (lv_at hl 1 rfl) ?_
  refine lv_dup hx hb dX8_putBytes_31 rfl ?_
  refine va_get (D := (dC, dI)) (ci := 7) (v := .int 12) (C := RX8) (T := TX8) (N := 16) hx hb hG inX8 hown hK hP 0 rfl rfl 1 (by decide) (hG _ gw469) (fun _ h9 => h9) rfl dX8_putBytes_32 ?_
  refine lv_iconst (v := 1) hx hb dX8_putBytes_35 (by decide) ?_
  refine lv_iadd hx hb dX8_putBytes_36 ?_
  refine wt_c (v := 13) (by decide) ?_
  refine va_put (D := (dC, dI)) (ci := 7) (v := .int 13) (ty := .int) (C := RX8) (T := TX8) (N := 16) hx hb hG inX8 tyX8 tyX8_ok nmX8 hown hK hP hD hS 0 rfl rfl 1 (by decide) (hG _ gw469) (fun _ h9 => h9) rfl (by decide +kernel) rfl rfl (Nat.le_of_ble_eq_true rfl) dX8_putBytes_37 (fun H7 locs hP hD hS => ?_)
  have hP : va_P (dC, dI) vwCl [(r 0, .inr (7, [.ref (r 1), .int 13, .ref (r 2), .ref (r 55), .ref (r 57), .ref (r 30), .ref (r 56), .ref (r 36), .ref (r 37), .ref (r 38), .int 0, .ref (r 51), .int 0, .ref (r 52), .ref (r 53), .ref (r 54)])), (r 1, .inl ((c 1), 1600, .inl zf6))] H7 := hP
  have hD : va_D A [(r 0, .inr (7, [.ref (r 1), .int 13, .ref (r 2), .ref (r 55), .ref (r 57), .ref (r 30), .ref (r 56), .ref (r 36), .ref (r 37), .ref (r 38), .int 0, .ref (r 51), .int 0, .ref (r 52), .ref (r 53), .ref (r 54)])), (r 1, .inl ((c 1), 1600, .inl zf6))] := hD
  refine lv_iinc (v := 16) (lv' := [(2, .int 16), (0, .ref (r 0)), (1, .int p0)]) hx hb dX8_putBytes_40 hl (k := 0) rfl (by decide) (by decide) rfl (fun ls hl => ?_)
  refine lv_goto (tgt := 3) hx hb dX8_putBytes_43 (by decide) ?_
  refine lv_iload_n hx hb dX8_putBytes_3 rfl (lv_at hl 0 rfl) ?_
  refine lv_if_lt (tgt := 46) hx hb dX8_putBytes_4 (by decide) (fun c_8 => absurd c_8 (by decide)) (fun c_8 => ?_)
  refine lv_aload_n hx hb dX8_putBytes_7 rfl (lv_at hl 1 rfl) ?_
  refine va_get (D := (dC, dI)) (ci := 7) (v := .int 13) (C := RX8) (T := TX8) (N := 16) hx hb hG inX8 hown hK hP 0 rfl rfl 1 (by decide) (hG _ gw469) (fun _ h9 => h9) rfl dX8_putBytes_8 ?_
  refine lv_sipush (v := 1600) hx hb dX8_putBytes_11 (by decide) ?_
  refine lv_icmp_ge (tgt := 40) hx hb dX8_putBytes_14 (by decide) (fun c_9 => absurd c_9 (by decide)) (fun c_9 => ?_)
  refine lv_aload_n hx hb dX8_putBytes_17 rfl (lv_at hl 1 rfl) ?_
  refine va_get (D := (dC, dI)) (ci := 7) (v := .ref (r 1)) (C := RX8) (T := TX8) (N := 16) hx hb hG inX8 hown hK hP 0 rfl rfl 0 (by decide) (hG _ gw468) (fun _ h9 => h9) rfl dX8_putBytes_18 ?_
  refine lv_aload_n hx hb dX8_putBytes_21 rfl (lv_at hl 1 rfl) ?_
  refine va_get (D := (dC, dI)) (ci := 7) (v := .int 13) (C := RX8) (T := TX8) (N := 16) hx hb hG inX8 hown hK hP 0 rfl rfl 1 (by decide) (hG _ gw469) (fun _ h9 => h9) rfl dX8_putBytes_22 ?_
  refine lv_iload_n hx hb dX8_putBytes_25 rfl (lv_at hl 2 rfl) ?_
  refine lv_iload_n hx hb dX8_putBytes_26 rfl (lv_at hl 0 rfl) ?_
  refine lv_iushr (v := _) hx hb dX8_putBytes_27 rfl ?_
  refine lv_topi (fun x10 ex10 => ?_)
  refine lv_i2b (v := _) hx hb dX8_putBytes_28 rfl ?_
  refine lv_topi (fun x11 ex11 => ?_)
  refine va_bast hx hb hK hP hD hS 1 0 rfl rfl (vin (by decide)) dX8_putBytes_29 (fun H12 locs hP hD hS => ?_)
  obtain ⟨zf13, ezf13⟩ : ∃ z : Nat → Int32, z = upd zf6 (13 : Int32).toNatClampNeg (vp_nar .byte x11) := ⟨_, rfl⟩
  have hP : va_P (dC, dI) vwCl [(r 0, .inr (7, [.ref (r 1), .int 13, .ref (r 2), .ref (r 55), .ref (r 57), .ref (r 30), .ref (r 56), .ref (r 36), .ref (r 37), .ref (r 38), .int 0, .ref (r 51), .int 0, .ref (r 52), .ref (r 53), .ref (r 54)])), (r 1, .inl ((c 1), 1600, .inl zf13))] H12 := by rw [ezf13]; exact hP
  have hD : va_D A [(r 0, .inr (7, [.ref (r 1), .int 13, .ref (r 2), .ref (r 55), .ref (r 57), .ref (r 30), .ref (r 56), .ref (r 36), .ref (r 37), .ref (r 38), .int 0, .ref (r 51), .int 0, .ref (r 52), .ref (r 53), .ref (r 54)])), (r 1, .inl ((c 1), 1600, .inl zf13))] := by rw [ezf13]; exact hD
  refine lv_aload_n hx hb dX8_putBytes_30 rfl (lv_at hl 1 rfl) ?_
  refine lv_dup hx hb dX8_putBytes_31 rfl ?_
  refine va_get (D := (dC, dI)) (ci := 7) (v := .int 13) (C := RX8) (T := TX8) (N := 16) hx hb hG inX8 hown hK hP 0 rfl rfl 1 (by decide) (hG _ gw469) (fun _ h9 => h9) rfl dX8_putBytes_32 ?_
  refine lv_iconst (v := 1) hx hb dX8_putBytes_35 (by decide) ?_
  refine lv_iadd hx hb dX8_putBytes_36 ?_
  refine wt_c (v := 14) (by decide) ?_
  refine va_put (D := (dC, dI)) (ci := 7) (v := .int 14) (ty := .int) (C := RX8) (T := TX8) (N := 16) hx hb hG inX8 tyX8 tyX8_ok nmX8 hown hK hP hD hS 0 rfl rfl 1 (by decide) (hG _ gw469) (fun _ h9 => h9) rfl (by decide +kernel) rfl rfl (Nat.le_of_ble_eq_true rfl) dX8_putBytes_37 (fun H14 locs hP hD hS => ?_)
  have hP : va_P (dC, dI) vwCl [(r 0, .inr (7, [.ref (r 1), .int 14, .ref (r 2), .ref (r 55), .ref (r 57), .ref (r 30), .ref (r 56), .ref (r 36), .ref (r 37), .ref (r 38), .int 0, .ref (r 51), .int 0, .ref (r 52), .ref (r 53), .ref (r 54)])), (r 1, .inl ((c 1), 1600, .inl zf13))] H14 := hP
  have hD : va_D A [(r 0, .inr (7, [.ref (r 1), .int 14, .ref (r 2), .ref (r 55), .ref (r 57), .ref (r 30), .ref (r 56), .ref (r 36), .ref (r 37), .ref (r 38), .int 0, .ref (r 51), .int 0, .ref (r 52), .ref (r 53), .ref (r 54)])), (r 1, .inl ((c 1), 1600, .inl zf13))] := hD
  refine lv_iinc (v := 8) (lv' := [(2, .int 8), (0, .ref (r 0)), (1, .int p0)]) hx hb dX8_putBytes_40 hl (k := 0) rfl (by decide) (by decide) rfl (fun ls hl => ?_)
  refine lv_goto (tgt := 3) hx hb dX8_putBytes_43 (by decide) ?_
  refine lv_iload_n hx hb dX8_putBytes_3 rfl (lv_at hl 0 rfl) ?_
  refine lv_if_lt (tgt := 46) hx hb dX8_putBytes_4 (by decide) (fun c_15 => absurd c_15 (by decide)) (fun c_15 => ?_)
  refine lv_aload_n hx hb dX8_putBytes_7 rfl (lv_at hl 1 rfl) ?_
  refine va_get (D := (dC, dI)) (ci := 7) (v := .int 14) (C := RX8) (T := TX8) (N := 16) hx hb hG inX8 hown hK hP 0 rfl rfl 1 (by decide) (hG _ gw469) (fun _ h9 => h9) rfl dX8_putBytes_8 ?_
  refine lv_sipush (v := 1600) hx hb dX8_putBytes_11 (by decide) ?_
  refine lv_icmp_ge (tgt := 40) hx hb dX8_putBytes_14 (by decide) (fun c_16 => absurd c_16 (by decide)) (fun c_16 => ?_)
  refine lv_aload_n hx hb dX8_putBytes_17 rfl (lv_at hl 1 rfl) ?_
  refine va_get (D := (dC, dI)) (ci := 7) (v := .ref (r 1)) (C := RX8) (T := TX8) (N := 16) hx hb hG inX8 hown hK hP 0 rfl rfl 0 (by decide) (hG _ gw468) (fun _ h9 => h9) rfl dX8_putBytes_18 ?_
  refine lv_aload_n hx hb dX8_putBytes_21 rfl (lv_at hl 1 rfl) ?_
  refine va_get (D := (dC, dI)) (ci := 7) (v := .int 14) (C := RX8) (T := TX8) (N := 16) hx hb hG inX8 hown hK hP 0 rfl rfl 1 (by decide) (hG _ gw469) (fun _ h9 => h9) rfl dX8_putBytes_22 ?_
  refine lv_iload_n hx hb dX8_putBytes_25 rfl (lv_at hl 2 rfl) ?_
  refine lv_iload_n hx hb dX8_putBytes_26 rfl (lv_at hl 0 rfl) ?_
  refine lv_iushr (v := _) hx hb dX8_putBytes_27 rfl ?_
  refine lv_topi (fun x17 ex17 => ?_)
  refine lv_i2b (v := _) hx hb dX8_putBytes_28 rfl ?_
  refine lv_topi (fun x18 ex18 => ?_)
  refine va_bast hx hb hK hP hD hS 1 0 rfl rfl (vin (by decide)) dX8_putBytes_29 (fun H19 locs hP hD hS => ?_)
  obtain ⟨zf20, ezf20⟩ : ∃ z : Nat → Int32, z = upd zf13 (14 : Int32).toNatClampNeg (vp_nar .byte x18) := ⟨_, rfl⟩
  have hP : va_P (dC, dI) vwCl [(r 0, .inr (7, [.ref (r 1), .int 14, .ref (r 2), .ref (r 55), .ref (r 57), .ref (r 30), .ref (r 56), .ref (r 36), .ref (r 37), .ref (r 38), .int 0, .ref (r 51), .int 0, .ref (r 52), .ref (r 53), .ref (r 54)])), (r 1, .inl ((c 1), 1600, .inl zf20))] H19 := by rw [ezf20]; exact hP
  have hD : va_D A [(r 0, .inr (7, [.ref (r 1), .int 14, .ref (r 2), .ref (r 55), .ref (r 57), .ref (r 30), .ref (r 56), .ref (r 36), .ref (r 37), .ref (r 38), .int 0, .ref (r 51), .int 0, .ref (r 52), .ref (r 53), .ref (r 54)])), (r 1, .inl ((c 1), 1600, .inl zf20))] := by rw [ezf20]; exact hD
  refine lv_aload_n hx hb dX8_putBytes_30 rfl (lv_at hl 1 rfl) ?_
  refine lv_dup hx hb dX8_putBytes_31 rfl ?_
  refine va_get (D := (dC, dI)) (ci := 7) (v := .int 14) (C := RX8) (T := TX8) (N := 16) hx hb hG inX8 hown hK hP 0 rfl rfl 1 (by decide) (hG _ gw469) (fun _ h9 => h9) rfl dX8_putBytes_32 ?_
  refine lv_iconst (v := 1) hx hb dX8_putBytes_35 (by decide) ?_
  refine lv_iadd hx hb dX8_putBytes_36 ?_
  refine wt_c (v := 15) (by decide) ?_
  refine va_put (D := (dC, dI)) (ci := 7) (v := .int 15) (ty := .int) (C := RX8) (T := TX8) (N := 16) hx hb hG inX8 tyX8 tyX8_ok nmX8 hown hK hP hD hS 0 rfl rfl 1 (by decide) (hG _ gw469) (fun _ h9 => h9) rfl (by decide +kernel) rfl rfl (Nat.le_of_ble_eq_true rfl) dX8_putBytes_37 (fun H21 locs hP hD hS => ?_)
  have hP : va_P (dC, dI) vwCl [(r 0, .inr (7, [.ref (r 1), .int 15, .ref (r 2), .ref (r 55), .ref (r 57), .ref (r 30), .ref (r 56), .ref (r 36), .ref (r 37), .ref (r 38), .int 0, .ref (r 51), .int 0, .ref (r 52), .ref (r 53), .ref (r 54)])), (r 1, .inl ((c 1), 1600, .inl zf20))] H21 := hP
  have hD : va_D A [(r 0, .inr (7, [.ref (r 1), .int 15, .ref (r 2), .ref (r 55), .ref (r 57), .ref (r 30), .ref (r 56), .ref (r 36), .ref (r 37), .ref (r 38), .int 0, .ref (r 51), .int 0, .ref (r 52), .ref (r 53), .ref (r 54)])), (r 1, .inl ((c 1), 1600, .inl zf20))] := hD
  refine lv_iinc (v := 0) (lv' := [(2, .int 0), (0, .ref (r 0)), (1, .int p0)]) hx hb dX8_putBytes_40 hl (k := 0) rfl (by decide) (by decide) rfl (fun ls hl => ?_)
  refine lv_goto (tgt := 3) hx hb dX8_putBytes_43 (by decide) ?_
  refine lv_iload_n hx hb dX8_putBytes_3 rfl (lv_at hl 0 rfl) ?_
  refine lv_if_lt (tgt := 46) hx hb dX8_putBytes_4 (by decide) (fun c_22 => absurd c_22 (by decide)) (fun c_22 => ?_)
  refine lv_aload_n hx hb dX8_putBytes_7 rfl (lv_at hl 1 rfl) ?_
  refine va_get (D := (dC, dI)) (ci := 7) (v := .int 15) (C := RX8) (T := TX8) (N := 16) hx hb hG inX8 hown hK hP 0 rfl rfl 1 (by decide) (hG _ gw469) (fun _ h9 => h9) rfl dX8_putBytes_8 ?_
  refine lv_sipush (v := 1600) hx hb dX8_putBytes_11 (by decide) ?_
  refine lv_icmp_ge (tgt := 40) hx hb dX8_putBytes_14 (by decide) (fun c_23 => absurd c_23 (by decide)) (fun c_23 => ?_)
  refine lv_aload_n hx hb dX8_putBytes_17 rfl (lv_at hl 1 rfl) ?_
  refine va_get (D := (dC, dI)) (ci := 7) (v := .ref (r 1)) (C := RX8) (T := TX8) (N := 16) hx hb hG inX8 hown hK hP 0 rfl rfl 0 (by decide) (hG _ gw468) (fun _ h9 => h9) rfl dX8_putBytes_18 ?_
  refine lv_aload_n hx hb dX8_putBytes_21 rfl (lv_at hl 1 rfl) ?_
  refine va_get (D := (dC, dI)) (ci := 7) (v := .int 15) (C := RX8) (T := TX8) (N := 16) hx hb hG inX8 hown hK hP 0 rfl rfl 1 (by decide) (hG _ gw469) (fun _ h9 => h9) rfl dX8_putBytes_22 ?_
  refine lv_iload_n hx hb dX8_putBytes_25 rfl (lv_at hl 2 rfl) ?_
  refine lv_iload_n hx hb dX8_putBytes_26 rfl (lv_at hl 0 rfl) ?_
  refine lv_iushr (v := _) hx hb dX8_putBytes_27 rfl ?_
  refine lv_topi (fun x24 ex24 => ?_)
  refine lv_i2b (v := _) hx hb dX8_putBytes_28 rfl ?_
  refine lv_topi (fun x25 ex25 => ?_)
  refine va_bast hx hb hK hP hD hS 1 0 rfl rfl (vin (by decide)) dX8_putBytes_29 (fun H26 locs hP hD hS => ?_)
  obtain ⟨zf27, ezf27⟩ : ∃ z : Nat → Int32, z = upd zf20 (15 : Int32).toNatClampNeg (vp_nar .byte x25) := ⟨_, rfl⟩
  have hP : va_P (dC, dI) vwCl [(r 0, .inr (7, [.ref (r 1), .int 15, .ref (r 2), .ref (r 55), .ref (r 57), .ref (r 30), .ref (r 56), .ref (r 36), .ref (r 37), .ref (r 38), .int 0, .ref (r 51), .int 0, .ref (r 52), .ref (r 53), .ref (r 54)])), (r 1, .inl ((c 1), 1600, .inl zf27))] H26 := by rw [ezf27]; exact hP
  have hD : va_D A [(r 0, .inr (7, [.ref (r 1), .int 15, .ref (r 2), .ref (r 55), .ref (r 57), .ref (r 30), .ref (r 56), .ref (r 36), .ref (r 37), .ref (r 38), .int 0, .ref (r 51), .int 0, .ref (r 52), .ref (r 53), .ref (r 54)])), (r 1, .inl ((c 1), 1600, .inl zf27))] := by rw [ezf27]; exact hD
  refine lv_aload_n hx hb dX8_putBytes_30 rfl (lv_at hl 1 rfl) ?_
  refine lv_dup hx hb dX8_putBytes_31 rfl ?_
  refine va_get (D := (dC, dI)) (ci := 7) (v := .int 15) (C := RX8) (T := TX8) (N := 16) hx hb hG inX8 hown hK hP 0 rfl rfl 1 (by decide) (hG _ gw469) (fun _ h9 => h9) rfl dX8_putBytes_32 ?_
  refine lv_iconst (v := 1) hx hb dX8_putBytes_35 (by decide) ?_
  refine lv_iadd hx hb dX8_putBytes_36 ?_
  refine wt_c (v := 16) (by decide) ?_
  refine va_put (D := (dC, dI)) (ci := 7) (v := .int 16) (ty := .int) (C := RX8) (T := TX8) (N := 16) hx hb hG inX8 tyX8 tyX8_ok nmX8 hown hK hP hD hS 0 rfl rfl 1 (by decide) (hG _ gw469) (fun _ h9 => h9) rfl (by decide +kernel) rfl rfl (Nat.le_of_ble_eq_true rfl) dX8_putBytes_37 (fun H28 locs hP hD hS => ?_)
  have hP : va_P (dC, dI) vwCl [(r 0, .inr (7, [.ref (r 1), .int 16, .ref (r 2), .ref (r 55), .ref (r 57), .ref (r 30), .ref (r 56), .ref (r 36), .ref (r 37), .ref (r 38), .int 0, .ref (r 51), .int 0, .ref (r 52), .ref (r 53), .ref (r 54)])), (r 1, .inl ((c 1), 1600, .inl zf27))] H28 := hP
  have hD : va_D A [(r 0, .inr (7, [.ref (r 1), .int 16, .ref (r 2), .ref (r 55), .ref (r 57), .ref (r 30), .ref (r 56), .ref (r 36), .ref (r 37), .ref (r 38), .int 0, .ref (r 51), .int 0, .ref (r 52), .ref (r 53), .ref (r 54)])), (r 1, .inl ((c 1), 1600, .inl zf27))] := hD
  refine lv_iinc (v := (-8)) (lv' := [(2, .int (-8)), (0, .ref (r 0)), (1, .int p0)]) hx hb dX8_putBytes_40 hl (k := 0) rfl (by decide) (by decide) rfl (fun ls hl => ?_)
  refine lv_goto (tgt := 3) hx hb dX8_putBytes_43 (by decide) ?_
  refine lv_iload_n hx hb dX8_putBytes_3 rfl (lv_at hl 0 rfl) ?_
  refine lv_if_lt (tgt := 46) hx hb dX8_putBytes_4 (by decide) (fun c_29 => ?_) (fun c_29 => absurd (by decide) c_29)
  have hP9 := hP.sub (ws' := [(r 0, .inr (7, [.ref (r 1), .int 16, .ref (r 2), .ref (r 55), .ref (r 57), .ref (r 30), .ref (r 56), .ref (r 36), .ref (r 37), .ref (r 38), .int 0, .ref (r 51), .int 0, .ref (r 52), .ref (r 53), .ref (r 54)])), (r 1, .inl ((c 1), 1600, .inl zf27))]) [0, 1] rfl
  have hD9 := hD.sub (ws' := [(r 0, .inr (7, [.ref (r 1), .int 16, .ref (r 2), .ref (r 55), .ref (r 57), .ref (r 30), .ref (r 56), .ref (r 36), .ref (r 37), .ref (r 38), .int 0, .ref (r 51), .int 0, .ref (r 52), .ref (r 53), .ref (r 54)])), (r 1, .inl ((c 1), 1600, .inl zf27))]) [0, 1] (by decide) rfl
  exact W.vret hx hb hr (fun t ht hW => ⟨⟨(), rfl, trivial, ⟨zf27, by rw [ht]; exact hP9, hD9⟩⟩, hS.F ht⟩) hS.2.2 dX8_putBytes_46
set_option maxHeartbeats 4000000 in
set_option maxRecDepth 100000 in
theorem kX8_putBytes_v4 (l : Launch) (dC : Nat → ClassId) (dI : Nat → Nat → Nat) (r : Nat → Nat) (c : Nat → ClassId) (f1 : Nat → Int32) (p0 : Int32) (sz : Nat) : Met l yX8_putBytes (.code yX8_putBytes cX8_putBytes 3 none :: GW) { frames := 2, cells := 0, slots := 0, locals := 100 } (va_Pc [.ref (r 0), .int p0] (pW (dC, dI) [(r 0, .inr (7, [.ref (r 1), .int 16, .ref (r 2), .ref (r 55), .ref (r 57), .ref (r 30), .ref (r 56), .ref (r 36), .ref (r 37), .ref (r 38), .int 0, .ref (r 51), .int 0, .ref (r 52), .ref (r 53), .ref (r 54)])), (r 1, .inl ((c 1), 1600, .inl f1))] [((c 1), .byte)] sz)) (va_Qv (fun _ : Unit => True) (fun (_ : Unit) (t : State) => ∃ (F0 : Nat → Int32), va_P (dC, dI) vwCl [(r 0, .inr (7, [.ref (r 1), .int 20, .ref (r 2), .ref (r 55), .ref (r 57), .ref (r 30), .ref (r 56), .ref (r 36), .ref (r 37), .ref (r 38), .int 0, .ref (r 51), .int 0, .ref (r 52), .ref (r 53), .ref (r 54)])), (r 1, .inl ((c 1), 1600, .inl F0))] t.heap ∧ va_D (va_A [(r 0, .inr (7, [.ref (r 1), .int 16, .ref (r 2), .ref (r 55), .ref (r 57), .ref (r 30), .ref (r 56), .ref (r 36), .ref (r 37), .ref (r 38), .int 0, .ref (r 51), .int 0, .ref (r 52), .ref (r 53), .ref (r 54)])), (r 1, .inl ((c 1), 1600, .inl f1))] sz) [(r 0, .inr (7, [.ref (r 1), .int 20, .ref (r 2), .ref (r 55), .ref (r 57), .ref (r 30), .ref (r 56), .ref (r 36), .ref (r 37), .ref (r 38), .int 0, .ref (r 51), .int 0, .ref (r 52), .ref (r 53), .ref (r 54)])), (r 1, .inl ((c 1), 1600, .inl F0))]) (va_A [(r 0, .inr (7, [.ref (r 1), .int 16, .ref (r 2), .ref (r 55), .ref (r 57), .ref (r 30), .ref (r 56), .ref (r 36), .ref (r 37), .ref (r 38), .int 0, .ref (r 51), .int 0, .ref (r 52), .ref (r 53), .ref (r 54)])), (r 1, .inl ((c 1), 1600, .inl f1))] sz)) 0 0 (va_A [(r 0, .inr (7, [.ref (r 1), .int 16, .ref (r 2), .ref (r 55), .ref (r 57), .ref (r 30), .ref (r 56), .ref (r 36), .ref (r 37), .ref (r 38), .int 0, .ref (r 51), .int 0, .ref (r 52), .ref (r 53), .ref (r 54)])), (r 1, .inl ((c 1), 1600, .inl f1))] sz) := by
  refine Met.ofW (cc := cX8_putBytes) (maxL := 3) (ret := none) (by decide) rfl ?_
  intro p e s m args below meth c0 s₁ B hml hv
  obtain ⟨rfl, hsz, hP, hK, hD0⟩ := hv
  have hx := B.exec
  have hb := B.bytes
  have hr := B.returns
  have hts := atoms_spec (ws := .code yX8_putBytes cX8_putBytes 3 none :: GW) B.pre
  have hG : ∀ w ∈ GW, w.before _ s = true := fun w h => hts w (List.mem_cons_of_mem _ h)
  have hown : s.vm.findClass RX8 = some m.cls := findClass_of_methodNamed B.named
  have hlocks := B.notSynchronized
  subst hsz
  have hD := hD0.self (sz := s.heap.size)
  generalize hAe : va_A [(r 0, .inr (7, [.ref (r 1), .int 16, .ref (r 2), .ref (r 55), .ref (r 57), .ref (r 30), .ref (r 56), .ref (r 36), .ref (r 37), .ref (r 38), .int 0, .ref (r 51), .int 0, .ref (r 52), .ref (r 53), .ref (r 54)])), (r 1, .inl ((c 1), 1600, .inl f1))] s.heap.size = A at hD ⊢
  have hA : ∀ q : Nat, s.heap.size ≤ q → A q := fun q h => by rw [← hAe]; exact Or.inr h
  have hS : va_S A s.heap s.heap [] := va_S.rf
  have hP : va_P (dC, dI) vwCl [(r 0, .inr (7, [.ref (r 1), .int 16, .ref (r 2), .ref (r 55), .ref (r 57), .ref (r 30), .ref (r 56), .ref (r 36), .ref (r 37), .ref (r 38), .int 0, .ref (r 51), .int 0, .ref (r 52), .ref (r 53), .ref (r 54)])), (r 1, .inl ((c 1), 1600, .inl f1))] s.heap := hP
  have hl := lv_entry ([.ref (r 0), .int p0]) (n := 3) (Nat.le_of_ble_eq_true rfl)
  rw [lg_entry_eq]
  generalize (lg_sl ([.ref (r 0), .int p0]) ++ List.replicate (3 - (lg_sl ([.ref (r 0), .int p0])).length) Slot.unset).toArray = ls at hl ⊢
  have hl : lv_has ls 3 [(0, .ref (r 0)), (1, .int p0)] := hl
  refine lv_bipush (v := 24) hx hb dX8_putBytes_0 (by decide) ?_
  refine lv_istore_n (lv' := [(2, .int 24), (0, .ref (r 0)), (1, .int p0)]) hx hb dX8_putBytes_2 rfl hl (by decide) rfl (fun ls hl => ?_)
  refine lv_iload_n hx hb dX8_putBytes_3 rfl (lv_at hl 0 rfl) ?_
  refine lv_if_lt (tgt := 46) hx hb dX8_putBytes_4 (by decide) (fun c_1 => absurd c_1 (by decide)) (fun c_1 => ?_)
  refine lv_aload_n hx hb dX8_putBytes_7 rfl (lv_at hl 1 rfl) ?_
  refine va_get (D := (dC, dI)) (ci := 7) (v := .int 16) (C := RX8) (T := TX8) (N := 16) hx hb hG inX8 hown hK hP 0 rfl rfl 1 (by decide) (hG _ gw469) (fun _ h9 => h9) rfl dX8_putBytes_8 ?_
  refine lv_sipush (v := 1600) hx hb dX8_putBytes_11 (by decide) ?_
  refine lv_icmp_ge (tgt := 40) hx hb dX8_putBytes_14 (by decide) (fun c_2 => absurd c_2 (by decide)) (fun c_2 => ?_)
  refine lv_aload_n hx hb dX8_putBytes_17 rfl (lv_at hl 1 rfl) ?_
  refine va_get (D := (dC, dI)) (ci := 7) (v := .ref (r 1)) (C := RX8) (T := TX8) (N := 16) hx hb hG inX8 hown hK hP 0 rfl rfl 0 (by decide) (hG _ gw468) (fun _ h9 => h9) rfl dX8_putBytes_18 ?_
  refine lv_aload_n hx hb dX8_putBytes_21 rfl (lv_at hl 1 rfl) ?_
  refine va_get (D := (dC, dI)) (ci := 7) (v := .int 16) (C := RX8) (T := TX8) (N := 16) hx hb hG inX8 hown hK hP 0 rfl rfl 1 (by decide) (hG _ gw469) (fun _ h9 => h9) rfl dX8_putBytes_22 ?_
  refine lv_iload_n hx hb dX8_putBytes_25 rfl (lv_at hl 2 rfl) ?_
  refine lv_iload_n hx hb dX8_putBytes_26 rfl (lv_at hl 0 rfl) ?_
  refine lv_iushr (v := _) hx hb dX8_putBytes_27 rfl ?_
  refine lv_topi (fun x3 ex3 => ?_)
  refine lv_i2b (v := _) hx hb dX8_putBytes_28 rfl ?_
  refine lv_topi (fun x4 ex4 => ?_)
  refine va_bast hx hb hK hP hD hS 1 0 rfl rfl (vin (by decide)) dX8_putBytes_29 (fun H5 locs hP hD hS => ?_)
  obtain ⟨zf6, ezf6⟩ : ∃ z : Nat → Int32, z = upd f1 (16 : Int32).toNatClampNeg (vp_nar .byte x4) := ⟨_, rfl⟩
  have hP : va_P (dC, dI) vwCl [(r 0, .inr (7, [.ref (r 1), .int 16, .ref (r 2), .ref (r 55), .ref (r 57), .ref (r 30), .ref (r 56), .ref (r 36), .ref (r 37), .ref (r 38), .int 0, .ref (r 51), .int 0, .ref (r 52), .ref (r 53), .ref (r 54)])), (r 1, .inl ((c 1), 1600, .inl zf6))] H5 := by rw [ezf6]; exact hP
  have hD : va_D A [(r 0, .inr (7, [.ref (r 1), .int 16, .ref (r 2), .ref (r 55), .ref (r 57), .ref (r 30), .ref (r 56), .ref (r 36), .ref (r 37), .ref (r 38), .int 0, .ref (r 51), .int 0, .ref (r 52), .ref (r 53), .ref (r 54)])), (r 1, .inl ((c 1), 1600, .inl zf6))] := by rw [ezf6]; exact hD
  refine lv_aload_n hx hb dX8_putBytes_30 rfl (lv_at hl 1 rfl) ?_
  refine lv_dup hx hb dX8_putBytes_31 rfl ?_
  refine va_get (D := (dC, dI)) (ci := 7) (v := .int 16) (C := RX8) (T := TX8) (N := 16) hx hb hG inX8 hown hK hP 0 rfl rfl 1 (by decide) (hG _ gw469) (fun _ h9 => h9) rfl dX8_putBytes_32 ?_
  refine lv_iconst (v := 1) hx hb dX8_putBytes_35 (by decide) ?_
  refine lv_iadd hx hb dX8_putBytes_36 ?_
  refine wt_c (v := 17) (by decide) ?_
  refine va_put (D := (dC, dI)) (ci := 7) (v := .int 17) (ty := .int) (C := RX8) (T := TX8) (N := 16) hx hb hG inX8 tyX8 tyX8_ok nmX8 hown hK hP hD hS 0 rfl rfl 1 (by decide) (hG _ gw469) (fun _ h9 => h9) rfl (by decide +kernel) rfl rfl (Nat.le_of_ble_eq_true rfl) dX8_putBytes_37 (fun H7 locs hP hD hS => ?_)
  have hP : va_P (dC, dI) vwCl [(r 0, .inr (7, [.ref (r 1), .int 17, .ref (r 2), .ref (r 55), .ref (r 57), .ref (r 30), .ref (r 56), .ref (r 36), .ref (r 37), .ref (r 38), .int 0, .ref (r 51), .int 0, .ref (r 52), .ref (r 53), .ref (r 54)])), (r 1, .inl ((c 1), 1600, .inl zf6))] H7 := hP
  have hD : va_D A [(r 0, .inr (7, [.ref (r 1), .int 17, .ref (r 2), .ref (r 55), .ref (r 57), .ref (r 30), .ref (r 56), .ref (r 36), .ref (r 37), .ref (r 38), .int 0, .ref (r 51), .int 0, .ref (r 52), .ref (r 53), .ref (r 54)])), (r 1, .inl ((c 1), 1600, .inl zf6))] := hD
  refine lv_iinc (v := 16) (lv' := [(2, .int 16), (0, .ref (r 0)), (1, .int p0)]) hx hb dX8_putBytes_40 hl (k := 0) rfl (by decide) (by decide) rfl (fun ls hl => ?_)
  refine lv_goto (tgt := 3) hx hb dX8_putBytes_43 (by decide) ?_
  refine lv_iload_n hx hb dX8_putBytes_3 rfl (lv_at hl 0 rfl) ?_
  refine lv_if_lt (tgt := 46) hx hb dX8_putBytes_4 (by decide) (fun c_8 => absurd c_8 (by decide)) (fun c_8 => ?_)
  refine lv_aload_n hx hb dX8_putBytes_7 rfl (lv_at hl 1 rfl) ?_
  refine va_get (D := (dC, dI)) (ci := 7) (v := .int 17) (C := RX8) (T := TX8) (N := 16) hx hb hG inX8 hown hK hP 0 rfl rfl 1 (by decide) (hG _ gw469) (fun _ h9 => h9) rfl dX8_putBytes_8 ?_
  refine lv_sipush (v := 1600) hx hb dX8_putBytes_11 (by decide) ?_
  refine lv_icmp_ge (tgt := 40) hx hb dX8_putBytes_14 (by decide) (fun c_9 => absurd c_9 (by decide)) (fun c_9 => ?_)
  refine lv_aload_n hx hb dX8_putBytes_17 rfl (lv_at hl 1 rfl) ?_
  refine va_get (D := (dC, dI)) (ci := 7) (v := .ref (r 1)) (C := RX8) (T := TX8) (N := 16) hx hb hG inX8 hown hK hP 0 rfl rfl 0 (by decide) (hG _ gw468) (fun _ h9 => h9) rfl dX8_putBytes_18 ?_
  refine lv_aload_n hx hb dX8_putBytes_21 rfl (lv_at hl 1 rfl) ?_
  refine va_get (D := (dC, dI)) (ci := 7) (v := .int 17) (C := RX8) (T := TX8) (N := 16) hx hb hG inX8 hown hK hP 0 rfl rfl 1 (by decide) (hG _ gw469) (fun _ h9 => h9) rfl dX8_putBytes_22 ?_
  refine lv_iload_n hx hb dX8_putBytes_25 rfl (lv_at hl 2 rfl) ?_
  refine lv_iload_n hx hb dX8_putBytes_26 rfl (lv_at hl 0 rfl) ?_
  refine lv_iushr (v := _) hx hb dX8_putBytes_27 rfl ?_
  refine lv_topi (fun x10 ex10 => ?_)
  refine lv_i2b (v := _) hx hb dX8_putBytes_28 rfl ?_
  refine lv_topi (fun x11 ex11 => ?_)
  refine va_bast hx hb hK hP hD hS 1 0 rfl rfl (vin (by decide)) dX8_putBytes_29 (fun H12 locs hP hD hS => ?_)
  obtain ⟨zf13, ezf13⟩ : ∃ z : Nat → Int32, z = upd zf6 (17 : Int32).toNatClampNeg (vp_nar .byte x11) := ⟨_, rfl⟩
  have hP : va_P (dC, dI) vwCl [(r 0, .inr (7, [.ref (r 1), .int 17, .ref (r 2), .ref (r 55), .ref (r 57), .ref (r 30), .ref (r 56), .ref (r 36), .ref (r 37), .ref (r 38), .int 0, .ref (r 51), .int 0, .ref (r 52), .ref (r 53), .ref (r 54)])), (r 1, .inl ((c 1), 1600, .inl zf13))] H12 := by rw [ezf13]; exact hP
  have hD : va_D A [(r 0, .inr (7, [.ref (r 1), .int 17, .ref (r 2), .ref (r 55), .ref (r 57), .ref (r 30), .ref (r 56), .ref (r 36), .ref (r 37), .ref (r 38), .int 0, .ref (r 51), .int 0, .ref (r 52), .ref (r 53), .ref (r 54)])), (r 1, .inl ((c 1), 1600, .inl zf13))] := by rw [ezf13]; exact hD
  refine lv_aload_n hx hb dX8_putBytes_30 rfl (lv_at hl 1 rfl) ?_
  refine lv_dup hx hb dX8_putBytes_31 rfl ?_
  refine va_get (D := (dC, dI)) (ci := 7) (v := .int 17) (C := RX8) (T := TX8) (N := 16) hx hb hG inX8 hown hK hP 0 rfl rfl 1 (by decide) (hG _ gw469) (fun _ h9 => h9) rfl dX8_putBytes_32 ?_
  refine lv_iconst (v := 1) hx hb dX8_putBytes_35 (by decide) ?_
  refine lv_iadd hx hb dX8_putBytes_36 ?_
  refine wt_c (v := 18) (by decide) ?_
  refine va_put (D := (dC, dI)) (ci := 7) (v := .int 18) (ty := .int) (C := RX8) (T := TX8) (N := 16) hx hb hG inX8 tyX8 tyX8_ok nmX8 hown hK hP hD hS 0 rfl rfl 1 (by decide) (hG _ gw469) (fun _ h9 => h9) rfl (by decide +kernel) rfl rfl (Nat.le_of_ble_eq_true rfl) dX8_putBytes_37 (fun H14 locs hP hD hS => ?_)
  have hP : va_P (dC, dI) vwCl [(r 0, .inr (7, [.ref (r 1), .int 18, .ref (r 2), .ref (r 55), .ref (r 57), .ref (r 30), .ref (r 56), .ref (r 36), .ref (r 37), .ref (r 38), .int 0, .ref (r 51), .int 0, .ref (r 52), .ref (r 53), .ref (r 54)])), (r 1, .inl ((c 1), 1600, .inl zf13))] H14 := hP
  have hD : va_D A [(r 0, .inr (7, [.ref (r 1), .int 18, .ref (r 2), .ref (r 55), .ref (r 57), .ref (r 30), .ref (r 56), .ref (r 36), .ref (r 37), .ref (r 38), .int 0, .ref (r 51), .int 0, .ref (r 52), .ref (r 53), .ref (r 54)])), (r 1, .inl ((c 1), 1600, .inl zf13))] := hD
  refine lv_iinc (v := 8) (lv' := [(2, .int 8), (0, .ref (r 0)), (1, .int p0)]) hx hb dX8_putBytes_40 hl (k := 0) rfl (by decide) (by decide) rfl (fun ls hl => ?_)
  refine lv_goto (tgt := 3) hx hb dX8_putBytes_43 (by decide) ?_
  refine lv_iload_n hx hb dX8_putBytes_3 rfl (lv_at hl 0 rfl) ?_
  refine lv_if_lt (tgt := 46) hx hb dX8_putBytes_4 (by decide) (fun c_15 => absurd c_15 (by decide)) (fun c_15 => ?_)
  refine lv_aload_n hx hb dX8_putBytes_7 rfl (lv_at hl 1 rfl) ?_
  refine va_get (D := (dC, dI)) (ci := 7) (v := .int 18) (C := RX8) (T := TX8) (N := 16) hx hb hG inX8 hown hK hP 0 rfl rfl 1 (by decide) (hG _ gw469) (fun _ h9 => h9) rfl dX8_putBytes_8 ?_
  refine lv_sipush (v := 1600) hx hb dX8_putBytes_11 (by decide) ?_
  refine lv_icmp_ge (tgt := 40) hx hb dX8_putBytes_14 (by decide) (fun c_16 => absurd c_16 (by decide)) (fun c_16 => ?_)
  refine lv_aload_n hx hb dX8_putBytes_17 rfl (lv_at hl 1 rfl) ?_
  refine va_get (D := (dC, dI)) (ci := 7) (v := .ref (r 1)) (C := RX8) (T := TX8) (N := 16) hx hb hG inX8 hown hK hP 0 rfl rfl 0 (by decide) (hG _ gw468) (fun _ h9 => h9) rfl dX8_putBytes_18 ?_
  refine lv_aload_n hx hb dX8_putBytes_21 rfl (lv_at hl 1 rfl) ?_
  refine va_get (D := (dC, dI)) (ci := 7) (v := .int 18) (C := RX8) (T := TX8) (N := 16) hx hb hG inX8 hown hK hP 0 rfl rfl 1 (by decide) (hG _ gw469) (fun _ h9 => h9) rfl dX8_putBytes_22 ?_
  refine lv_iload_n hx hb dX8_putBytes_25 rfl (lv_at hl 2 rfl) ?_
  refine lv_iload_n hx hb dX8_putBytes_26 rfl (lv_at hl 0 rfl) ?_
  refine lv_iushr (v := _) hx hb dX8_putBytes_27 rfl ?_
  refine lv_topi (fun x17 ex17 => ?_)
  refine lv_i2b (v := _) hx hb dX8_putBytes_28 rfl ?_
  refine lv_topi (fun x18 ex18 => ?_)
  refine va_bast hx hb hK hP hD hS 1 0 rfl rfl (vin (by decide)) dX8_putBytes_29 (fun H19 locs hP hD hS => ?_)
  obtain ⟨zf20, ezf20⟩ : ∃ z : Nat → Int32, z = upd zf13 (18 : Int32).toNatClampNeg (vp_nar .byte x18) := ⟨_, rfl⟩
  have hP : va_P (dC, dI) vwCl [(r 0, .inr (7, [.ref (r 1), .int 18, .ref (r 2), .ref (r 55), .ref (r 57), .ref (r 30), .ref (r 56), .ref (r 36), .ref (r 37), .ref (r 38), .int 0, .ref (r 51), .int 0, .ref (r 52), .ref (r 53), .ref (r 54)])), (r 1, .inl ((c 1), 1600, .inl zf20))] H19 := by rw [ezf20]; exact hP
  have hD : va_D A [(r 0, .inr (7, [.ref (r 1), .int 18, .ref (r 2), .ref (r 55), .ref (r 57), .ref (r 30), .ref (r 56), .ref (r 36), .ref (r 37), .ref (r 38), .int 0, .ref (r 51), .int 0, .ref (r 52), .ref (r 53), .ref (r 54)])), (r 1, .inl ((c 1), 1600, .inl zf20))] := by rw [ezf20]; exact hD
  refine lv_aload_n hx hb dX8_putBytes_30 rfl (lv_at hl 1 rfl) ?_
  refine lv_dup hx hb dX8_putBytes_31 rfl ?_
  refine va_get (D := (dC, dI)) (ci := 7) (v := .int 18) (C := RX8) (T := TX8) (N := 16) hx hb hG inX8 hown hK hP 0 rfl rfl 1 (by decide) (hG _ gw469) (fun _ h9 => h9) rfl dX8_putBytes_32 ?_
  refine lv_iconst (v := 1) hx hb dX8_putBytes_35 (by decide) ?_
  refine lv_iadd hx hb dX8_putBytes_36 ?_
  refine wt_c (v := 19) (by decide) ?_
  refine va_put (D := (dC, dI)) (ci := 7) (v := .int 19) (ty := .int) (C := RX8) (T := TX8) (N := 16) hx hb hG inX8 tyX8 tyX8_ok nmX8 hown hK hP hD hS 0 rfl rfl 1 (by decide) (hG _ gw469) (fun _ h9 => h9) rfl (by decide +kernel) rfl rfl (Nat.le_of_ble_eq_true rfl) dX8_putBytes_37 (fun H21 locs hP hD hS => ?_)
  have hP : va_P (dC, dI) vwCl [(r 0, .inr (7, [.ref (r 1), .int 19, .ref (r 2), .ref (r 55), .ref (r 57), .ref (r 30), .ref (r 56), .ref (r 36), .ref (r 37), .ref (r 38), .int 0, .ref (r 51), .int 0, .ref (r 52), .ref (r 53), .ref (r 54)])), (r 1, .inl ((c 1), 1600, .inl zf20))] H21 := hP
  have hD : va_D A [(r 0, .inr (7, [.ref (r 1), .int 19, .ref (r 2), .ref (r 55), .ref (r 57), .ref (r 30), .ref (r 56), .ref (r 36), .ref (r 37), .ref (r 38), .int 0, .ref (r 51), .int 0, .ref (r 52), .ref (r 53), .ref (r 54)])), (r 1, .inl ((c 1), 1600, .inl zf20))] := hD
  refine lv_iinc (v := 0) (lv' := [(2, .int 0), (0, .ref (r 0)), (1, .int p0)]) hx hb dX8_putBytes_40 hl (k := 0) rfl (by decide) (by decide) rfl (fun ls hl => ?_)
  refine lv_goto (tgt := 3) hx hb dX8_putBytes_43 (by decide) ?_
  refine lv_iload_n hx hb dX8_putBytes_3 rfl (lv_at hl 0 rfl) ?_
  refine lv_if_lt (tgt := 46) hx hb dX8_putBytes_4 (by decide) (fun c_22 => absurd c_22 (by decide)) (fun c_22 => ?_)
  refine lv_aload_n hx hb dX8_putBytes_7 rfl (lv_at hl 1 rfl) ?_
  refine va_get (D := (dC, dI)) (ci := 7) (v := .int 19) (C := RX8) (T := TX8) (N := 16) hx hb hG inX8 hown hK hP 0 rfl rfl 1 (by decide) (hG _ gw469) (fun _ h9 => h9) rfl dX8_putBytes_8 ?_
  refine lv_sipush (v := 1600) hx hb dX8_putBytes_11 (by decide) ?_
  refine lv_icmp_ge (tgt := 40) hx hb dX8_putBytes_14 (by decide) (fun c_23 => absurd c_23 (by decide)) (fun c_23 => ?_)
  refine lv_aload_n hx hb dX8_putBytes_17 rfl (lv_at hl 1 rfl) ?_
  refine va_get (D := (dC, dI)) (ci := 7) (v := .ref (r 1)) (C := RX8) (T := TX8) (N := 16) hx hb hG inX8 hown hK hP 0 rfl rfl 0 (by decide) (hG _ gw468) (fun _ h9 => h9) rfl dX8_putBytes_18 ?_
  refine lv_aload_n hx hb dX8_putBytes_21 rfl (lv_at hl 1 rfl) ?_
  refine va_get (D := (dC, dI)) (ci := 7) (v := .int 19) (C := RX8) (T := TX8) (N := 16) hx hb hG inX8 hown hK hP 0 rfl rfl 1 (by decide) (hG _ gw469) (fun _ h9 => h9) rfl dX8_putBytes_22 ?_
  refine lv_iload_n hx hb dX8_putBytes_25 rfl (lv_at hl 2 rfl) ?_
  refine lv_iload_n hx hb dX8_putBytes_26 rfl (lv_at hl 0 rfl) ?_
  refine lv_iushr (v := _) hx hb dX8_putBytes_27 rfl ?_
  refine lv_topi (fun x24 ex24 => ?_)
  refine lv_i2b (v := _) hx hb dX8_putBytes_28 rfl ?_
  refine lv_topi (fun x25 ex25 => ?_)
  refine va_bast hx hb hK hP hD hS 1 0 rfl rfl (vin (by decide)) dX8_putBytes_29 (fun H26 locs hP hD hS => ?_)
  obtain ⟨zf27, ezf27⟩ : ∃ z : Nat → Int32, z = upd zf20 (19 : Int32).toNatClampNeg (vp_nar .byte x25) := ⟨_, rfl⟩
  have hP : va_P (dC, dI) vwCl [(r 0, .inr (7, [.ref (r 1), .int 19, .ref (r 2), .ref (r 55), .ref (r 57), .ref (r 30), .ref (r 56), .ref (r 36), .ref (r 37), .ref (r 38), .int 0, .ref (r 51), .int 0, .ref (r 52), .ref (r 53), .ref (r 54)])), (r 1, .inl ((c 1), 1600, .inl zf27))] H26 := by rw [ezf27]; exact hP
  have hD : va_D A [(r 0, .inr (7, [.ref (r 1), .int 19, .ref (r 2), .ref (r 55), .ref (r 57), .ref (r 30), .ref (r 56), .ref (r 36), .ref (r 37), .ref (r 38), .int 0, .ref (r 51), .int 0, .ref (r 52), .ref (r 53), .ref (r 54)])), (r 1, .inl ((c 1), 1600, .inl zf27))] := by rw [ezf27]; exact hD
  refine lv_aload_n hx hb dX8_putBytes_30 rfl (lv_at hl 1 rfl) ?_
  refine lv_dup hx hb dX8_putBytes_31 rfl ?_
  refine va_get (D := (dC, dI)) (ci := 7) (v := .int 19) (C := RX8) (T := TX8) (N := 16) hx hb hG inX8 hown hK hP 0 rfl rfl 1 (by decide) (hG _ gw469) (fun _ h9 => h9) rfl dX8_putBytes_32 ?_
  refine lv_iconst (v := 1) hx hb dX8_putBytes_35 (by decide) ?_
  refine lv_iadd hx hb dX8_putBytes_36 ?_
  refine wt_c (v := 20) (by decide) ?_
  refine va_put (D := (dC, dI)) (ci := 7) (v := .int 20) (ty := .int) (C := RX8) (T := TX8) (N := 16) hx hb hG inX8 tyX8 tyX8_ok nmX8 hown hK hP hD hS 0 rfl rfl 1 (by decide) (hG _ gw469) (fun _ h9 => h9) rfl (by decide +kernel) rfl rfl (Nat.le_of_ble_eq_true rfl) dX8_putBytes_37 (fun H28 locs hP hD hS => ?_)
  have hP : va_P (dC, dI) vwCl [(r 0, .inr (7, [.ref (r 1), .int 20, .ref (r 2), .ref (r 55), .ref (r 57), .ref (r 30), .ref (r 56), .ref (r 36), .ref (r 37), .ref (r 38), .int 0, .ref (r 51), .int 0, .ref (r 52), .ref (r 53), .ref (r 54)])), (r 1, .inl ((c 1), 1600, .inl zf27))] H28 := hP
  have hD : va_D A [(r 0, .inr (7, [.ref (r 1), .int 20, .ref (r 2), .ref (r 55), .ref (r 57), .ref (r 30), .ref (r 56), .ref (r 36), .ref (r 37), .ref (r 38), .int 0, .ref (r 51), .int 0, .ref (r 52), .ref (r 53), .ref (r 54)])), (r 1, .inl ((c 1), 1600, .inl zf27))] := hD
  refine lv_iinc (v := (-8)) (lv' := [(2, .int (-8)), (0, .ref (r 0)), (1, .int p0)]) hx hb dX8_putBytes_40 hl (k := 0) rfl (by decide) (by decide) rfl (fun ls hl => ?_)
  refine lv_goto (tgt := 3) hx hb dX8_putBytes_43 (by decide) ?_
  refine lv_iload_n hx hb dX8_putBytes_3 rfl (lv_at hl 0 rfl) ?_
  refine lv_if_lt (tgt := 46) hx hb dX8_putBytes_4 (by decide) (fun c_29 => ?_) (fun c_29 => absurd (by decide) c_29)
  have hP9 := hP.sub (ws' := [(r 0, .inr (7, [.ref (r 1), .int 20, .ref (r 2), .ref (r 55), .ref (r 57), .ref (r 30), .ref (r 56), .ref (r 36), .ref (r 37), .ref (r 38), .int 0, .ref (r 51), .int 0, .ref (r 52), .ref (r 53), .ref (r 54)])), (r 1, .inl ((c 1), 1600, .inl zf27))]) [0, 1] rfl
  have hD9 := hD.sub (ws' := [(r 0, .inr (7, [.ref (r 1), .int 20, .ref (r 2), .ref (r 55), .ref (r 57), .ref (r 30), .ref (r 56), .ref (r 36), .ref (r 37), .ref (r 38), .int 0, .ref (r 51), .int 0, .ref (r 52), .ref (r 53), .ref (r 54)])), (r 1, .inl ((c 1), 1600, .inl zf27))]) [0, 1] (by decide) rfl
  exact W.vret hx hb hr (fun t ht hW => ⟨⟨(), rfl, trivial, ⟨zf27, by rw [ht]; exact hP9, hD9⟩⟩, hS.F ht⟩) hS.2.2 dX8_putBytes_46
set_option maxHeartbeats 4000000 in
set_option maxRecDepth 100000 in
theorem kX8_feed (l : Launch) (dC : Nat → ClassId) (dI : Nat → Nat → Nat) (r : Nat → Nat) (c : Nat → ClassId) (p0 p1 p2 p3 p4 : Int32) (sz : Nat) : Met l yX8_feed (.code yX8_feed cX8_feed 6 (some .int) :: GW) { frames := 4, cells := 0, slots := 0, locals := 162 } (va_Pc [.ref (r 0), .int p0, .int p1, .int p2, .int p3, .int p4] (pW (dC, dI) [(r 0, .inr (7, [.ref (r 1), .int 0, .ref (r 2), .ref (r 55), .ref (r 57), .ref (r 30), .ref (r 56), .ref (r 36), .ref (r 37), .ref (r 38), .int 0, .ref (r 51), .int 0, .ref (r 52), .ref (r 53), .ref (r 54)])), (r 1, .inl ((c 1), 1600, .inl (fun _ => 0)))] [((c 1), .byte)] sz)) (va_Qi (fun (r0 : Int32) (_ : Unit) => r0 = 20) (fun _ _ => True) (va_A [(r 0, .inr (7, [.ref (r 1), .int 0, .ref (r 2), .ref (r 55), .ref (r 57), .ref (r 30), .ref (r 56), .ref (r 36), .ref (r 37), .ref (r 38), .int 0, .ref (r 51), .int 0, .ref (r 52), .ref (r 53), .ref (r 54)])), (r 1, .inl ((c 1), 1600, .inl (fun _ => 0)))] sz)) 0 0 (va_A [(r 0, .inr (7, [.ref (r 1), .int 0, .ref (r 2), .ref (r 55), .ref (r 57), .ref (r 30), .ref (r 56), .ref (r 36), .ref (r 37), .ref (r 38), .int 0, .ref (r 51), .int 0, .ref (r 52), .ref (r 53), .ref (r 54)])), (r 1, .inl ((c 1), 1600, .inl (fun _ => 0)))] sz) := by
  refine Met.ofW (cc := cX8_feed) (maxL := 6) (ret := (some .int)) (by decide) rfl ?_
  intro p e s m args below meth c0 s₁ B hml hv
  obtain ⟨rfl, hsz, hP, hK, hD0⟩ := hv
  have hx := B.exec
  have hb := B.bytes
  have hr := B.returns
  have hts := atoms_spec (ws := .code yX8_feed cX8_feed 6 (some .int) :: GW) B.pre
  have hG : ∀ w ∈ GW, w.before _ s = true := fun w h => hts w (List.mem_cons_of_mem _ h)
  have hown : s.vm.findClass RX8 = some m.cls := findClass_of_methodNamed B.named
  have hlocks := B.notSynchronized
  subst hsz
  have hD := hD0.self (sz := s.heap.size)
  generalize hAe : va_A [(r 0, .inr (7, [.ref (r 1), .int 0, .ref (r 2), .ref (r 55), .ref (r 57), .ref (r 30), .ref (r 56), .ref (r 36), .ref (r 37), .ref (r 38), .int 0, .ref (r 51), .int 0, .ref (r 52), .ref (r 53), .ref (r 54)])), (r 1, .inl ((c 1), 1600, .inl (fun _ => 0)))] s.heap.size = A at hD ⊢
  have hA : ∀ q : Nat, s.heap.size ≤ q → A q := fun q h => by rw [← hAe]; exact Or.inr h
  have hS : va_S A s.heap s.heap [] := va_S.rf
  have hP : va_P (dC, dI) vwCl [(r 0, .inr (7, [.ref (r 1), .int 0, .ref (r 2), .ref (r 55), .ref (r 57), .ref (r 30), .ref (r 56), .ref (r 36), .ref (r 37), .ref (r 38), .int 0, .ref (r 51), .int 0, .ref (r 52), .ref (r 53), .ref (r 54)])), (r 1, .inl ((c 1), 1600, .inl (fun _ => 0)))] s.heap := hP
  have hl := lv_entry ([.ref (r 0), .int p0, .int p1, .int p2, .int p3, .int p4]) (n := 6) (Nat.le_of_ble_eq_true rfl)
  rw [lg_entry_eq]
  generalize (lg_sl ([.ref (r 0), .int p0, .int p1, .int p2, .int p3, .int p4]) ++ List.replicate (6 - (lg_sl ([.ref (r 0), .int p0, .int p1, .int p2, .int p3, .int p4])).length) Slot.unset).toArray = ls at hl ⊢
  have hl : lv_has ls 6 [(0, .ref (r 0)), (1, .int p0), (2, .int p1), (3, .int p2), (4, .int p3), (5, .int p4)] := hl
  refine lv_aload_n hx hb dX8_feed_0 rfl (lv_at hl 0 rfl) ?_
  refine va_get (D := (dC, dI)) (ci := 7) (v := .int 0) (C := RX8) (T := TX8) (N := 16) hx hb hG inX8 hown hK hP 0 rfl rfl 1 (by decide) (hG _ gw469) (fun _ h9 => h9) rfl dX8_feed_1 ?_
  refine lv_bipush (v := 20) hx hb dX8_feed_4 (by decide) ?_
  refine lv_iadd hx hb dX8_feed_6 ?_
  refine wt_c (v := 20) (by decide) ?_
  refine lv_sipush (v := 1600) hx hb dX8_feed_7 (by decide) ?_
  refine lv_icmp_le (tgt := 15) hx hb dX8_feed_10 (by decide) (fun c_1 => ?_) (fun c_1 => absurd (by decide) c_1)
  refine lv_aload_n hx hb dX8_feed_15 rfl (lv_at hl 0 rfl) ?_
  refine lv_iload_n hx hb dX8_feed_16 rfl (lv_at hl 1 rfl) ?_
  have hPc := hP.sub (ws' := [(r 0, .inr (7, [.ref (r 1), .int 0, .ref (r 2), .ref (r 55), .ref (r 57), .ref (r 30), .ref (r 56), .ref (r 36), .ref (r 37), .ref (r 38), .int 0, .ref (r 51), .int 0, .ref (r 52), .ref (r 53), .ref (r 54)])), (r 1, .inl ((c 1), 1600, .inl (fun _ => 0)))]) [0, 1] rfl
  have hKc := hK.sub (tys' := [((c 1), .byte)]) [0] rfl
  have hDc := hD.sub (ws' := [(r 0, .inr (7, [.ref (r 1), .int 0, .ref (r 2), .ref (r 55), .ref (r 57), .ref (r 30), .ref (r 56), .ref (r 36), .ref (r 37), .ref (r 38), .int 0, .ref (r 51), .int 0, .ref (r 52), .ref (r 53), .ref (r 54)])), (r 1, .inl ((c 1), 1600, .inl (fun _ => 0)))]) [0, 1] (by decide) rfl
  have hFc := va_free (wc := [(r 0, .inr (7, [.ref (r 1), .int 0, .ref (r 2), .ref (r 55), .ref (r 57), .ref (r 30), .ref (r 56), .ref (r 36), .ref (r 37), .ref (r 38), .int 0, .ref (r 51), .int 0, .ref (r 52), .ref (r 53), .ref (r 54)])), (r 1, .inl ((c 1), 1600, .inl (fun _ => 0)))]) hD hS hA [0, 1] rfl
  refine va_callv (va_runV (As := [.int p0]) (rest := []) ⟨hx, hb, hml, hown, hG⟩ (kX8_putBytes l dC dI r c p0 s.heap.size ) (cwV 1 hG (goodV gw521 gw523 gw2 gw129 gw524) rfl rfl rfl hd_X8_putBytes ⟨(Nat.le_of_ble_eq_true rfl), (Nat.le_of_ble_eq_true rfl)⟩) ⟨fbW, va_recv hKc hPc (ci := 7) (q0 := 0) rfl rfl, pW_in hPc hKc hDc⟩ rfl rfl hl.1 rfl (lv_room (Nat.le_of_ble_eq_true rfl)) dX8_feed_17 ⟨(Nat.le_of_ble_eq_true rfl), (Nat.le_of_ble_eq_true rfl)⟩) hS (fun q _ h => hFc q h) hFc (fun u t H2 locs ht hvm hw hB hz1 hk1 hS => ?_)
  obtain ⟨zf4, hP1, hD1⟩ := hB
  rw [ht] at hP1
  obtain ⟨hP, hD⟩ := va_join (wr := []) (w1 := [(r 0, .inr (7, [.ref (r 1), .int 4, .ref (r 2), .ref (r 55), .ref (r 57), .ref (r 30), .ref (r 56), .ref (r 36), .ref (r 37), .ref (r 38), .int 0, .ref (r 51), .int 0, .ref (r 52), .ref (r 53), .ref (r 54)])), (r 1, .inl ((c 1), 1600, .inl zf4))]) hP hD [0, 1] [] rfl rfl (by decide) (by decide) hk1 hFc hP1 hD1
  have hP : va_P (dC, dI) vwCl [(r 0, .inr (7, [.ref (r 1), .int 4, .ref (r 2), .ref (r 55), .ref (r 57), .ref (r 30), .ref (r 56), .ref (r 36), .ref (r 37), .ref (r 38), .int 0, .ref (r 51), .int 0, .ref (r 52), .ref (r 53), .ref (r 54)])), (r 1, .inl ((c 1), 1600, .inl zf4))] H2 := hP
  have hD : va_D A [(r 0, .inr (7, [.ref (r 1), .int 4, .ref (r 2), .ref (r 55), .ref (r 57), .ref (r 30), .ref (r 56), .ref (r 36), .ref (r 37), .ref (r 38), .int 0, .ref (r 51), .int 0, .ref (r 52), .ref (r 53), .ref (r 54)])), (r 1, .inl ((c 1), 1600, .inl zf4))] := hD
  refine lv_aload_n hx hb dX8_feed_20 rfl (lv_at hl 0 rfl) ?_
  refine lv_iload_n hx hb dX8_feed_21 rfl (lv_at hl 2 rfl) ?_
  have hPc := hP.sub (ws' := [(r 0, .inr (7, [.ref (r 1), .int 4, .ref (r 2), .ref (r 55), .ref (r 57), .ref (r 30), .ref (r 56), .ref (r 36), .ref (r 37), .ref (r 38), .int 0, .ref (r 51), .int 0, .ref (r 52), .ref (r 53), .ref (r 54)])), (r 1, .inl ((c 1), 1600, .inl zf4))]) [0, 1] rfl
  have hKc := hK.sub (tys' := [((c 1), .byte)]) [0] rfl
  have hDc := hD.sub (ws' := [(r 0, .inr (7, [.ref (r 1), .int 4, .ref (r 2), .ref (r 55), .ref (r 57), .ref (r 30), .ref (r 56), .ref (r 36), .ref (r 37), .ref (r 38), .int 0, .ref (r 51), .int 0, .ref (r 52), .ref (r 53), .ref (r 54)])), (r 1, .inl ((c 1), 1600, .inl zf4))]) [0, 1] (by decide) rfl
  have hFc := va_free (wc := [(r 0, .inr (7, [.ref (r 1), .int 4, .ref (r 2), .ref (r 55), .ref (r 57), .ref (r 30), .ref (r 56), .ref (r 36), .ref (r 37), .ref (r 38), .int 0, .ref (r 51), .int 0, .ref (r 52), .ref (r 53), .ref (r 54)])), (r 1, .inl ((c 1), 1600, .inl zf4))]) hD hS hA [0, 1] rfl
  refine va_callv (va_runV (As := [.int p1]) (rest := []) ⟨hx, hb, hml, hown, hG⟩ (kX8_putBytes_v1 l dC dI r c zf4 p1 H2.size ) (cwV 1 hG (goodV gw521 gw523 gw2 gw129 gw524) rfl rfl rfl hd_X8_putBytes ⟨(Nat.le_of_ble_eq_true rfl), (Nat.le_of_ble_eq_true rfl)⟩) ⟨fbW, va_recv hKc hPc (ci := 7) (q0 := 0) rfl rfl, pW_in hPc hKc hDc⟩ rfl rfl hl.1 rfl (lv_room (Nat.le_of_ble_eq_true rfl)) dX8_feed_22 ⟨(Nat.le_of_ble_eq_true rfl), (Nat.le_of_ble_eq_true rfl)⟩) hS (fun q _ h => hFc q h) hFc (fun u t H5 locs ht hvm hw hB hz1 hk1 hS => ?_)
  obtain ⟨zf7, hP1, hD1⟩ := hB
  rw [ht] at hP1
  obtain ⟨hP, hD⟩ := va_join (wr := []) (w1 := [(r 0, .inr (7, [.ref (r 1), .int 8, .ref (r 2), .ref (r 55), .ref (r 57), .ref (r 30), .ref (r 56), .ref (r 36), .ref (r 37), .ref (r 38), .int 0, .ref (r 51), .int 0, .ref (r 52), .ref (r 53), .ref (r 54)])), (r 1, .inl ((c 1), 1600, .inl zf7))]) hP hD [0, 1] [] rfl rfl (by decide) (by decide) hk1 hFc hP1 hD1
  have hP : va_P (dC, dI) vwCl [(r 0, .inr (7, [.ref (r 1), .int 8, .ref (r 2), .ref (r 55), .ref (r 57), .ref (r 30), .ref (r 56), .ref (r 36), .ref (r 37), .ref (r 38), .int 0, .ref (r 51), .int 0, .ref (r 52), .ref (r 53), .ref (r 54)])), (r 1, .inl ((c 1), 1600, .inl zf7))] H5 := hP
  have hD : va_D A [(r 0, .inr (7, [.ref (r 1), .int 8, .ref (r 2), .ref (r 55), .ref (r 57), .ref (r 30), .ref (r 56), .ref (r 36), .ref (r 37), .ref (r 38), .int 0, .ref (r 51), .int 0, .ref (r 52), .ref (r 53), .ref (r 54)])), (r 1, .inl ((c 1), 1600, .inl zf7))] := hD
  refine lv_aload_n hx hb dX8_feed_25 rfl (lv_at hl 0 rfl) ?_
  refine lv_iload_n hx hb dX8_feed_26 rfl (lv_at hl 3 rfl) ?_
  have hPc := hP.sub (ws' := [(r 0, .inr (7, [.ref (r 1), .int 8, .ref (r 2), .ref (r 55), .ref (r 57), .ref (r 30), .ref (r 56), .ref (r 36), .ref (r 37), .ref (r 38), .int 0, .ref (r 51), .int 0, .ref (r 52), .ref (r 53), .ref (r 54)])), (r 1, .inl ((c 1), 1600, .inl zf7))]) [0, 1] rfl
  have hKc := hK.sub (tys' := [((c 1), .byte)]) [0] rfl
  have hDc := hD.sub (ws' := [(r 0, .inr (7, [.ref (r 1), .int 8, .ref (r 2), .ref (r 55), .ref (r 57), .ref (r 30), .ref (r 56), .ref (r 36), .ref (r 37), .ref (r 38), .int 0, .ref (r 51), .int 0, .ref (r 52), .ref (r 53), .ref (r 54)])), (r 1, .inl ((c 1), 1600, .inl zf7))]) [0, 1] (by decide) rfl
  have hFc := va_free (wc := [(r 0, .inr (7, [.ref (r 1), .int 8, .ref (r 2), .ref (r 55), .ref (r 57), .ref (r 30), .ref (r 56), .ref (r 36), .ref (r 37), .ref (r 38), .int 0, .ref (r 51), .int 0, .ref (r 52), .ref (r 53), .ref (r 54)])), (r 1, .inl ((c 1), 1600, .inl zf7))]) hD hS hA [0, 1] rfl
  refine va_callv (va_runV (As := [.int p2]) (rest := []) ⟨hx, hb, hml, hown, hG⟩ (kX8_putBytes_v2 l dC dI r c zf7 p2 H5.size ) (cwV 1 hG (goodV gw521 gw523 gw2 gw129 gw524) rfl rfl rfl hd_X8_putBytes ⟨(Nat.le_of_ble_eq_true rfl), (Nat.le_of_ble_eq_true rfl)⟩) ⟨fbW, va_recv hKc hPc (ci := 7) (q0 := 0) rfl rfl, pW_in hPc hKc hDc⟩ rfl rfl hl.1 rfl (lv_room (Nat.le_of_ble_eq_true rfl)) dX8_feed_27 ⟨(Nat.le_of_ble_eq_true rfl), (Nat.le_of_ble_eq_true rfl)⟩) hS (fun q _ h => hFc q h) hFc (fun u t H8 locs ht hvm hw hB hz1 hk1 hS => ?_)
  obtain ⟨zf10, hP1, hD1⟩ := hB
  rw [ht] at hP1
  obtain ⟨hP, hD⟩ := va_join (wr := []) (w1 := [(r 0, .inr (7, [.ref (r 1), .int 12, .ref (r 2), .ref (r 55), .ref (r 57), .ref (r 30), .ref (r 56), .ref (r 36), .ref (r 37), .ref (r 38), .int 0, .ref (r 51), .int 0, .ref (r 52), .ref (r 53), .ref (r 54)])), (r 1, .inl ((c 1), 1600, .inl zf10))]) hP hD [0, 1] [] rfl rfl (by decide) (by decide) hk1 hFc hP1 hD1
  have hP : va_P (dC, dI) vwCl [(r 0, .inr (7, [.ref (r 1), .int 12, .ref (r 2), .ref (r 55), .ref (r 57), .ref (r 30), .ref (r 56), .ref (r 36), .ref (r 37), .ref (r 38), .int 0, .ref (r 51), .int 0, .ref (r 52), .ref (r 53), .ref (r 54)])), (r 1, .inl ((c 1), 1600, .inl zf10))] H8 := hP
  have hD : va_D A [(r 0, .inr (7, [.ref (r 1), .int 12, .ref (r 2), .ref (r 55), .ref (r 57), .ref (r 30), .ref (r 56), .ref (r 36), .ref (r 37), .ref (r 38), .int 0, .ref (r 51), .int 0, .ref (r 52), .ref (r 53), .ref (r 54)])), (r 1, .inl ((c 1), 1600, .inl zf10))] := hD
  refine lv_aload_n hx hb dX8_feed_30 rfl (lv_at hl 0 rfl) ?_
  refine lv_iload hx hb dX8_feed_31 (lv_at hl 4 rfl) ?_
  have hPc := hP.sub (ws' := [(r 0, .inr (7, [.ref (r 1), .int 12, .ref (r 2), .ref (r 55), .ref (r 57), .ref (r 30), .ref (r 56), .ref (r 36), .ref (r 37), .ref (r 38), .int 0, .ref (r 51), .int 0, .ref (r 52), .ref (r 53), .ref (r 54)])), (r 1, .inl ((c 1), 1600, .inl zf10))]) [0, 1] rfl
  have hKc := hK.sub (tys' := [((c 1), .byte)]) [0] rfl
  have hDc := hD.sub (ws' := [(r 0, .inr (7, [.ref (r 1), .int 12, .ref (r 2), .ref (r 55), .ref (r 57), .ref (r 30), .ref (r 56), .ref (r 36), .ref (r 37), .ref (r 38), .int 0, .ref (r 51), .int 0, .ref (r 52), .ref (r 53), .ref (r 54)])), (r 1, .inl ((c 1), 1600, .inl zf10))]) [0, 1] (by decide) rfl
  have hFc := va_free (wc := [(r 0, .inr (7, [.ref (r 1), .int 12, .ref (r 2), .ref (r 55), .ref (r 57), .ref (r 30), .ref (r 56), .ref (r 36), .ref (r 37), .ref (r 38), .int 0, .ref (r 51), .int 0, .ref (r 52), .ref (r 53), .ref (r 54)])), (r 1, .inl ((c 1), 1600, .inl zf10))]) hD hS hA [0, 1] rfl
  refine va_callv (va_runV (As := [.int p3]) (rest := []) ⟨hx, hb, hml, hown, hG⟩ (kX8_putBytes_v3 l dC dI r c zf10 p3 H8.size ) (cwV 1 hG (goodV gw521 gw523 gw2 gw129 gw524) rfl rfl rfl hd_X8_putBytes ⟨(Nat.le_of_ble_eq_true rfl), (Nat.le_of_ble_eq_true rfl)⟩) ⟨fbW, va_recv hKc hPc (ci := 7) (q0 := 0) rfl rfl, pW_in hPc hKc hDc⟩ rfl rfl hl.1 rfl (lv_room (Nat.le_of_ble_eq_true rfl)) dX8_feed_33 ⟨(Nat.le_of_ble_eq_true rfl), (Nat.le_of_ble_eq_true rfl)⟩) hS (fun q _ h => hFc q h) hFc (fun u t H11 locs ht hvm hw hB hz1 hk1 hS => ?_)
  obtain ⟨zf13, hP1, hD1⟩ := hB
  rw [ht] at hP1
  obtain ⟨hP, hD⟩ := va_join (wr := []) (w1 := [(r 0, .inr (7, [.ref (r 1), .int 16, .ref (r 2), .ref (r 55), .ref (r 57), .ref (r 30), .ref (r 56), .ref (r 36), .ref (r 37), .ref (r 38), .int 0, .ref (r 51), .int 0, .ref (r 52), .ref (r 53), .ref (r 54)])), (r 1, .inl ((c 1), 1600, .inl zf13))]) hP hD [0, 1] [] rfl rfl (by decide) (by decide) hk1 hFc hP1 hD1
  have hP : va_P (dC, dI) vwCl [(r 0, .inr (7, [.ref (r 1), .int 16, .ref (r 2), .ref (r 55), .ref (r 57), .ref (r 30), .ref (r 56), .ref (r 36), .ref (r 37), .ref (r 38), .int 0, .ref (r 51), .int 0, .ref (r 52), .ref (r 53), .ref (r 54)])), (r 1, .inl ((c 1), 1600, .inl zf13))] H11 := hP
  have hD : va_D A [(r 0, .inr (7, [.ref (r 1), .int 16, .ref (r 2), .ref (r 55), .ref (r 57), .ref (r 30), .ref (r 56), .ref (r 36), .ref (r 37), .ref (r 38), .int 0, .ref (r 51), .int 0, .ref (r 52), .ref (r 53), .ref (r 54)])), (r 1, .inl ((c 1), 1600, .inl zf13))] := hD
  refine lv_aload_n hx hb dX8_feed_36 rfl (lv_at hl 0 rfl) ?_
  refine lv_iload hx hb dX8_feed_37 (lv_at hl 5 rfl) ?_
  have hPc := hP.sub (ws' := [(r 0, .inr (7, [.ref (r 1), .int 16, .ref (r 2), .ref (r 55), .ref (r 57), .ref (r 30), .ref (r 56), .ref (r 36), .ref (r 37), .ref (r 38), .int 0, .ref (r 51), .int 0, .ref (r 52), .ref (r 53), .ref (r 54)])), (r 1, .inl ((c 1), 1600, .inl zf13))]) [0, 1] rfl
  have hKc := hK.sub (tys' := [((c 1), .byte)]) [0] rfl
  have hDc := hD.sub (ws' := [(r 0, .inr (7, [.ref (r 1), .int 16, .ref (r 2), .ref (r 55), .ref (r 57), .ref (r 30), .ref (r 56), .ref (r 36), .ref (r 37), .ref (r 38), .int 0, .ref (r 51), .int 0, .ref (r 52), .ref (r 53), .ref (r 54)])), (r 1, .inl ((c 1), 1600, .inl zf13))]) [0, 1] (by decide) rfl
  have hFc := va_free (wc := [(r 0, .inr (7, [.ref (r 1), .int 16, .ref (r 2), .ref (r 55), .ref (r 57), .ref (r 30), .ref (r 56), .ref (r 36), .ref (r 37), .ref (r 38), .int 0, .ref (r 51), .int 0, .ref (r 52), .ref (r 53), .ref (r 54)])), (r 1, .inl ((c 1), 1600, .inl zf13))]) hD hS hA [0, 1] rfl
  refine va_callv (va_runV (As := [.int p4]) (rest := []) ⟨hx, hb, hml, hown, hG⟩ (kX8_putBytes_v4 l dC dI r c zf13 p4 H11.size ) (cwV 1 hG (goodV gw521 gw523 gw2 gw129 gw524) rfl rfl rfl hd_X8_putBytes ⟨(Nat.le_of_ble_eq_true rfl), (Nat.le_of_ble_eq_true rfl)⟩) ⟨fbW, va_recv hKc hPc (ci := 7) (q0 := 0) rfl rfl, pW_in hPc hKc hDc⟩ rfl rfl hl.1 rfl (lv_room (Nat.le_of_ble_eq_true rfl)) dX8_feed_39 ⟨(Nat.le_of_ble_eq_true rfl), (Nat.le_of_ble_eq_true rfl)⟩) hS (fun q _ h => hFc q h) hFc (fun u t H14 locs ht hvm hw hB hz1 hk1 hS => ?_)
  obtain ⟨zf16, hP1, hD1⟩ := hB
  rw [ht] at hP1
  obtain ⟨hP, hD⟩ := va_join (wr := []) (w1 := [(r 0, .inr (7, [.ref (r 1), .int 20, .ref (r 2), .ref (r 55), .ref (r 57), .ref (r 30), .ref (r 56), .ref (r 36), .ref (r 37), .ref (r 38), .int 0, .ref (r 51), .int 0, .ref (r 52), .ref (r 53), .ref (r 54)])), (r 1, .inl ((c 1), 1600, .inl zf16))]) hP hD [0, 1] [] rfl rfl (by decide) (by decide) hk1 hFc hP1 hD1
  have hP : va_P (dC, dI) vwCl [(r 0, .inr (7, [.ref (r 1), .int 20, .ref (r 2), .ref (r 55), .ref (r 57), .ref (r 30), .ref (r 56), .ref (r 36), .ref (r 37), .ref (r 38), .int 0, .ref (r 51), .int 0, .ref (r 52), .ref (r 53), .ref (r 54)])), (r 1, .inl ((c 1), 1600, .inl zf16))] H14 := hP
  have hD : va_D A [(r 0, .inr (7, [.ref (r 1), .int 20, .ref (r 2), .ref (r 55), .ref (r 57), .ref (r 30), .ref (r 56), .ref (r 36), .ref (r 37), .ref (r 38), .int 0, .ref (r 51), .int 0, .ref (r 52), .ref (r 53), .ref (r 54)])), (r 1, .inl ((c 1), 1600, .inl zf16))] := hD
  refine lv_aload_n hx hb dX8_feed_42 rfl (lv_at hl 0 rfl) ?_
  refine va_get (D := (dC, dI)) (ci := 7) (v := .int 20) (C := RX8) (T := TX8) (N := 16) hx hb hG inX8 hown hK hP 0 rfl rfl 1 (by decide) (hG _ gw469) (fun _ h9 => h9) rfl dX8_feed_43 ?_
  exact W.iret (v := 20) hx hb hr (fun t ht hW => ⟨⟨20, (), rfl, rfl, trivial⟩, hS.F ht⟩) hS.2.2 dX8_feed_46
set_option maxHeartbeats 4000000 in
set_option maxRecDepth 100000 in
theorem kX9_feed (l : Launch) (dC : Nat → ClassId) (dI : Nat → Nat → Nat) (r : Nat → Nat) (c : Nat → ClassId) (p0 p1 p2 p3 p4 : Int32) (sz : Nat) : Met l yX9_feed (.code yX9_feed cX9_feed 8 (some .int) :: GW) { frames := 2, cells := 0, slots := 0, locals := 100 } (va_Pc [.ref (r 0), .int p0, .int p1, .int p2, .int p3, .int p4] (pW (dC, dI) [(r 0, .inr (8, [.ref (r 1), .ref (r 2), .int 0, .int 0, .int 0, .int (-1), .int 0, .int 0, .int 0, .int 0, .long 0, .ref (r 3), .ref (r 4), .ref (r 5), .ref (r 6), .ref (r 7), .ref (r 8), .ref (r 9), .ref (r 10), .ref (r 11), .ref (r 12), .ref (r 13), .ref (r 14), .ref (r 15), .ref (r 16), .ref (r 17), .ref (r 18), .ref (r 19), .ref (r 20), .ref (r 21), .ref (r 22), .ref (r 23), .ref (r 24), .int 0, .int 0, .int 0, .int 0, .int 0, .int 0, .int 0, .int 0, .int 0, .ref (r 25), .ref (r 26), .ref (r 27), .int 0, .int 0, .ref (r 28), .int 0, .ref (r 29), .ref (r 30), .ref (r 31), .ref (r 32), .ref (r 33), .ref (r 34), .ref (r 35), .ref (r 36), .int 0, .int 0, .int 0, .ref (r 37), .ref (r 38)])), (r 1, .inl ((c 1), 1620, .inl (fun _ => 0)))] [((c 1), .byte)] sz)) (va_Qi (fun (r0 : Int32) (_ : Unit) => r0 = 20) (fun _ _ => True) (va_A [(r 0, .inr (8, [.ref (r 1), .ref (r 2), .int 0, .int 0, .int 0, .int (-1), .int 0, .int 0, .int 0, .int 0, .long 0, .ref (r 3), .ref (r 4), .ref (r 5), .ref (r 6), .ref (r 7), .ref (r 8), .ref (r 9), .ref (r 10), .ref (r 11), .ref (r 12), .ref (r 13), .ref (r 14), .ref (r 15), .ref (r 16), .ref (r 17), .ref (r 18), .ref (r 19), .ref (r 20), .ref (r 21), .ref (r 22), .ref (r 23), .ref (r 24), .int 0, .int 0, .int 0, .int 0, .int 0, .int 0, .int 0, .int 0, .int 0, .ref (r 25), .ref (r 26), .ref (r 27), .int 0, .int 0, .ref (r 28), .int 0, .ref (r 29), .ref (r 30), .ref (r 31), .ref (r 32), .ref (r 33), .ref (r 34), .ref (r 35), .ref (r 36), .int 0, .int 0, .int 0, .ref (r 37), .ref (r 38)])), (r 1, .inl ((c 1), 1620, .inl (fun _ => 0)))] sz)) 0 0 (va_A [(r 0, .inr (8, [.ref (r 1), .ref (r 2), .int 0, .int 0, .int 0, .int (-1), .int 0, .int 0, .int 0, .int 0, .long 0, .ref (r 3), .ref (r 4), .ref (r 5), .ref (r 6), .ref (r 7), .ref (r 8), .ref (r 9), .ref (r 10), .ref (r 11), .ref (r 12), .ref (r 13), .ref (r 14), .ref (r 15), .ref (r 16), .ref (r 17), .ref (r 18), .ref (r 19), .ref (r 20), .ref (r 21), .ref (r 22), .ref (r 23), .ref (r 24), .int 0, .int 0, .int 0, .int 0, .int 0, .int 0, .int 0, .int 0, .int 0, .ref (r 25), .ref (r 26), .ref (r 27), .int 0, .int 0, .ref (r 28), .int 0, .ref (r 29), .ref (r 30), .ref (r 31), .ref (r 32), .ref (r 33), .ref (r 34), .ref (r 35), .ref (r 36), .int 0, .int 0, .int 0, .ref (r 37), .ref (r 38)])), (r 1, .inl ((c 1), 1620, .inl (fun _ => 0)))] sz) := by
  refine Met.ofW (cc := cX9_feed) (maxL := 8) (ret := (some .int)) (by decide) rfl ?_
  intro p e s m args below meth c0 s₁ B hml hv
  obtain ⟨rfl, hsz, hP, hK, hD0⟩ := hv
  have hx := B.exec
  have hb := B.bytes
  have hr := B.returns
  have hts := atoms_spec (ws := .code yX9_feed cX9_feed 8 (some .int) :: GW) B.pre
  have hG : ∀ w ∈ GW, w.before _ s = true := fun w h => hts w (List.mem_cons_of_mem _ h)
  have hown : s.vm.findClass RX9 = some m.cls := findClass_of_methodNamed B.named
  have hlocks := B.notSynchronized
  subst hsz
  have hD := hD0.self (sz := s.heap.size)
  generalize hAe : va_A [(r 0, .inr (8, [.ref (r 1), .ref (r 2), .int 0, .int 0, .int 0, .int (-1), .int 0, .int 0, .int 0, .int 0, .long 0, .ref (r 3), .ref (r 4), .ref (r 5), .ref (r 6), .ref (r 7), .ref (r 8), .ref (r 9), .ref (r 10), .ref (r 11), .ref (r 12), .ref (r 13), .ref (r 14), .ref (r 15), .ref (r 16), .ref (r 17), .ref (r 18), .ref (r 19), .ref (r 20), .ref (r 21), .ref (r 22), .ref (r 23), .ref (r 24), .int 0, .int 0, .int 0, .int 0, .int 0, .int 0, .int 0, .int 0, .int 0, .ref (r 25), .ref (r 26), .ref (r 27), .int 0, .int 0, .ref (r 28), .int 0, .ref (r 29), .ref (r 30), .ref (r 31), .ref (r 32), .ref (r 33), .ref (r 34), .ref (r 35), .ref (r 36), .int 0, .int 0, .int 0, .ref (r 37), .ref (r 38)])), (r 1, .inl ((c 1), 1620, .inl (fun _ => 0)))] s.heap.size = A at hD ⊢
  have hA : ∀ q : Nat, s.heap.size ≤ q → A q := fun q h => by rw [← hAe]; exact Or.inr h
  have hS : va_S A s.heap s.heap [] := va_S.rf
  have hP : va_P (dC, dI) vwCl [(r 0, .inr (8, [.ref (r 1), .ref (r 2), .int 0, .int 0, .int 0, .int (-1), .int 0, .int 0, .int 0, .int 0, .long 0, .ref (r 3), .ref (r 4), .ref (r 5), .ref (r 6), .ref (r 7), .ref (r 8), .ref (r 9), .ref (r 10), .ref (r 11), .ref (r 12), .ref (r 13), .ref (r 14), .ref (r 15), .ref (r 16), .ref (r 17), .ref (r 18), .ref (r 19), .ref (r 20), .ref (r 21), .ref (r 22), .ref (r 23), .ref (r 24), .int 0, .int 0, .int 0, .int 0, .int 0, .int 0, .int 0, .int 0, .int 0, .ref (r 25), .ref (r 26), .ref (r 27), .int 0, .int 0, .ref (r 28), .int 0, .ref (r 29), .ref (r 30), .ref (r 31), .ref (r 32), .ref (r 33), .ref (r 34), .ref (r 35), .ref (r 36), .int 0, .int 0, .int 0, .ref (r 37), .ref (r 38)])), (r 1, .inl ((c 1), 1620, .inl (fun _ => 0)))] s.heap := hP
  have hl := lv_entry ([.ref (r 0), .int p0, .int p1, .int p2, .int p3, .int p4]) (n := 8) (Nat.le_of_ble_eq_true rfl)
  rw [lg_entry_eq]
  generalize (lg_sl ([.ref (r 0), .int p0, .int p1, .int p2, .int p3, .int p4]) ++ List.replicate (8 - (lg_sl ([.ref (r 0), .int p0, .int p1, .int p2, .int p3, .int p4])).length) Slot.unset).toArray = ls at hl ⊢
  have hl : lv_has ls 8 [(0, .ref (r 0)), (1, .int p0), (2, .int p1), (3, .int p2), (4, .int p3), (5, .int p4)] := hl
  refine lv_aload_n hx hb dX9_feed_0 rfl (lv_at hl 0 rfl) ?_
  refine va_get (D := (dC, dI)) (ci := 8) (v := .int 0) (C := RX9) (T := TX9) (N := 62) hx hb hG inX9 hown hK hP 0 rfl rfl 2 (by decide) (hG _ gw1173) (fun _ h9 => h9) rfl dX9_feed_1 ?_
  refine lv_bipush (v := 20) hx hb dX9_feed_4 (by decide) ?_
  refine lv_iadd hx hb dX9_feed_6 ?_
  refine wt_c (v := 20) (by decide) ?_
  refine lv_sipush (v := 1600) hx hb dX9_feed_7 (by decide) ?_
  refine lv_icmp_le (tgt := 15) hx hb dX9_feed_10 (by decide) (fun c_1 => ?_) (fun c_1 => absurd (by decide) c_1)
  refine lv_iconst (v := 0) hx hb dX9_feed_15 (by decide) ?_
  refine lv_istore (lv' := [(6, .int 0), (0, .ref (r 0)), (1, .int p0), (2, .int p1), (3, .int p2), (4, .int p3), (5, .int p4)]) hx hb dX9_feed_16 hl (by decide) rfl (fun ls hl => ?_)
  refine lv_iload hx hb dX9_feed_18 (lv_at hl 0 rfl) ?_
  refine lv_bipush (v := 20) hx hb dX9_feed_20 (by decide) ?_
  refine lv_icmp_ge (tgt := 105) hx hb dX9_feed_22 (by decide) (fun c_2 => absurd c_2 (by decide)) (fun c_2 => ?_)
  refine lv_iload hx hb dX9_feed_25 (lv_at hl 0 rfl) ?_
  refine lv_iconst (v := 4) hx hb dX9_feed_27 (by decide) ?_
  refine lv_icmp_ge (tgt := 35) hx hb dX9_feed_28 (by decide) (fun c_3 => absurd c_3 (by decide)) (fun c_3 => ?_)
  refine lv_iload_n hx hb dX9_feed_31 rfl (lv_at hl 2 rfl) ?_
  refine lv_goto (tgt := 71) hx hb dX9_feed_32 (by decide) ?_
  refine lv_istore (lv' := [(7, .int p0), (6, .int 0), (0, .ref (r 0)), (1, .int p0), (2, .int p1), (3, .int p2), (4, .int p3), (5, .int p4)]) hx hb dX9_feed_71 hl (by decide) rfl (fun ls hl => ?_)
  refine lv_aload_n hx hb dX9_feed_73 rfl (lv_at hl 2 rfl) ?_
  refine va_get (D := (dC, dI)) (ci := 8) (v := .ref (r 1)) (C := RX9) (T := TX9) (N := 62) hx hb hG inX9 hown hK hP 0 rfl rfl 0 (by decide) (hG _ gw1171) (fun _ h9 => h9) rfl dX9_feed_74 ?_
  refine lv_aload_n hx hb dX9_feed_77 rfl (lv_at hl 2 rfl) ?_
  refine va_get (D := (dC, dI)) (ci := 8) (v := .int 0) (C := RX9) (T := TX9) (N := 62) hx hb hG inX9 hown hK hP 0 rfl rfl 2 (by decide) (hG _ gw1173) (fun _ h9 => h9) rfl dX9_feed_78 ?_
  refine lv_iload hx hb dX9_feed_81 (lv_at hl 1 rfl) ?_
  refine lv_iadd hx hb dX9_feed_83 ?_
  refine wt_c (v := 0) (by decide) ?_
  refine lv_iload hx hb dX9_feed_84 (lv_at hl 0 rfl) ?_
  refine lv_bipush (v := 24) hx hb dX9_feed_86 (by decide) ?_
  refine lv_bipush (v := 8) hx hb dX9_feed_88 (by decide) ?_
  refine lv_iload hx hb dX9_feed_90 (lv_at hl 1 rfl) ?_
  refine lv_iconst (v := 3) hx hb dX9_feed_92 (by decide) ?_
  refine lv_iand hx hb dX9_feed_93 ?_
  refine wt_c (v := 0) (by decide) ?_
  refine lv_imul hx hb dX9_feed_94 ?_
  refine wt_c (v := 0) (by decide) ?_
  refine lv_isub hx hb dX9_feed_95 ?_
  refine wt_c (v := 24) (by decide) ?_
  refine lv_ishr hx hb dX9_feed_96 ?_
  refine lv_topi (fun x4 ex4 => ?_)
  refine lv_i2b (v := _) hx hb dX9_feed_97 rfl ?_
  refine lv_topi (fun x5 ex5 => ?_)
  refine va_bast hx hb hK hP hD hS 1 0 rfl rfl (vin (by decide)) dX9_feed_98 (fun H6 locs hP hD hS => ?_)
  obtain ⟨zf7, ezf7⟩ : ∃ z : Nat → Int32, z = upd (fun _ => 0) (0 : Int32).toNatClampNeg (vp_nar .byte x5) := ⟨_, rfl⟩
  have hP : va_P (dC, dI) vwCl [(r 0, .inr (8, [.ref (r 1), .ref (r 2), .int 0, .int 0, .int 0, .int (-1), .int 0, .int 0, .int 0, .int 0, .long 0, .ref (r 3), .ref (r 4), .ref (r 5), .ref (r 6), .ref (r 7), .ref (r 8), .ref (r 9), .ref (r 10), .ref (r 11), .ref (r 12), .ref (r 13), .ref (r 14), .ref (r 15), .ref (r 16), .ref (r 17), .ref (r 18), .ref (r 19), .ref (r 20), .ref (r 21), .ref (r 22), .ref (r 23), .ref (r 24), .int 0, .int 0, .int 0, .int 0, .int 0, .int 0, .int 0, .int 0, .int 0, .ref (r 25), .ref (r 26), .ref (r 27), .int 0, .int 0, .ref (r 28), .int 0, .ref (r 29), .ref (r 30), .ref (r 31), .ref (r 32), .ref (r 33), .ref (r 34), .ref (r 35), .ref (r 36), .int 0, .int 0, .int 0, .ref (r 37), .ref (r 38)])), (r 1, .inl ((c 1), 1620, .inl zf7))] H6 := by rw [ezf7]; exact hP
  have hD : va_D A [(r 0, .inr (8, [.ref (r 1), .ref (r 2), .int 0, .int 0, .int 0, .int (-1), .int 0, .int 0, .int 0, .int 0, .long 0, .ref (r 3), .ref (r 4), .ref (r 5), .ref (r 6), .ref (r 7), .ref (r 8), .ref (r 9), .ref (r 10), .ref (r 11), .ref (r 12), .ref (r 13), .ref (r 14), .ref (r 15), .ref (r 16), .ref (r 17), .ref (r 18), .ref (r 19), .ref (r 20), .ref (r 21), .ref (r 22), .ref (r 23), .ref (r 24), .int 0, .int 0, .int 0, .int 0, .int 0, .int 0, .int 0, .int 0, .int 0, .ref (r 25), .ref (r 26), .ref (r 27), .int 0, .int 0, .ref (r 28), .int 0, .ref (r 29), .ref (r 30), .ref (r 31), .ref (r 32), .ref (r 33), .ref (r 34), .ref (r 35), .ref (r 36), .int 0, .int 0, .int 0, .ref (r 37), .ref (r 38)])), (r 1, .inl ((c 1), 1620, .inl zf7))] := by rw [ezf7]; exact hD
  refine lv_iinc (v := 1) (lv' := [(6, .int 1), (7, .int p0), (0, .ref (r 0)), (1, .int p0), (2, .int p1), (3, .int p2), (4, .int p3), (5, .int p4)]) hx hb dX9_feed_99 hl (k := 1) rfl (by decide) (by decide) rfl (fun ls hl => ?_)
  refine lv_goto (tgt := 18) hx hb dX9_feed_102 (by decide) ?_
  refine lv_iload hx hb dX9_feed_18 (lv_at hl 0 rfl) ?_
  refine lv_bipush (v := 20) hx hb dX9_feed_20 (by decide) ?_
  refine lv_icmp_ge (tgt := 105) hx hb dX9_feed_22 (by decide) (fun c_8 => absurd c_8 (by decide)) (fun c_8 => ?_)
  refine lv_iload hx hb dX9_feed_25 (lv_at hl 0 rfl) ?_
  refine lv_iconst (v := 4) hx hb dX9_feed_27 (by decide) ?_
  refine lv_icmp_ge (tgt := 35) hx hb dX9_feed_28 (by decide) (fun c_9 => absurd c_9 (by decide)) (fun c_9 => ?_)
  refine lv_iload_n hx hb dX9_feed_31 rfl (lv_at hl 3 rfl) ?_
  refine lv_goto (tgt := 71) hx hb dX9_feed_32 (by decide) ?_
  refine lv_istore (lv' := [(7, .int p0), (6, .int 1), (0, .ref (r 0)), (1, .int p0), (2, .int p1), (3, .int p2), (4, .int p3), (5, .int p4)]) hx hb dX9_feed_71 hl (by decide) rfl (fun ls hl => ?_)
  refine lv_aload_n hx hb dX9_feed_73 rfl (lv_at hl 2 rfl) ?_
  refine va_get (D := (dC, dI)) (ci := 8) (v := .ref (r 1)) (C := RX9) (T := TX9) (N := 62) hx hb hG inX9 hown hK hP 0 rfl rfl 0 (by decide) (hG _ gw1171) (fun _ h9 => h9) rfl dX9_feed_74 ?_
  refine lv_aload_n hx hb dX9_feed_77 rfl (lv_at hl 2 rfl) ?_
  refine va_get (D := (dC, dI)) (ci := 8) (v := .int 0) (C := RX9) (T := TX9) (N := 62) hx hb hG inX9 hown hK hP 0 rfl rfl 2 (by decide) (hG _ gw1173) (fun _ h9 => h9) rfl dX9_feed_78 ?_
  refine lv_iload hx hb dX9_feed_81 (lv_at hl 1 rfl) ?_
  refine lv_iadd hx hb dX9_feed_83 ?_
  refine wt_c (v := 1) (by decide) ?_
  refine lv_iload hx hb dX9_feed_84 (lv_at hl 0 rfl) ?_
  refine lv_bipush (v := 24) hx hb dX9_feed_86 (by decide) ?_
  refine lv_bipush (v := 8) hx hb dX9_feed_88 (by decide) ?_
  refine lv_iload hx hb dX9_feed_90 (lv_at hl 1 rfl) ?_
  refine lv_iconst (v := 3) hx hb dX9_feed_92 (by decide) ?_
  refine lv_iand hx hb dX9_feed_93 ?_
  refine wt_c (v := 1) (by decide) ?_
  refine lv_imul hx hb dX9_feed_94 ?_
  refine wt_c (v := 8) (by decide) ?_
  refine lv_isub hx hb dX9_feed_95 ?_
  refine wt_c (v := 16) (by decide) ?_
  refine lv_ishr hx hb dX9_feed_96 ?_
  refine lv_topi (fun x10 ex10 => ?_)
  refine lv_i2b (v := _) hx hb dX9_feed_97 rfl ?_
  refine lv_topi (fun x11 ex11 => ?_)
  refine va_bast hx hb hK hP hD hS 1 0 rfl rfl (vin (by decide)) dX9_feed_98 (fun H12 locs hP hD hS => ?_)
  obtain ⟨zf13, ezf13⟩ : ∃ z : Nat → Int32, z = upd zf7 (1 : Int32).toNatClampNeg (vp_nar .byte x11) := ⟨_, rfl⟩
  have hP : va_P (dC, dI) vwCl [(r 0, .inr (8, [.ref (r 1), .ref (r 2), .int 0, .int 0, .int 0, .int (-1), .int 0, .int 0, .int 0, .int 0, .long 0, .ref (r 3), .ref (r 4), .ref (r 5), .ref (r 6), .ref (r 7), .ref (r 8), .ref (r 9), .ref (r 10), .ref (r 11), .ref (r 12), .ref (r 13), .ref (r 14), .ref (r 15), .ref (r 16), .ref (r 17), .ref (r 18), .ref (r 19), .ref (r 20), .ref (r 21), .ref (r 22), .ref (r 23), .ref (r 24), .int 0, .int 0, .int 0, .int 0, .int 0, .int 0, .int 0, .int 0, .int 0, .ref (r 25), .ref (r 26), .ref (r 27), .int 0, .int 0, .ref (r 28), .int 0, .ref (r 29), .ref (r 30), .ref (r 31), .ref (r 32), .ref (r 33), .ref (r 34), .ref (r 35), .ref (r 36), .int 0, .int 0, .int 0, .ref (r 37), .ref (r 38)])), (r 1, .inl ((c 1), 1620, .inl zf13))] H12 := by rw [ezf13]; exact hP
  have hD : va_D A [(r 0, .inr (8, [.ref (r 1), .ref (r 2), .int 0, .int 0, .int 0, .int (-1), .int 0, .int 0, .int 0, .int 0, .long 0, .ref (r 3), .ref (r 4), .ref (r 5), .ref (r 6), .ref (r 7), .ref (r 8), .ref (r 9), .ref (r 10), .ref (r 11), .ref (r 12), .ref (r 13), .ref (r 14), .ref (r 15), .ref (r 16), .ref (r 17), .ref (r 18), .ref (r 19), .ref (r 20), .ref (r 21), .ref (r 22), .ref (r 23), .ref (r 24), .int 0, .int 0, .int 0, .int 0, .int 0, .int 0, .int 0, .int 0, .int 0, .ref (r 25), .ref (r 26), .ref (r 27), .int 0, .int 0, .ref (r 28), .int 0, .ref (r 29), .ref (r 30), .ref (r 31), .ref (r 32), .ref (r 33), .ref (r 34), .ref (r 35), .ref (r 36), .int 0, .int 0, .int 0, .ref (r 37), .ref (r 38)])), (r 1, .inl ((c 1), 1620, .inl zf13))] := by rw [ezf13]; exact hD
  refine lv_iinc (v := 2) (lv' := [(6, .int 2), (7, .int p0), (0, .ref (r 0)), (1, .int p0), (2, .int p1), (3, .int p2), (4, .int p3), (5, .int p4)]) hx hb dX9_feed_99 hl (k := 1) rfl (by decide) (by decide) rfl (fun ls hl => ?_)
  refine lv_goto (tgt := 18) hx hb dX9_feed_102 (by decide) ?_
  refine lv_iload hx hb dX9_feed_18 (lv_at hl 0 rfl) ?_
  refine lv_bipush (v := 20) hx hb dX9_feed_20 (by decide) ?_
  refine lv_icmp_ge (tgt := 105) hx hb dX9_feed_22 (by decide) (fun c_14 => absurd c_14 (by decide)) (fun c_14 => ?_)
  refine lv_iload hx hb dX9_feed_25 (lv_at hl 0 rfl) ?_
  refine lv_iconst (v := 4) hx hb dX9_feed_27 (by decide) ?_
  refine lv_icmp_ge (tgt := 35) hx hb dX9_feed_28 (by decide) (fun c_15 => absurd c_15 (by decide)) (fun c_15 => ?_)
  refine lv_iload_n hx hb dX9_feed_31 rfl (lv_at hl 3 rfl) ?_
  refine lv_goto (tgt := 71) hx hb dX9_feed_32 (by decide) ?_
  refine lv_istore (lv' := [(7, .int p0), (6, .int 2), (0, .ref (r 0)), (1, .int p0), (2, .int p1), (3, .int p2), (4, .int p3), (5, .int p4)]) hx hb dX9_feed_71 hl (by decide) rfl (fun ls hl => ?_)
  refine lv_aload_n hx hb dX9_feed_73 rfl (lv_at hl 2 rfl) ?_
  refine va_get (D := (dC, dI)) (ci := 8) (v := .ref (r 1)) (C := RX9) (T := TX9) (N := 62) hx hb hG inX9 hown hK hP 0 rfl rfl 0 (by decide) (hG _ gw1171) (fun _ h9 => h9) rfl dX9_feed_74 ?_
  refine lv_aload_n hx hb dX9_feed_77 rfl (lv_at hl 2 rfl) ?_
  refine va_get (D := (dC, dI)) (ci := 8) (v := .int 0) (C := RX9) (T := TX9) (N := 62) hx hb hG inX9 hown hK hP 0 rfl rfl 2 (by decide) (hG _ gw1173) (fun _ h9 => h9) rfl dX9_feed_78 ?_
  refine lv_iload hx hb dX9_feed_81 (lv_at hl 1 rfl) ?_
  refine lv_iadd hx hb dX9_feed_83 ?_
  refine wt_c (v := 2) (by decide) ?_
  refine lv_iload hx hb dX9_feed_84 (lv_at hl 0 rfl) ?_
  refine lv_bipush (v := 24) hx hb dX9_feed_86 (by decide) ?_
  refine lv_bipush (v := 8) hx hb dX9_feed_88 (by decide) ?_
  refine lv_iload hx hb dX9_feed_90 (lv_at hl 1 rfl) ?_
  refine lv_iconst (v := 3) hx hb dX9_feed_92 (by decide) ?_
  refine lv_iand hx hb dX9_feed_93 ?_
  refine wt_c (v := 2) (by decide) ?_
  refine lv_imul hx hb dX9_feed_94 ?_
  refine wt_c (v := 16) (by decide) ?_
  refine lv_isub hx hb dX9_feed_95 ?_
  refine wt_c (v := 8) (by decide) ?_
  refine lv_ishr hx hb dX9_feed_96 ?_
  refine lv_topi (fun x16 ex16 => ?_)
  refine lv_i2b (v := _) hx hb dX9_feed_97 rfl ?_
  refine lv_topi (fun x17 ex17 => ?_)
  refine va_bast hx hb hK hP hD hS 1 0 rfl rfl (vin (by decide)) dX9_feed_98 (fun H18 locs hP hD hS => ?_)
  obtain ⟨zf19, ezf19⟩ : ∃ z : Nat → Int32, z = upd zf13 (2 : Int32).toNatClampNeg (vp_nar .byte x17) := ⟨_, rfl⟩
  have hP : va_P (dC, dI) vwCl [(r 0, .inr (8, [.ref (r 1), .ref (r 2), .int 0, .int 0, .int 0, .int (-1), .int 0, .int 0, .int 0, .int 0, .long 0, .ref (r 3), .ref (r 4), .ref (r 5), .ref (r 6), .ref (r 7), .ref (r 8), .ref (r 9), .ref (r 10), .ref (r 11), .ref (r 12), .ref (r 13), .ref (r 14), .ref (r 15), .ref (r 16), .ref (r 17), .ref (r 18), .ref (r 19), .ref (r 20), .ref (r 21), .ref (r 22), .ref (r 23), .ref (r 24), .int 0, .int 0, .int 0, .int 0, .int 0, .int 0, .int 0, .int 0, .int 0, .ref (r 25), .ref (r 26), .ref (r 27), .int 0, .int 0, .ref (r 28), .int 0, .ref (r 29), .ref (r 30), .ref (r 31), .ref (r 32), .ref (r 33), .ref (r 34), .ref (r 35), .ref (r 36), .int 0, .int 0, .int 0, .ref (r 37), .ref (r 38)])), (r 1, .inl ((c 1), 1620, .inl zf19))] H18 := by rw [ezf19]; exact hP
  have hD : va_D A [(r 0, .inr (8, [.ref (r 1), .ref (r 2), .int 0, .int 0, .int 0, .int (-1), .int 0, .int 0, .int 0, .int 0, .long 0, .ref (r 3), .ref (r 4), .ref (r 5), .ref (r 6), .ref (r 7), .ref (r 8), .ref (r 9), .ref (r 10), .ref (r 11), .ref (r 12), .ref (r 13), .ref (r 14), .ref (r 15), .ref (r 16), .ref (r 17), .ref (r 18), .ref (r 19), .ref (r 20), .ref (r 21), .ref (r 22), .ref (r 23), .ref (r 24), .int 0, .int 0, .int 0, .int 0, .int 0, .int 0, .int 0, .int 0, .int 0, .ref (r 25), .ref (r 26), .ref (r 27), .int 0, .int 0, .ref (r 28), .int 0, .ref (r 29), .ref (r 30), .ref (r 31), .ref (r 32), .ref (r 33), .ref (r 34), .ref (r 35), .ref (r 36), .int 0, .int 0, .int 0, .ref (r 37), .ref (r 38)])), (r 1, .inl ((c 1), 1620, .inl zf19))] := by rw [ezf19]; exact hD
  refine lv_iinc (v := 3) (lv' := [(6, .int 3), (7, .int p0), (0, .ref (r 0)), (1, .int p0), (2, .int p1), (3, .int p2), (4, .int p3), (5, .int p4)]) hx hb dX9_feed_99 hl (k := 1) rfl (by decide) (by decide) rfl (fun ls hl => ?_)
  refine lv_goto (tgt := 18) hx hb dX9_feed_102 (by decide) ?_
  refine lv_iload hx hb dX9_feed_18 (lv_at hl 0 rfl) ?_
  refine lv_bipush (v := 20) hx hb dX9_feed_20 (by decide) ?_
  refine lv_icmp_ge (tgt := 105) hx hb dX9_feed_22 (by decide) (fun c_20 => absurd c_20 (by decide)) (fun c_20 => ?_)
  refine lv_iload hx hb dX9_feed_25 (lv_at hl 0 rfl) ?_
  refine lv_iconst (v := 4) hx hb dX9_feed_27 (by decide) ?_
  refine lv_icmp_ge (tgt := 35) hx hb dX9_feed_28 (by decide) (fun c_21 => absurd c_21 (by decide)) (fun c_21 => ?_)
  refine lv_iload_n hx hb dX9_feed_31 rfl (lv_at hl 3 rfl) ?_
  refine lv_goto (tgt := 71) hx hb dX9_feed_32 (by decide) ?_
  refine lv_istore (lv' := [(7, .int p0), (6, .int 3), (0, .ref (r 0)), (1, .int p0), (2, .int p1), (3, .int p2), (4, .int p3), (5, .int p4)]) hx hb dX9_feed_71 hl (by decide) rfl (fun ls hl => ?_)
  refine lv_aload_n hx hb dX9_feed_73 rfl (lv_at hl 2 rfl) ?_
  refine va_get (D := (dC, dI)) (ci := 8) (v := .ref (r 1)) (C := RX9) (T := TX9) (N := 62) hx hb hG inX9 hown hK hP 0 rfl rfl 0 (by decide) (hG _ gw1171) (fun _ h9 => h9) rfl dX9_feed_74 ?_
  refine lv_aload_n hx hb dX9_feed_77 rfl (lv_at hl 2 rfl) ?_
  refine va_get (D := (dC, dI)) (ci := 8) (v := .int 0) (C := RX9) (T := TX9) (N := 62) hx hb hG inX9 hown hK hP 0 rfl rfl 2 (by decide) (hG _ gw1173) (fun _ h9 => h9) rfl dX9_feed_78 ?_
  refine lv_iload hx hb dX9_feed_81 (lv_at hl 1 rfl) ?_
  refine lv_iadd hx hb dX9_feed_83 ?_
  refine wt_c (v := 3) (by decide) ?_
  refine lv_iload hx hb dX9_feed_84 (lv_at hl 0 rfl) ?_
  refine lv_bipush (v := 24) hx hb dX9_feed_86 (by decide) ?_
  refine lv_bipush (v := 8) hx hb dX9_feed_88 (by decide) ?_
  refine lv_iload hx hb dX9_feed_90 (lv_at hl 1 rfl) ?_
  refine lv_iconst (v := 3) hx hb dX9_feed_92 (by decide) ?_
  refine lv_iand hx hb dX9_feed_93 ?_
  refine wt_c (v := 3) (by decide) ?_
  refine lv_imul hx hb dX9_feed_94 ?_
  refine wt_c (v := 24) (by decide) ?_
  refine lv_isub hx hb dX9_feed_95 ?_
  refine wt_c (v := 0) (by decide) ?_
  refine lv_ishr hx hb dX9_feed_96 ?_
  refine lv_topi (fun x22 ex22 => ?_)
  refine lv_i2b (v := _) hx hb dX9_feed_97 rfl ?_
  refine lv_topi (fun x23 ex23 => ?_)
  refine va_bast hx hb hK hP hD hS 1 0 rfl rfl (vin (by decide)) dX9_feed_98 (fun H24 locs hP hD hS => ?_)
  obtain ⟨zf25, ezf25⟩ : ∃ z : Nat → Int32, z = upd zf19 (3 : Int32).toNatClampNeg (vp_nar .byte x23) := ⟨_, rfl⟩
  have hP : va_P (dC, dI) vwCl [(r 0, .inr (8, [.ref (r 1), .ref (r 2), .int 0, .int 0, .int 0, .int (-1), .int 0, .int 0, .int 0, .int 0, .long 0, .ref (r 3), .ref (r 4), .ref (r 5), .ref (r 6), .ref (r 7), .ref (r 8), .ref (r 9), .ref (r 10), .ref (r 11), .ref (r 12), .ref (r 13), .ref (r 14), .ref (r 15), .ref (r 16), .ref (r 17), .ref (r 18), .ref (r 19), .ref (r 20), .ref (r 21), .ref (r 22), .ref (r 23), .ref (r 24), .int 0, .int 0, .int 0, .int 0, .int 0, .int 0, .int 0, .int 0, .int 0, .ref (r 25), .ref (r 26), .ref (r 27), .int 0, .int 0, .ref (r 28), .int 0, .ref (r 29), .ref (r 30), .ref (r 31), .ref (r 32), .ref (r 33), .ref (r 34), .ref (r 35), .ref (r 36), .int 0, .int 0, .int 0, .ref (r 37), .ref (r 38)])), (r 1, .inl ((c 1), 1620, .inl zf25))] H24 := by rw [ezf25]; exact hP
  have hD : va_D A [(r 0, .inr (8, [.ref (r 1), .ref (r 2), .int 0, .int 0, .int 0, .int (-1), .int 0, .int 0, .int 0, .int 0, .long 0, .ref (r 3), .ref (r 4), .ref (r 5), .ref (r 6), .ref (r 7), .ref (r 8), .ref (r 9), .ref (r 10), .ref (r 11), .ref (r 12), .ref (r 13), .ref (r 14), .ref (r 15), .ref (r 16), .ref (r 17), .ref (r 18), .ref (r 19), .ref (r 20), .ref (r 21), .ref (r 22), .ref (r 23), .ref (r 24), .int 0, .int 0, .int 0, .int 0, .int 0, .int 0, .int 0, .int 0, .int 0, .ref (r 25), .ref (r 26), .ref (r 27), .int 0, .int 0, .ref (r 28), .int 0, .ref (r 29), .ref (r 30), .ref (r 31), .ref (r 32), .ref (r 33), .ref (r 34), .ref (r 35), .ref (r 36), .int 0, .int 0, .int 0, .ref (r 37), .ref (r 38)])), (r 1, .inl ((c 1), 1620, .inl zf25))] := by rw [ezf25]; exact hD
  refine lv_iinc (v := 4) (lv' := [(6, .int 4), (7, .int p0), (0, .ref (r 0)), (1, .int p0), (2, .int p1), (3, .int p2), (4, .int p3), (5, .int p4)]) hx hb dX9_feed_99 hl (k := 1) rfl (by decide) (by decide) rfl (fun ls hl => ?_)
  refine lv_goto (tgt := 18) hx hb dX9_feed_102 (by decide) ?_
  refine lv_iload hx hb dX9_feed_18 (lv_at hl 0 rfl) ?_
  refine lv_bipush (v := 20) hx hb dX9_feed_20 (by decide) ?_
  refine lv_icmp_ge (tgt := 105) hx hb dX9_feed_22 (by decide) (fun c_26 => absurd c_26 (by decide)) (fun c_26 => ?_)
  refine lv_iload hx hb dX9_feed_25 (lv_at hl 0 rfl) ?_
  refine lv_iconst (v := 4) hx hb dX9_feed_27 (by decide) ?_
  refine lv_icmp_ge (tgt := 35) hx hb dX9_feed_28 (by decide) (fun c_27 => ?_) (fun c_27 => absurd (by decide) c_27)
  refine lv_iload hx hb dX9_feed_35 (lv_at hl 0 rfl) ?_
  refine lv_bipush (v := 8) hx hb dX9_feed_37 (by decide) ?_
  refine lv_icmp_ge (tgt := 46) hx hb dX9_feed_39 (by decide) (fun c_28 => absurd c_28 (by decide)) (fun c_28 => ?_)
  refine lv_iload_n hx hb dX9_feed_42 rfl (lv_at hl 4 rfl) ?_
  refine lv_goto (tgt := 71) hx hb dX9_feed_43 (by decide) ?_
  refine lv_istore (lv' := [(7, .int p1), (6, .int 4), (0, .ref (r 0)), (1, .int p0), (2, .int p1), (3, .int p2), (4, .int p3), (5, .int p4)]) hx hb dX9_feed_71 hl (by decide) rfl (fun ls hl => ?_)
  refine lv_aload_n hx hb dX9_feed_73 rfl (lv_at hl 2 rfl) ?_
  refine va_get (D := (dC, dI)) (ci := 8) (v := .ref (r 1)) (C := RX9) (T := TX9) (N := 62) hx hb hG inX9 hown hK hP 0 rfl rfl 0 (by decide) (hG _ gw1171) (fun _ h9 => h9) rfl dX9_feed_74 ?_
  refine lv_aload_n hx hb dX9_feed_77 rfl (lv_at hl 2 rfl) ?_
  refine va_get (D := (dC, dI)) (ci := 8) (v := .int 0) (C := RX9) (T := TX9) (N := 62) hx hb hG inX9 hown hK hP 0 rfl rfl 2 (by decide) (hG _ gw1173) (fun _ h9 => h9) rfl dX9_feed_78 ?_
  refine lv_iload hx hb dX9_feed_81 (lv_at hl 1 rfl) ?_
  refine lv_iadd hx hb dX9_feed_83 ?_
  refine wt_c (v := 4) (by decide) ?_
  refine lv_iload hx hb dX9_feed_84 (lv_at hl 0 rfl) ?_
  refine lv_bipush (v := 24) hx hb dX9_feed_86 (by decide) ?_
  refine lv_bipush (v := 8) hx hb dX9_feed_88 (by decide) ?_
  refine lv_iload hx hb dX9_feed_90 (lv_at hl 1 rfl) ?_
  refine lv_iconst (v := 3) hx hb dX9_feed_92 (by decide) ?_
  refine lv_iand hx hb dX9_feed_93 ?_
  refine wt_c (v := 0) (by decide) ?_
  refine lv_imul hx hb dX9_feed_94 ?_
  refine wt_c (v := 0) (by decide) ?_
  refine lv_isub hx hb dX9_feed_95 ?_
  refine wt_c (v := 24) (by decide) ?_
  refine lv_ishr hx hb dX9_feed_96 ?_
  refine lv_topi (fun x29 ex29 => ?_)
  refine lv_i2b (v := _) hx hb dX9_feed_97 rfl ?_
  refine lv_topi (fun x30 ex30 => ?_)
  refine va_bast hx hb hK hP hD hS 1 0 rfl rfl (vin (by decide)) dX9_feed_98 (fun H31 locs hP hD hS => ?_)
  obtain ⟨zf32, ezf32⟩ : ∃ z : Nat → Int32, z = upd zf25 (4 : Int32).toNatClampNeg (vp_nar .byte x30) := ⟨_, rfl⟩
  have hP : va_P (dC, dI) vwCl [(r 0, .inr (8, [.ref (r 1), .ref (r 2), .int 0, .int 0, .int 0, .int (-1), .int 0, .int 0, .int 0, .int 0, .long 0, .ref (r 3), .ref (r 4), .ref (r 5), .ref (r 6), .ref (r 7), .ref (r 8), .ref (r 9), .ref (r 10), .ref (r 11), .ref (r 12), .ref (r 13), .ref (r 14), .ref (r 15), .ref (r 16), .ref (r 17), .ref (r 18), .ref (r 19), .ref (r 20), .ref (r 21), .ref (r 22), .ref (r 23), .ref (r 24), .int 0, .int 0, .int 0, .int 0, .int 0, .int 0, .int 0, .int 0, .int 0, .ref (r 25), .ref (r 26), .ref (r 27), .int 0, .int 0, .ref (r 28), .int 0, .ref (r 29), .ref (r 30), .ref (r 31), .ref (r 32), .ref (r 33), .ref (r 34), .ref (r 35), .ref (r 36), .int 0, .int 0, .int 0, .ref (r 37), .ref (r 38)])), (r 1, .inl ((c 1), 1620, .inl zf32))] H31 := by rw [ezf32]; exact hP
  have hD : va_D A [(r 0, .inr (8, [.ref (r 1), .ref (r 2), .int 0, .int 0, .int 0, .int (-1), .int 0, .int 0, .int 0, .int 0, .long 0, .ref (r 3), .ref (r 4), .ref (r 5), .ref (r 6), .ref (r 7), .ref (r 8), .ref (r 9), .ref (r 10), .ref (r 11), .ref (r 12), .ref (r 13), .ref (r 14), .ref (r 15), .ref (r 16), .ref (r 17), .ref (r 18), .ref (r 19), .ref (r 20), .ref (r 21), .ref (r 22), .ref (r 23), .ref (r 24), .int 0, .int 0, .int 0, .int 0, .int 0, .int 0, .int 0, .int 0, .int 0, .ref (r 25), .ref (r 26), .ref (r 27), .int 0, .int 0, .ref (r 28), .int 0, .ref (r 29), .ref (r 30), .ref (r 31), .ref (r 32), .ref (r 33), .ref (r 34), .ref (r 35), .ref (r 36), .int 0, .int 0, .int 0, .ref (r 37), .ref (r 38)])), (r 1, .inl ((c 1), 1620, .inl zf32))] := by rw [ezf32]; exact hD
  refine lv_iinc (v := 5) (lv' := [(6, .int 5), (7, .int p1), (0, .ref (r 0)), (1, .int p0), (2, .int p1), (3, .int p2), (4, .int p3), (5, .int p4)]) hx hb dX9_feed_99 hl (k := 1) rfl (by decide) (by decide) rfl (fun ls hl => ?_)
  refine lv_goto (tgt := 18) hx hb dX9_feed_102 (by decide) ?_
  refine lv_iload hx hb dX9_feed_18 (lv_at hl 0 rfl) ?_
  refine lv_bipush (v := 20) hx hb dX9_feed_20 (by decide) ?_
  refine lv_icmp_ge (tgt := 105) hx hb dX9_feed_22 (by decide) (fun c_33 => absurd c_33 (by decide)) (fun c_33 => ?_)
  refine lv_iload hx hb dX9_feed_25 (lv_at hl 0 rfl) ?_
  refine lv_iconst (v := 4) hx hb dX9_feed_27 (by decide) ?_
  refine lv_icmp_ge (tgt := 35) hx hb dX9_feed_28 (by decide) (fun c_34 => ?_) (fun c_34 => absurd (by decide) c_34)
  refine lv_iload hx hb dX9_feed_35 (lv_at hl 0 rfl) ?_
  refine lv_bipush (v := 8) hx hb dX9_feed_37 (by decide) ?_
  refine lv_icmp_ge (tgt := 46) hx hb dX9_feed_39 (by decide) (fun c_35 => absurd c_35 (by decide)) (fun c_35 => ?_)
  refine lv_iload_n hx hb dX9_feed_42 rfl (lv_at hl 4 rfl) ?_
  refine lv_goto (tgt := 71) hx hb dX9_feed_43 (by decide) ?_
  refine lv_istore (lv' := [(7, .int p1), (6, .int 5), (0, .ref (r 0)), (1, .int p0), (2, .int p1), (3, .int p2), (4, .int p3), (5, .int p4)]) hx hb dX9_feed_71 hl (by decide) rfl (fun ls hl => ?_)
  refine lv_aload_n hx hb dX9_feed_73 rfl (lv_at hl 2 rfl) ?_
  refine va_get (D := (dC, dI)) (ci := 8) (v := .ref (r 1)) (C := RX9) (T := TX9) (N := 62) hx hb hG inX9 hown hK hP 0 rfl rfl 0 (by decide) (hG _ gw1171) (fun _ h9 => h9) rfl dX9_feed_74 ?_
  refine lv_aload_n hx hb dX9_feed_77 rfl (lv_at hl 2 rfl) ?_
  refine va_get (D := (dC, dI)) (ci := 8) (v := .int 0) (C := RX9) (T := TX9) (N := 62) hx hb hG inX9 hown hK hP 0 rfl rfl 2 (by decide) (hG _ gw1173) (fun _ h9 => h9) rfl dX9_feed_78 ?_
  refine lv_iload hx hb dX9_feed_81 (lv_at hl 1 rfl) ?_
  refine lv_iadd hx hb dX9_feed_83 ?_
  refine wt_c (v := 5) (by decide) ?_
  refine lv_iload hx hb dX9_feed_84 (lv_at hl 0 rfl) ?_
  refine lv_bipush (v := 24) hx hb dX9_feed_86 (by decide) ?_
  refine lv_bipush (v := 8) hx hb dX9_feed_88 (by decide) ?_
  refine lv_iload hx hb dX9_feed_90 (lv_at hl 1 rfl) ?_
  refine lv_iconst (v := 3) hx hb dX9_feed_92 (by decide) ?_
  refine lv_iand hx hb dX9_feed_93 ?_
  refine wt_c (v := 1) (by decide) ?_
  refine lv_imul hx hb dX9_feed_94 ?_
  refine wt_c (v := 8) (by decide) ?_
  refine lv_isub hx hb dX9_feed_95 ?_
  refine wt_c (v := 16) (by decide) ?_
  refine lv_ishr hx hb dX9_feed_96 ?_
  refine lv_topi (fun x36 ex36 => ?_)
  refine lv_i2b (v := _) hx hb dX9_feed_97 rfl ?_
  refine lv_topi (fun x37 ex37 => ?_)
  refine va_bast hx hb hK hP hD hS 1 0 rfl rfl (vin (by decide)) dX9_feed_98 (fun H38 locs hP hD hS => ?_)
  obtain ⟨zf39, ezf39⟩ : ∃ z : Nat → Int32, z = upd zf32 (5 : Int32).toNatClampNeg (vp_nar .byte x37) := ⟨_, rfl⟩
  have hP : va_P (dC, dI) vwCl [(r 0, .inr (8, [.ref (r 1), .ref (r 2), .int 0, .int 0, .int 0, .int (-1), .int 0, .int 0, .int 0, .int 0, .long 0, .ref (r 3), .ref (r 4), .ref (r 5), .ref (r 6), .ref (r 7), .ref (r 8), .ref (r 9), .ref (r 10), .ref (r 11), .ref (r 12), .ref (r 13), .ref (r 14), .ref (r 15), .ref (r 16), .ref (r 17), .ref (r 18), .ref (r 19), .ref (r 20), .ref (r 21), .ref (r 22), .ref (r 23), .ref (r 24), .int 0, .int 0, .int 0, .int 0, .int 0, .int 0, .int 0, .int 0, .int 0, .ref (r 25), .ref (r 26), .ref (r 27), .int 0, .int 0, .ref (r 28), .int 0, .ref (r 29), .ref (r 30), .ref (r 31), .ref (r 32), .ref (r 33), .ref (r 34), .ref (r 35), .ref (r 36), .int 0, .int 0, .int 0, .ref (r 37), .ref (r 38)])), (r 1, .inl ((c 1), 1620, .inl zf39))] H38 := by rw [ezf39]; exact hP
  have hD : va_D A [(r 0, .inr (8, [.ref (r 1), .ref (r 2), .int 0, .int 0, .int 0, .int (-1), .int 0, .int 0, .int 0, .int 0, .long 0, .ref (r 3), .ref (r 4), .ref (r 5), .ref (r 6), .ref (r 7), .ref (r 8), .ref (r 9), .ref (r 10), .ref (r 11), .ref (r 12), .ref (r 13), .ref (r 14), .ref (r 15), .ref (r 16), .ref (r 17), .ref (r 18), .ref (r 19), .ref (r 20), .ref (r 21), .ref (r 22), .ref (r 23), .ref (r 24), .int 0, .int 0, .int 0, .int 0, .int 0, .int 0, .int 0, .int 0, .int 0, .ref (r 25), .ref (r 26), .ref (r 27), .int 0, .int 0, .ref (r 28), .int 0, .ref (r 29), .ref (r 30), .ref (r 31), .ref (r 32), .ref (r 33), .ref (r 34), .ref (r 35), .ref (r 36), .int 0, .int 0, .int 0, .ref (r 37), .ref (r 38)])), (r 1, .inl ((c 1), 1620, .inl zf39))] := by rw [ezf39]; exact hD
  refine lv_iinc (v := 6) (lv' := [(6, .int 6), (7, .int p1), (0, .ref (r 0)), (1, .int p0), (2, .int p1), (3, .int p2), (4, .int p3), (5, .int p4)]) hx hb dX9_feed_99 hl (k := 1) rfl (by decide) (by decide) rfl (fun ls hl => ?_)
  refine lv_goto (tgt := 18) hx hb dX9_feed_102 (by decide) ?_
  refine lv_iload hx hb dX9_feed_18 (lv_at hl 0 rfl) ?_
  refine lv_bipush (v := 20) hx hb dX9_feed_20 (by decide) ?_
  refine lv_icmp_ge (tgt := 105) hx hb dX9_feed_22 (by decide) (fun c_40 => absurd c_40 (by decide)) (fun c_40 => ?_)
  refine lv_iload hx hb dX9_feed_25 (lv_at hl 0 rfl) ?_
  refine lv_iconst (v := 4) hx hb dX9_feed_27 (by decide) ?_
  refine lv_icmp_ge (tgt := 35) hx hb dX9_feed_28 (by decide) (fun c_41 => ?_) (fun c_41 => absurd (by decide) c_41)
  refine lv_iload hx hb dX9_feed_35 (lv_at hl 0 rfl) ?_
  refine lv_bipush (v := 8) hx hb dX9_feed_37 (by decide) ?_
  refine lv_icmp_ge (tgt := 46) hx hb dX9_feed_39 (by decide) (fun c_42 => absurd c_42 (by decide)) (fun c_42 => ?_)
  refine lv_iload_n hx hb dX9_feed_42 rfl (lv_at hl 4 rfl) ?_
  refine lv_goto (tgt := 71) hx hb dX9_feed_43 (by decide) ?_
  refine lv_istore (lv' := [(7, .int p1), (6, .int 6), (0, .ref (r 0)), (1, .int p0), (2, .int p1), (3, .int p2), (4, .int p3), (5, .int p4)]) hx hb dX9_feed_71 hl (by decide) rfl (fun ls hl => ?_)
  refine lv_aload_n hx hb dX9_feed_73 rfl (lv_at hl 2 rfl) ?_
  refine va_get (D := (dC, dI)) (ci := 8) (v := .ref (r 1)) (C := RX9) (T := TX9) (N := 62) hx hb hG inX9 hown hK hP 0 rfl rfl 0 (by decide) (hG _ gw1171) (fun _ h9 => h9) rfl dX9_feed_74 ?_
  refine lv_aload_n hx hb dX9_feed_77 rfl (lv_at hl 2 rfl) ?_
  refine va_get (D := (dC, dI)) (ci := 8) (v := .int 0) (C := RX9) (T := TX9) (N := 62) hx hb hG inX9 hown hK hP 0 rfl rfl 2 (by decide) (hG _ gw1173) (fun _ h9 => h9) rfl dX9_feed_78 ?_
  refine lv_iload hx hb dX9_feed_81 (lv_at hl 1 rfl) ?_
  refine lv_iadd hx hb dX9_feed_83 ?_
  refine wt_c (v := 6) (by decide) ?_
  refine lv_iload hx hb dX9_feed_84 (lv_at hl 0 rfl) ?_
  refine lv_bipush (v := 24) hx hb dX9_feed_86 (by decide) ?_
  refine lv_bipush (v := 8) hx hb dX9_feed_88 (by decide) ?_
  refine lv_iload hx hb dX9_feed_90 (lv_at hl 1 rfl) ?_
  refine lv_iconst (v := 3) hx hb dX9_feed_92 (by decide) ?_
  refine lv_iand hx hb dX9_feed_93 ?_
  refine wt_c (v := 2) (by decide) ?_
  refine lv_imul hx hb dX9_feed_94 ?_
  refine wt_c (v := 16) (by decide) ?_
  refine lv_isub hx hb dX9_feed_95 ?_
  refine wt_c (v := 8) (by decide) ?_
  refine lv_ishr hx hb dX9_feed_96 ?_
  refine lv_topi (fun x43 ex43 => ?_)
  refine lv_i2b (v := _) hx hb dX9_feed_97 rfl ?_
  refine lv_topi (fun x44 ex44 => ?_)
  refine va_bast hx hb hK hP hD hS 1 0 rfl rfl (vin (by decide)) dX9_feed_98 (fun H45 locs hP hD hS => ?_)
  obtain ⟨zf46, ezf46⟩ : ∃ z : Nat → Int32, z = upd zf39 (6 : Int32).toNatClampNeg (vp_nar .byte x44) := ⟨_, rfl⟩
  have hP : va_P (dC, dI) vwCl [(r 0, .inr (8, [.ref (r 1), .ref (r 2), .int 0, .int 0, .int 0, .int (-1), .int 0, .int 0, .int 0, .int 0, .long 0, .ref (r 3), .ref (r 4), .ref (r 5), .ref (r 6), .ref (r 7), .ref (r 8), .ref (r 9), .ref (r 10), .ref (r 11), .ref (r 12), .ref (r 13), .ref (r 14), .ref (r 15), .ref (r 16), .ref (r 17), .ref (r 18), .ref (r 19), .ref (r 20), .ref (r 21), .ref (r 22), .ref (r 23), .ref (r 24), .int 0, .int 0, .int 0, .int 0, .int 0, .int 0, .int 0, .int 0, .int 0, .ref (r 25), .ref (r 26), .ref (r 27), .int 0, .int 0, .ref (r 28), .int 0, .ref (r 29), .ref (r 30), .ref (r 31), .ref (r 32), .ref (r 33), .ref (r 34), .ref (r 35), .ref (r 36), .int 0, .int 0, .int 0, .ref (r 37), .ref (r 38)])), (r 1, .inl ((c 1), 1620, .inl zf46))] H45 := by rw [ezf46]; exact hP
  have hD : va_D A [(r 0, .inr (8, [.ref (r 1), .ref (r 2), .int 0, .int 0, .int 0, .int (-1), .int 0, .int 0, .int 0, .int 0, .long 0, .ref (r 3), .ref (r 4), .ref (r 5), .ref (r 6), .ref (r 7), .ref (r 8), .ref (r 9), .ref (r 10), .ref (r 11), .ref (r 12), .ref (r 13), .ref (r 14), .ref (r 15), .ref (r 16), .ref (r 17), .ref (r 18), .ref (r 19), .ref (r 20), .ref (r 21), .ref (r 22), .ref (r 23), .ref (r 24), .int 0, .int 0, .int 0, .int 0, .int 0, .int 0, .int 0, .int 0, .int 0, .ref (r 25), .ref (r 26), .ref (r 27), .int 0, .int 0, .ref (r 28), .int 0, .ref (r 29), .ref (r 30), .ref (r 31), .ref (r 32), .ref (r 33), .ref (r 34), .ref (r 35), .ref (r 36), .int 0, .int 0, .int 0, .ref (r 37), .ref (r 38)])), (r 1, .inl ((c 1), 1620, .inl zf46))] := by rw [ezf46]; exact hD
  refine lv_iinc (v := 7) (lv' := [(6, .int 7), (7, .int p1), (0, .ref (r 0)), (1, .int p0), (2, .int p1), (3, .int p2), (4, .int p3), (5, .int p4)]) hx hb dX9_feed_99 hl (k := 1) rfl (by decide) (by decide) rfl (fun ls hl => ?_)
  refine lv_goto (tgt := 18) hx hb dX9_feed_102 (by decide) ?_
  refine lv_iload hx hb dX9_feed_18 (lv_at hl 0 rfl) ?_
  refine lv_bipush (v := 20) hx hb dX9_feed_20 (by decide) ?_
  refine lv_icmp_ge (tgt := 105) hx hb dX9_feed_22 (by decide) (fun c_47 => absurd c_47 (by decide)) (fun c_47 => ?_)
  refine lv_iload hx hb dX9_feed_25 (lv_at hl 0 rfl) ?_
  refine lv_iconst (v := 4) hx hb dX9_feed_27 (by decide) ?_
  refine lv_icmp_ge (tgt := 35) hx hb dX9_feed_28 (by decide) (fun c_48 => ?_) (fun c_48 => absurd (by decide) c_48)
  refine lv_iload hx hb dX9_feed_35 (lv_at hl 0 rfl) ?_
  refine lv_bipush (v := 8) hx hb dX9_feed_37 (by decide) ?_
  refine lv_icmp_ge (tgt := 46) hx hb dX9_feed_39 (by decide) (fun c_49 => absurd c_49 (by decide)) (fun c_49 => ?_)
  refine lv_iload_n hx hb dX9_feed_42 rfl (lv_at hl 4 rfl) ?_
  refine lv_goto (tgt := 71) hx hb dX9_feed_43 (by decide) ?_
  refine lv_istore (lv' := [(7, .int p1), (6, .int 7), (0, .ref (r 0)), (1, .int p0), (2, .int p1), (3, .int p2), (4, .int p3), (5, .int p4)]) hx hb dX9_feed_71 hl (by decide) rfl (fun ls hl => ?_)
  refine lv_aload_n hx hb dX9_feed_73 rfl (lv_at hl 2 rfl) ?_
  refine va_get (D := (dC, dI)) (ci := 8) (v := .ref (r 1)) (C := RX9) (T := TX9) (N := 62) hx hb hG inX9 hown hK hP 0 rfl rfl 0 (by decide) (hG _ gw1171) (fun _ h9 => h9) rfl dX9_feed_74 ?_
  refine lv_aload_n hx hb dX9_feed_77 rfl (lv_at hl 2 rfl) ?_
  refine va_get (D := (dC, dI)) (ci := 8) (v := .int 0) (C := RX9) (T := TX9) (N := 62) hx hb hG inX9 hown hK hP 0 rfl rfl 2 (by decide) (hG _ gw1173) (fun _ h9 => h9) rfl dX9_feed_78 ?_
  refine lv_iload hx hb dX9_feed_81 (lv_at hl 1 rfl) ?_
  refine lv_iadd hx hb dX9_feed_83 ?_
  refine wt_c (v := 7) (by decide) ?_
  refine lv_iload hx hb dX9_feed_84 (lv_at hl 0 rfl) ?_
  refine lv_bipush (v := 24) hx hb dX9_feed_86 (by decide) ?_
  refine lv_bipush (v := 8) hx hb dX9_feed_88 (by decide) ?_
  refine lv_iload hx hb dX9_feed_90 (lv_at hl 1 rfl) ?_
  refine lv_iconst (v := 3) hx hb dX9_feed_92 (by decide) ?_
  refine lv_iand hx hb dX9_feed_93 ?_
  refine wt_c (v := 3) (by decide) ?_
  refine lv_imul hx hb dX9_feed_94 ?_
  refine wt_c (v := 24) (by decide) ?_
  refine lv_isub hx hb dX9_feed_95 ?_
  refine wt_c (v := 0) (by decide) ?_
  refine lv_ishr hx hb dX9_feed_96 ?_
  refine lv_topi (fun x50 ex50 => ?_)
  refine lv_i2b (v := _) hx hb dX9_feed_97 rfl ?_
  refine lv_topi (fun x51 ex51 => ?_)
  refine va_bast hx hb hK hP hD hS 1 0 rfl rfl (vin (by decide)) dX9_feed_98 (fun H52 locs hP hD hS => ?_)
  obtain ⟨zf53, ezf53⟩ : ∃ z : Nat → Int32, z = upd zf46 (7 : Int32).toNatClampNeg (vp_nar .byte x51) := ⟨_, rfl⟩
  have hP : va_P (dC, dI) vwCl [(r 0, .inr (8, [.ref (r 1), .ref (r 2), .int 0, .int 0, .int 0, .int (-1), .int 0, .int 0, .int 0, .int 0, .long 0, .ref (r 3), .ref (r 4), .ref (r 5), .ref (r 6), .ref (r 7), .ref (r 8), .ref (r 9), .ref (r 10), .ref (r 11), .ref (r 12), .ref (r 13), .ref (r 14), .ref (r 15), .ref (r 16), .ref (r 17), .ref (r 18), .ref (r 19), .ref (r 20), .ref (r 21), .ref (r 22), .ref (r 23), .ref (r 24), .int 0, .int 0, .int 0, .int 0, .int 0, .int 0, .int 0, .int 0, .int 0, .ref (r 25), .ref (r 26), .ref (r 27), .int 0, .int 0, .ref (r 28), .int 0, .ref (r 29), .ref (r 30), .ref (r 31), .ref (r 32), .ref (r 33), .ref (r 34), .ref (r 35), .ref (r 36), .int 0, .int 0, .int 0, .ref (r 37), .ref (r 38)])), (r 1, .inl ((c 1), 1620, .inl zf53))] H52 := by rw [ezf53]; exact hP
  have hD : va_D A [(r 0, .inr (8, [.ref (r 1), .ref (r 2), .int 0, .int 0, .int 0, .int (-1), .int 0, .int 0, .int 0, .int 0, .long 0, .ref (r 3), .ref (r 4), .ref (r 5), .ref (r 6), .ref (r 7), .ref (r 8), .ref (r 9), .ref (r 10), .ref (r 11), .ref (r 12), .ref (r 13), .ref (r 14), .ref (r 15), .ref (r 16), .ref (r 17), .ref (r 18), .ref (r 19), .ref (r 20), .ref (r 21), .ref (r 22), .ref (r 23), .ref (r 24), .int 0, .int 0, .int 0, .int 0, .int 0, .int 0, .int 0, .int 0, .int 0, .ref (r 25), .ref (r 26), .ref (r 27), .int 0, .int 0, .ref (r 28), .int 0, .ref (r 29), .ref (r 30), .ref (r 31), .ref (r 32), .ref (r 33), .ref (r 34), .ref (r 35), .ref (r 36), .int 0, .int 0, .int 0, .ref (r 37), .ref (r 38)])), (r 1, .inl ((c 1), 1620, .inl zf53))] := by rw [ezf53]; exact hD
  refine lv_iinc (v := 8) (lv' := [(6, .int 8), (7, .int p1), (0, .ref (r 0)), (1, .int p0), (2, .int p1), (3, .int p2), (4, .int p3), (5, .int p4)]) hx hb dX9_feed_99 hl (k := 1) rfl (by decide) (by decide) rfl (fun ls hl => ?_)
  refine lv_goto (tgt := 18) hx hb dX9_feed_102 (by decide) ?_
  refine lv_iload hx hb dX9_feed_18 (lv_at hl 0 rfl) ?_
  refine lv_bipush (v := 20) hx hb dX9_feed_20 (by decide) ?_
  refine lv_icmp_ge (tgt := 105) hx hb dX9_feed_22 (by decide) (fun c_54 => absurd c_54 (by decide)) (fun c_54 => ?_)
  refine lv_iload hx hb dX9_feed_25 (lv_at hl 0 rfl) ?_
  refine lv_iconst (v := 4) hx hb dX9_feed_27 (by decide) ?_
  refine lv_icmp_ge (tgt := 35) hx hb dX9_feed_28 (by decide) (fun c_55 => ?_) (fun c_55 => absurd (by decide) c_55)
  refine lv_iload hx hb dX9_feed_35 (lv_at hl 0 rfl) ?_
  refine lv_bipush (v := 8) hx hb dX9_feed_37 (by decide) ?_
  refine lv_icmp_ge (tgt := 46) hx hb dX9_feed_39 (by decide) (fun c_56 => ?_) (fun c_56 => absurd (by decide) c_56)
  refine lv_iload hx hb dX9_feed_46 (lv_at hl 0 rfl) ?_
  refine lv_bipush (v := 12) hx hb dX9_feed_48 (by decide) ?_
  refine lv_icmp_ge (tgt := 57) hx hb dX9_feed_50 (by decide) (fun c_57 => absurd c_57 (by decide)) (fun c_57 => ?_)
  refine lv_iload_n hx hb dX9_feed_53 rfl (lv_at hl 5 rfl) ?_
  refine lv_goto (tgt := 71) hx hb dX9_feed_54 (by decide) ?_
  refine lv_istore (lv' := [(7, .int p2), (6, .int 8), (0, .ref (r 0)), (1, .int p0), (2, .int p1), (3, .int p2), (4, .int p3), (5, .int p4)]) hx hb dX9_feed_71 hl (by decide) rfl (fun ls hl => ?_)
  refine lv_aload_n hx hb dX9_feed_73 rfl (lv_at hl 2 rfl) ?_
  refine va_get (D := (dC, dI)) (ci := 8) (v := .ref (r 1)) (C := RX9) (T := TX9) (N := 62) hx hb hG inX9 hown hK hP 0 rfl rfl 0 (by decide) (hG _ gw1171) (fun _ h9 => h9) rfl dX9_feed_74 ?_
  refine lv_aload_n hx hb dX9_feed_77 rfl (lv_at hl 2 rfl) ?_
  refine va_get (D := (dC, dI)) (ci := 8) (v := .int 0) (C := RX9) (T := TX9) (N := 62) hx hb hG inX9 hown hK hP 0 rfl rfl 2 (by decide) (hG _ gw1173) (fun _ h9 => h9) rfl dX9_feed_78 ?_
  refine lv_iload hx hb dX9_feed_81 (lv_at hl 1 rfl) ?_
  refine lv_iadd hx hb dX9_feed_83 ?_
  refine wt_c (v := 8) (by decide) ?_
  refine lv_iload hx hb dX9_feed_84 (lv_at hl 0 rfl) ?_
  refine lv_bipush (v := 24) hx hb dX9_feed_86 (by decide) ?_
  refine lv_bipush (v := 8) hx hb dX9_feed_88 (by decide) ?_
  refine lv_iload hx hb dX9_feed_90 (lv_at hl 1 rfl) ?_
  refine lv_iconst (v := 3) hx hb dX9_feed_92 (by decide) ?_
  refine lv_iand hx hb dX9_feed_93 ?_
  refine wt_c (v := 0) (by decide) ?_
  refine lv_imul hx hb dX9_feed_94 ?_
  refine wt_c (v := 0) (by decide) ?_
  refine lv_isub hx hb dX9_feed_95 ?_
  refine wt_c (v := 24) (by decide) ?_
  refine lv_ishr hx hb dX9_feed_96 ?_
  refine lv_topi (fun x58 ex58 => ?_)
  refine lv_i2b (v := _) hx hb dX9_feed_97 rfl ?_
  refine lv_topi (fun x59 ex59 => ?_)
  refine va_bast hx hb hK hP hD hS 1 0 rfl rfl (vin (by decide)) dX9_feed_98 (fun H60 locs hP hD hS => ?_)
  obtain ⟨zf61, ezf61⟩ : ∃ z : Nat → Int32, z = upd zf53 (8 : Int32).toNatClampNeg (vp_nar .byte x59) := ⟨_, rfl⟩
  have hP : va_P (dC, dI) vwCl [(r 0, .inr (8, [.ref (r 1), .ref (r 2), .int 0, .int 0, .int 0, .int (-1), .int 0, .int 0, .int 0, .int 0, .long 0, .ref (r 3), .ref (r 4), .ref (r 5), .ref (r 6), .ref (r 7), .ref (r 8), .ref (r 9), .ref (r 10), .ref (r 11), .ref (r 12), .ref (r 13), .ref (r 14), .ref (r 15), .ref (r 16), .ref (r 17), .ref (r 18), .ref (r 19), .ref (r 20), .ref (r 21), .ref (r 22), .ref (r 23), .ref (r 24), .int 0, .int 0, .int 0, .int 0, .int 0, .int 0, .int 0, .int 0, .int 0, .ref (r 25), .ref (r 26), .ref (r 27), .int 0, .int 0, .ref (r 28), .int 0, .ref (r 29), .ref (r 30), .ref (r 31), .ref (r 32), .ref (r 33), .ref (r 34), .ref (r 35), .ref (r 36), .int 0, .int 0, .int 0, .ref (r 37), .ref (r 38)])), (r 1, .inl ((c 1), 1620, .inl zf61))] H60 := by rw [ezf61]; exact hP
  have hD : va_D A [(r 0, .inr (8, [.ref (r 1), .ref (r 2), .int 0, .int 0, .int 0, .int (-1), .int 0, .int 0, .int 0, .int 0, .long 0, .ref (r 3), .ref (r 4), .ref (r 5), .ref (r 6), .ref (r 7), .ref (r 8), .ref (r 9), .ref (r 10), .ref (r 11), .ref (r 12), .ref (r 13), .ref (r 14), .ref (r 15), .ref (r 16), .ref (r 17), .ref (r 18), .ref (r 19), .ref (r 20), .ref (r 21), .ref (r 22), .ref (r 23), .ref (r 24), .int 0, .int 0, .int 0, .int 0, .int 0, .int 0, .int 0, .int 0, .int 0, .ref (r 25), .ref (r 26), .ref (r 27), .int 0, .int 0, .ref (r 28), .int 0, .ref (r 29), .ref (r 30), .ref (r 31), .ref (r 32), .ref (r 33), .ref (r 34), .ref (r 35), .ref (r 36), .int 0, .int 0, .int 0, .ref (r 37), .ref (r 38)])), (r 1, .inl ((c 1), 1620, .inl zf61))] := by rw [ezf61]; exact hD
  refine lv_iinc (v := 9) (lv' := [(6, .int 9), (7, .int p2), (0, .ref (r 0)), (1, .int p0), (2, .int p1), (3, .int p2), (4, .int p3), (5, .int p4)]) hx hb dX9_feed_99 hl (k := 1) rfl (by decide) (by decide) rfl (fun ls hl => ?_)
  refine lv_goto (tgt := 18) hx hb dX9_feed_102 (by decide) ?_
  refine lv_iload hx hb dX9_feed_18 (lv_at hl 0 rfl) ?_
  refine lv_bipush (v := 20) hx hb dX9_feed_20 (by decide) ?_
  refine lv_icmp_ge (tgt := 105) hx hb dX9_feed_22 (by decide) (fun c_62 => absurd c_62 (by decide)) (fun c_62 => ?_)
  refine lv_iload hx hb dX9_feed_25 (lv_at hl 0 rfl) ?_
  refine lv_iconst (v := 4) hx hb dX9_feed_27 (by decide) ?_
  refine lv_icmp_ge (tgt := 35) hx hb dX9_feed_28 (by decide) (fun c_63 => ?_) (fun c_63 => absurd (by decide) c_63)
  refine lv_iload hx hb dX9_feed_35 (lv_at hl 0 rfl) ?_
  refine lv_bipush (v := 8) hx hb dX9_feed_37 (by decide) ?_
  refine lv_icmp_ge (tgt := 46) hx hb dX9_feed_39 (by decide) (fun c_64 => ?_) (fun c_64 => absurd (by decide) c_64)
  refine lv_iload hx hb dX9_feed_46 (lv_at hl 0 rfl) ?_
  refine lv_bipush (v := 12) hx hb dX9_feed_48 (by decide) ?_
  refine lv_icmp_ge (tgt := 57) hx hb dX9_feed_50 (by decide) (fun c_65 => absurd c_65 (by decide)) (fun c_65 => ?_)
  refine lv_iload_n hx hb dX9_feed_53 rfl (lv_at hl 5 rfl) ?_
  refine lv_goto (tgt := 71) hx hb dX9_feed_54 (by decide) ?_
  refine lv_istore (lv' := [(7, .int p2), (6, .int 9), (0, .ref (r 0)), (1, .int p0), (2, .int p1), (3, .int p2), (4, .int p3), (5, .int p4)]) hx hb dX9_feed_71 hl (by decide) rfl (fun ls hl => ?_)
  refine lv_aload_n hx hb dX9_feed_73 rfl (lv_at hl 2 rfl) ?_
  refine va_get (D := (dC, dI)) (ci := 8) (v := .ref (r 1)) (C := RX9) (T := TX9) (N := 62) hx hb hG inX9 hown hK hP 0 rfl rfl 0 (by decide) (hG _ gw1171) (fun _ h9 => h9) rfl dX9_feed_74 ?_
  refine lv_aload_n hx hb dX9_feed_77 rfl (lv_at hl 2 rfl) ?_
  refine va_get (D := (dC, dI)) (ci := 8) (v := .int 0) (C := RX9) (T := TX9) (N := 62) hx hb hG inX9 hown hK hP 0 rfl rfl 2 (by decide) (hG _ gw1173) (fun _ h9 => h9) rfl dX9_feed_78 ?_
  refine lv_iload hx hb dX9_feed_81 (lv_at hl 1 rfl) ?_
  refine lv_iadd hx hb dX9_feed_83 ?_
  refine wt_c (v := 9) (by decide) ?_
  refine lv_iload hx hb dX9_feed_84 (lv_at hl 0 rfl) ?_
  refine lv_bipush (v := 24) hx hb dX9_feed_86 (by decide) ?_
  refine lv_bipush (v := 8) hx hb dX9_feed_88 (by decide) ?_
  refine lv_iload hx hb dX9_feed_90 (lv_at hl 1 rfl) ?_
  refine lv_iconst (v := 3) hx hb dX9_feed_92 (by decide) ?_
  refine lv_iand hx hb dX9_feed_93 ?_
  refine wt_c (v := 1) (by decide) ?_
  refine lv_imul hx hb dX9_feed_94 ?_
  refine wt_c (v := 8) (by decide) ?_
  refine lv_isub hx hb dX9_feed_95 ?_
  refine wt_c (v := 16) (by decide) ?_
  refine lv_ishr hx hb dX9_feed_96 ?_
  refine lv_topi (fun x66 ex66 => ?_)
  refine lv_i2b (v := _) hx hb dX9_feed_97 rfl ?_
  refine lv_topi (fun x67 ex67 => ?_)
  refine va_bast hx hb hK hP hD hS 1 0 rfl rfl (vin (by decide)) dX9_feed_98 (fun H68 locs hP hD hS => ?_)
  obtain ⟨zf69, ezf69⟩ : ∃ z : Nat → Int32, z = upd zf61 (9 : Int32).toNatClampNeg (vp_nar .byte x67) := ⟨_, rfl⟩
  have hP : va_P (dC, dI) vwCl [(r 0, .inr (8, [.ref (r 1), .ref (r 2), .int 0, .int 0, .int 0, .int (-1), .int 0, .int 0, .int 0, .int 0, .long 0, .ref (r 3), .ref (r 4), .ref (r 5), .ref (r 6), .ref (r 7), .ref (r 8), .ref (r 9), .ref (r 10), .ref (r 11), .ref (r 12), .ref (r 13), .ref (r 14), .ref (r 15), .ref (r 16), .ref (r 17), .ref (r 18), .ref (r 19), .ref (r 20), .ref (r 21), .ref (r 22), .ref (r 23), .ref (r 24), .int 0, .int 0, .int 0, .int 0, .int 0, .int 0, .int 0, .int 0, .int 0, .ref (r 25), .ref (r 26), .ref (r 27), .int 0, .int 0, .ref (r 28), .int 0, .ref (r 29), .ref (r 30), .ref (r 31), .ref (r 32), .ref (r 33), .ref (r 34), .ref (r 35), .ref (r 36), .int 0, .int 0, .int 0, .ref (r 37), .ref (r 38)])), (r 1, .inl ((c 1), 1620, .inl zf69))] H68 := by rw [ezf69]; exact hP
  have hD : va_D A [(r 0, .inr (8, [.ref (r 1), .ref (r 2), .int 0, .int 0, .int 0, .int (-1), .int 0, .int 0, .int 0, .int 0, .long 0, .ref (r 3), .ref (r 4), .ref (r 5), .ref (r 6), .ref (r 7), .ref (r 8), .ref (r 9), .ref (r 10), .ref (r 11), .ref (r 12), .ref (r 13), .ref (r 14), .ref (r 15), .ref (r 16), .ref (r 17), .ref (r 18), .ref (r 19), .ref (r 20), .ref (r 21), .ref (r 22), .ref (r 23), .ref (r 24), .int 0, .int 0, .int 0, .int 0, .int 0, .int 0, .int 0, .int 0, .int 0, .ref (r 25), .ref (r 26), .ref (r 27), .int 0, .int 0, .ref (r 28), .int 0, .ref (r 29), .ref (r 30), .ref (r 31), .ref (r 32), .ref (r 33), .ref (r 34), .ref (r 35), .ref (r 36), .int 0, .int 0, .int 0, .ref (r 37), .ref (r 38)])), (r 1, .inl ((c 1), 1620, .inl zf69))] := by rw [ezf69]; exact hD
  refine lv_iinc (v := 10) (lv' := [(6, .int 10), (7, .int p2), (0, .ref (r 0)), (1, .int p0), (2, .int p1), (3, .int p2), (4, .int p3), (5, .int p4)]) hx hb dX9_feed_99 hl (k := 1) rfl (by decide) (by decide) rfl (fun ls hl => ?_)
  refine lv_goto (tgt := 18) hx hb dX9_feed_102 (by decide) ?_
  refine lv_iload hx hb dX9_feed_18 (lv_at hl 0 rfl) ?_
  refine lv_bipush (v := 20) hx hb dX9_feed_20 (by decide) ?_
  refine lv_icmp_ge (tgt := 105) hx hb dX9_feed_22 (by decide) (fun c_70 => absurd c_70 (by decide)) (fun c_70 => ?_)
  refine lv_iload hx hb dX9_feed_25 (lv_at hl 0 rfl) ?_
  refine lv_iconst (v := 4) hx hb dX9_feed_27 (by decide) ?_
  refine lv_icmp_ge (tgt := 35) hx hb dX9_feed_28 (by decide) (fun c_71 => ?_) (fun c_71 => absurd (by decide) c_71)
  refine lv_iload hx hb dX9_feed_35 (lv_at hl 0 rfl) ?_
  refine lv_bipush (v := 8) hx hb dX9_feed_37 (by decide) ?_
  refine lv_icmp_ge (tgt := 46) hx hb dX9_feed_39 (by decide) (fun c_72 => ?_) (fun c_72 => absurd (by decide) c_72)
  refine lv_iload hx hb dX9_feed_46 (lv_at hl 0 rfl) ?_
  refine lv_bipush (v := 12) hx hb dX9_feed_48 (by decide) ?_
  refine lv_icmp_ge (tgt := 57) hx hb dX9_feed_50 (by decide) (fun c_73 => absurd c_73 (by decide)) (fun c_73 => ?_)
  refine lv_iload_n hx hb dX9_feed_53 rfl (lv_at hl 5 rfl) ?_
  refine lv_goto (tgt := 71) hx hb dX9_feed_54 (by decide) ?_
  refine lv_istore (lv' := [(7, .int p2), (6, .int 10), (0, .ref (r 0)), (1, .int p0), (2, .int p1), (3, .int p2), (4, .int p3), (5, .int p4)]) hx hb dX9_feed_71 hl (by decide) rfl (fun ls hl => ?_)
  refine lv_aload_n hx hb dX9_feed_73 rfl (lv_at hl 2 rfl) ?_
  refine va_get (D := (dC, dI)) (ci := 8) (v := .ref (r 1)) (C := RX9) (T := TX9) (N := 62) hx hb hG inX9 hown hK hP 0 rfl rfl 0 (by decide) (hG _ gw1171) (fun _ h9 => h9) rfl dX9_feed_74 ?_
  refine lv_aload_n hx hb dX9_feed_77 rfl (lv_at hl 2 rfl) ?_
  refine va_get (D := (dC, dI)) (ci := 8) (v := .int 0) (C := RX9) (T := TX9) (N := 62) hx hb hG inX9 hown hK hP 0 rfl rfl 2 (by decide) (hG _ gw1173) (fun _ h9 => h9) rfl dX9_feed_78 ?_
  refine lv_iload hx hb dX9_feed_81 (lv_at hl 1 rfl) ?_
  refine lv_iadd hx hb dX9_feed_83 ?_
  refine wt_c (v := 10) (by decide) ?_
  refine lv_iload hx hb dX9_feed_84 (lv_at hl 0 rfl) ?_
  refine lv_bipush (v := 24) hx hb dX9_feed_86 (by decide) ?_
  refine lv_bipush (v := 8) hx hb dX9_feed_88 (by decide) ?_
  refine lv_iload hx hb dX9_feed_90 (lv_at hl 1 rfl) ?_
  refine lv_iconst (v := 3) hx hb dX9_feed_92 (by decide) ?_
  refine lv_iand hx hb dX9_feed_93 ?_
  refine wt_c (v := 2) (by decide) ?_
  refine lv_imul hx hb dX9_feed_94 ?_
  refine wt_c (v := 16) (by decide) ?_
  refine lv_isub hx hb dX9_feed_95 ?_
  refine wt_c (v := 8) (by decide) ?_
  refine lv_ishr hx hb dX9_feed_96 ?_
  refine lv_topi (fun x74 ex74 => ?_)
  refine lv_i2b (v := _) hx hb dX9_feed_97 rfl ?_
  refine lv_topi (fun x75 ex75 => ?_)
  refine va_bast hx hb hK hP hD hS 1 0 rfl rfl (vin (by decide)) dX9_feed_98 (fun H76 locs hP hD hS => ?_)
  obtain ⟨zf77, ezf77⟩ : ∃ z : Nat → Int32, z = upd zf69 (10 : Int32).toNatClampNeg (vp_nar .byte x75) := ⟨_, rfl⟩
  have hP : va_P (dC, dI) vwCl [(r 0, .inr (8, [.ref (r 1), .ref (r 2), .int 0, .int 0, .int 0, .int (-1), .int 0, .int 0, .int 0, .int 0, .long 0, .ref (r 3), .ref (r 4), .ref (r 5), .ref (r 6), .ref (r 7), .ref (r 8), .ref (r 9), .ref (r 10), .ref (r 11), .ref (r 12), .ref (r 13), .ref (r 14), .ref (r 15), .ref (r 16), .ref (r 17), .ref (r 18), .ref (r 19), .ref (r 20), .ref (r 21), .ref (r 22), .ref (r 23), .ref (r 24), .int 0, .int 0, .int 0, .int 0, .int 0, .int 0, .int 0, .int 0, .int 0, .ref (r 25), .ref (r 26), .ref (r 27), .int 0, .int 0, .ref (r 28), .int 0, .ref (r 29), .ref (r 30), .ref (r 31), .ref (r 32), .ref (r 33), .ref (r 34), .ref (r 35), .ref (r 36), .int 0, .int 0, .int 0, .ref (r 37), .ref (r 38)])), (r 1, .inl ((c 1), 1620, .inl zf77))] H76 := by rw [ezf77]; exact hP
  have hD : va_D A [(r 0, .inr (8, [.ref (r 1), .ref (r 2), .int 0, .int 0, .int 0, .int (-1), .int 0, .int 0, .int 0, .int 0, .long 0, .ref (r 3), .ref (r 4), .ref (r 5), .ref (r 6), .ref (r 7), .ref (r 8), .ref (r 9), .ref (r 10), .ref (r 11), .ref (r 12), .ref (r 13), .ref (r 14), .ref (r 15), .ref (r 16), .ref (r 17), .ref (r 18), .ref (r 19), .ref (r 20), .ref (r 21), .ref (r 22), .ref (r 23), .ref (r 24), .int 0, .int 0, .int 0, .int 0, .int 0, .int 0, .int 0, .int 0, .int 0, .ref (r 25), .ref (r 26), .ref (r 27), .int 0, .int 0, .ref (r 28), .int 0, .ref (r 29), .ref (r 30), .ref (r 31), .ref (r 32), .ref (r 33), .ref (r 34), .ref (r 35), .ref (r 36), .int 0, .int 0, .int 0, .ref (r 37), .ref (r 38)])), (r 1, .inl ((c 1), 1620, .inl zf77))] := by rw [ezf77]; exact hD
  refine lv_iinc (v := 11) (lv' := [(6, .int 11), (7, .int p2), (0, .ref (r 0)), (1, .int p0), (2, .int p1), (3, .int p2), (4, .int p3), (5, .int p4)]) hx hb dX9_feed_99 hl (k := 1) rfl (by decide) (by decide) rfl (fun ls hl => ?_)
  refine lv_goto (tgt := 18) hx hb dX9_feed_102 (by decide) ?_
  refine lv_iload hx hb dX9_feed_18 (lv_at hl 0 rfl) ?_
  refine lv_bipush (v := 20) hx hb dX9_feed_20 (by decide) ?_
  refine lv_icmp_ge (tgt := 105) hx hb dX9_feed_22 (by decide) (fun c_78 => absurd c_78 (by decide)) (fun c_78 => ?_)
  refine lv_iload hx hb dX9_feed_25 (lv_at hl 0 rfl) ?_
  refine lv_iconst (v := 4) hx hb dX9_feed_27 (by decide) ?_
  refine lv_icmp_ge (tgt := 35) hx hb dX9_feed_28 (by decide) (fun c_79 => ?_) (fun c_79 => absurd (by decide) c_79)
  refine lv_iload hx hb dX9_feed_35 (lv_at hl 0 rfl) ?_
  refine lv_bipush (v := 8) hx hb dX9_feed_37 (by decide) ?_
  refine lv_icmp_ge (tgt := 46) hx hb dX9_feed_39 (by decide) (fun c_80 => ?_) (fun c_80 => absurd (by decide) c_80)
  refine lv_iload hx hb dX9_feed_46 (lv_at hl 0 rfl) ?_
  refine lv_bipush (v := 12) hx hb dX9_feed_48 (by decide) ?_
  refine lv_icmp_ge (tgt := 57) hx hb dX9_feed_50 (by decide) (fun c_81 => absurd c_81 (by decide)) (fun c_81 => ?_)
  refine lv_iload_n hx hb dX9_feed_53 rfl (lv_at hl 5 rfl) ?_
  refine lv_goto (tgt := 71) hx hb dX9_feed_54 (by decide) ?_
  refine lv_istore (lv' := [(7, .int p2), (6, .int 11), (0, .ref (r 0)), (1, .int p0), (2, .int p1), (3, .int p2), (4, .int p3), (5, .int p4)]) hx hb dX9_feed_71 hl (by decide) rfl (fun ls hl => ?_)
  refine lv_aload_n hx hb dX9_feed_73 rfl (lv_at hl 2 rfl) ?_
  refine va_get (D := (dC, dI)) (ci := 8) (v := .ref (r 1)) (C := RX9) (T := TX9) (N := 62) hx hb hG inX9 hown hK hP 0 rfl rfl 0 (by decide) (hG _ gw1171) (fun _ h9 => h9) rfl dX9_feed_74 ?_
  refine lv_aload_n hx hb dX9_feed_77 rfl (lv_at hl 2 rfl) ?_
  refine va_get (D := (dC, dI)) (ci := 8) (v := .int 0) (C := RX9) (T := TX9) (N := 62) hx hb hG inX9 hown hK hP 0 rfl rfl 2 (by decide) (hG _ gw1173) (fun _ h9 => h9) rfl dX9_feed_78 ?_
  refine lv_iload hx hb dX9_feed_81 (lv_at hl 1 rfl) ?_
  refine lv_iadd hx hb dX9_feed_83 ?_
  refine wt_c (v := 11) (by decide) ?_
  refine lv_iload hx hb dX9_feed_84 (lv_at hl 0 rfl) ?_
  refine lv_bipush (v := 24) hx hb dX9_feed_86 (by decide) ?_
  refine lv_bipush (v := 8) hx hb dX9_feed_88 (by decide) ?_
  refine lv_iload hx hb dX9_feed_90 (lv_at hl 1 rfl) ?_
  refine lv_iconst (v := 3) hx hb dX9_feed_92 (by decide) ?_
  refine lv_iand hx hb dX9_feed_93 ?_
  refine wt_c (v := 3) (by decide) ?_
  refine lv_imul hx hb dX9_feed_94 ?_
  refine wt_c (v := 24) (by decide) ?_
  refine lv_isub hx hb dX9_feed_95 ?_
  refine wt_c (v := 0) (by decide) ?_
  refine lv_ishr hx hb dX9_feed_96 ?_
  refine lv_topi (fun x82 ex82 => ?_)
  refine lv_i2b (v := _) hx hb dX9_feed_97 rfl ?_
  refine lv_topi (fun x83 ex83 => ?_)
  refine va_bast hx hb hK hP hD hS 1 0 rfl rfl (vin (by decide)) dX9_feed_98 (fun H84 locs hP hD hS => ?_)
  obtain ⟨zf85, ezf85⟩ : ∃ z : Nat → Int32, z = upd zf77 (11 : Int32).toNatClampNeg (vp_nar .byte x83) := ⟨_, rfl⟩
  have hP : va_P (dC, dI) vwCl [(r 0, .inr (8, [.ref (r 1), .ref (r 2), .int 0, .int 0, .int 0, .int (-1), .int 0, .int 0, .int 0, .int 0, .long 0, .ref (r 3), .ref (r 4), .ref (r 5), .ref (r 6), .ref (r 7), .ref (r 8), .ref (r 9), .ref (r 10), .ref (r 11), .ref (r 12), .ref (r 13), .ref (r 14), .ref (r 15), .ref (r 16), .ref (r 17), .ref (r 18), .ref (r 19), .ref (r 20), .ref (r 21), .ref (r 22), .ref (r 23), .ref (r 24), .int 0, .int 0, .int 0, .int 0, .int 0, .int 0, .int 0, .int 0, .int 0, .ref (r 25), .ref (r 26), .ref (r 27), .int 0, .int 0, .ref (r 28), .int 0, .ref (r 29), .ref (r 30), .ref (r 31), .ref (r 32), .ref (r 33), .ref (r 34), .ref (r 35), .ref (r 36), .int 0, .int 0, .int 0, .ref (r 37), .ref (r 38)])), (r 1, .inl ((c 1), 1620, .inl zf85))] H84 := by rw [ezf85]; exact hP
  have hD : va_D A [(r 0, .inr (8, [.ref (r 1), .ref (r 2), .int 0, .int 0, .int 0, .int (-1), .int 0, .int 0, .int 0, .int 0, .long 0, .ref (r 3), .ref (r 4), .ref (r 5), .ref (r 6), .ref (r 7), .ref (r 8), .ref (r 9), .ref (r 10), .ref (r 11), .ref (r 12), .ref (r 13), .ref (r 14), .ref (r 15), .ref (r 16), .ref (r 17), .ref (r 18), .ref (r 19), .ref (r 20), .ref (r 21), .ref (r 22), .ref (r 23), .ref (r 24), .int 0, .int 0, .int 0, .int 0, .int 0, .int 0, .int 0, .int 0, .int 0, .ref (r 25), .ref (r 26), .ref (r 27), .int 0, .int 0, .ref (r 28), .int 0, .ref (r 29), .ref (r 30), .ref (r 31), .ref (r 32), .ref (r 33), .ref (r 34), .ref (r 35), .ref (r 36), .int 0, .int 0, .int 0, .ref (r 37), .ref (r 38)])), (r 1, .inl ((c 1), 1620, .inl zf85))] := by rw [ezf85]; exact hD
  refine lv_iinc (v := 12) (lv' := [(6, .int 12), (7, .int p2), (0, .ref (r 0)), (1, .int p0), (2, .int p1), (3, .int p2), (4, .int p3), (5, .int p4)]) hx hb dX9_feed_99 hl (k := 1) rfl (by decide) (by decide) rfl (fun ls hl => ?_)
  refine lv_goto (tgt := 18) hx hb dX9_feed_102 (by decide) ?_
  refine lv_iload hx hb dX9_feed_18 (lv_at hl 0 rfl) ?_
  refine lv_bipush (v := 20) hx hb dX9_feed_20 (by decide) ?_
  refine lv_icmp_ge (tgt := 105) hx hb dX9_feed_22 (by decide) (fun c_86 => absurd c_86 (by decide)) (fun c_86 => ?_)
  refine lv_iload hx hb dX9_feed_25 (lv_at hl 0 rfl) ?_
  refine lv_iconst (v := 4) hx hb dX9_feed_27 (by decide) ?_
  refine lv_icmp_ge (tgt := 35) hx hb dX9_feed_28 (by decide) (fun c_87 => ?_) (fun c_87 => absurd (by decide) c_87)
  refine lv_iload hx hb dX9_feed_35 (lv_at hl 0 rfl) ?_
  refine lv_bipush (v := 8) hx hb dX9_feed_37 (by decide) ?_
  refine lv_icmp_ge (tgt := 46) hx hb dX9_feed_39 (by decide) (fun c_88 => ?_) (fun c_88 => absurd (by decide) c_88)
  refine lv_iload hx hb dX9_feed_46 (lv_at hl 0 rfl) ?_
  refine lv_bipush (v := 12) hx hb dX9_feed_48 (by decide) ?_
  refine lv_icmp_ge (tgt := 57) hx hb dX9_feed_50 (by decide) (fun c_89 => ?_) (fun c_89 => absurd (by decide) c_89)
  refine lv_iload hx hb dX9_feed_57 (lv_at hl 0 rfl) ?_
  refine lv_bipush (v := 16) hx hb dX9_feed_59 (by decide) ?_
  refine lv_icmp_ge (tgt := 69) hx hb dX9_feed_61 (by decide) (fun c_90 => absurd c_90 (by decide)) (fun c_90 => ?_)
  refine lv_iload hx hb dX9_feed_64 (lv_at hl 6 rfl) ?_
  refine lv_goto (tgt := 71) hx hb dX9_feed_66 (by decide) ?_
  refine lv_istore (lv' := [(7, .int p3), (6, .int 12), (0, .ref (r 0)), (1, .int p0), (2, .int p1), (3, .int p2), (4, .int p3), (5, .int p4)]) hx hb dX9_feed_71 hl (by decide) rfl (fun ls hl => ?_)
  refine lv_aload_n hx hb dX9_feed_73 rfl (lv_at hl 2 rfl) ?_
  refine va_get (D := (dC, dI)) (ci := 8) (v := .ref (r 1)) (C := RX9) (T := TX9) (N := 62) hx hb hG inX9 hown hK hP 0 rfl rfl 0 (by decide) (hG _ gw1171) (fun _ h9 => h9) rfl dX9_feed_74 ?_
  refine lv_aload_n hx hb dX9_feed_77 rfl (lv_at hl 2 rfl) ?_
  refine va_get (D := (dC, dI)) (ci := 8) (v := .int 0) (C := RX9) (T := TX9) (N := 62) hx hb hG inX9 hown hK hP 0 rfl rfl 2 (by decide) (hG _ gw1173) (fun _ h9 => h9) rfl dX9_feed_78 ?_
  refine lv_iload hx hb dX9_feed_81 (lv_at hl 1 rfl) ?_
  refine lv_iadd hx hb dX9_feed_83 ?_
  refine wt_c (v := 12) (by decide) ?_
  refine lv_iload hx hb dX9_feed_84 (lv_at hl 0 rfl) ?_
  refine lv_bipush (v := 24) hx hb dX9_feed_86 (by decide) ?_
  refine lv_bipush (v := 8) hx hb dX9_feed_88 (by decide) ?_
  refine lv_iload hx hb dX9_feed_90 (lv_at hl 1 rfl) ?_
  refine lv_iconst (v := 3) hx hb dX9_feed_92 (by decide) ?_
  refine lv_iand hx hb dX9_feed_93 ?_
  refine wt_c (v := 0) (by decide) ?_
  refine lv_imul hx hb dX9_feed_94 ?_
  refine wt_c (v := 0) (by decide) ?_
  refine lv_isub hx hb dX9_feed_95 ?_
  refine wt_c (v := 24) (by decide) ?_
  refine lv_ishr hx hb dX9_feed_96 ?_
  refine lv_topi (fun x91 ex91 => ?_)
  refine lv_i2b (v := _) hx hb dX9_feed_97 rfl ?_
  refine lv_topi (fun x92 ex92 => ?_)
  refine va_bast hx hb hK hP hD hS 1 0 rfl rfl (vin (by decide)) dX9_feed_98 (fun H93 locs hP hD hS => ?_)
  obtain ⟨zf94, ezf94⟩ : ∃ z : Nat → Int32, z = upd zf85 (12 : Int32).toNatClampNeg (vp_nar .byte x92) := ⟨_, rfl⟩
  have hP : va_P (dC, dI) vwCl [(r 0, .inr (8, [.ref (r 1), .ref (r 2), .int 0, .int 0, .int 0, .int (-1), .int 0, .int 0, .int 0, .int 0, .long 0, .ref (r 3), .ref (r 4), .ref (r 5), .ref (r 6), .ref (r 7), .ref (r 8), .ref (r 9), .ref (r 10), .ref (r 11), .ref (r 12), .ref (r 13), .ref (r 14), .ref (r 15), .ref (r 16), .ref (r 17), .ref (r 18), .ref (r 19), .ref (r 20), .ref (r 21), .ref (r 22), .ref (r 23), .ref (r 24), .int 0, .int 0, .int 0, .int 0, .int 0, .int 0, .int 0, .int 0, .int 0, .ref (r 25), .ref (r 26), .ref (r 27), .int 0, .int 0, .ref (r 28), .int 0, .ref (r 29), .ref (r 30), .ref (r 31), .ref (r 32), .ref (r 33), .ref (r 34), .ref (r 35), .ref (r 36), .int 0, .int 0, .int 0, .ref (r 37), .ref (r 38)])), (r 1, .inl ((c 1), 1620, .inl zf94))] H93 := by rw [ezf94]; exact hP
  have hD : va_D A [(r 0, .inr (8, [.ref (r 1), .ref (r 2), .int 0, .int 0, .int 0, .int (-1), .int 0, .int 0, .int 0, .int 0, .long 0, .ref (r 3), .ref (r 4), .ref (r 5), .ref (r 6), .ref (r 7), .ref (r 8), .ref (r 9), .ref (r 10), .ref (r 11), .ref (r 12), .ref (r 13), .ref (r 14), .ref (r 15), .ref (r 16), .ref (r 17), .ref (r 18), .ref (r 19), .ref (r 20), .ref (r 21), .ref (r 22), .ref (r 23), .ref (r 24), .int 0, .int 0, .int 0, .int 0, .int 0, .int 0, .int 0, .int 0, .int 0, .ref (r 25), .ref (r 26), .ref (r 27), .int 0, .int 0, .ref (r 28), .int 0, .ref (r 29), .ref (r 30), .ref (r 31), .ref (r 32), .ref (r 33), .ref (r 34), .ref (r 35), .ref (r 36), .int 0, .int 0, .int 0, .ref (r 37), .ref (r 38)])), (r 1, .inl ((c 1), 1620, .inl zf94))] := by rw [ezf94]; exact hD
  refine lv_iinc (v := 13) (lv' := [(6, .int 13), (7, .int p3), (0, .ref (r 0)), (1, .int p0), (2, .int p1), (3, .int p2), (4, .int p3), (5, .int p4)]) hx hb dX9_feed_99 hl (k := 1) rfl (by decide) (by decide) rfl (fun ls hl => ?_)
  refine lv_goto (tgt := 18) hx hb dX9_feed_102 (by decide) ?_
  refine lv_iload hx hb dX9_feed_18 (lv_at hl 0 rfl) ?_
  refine lv_bipush (v := 20) hx hb dX9_feed_20 (by decide) ?_
  refine lv_icmp_ge (tgt := 105) hx hb dX9_feed_22 (by decide) (fun c_95 => absurd c_95 (by decide)) (fun c_95 => ?_)
  refine lv_iload hx hb dX9_feed_25 (lv_at hl 0 rfl) ?_
  refine lv_iconst (v := 4) hx hb dX9_feed_27 (by decide) ?_
  refine lv_icmp_ge (tgt := 35) hx hb dX9_feed_28 (by decide) (fun c_96 => ?_) (fun c_96 => absurd (by decide) c_96)
  refine lv_iload hx hb dX9_feed_35 (lv_at hl 0 rfl) ?_
  refine lv_bipush (v := 8) hx hb dX9_feed_37 (by decide) ?_
  refine lv_icmp_ge (tgt := 46) hx hb dX9_feed_39 (by decide) (fun c_97 => ?_) (fun c_97 => absurd (by decide) c_97)
  refine lv_iload hx hb dX9_feed_46 (lv_at hl 0 rfl) ?_
  refine lv_bipush (v := 12) hx hb dX9_feed_48 (by decide) ?_
  refine lv_icmp_ge (tgt := 57) hx hb dX9_feed_50 (by decide) (fun c_98 => ?_) (fun c_98 => absurd (by decide) c_98)
  refine lv_iload hx hb dX9_feed_57 (lv_at hl 0 rfl) ?_
  refine lv_bipush (v := 16) hx hb dX9_feed_59 (by decide) ?_
  refine lv_icmp_ge (tgt := 69) hx hb dX9_feed_61 (by decide) (fun c_99 => absurd c_99 (by decide)) (fun c_99 => ?_)
  refine lv_iload hx hb dX9_feed_64 (lv_at hl 6 rfl) ?_
  refine lv_goto (tgt := 71) hx hb dX9_feed_66 (by decide) ?_
  refine lv_istore (lv' := [(7, .int p3), (6, .int 13), (0, .ref (r 0)), (1, .int p0), (2, .int p1), (3, .int p2), (4, .int p3), (5, .int p4)]) hx hb dX9_feed_71 hl (by decide) rfl (fun ls hl => ?_)
  refine lv_aload_n hx hb dX9_feed_73 rfl (lv_at hl 2 rfl) ?_
  refine va_get (D := (dC, dI)) (ci := 8) (v := .ref (r 1)) (C := RX9) (T := TX9) (N := 62) hx hb hG inX9 hown hK hP 0 rfl rfl 0 (by decide) (hG _ gw1171) (fun _ h9 => h9) rfl dX9_feed_74 ?_
  refine lv_aload_n hx hb dX9_feed_77 rfl (lv_at hl 2 rfl) ?_
  refine va_get (D := (dC, dI)) (ci := 8) (v := .int 0) (C := RX9) (T := TX9) (N := 62) hx hb hG inX9 hown hK hP 0 rfl rfl 2 (by decide) (hG _ gw1173) (fun _ h9 => h9) rfl dX9_feed_78 ?_
  refine lv_iload hx hb dX9_feed_81 (lv_at hl 1 rfl) ?_
  refine lv_iadd hx hb dX9_feed_83 ?_
  refine wt_c (v := 13) (by decide) ?_
  refine lv_iload hx hb dX9_feed_84 (lv_at hl 0 rfl) ?_
  refine lv_bipush (v := 24) hx hb dX9_feed_86 (by decide) ?_
  refine lv_bipush (v := 8) hx hb dX9_feed_88 (by decide) ?_
  refine lv_iload hx hb dX9_feed_90 (lv_at hl 1 rfl) ?_
  refine lv_iconst (v := 3) hx hb dX9_feed_92 (by decide) ?_
  refine lv_iand hx hb dX9_feed_93 ?_
  refine wt_c (v := 1) (by decide) ?_
  refine lv_imul hx hb dX9_feed_94 ?_
  refine wt_c (v := 8) (by decide) ?_
  refine lv_isub hx hb dX9_feed_95 ?_
  refine wt_c (v := 16) (by decide) ?_
  refine lv_ishr hx hb dX9_feed_96 ?_
  refine lv_topi (fun x100 ex100 => ?_)
  refine lv_i2b (v := _) hx hb dX9_feed_97 rfl ?_
  refine lv_topi (fun x101 ex101 => ?_)
  refine va_bast hx hb hK hP hD hS 1 0 rfl rfl (vin (by decide)) dX9_feed_98 (fun H102 locs hP hD hS => ?_)
  obtain ⟨zf103, ezf103⟩ : ∃ z : Nat → Int32, z = upd zf94 (13 : Int32).toNatClampNeg (vp_nar .byte x101) := ⟨_, rfl⟩
  have hP : va_P (dC, dI) vwCl [(r 0, .inr (8, [.ref (r 1), .ref (r 2), .int 0, .int 0, .int 0, .int (-1), .int 0, .int 0, .int 0, .int 0, .long 0, .ref (r 3), .ref (r 4), .ref (r 5), .ref (r 6), .ref (r 7), .ref (r 8), .ref (r 9), .ref (r 10), .ref (r 11), .ref (r 12), .ref (r 13), .ref (r 14), .ref (r 15), .ref (r 16), .ref (r 17), .ref (r 18), .ref (r 19), .ref (r 20), .ref (r 21), .ref (r 22), .ref (r 23), .ref (r 24), .int 0, .int 0, .int 0, .int 0, .int 0, .int 0, .int 0, .int 0, .int 0, .ref (r 25), .ref (r 26), .ref (r 27), .int 0, .int 0, .ref (r 28), .int 0, .ref (r 29), .ref (r 30), .ref (r 31), .ref (r 32), .ref (r 33), .ref (r 34), .ref (r 35), .ref (r 36), .int 0, .int 0, .int 0, .ref (r 37), .ref (r 38)])), (r 1, .inl ((c 1), 1620, .inl zf103))] H102 := by rw [ezf103]; exact hP
  have hD : va_D A [(r 0, .inr (8, [.ref (r 1), .ref (r 2), .int 0, .int 0, .int 0, .int (-1), .int 0, .int 0, .int 0, .int 0, .long 0, .ref (r 3), .ref (r 4), .ref (r 5), .ref (r 6), .ref (r 7), .ref (r 8), .ref (r 9), .ref (r 10), .ref (r 11), .ref (r 12), .ref (r 13), .ref (r 14), .ref (r 15), .ref (r 16), .ref (r 17), .ref (r 18), .ref (r 19), .ref (r 20), .ref (r 21), .ref (r 22), .ref (r 23), .ref (r 24), .int 0, .int 0, .int 0, .int 0, .int 0, .int 0, .int 0, .int 0, .int 0, .ref (r 25), .ref (r 26), .ref (r 27), .int 0, .int 0, .ref (r 28), .int 0, .ref (r 29), .ref (r 30), .ref (r 31), .ref (r 32), .ref (r 33), .ref (r 34), .ref (r 35), .ref (r 36), .int 0, .int 0, .int 0, .ref (r 37), .ref (r 38)])), (r 1, .inl ((c 1), 1620, .inl zf103))] := by rw [ezf103]; exact hD
  refine lv_iinc (v := 14) (lv' := [(6, .int 14), (7, .int p3), (0, .ref (r 0)), (1, .int p0), (2, .int p1), (3, .int p2), (4, .int p3), (5, .int p4)]) hx hb dX9_feed_99 hl (k := 1) rfl (by decide) (by decide) rfl (fun ls hl => ?_)
  refine lv_goto (tgt := 18) hx hb dX9_feed_102 (by decide) ?_
  refine lv_iload hx hb dX9_feed_18 (lv_at hl 0 rfl) ?_
  refine lv_bipush (v := 20) hx hb dX9_feed_20 (by decide) ?_
  refine lv_icmp_ge (tgt := 105) hx hb dX9_feed_22 (by decide) (fun c_104 => absurd c_104 (by decide)) (fun c_104 => ?_)
  refine lv_iload hx hb dX9_feed_25 (lv_at hl 0 rfl) ?_
  refine lv_iconst (v := 4) hx hb dX9_feed_27 (by decide) ?_
  refine lv_icmp_ge (tgt := 35) hx hb dX9_feed_28 (by decide) (fun c_105 => ?_) (fun c_105 => absurd (by decide) c_105)
  refine lv_iload hx hb dX9_feed_35 (lv_at hl 0 rfl) ?_
  refine lv_bipush (v := 8) hx hb dX9_feed_37 (by decide) ?_
  refine lv_icmp_ge (tgt := 46) hx hb dX9_feed_39 (by decide) (fun c_106 => ?_) (fun c_106 => absurd (by decide) c_106)
  refine lv_iload hx hb dX9_feed_46 (lv_at hl 0 rfl) ?_
  refine lv_bipush (v := 12) hx hb dX9_feed_48 (by decide) ?_
  refine lv_icmp_ge (tgt := 57) hx hb dX9_feed_50 (by decide) (fun c_107 => ?_) (fun c_107 => absurd (by decide) c_107)
  refine lv_iload hx hb dX9_feed_57 (lv_at hl 0 rfl) ?_
  refine lv_bipush (v := 16) hx hb dX9_feed_59 (by decide) ?_
  refine lv_icmp_ge (tgt := 69) hx hb dX9_feed_61 (by decide) (fun c_108 => absurd c_108 (by decide)) (fun c_108 => ?_)
  refine lv_iload hx hb dX9_feed_64 (lv_at hl 6 rfl) ?_
  refine lv_goto (tgt := 71) hx hb dX9_feed_66 (by decide) ?_
  refine lv_istore (lv' := [(7, .int p3), (6, .int 14), (0, .ref (r 0)), (1, .int p0), (2, .int p1), (3, .int p2), (4, .int p3), (5, .int p4)]) hx hb dX9_feed_71 hl (by decide) rfl (fun ls hl => ?_)
  refine lv_aload_n hx hb dX9_feed_73 rfl (lv_at hl 2 rfl) ?_
  refine va_get (D := (dC, dI)) (ci := 8) (v := .ref (r 1)) (C := RX9) (T := TX9) (N := 62) hx hb hG inX9 hown hK hP 0 rfl rfl 0 (by decide) (hG _ gw1171) (fun _ h9 => h9) rfl dX9_feed_74 ?_
  refine lv_aload_n hx hb dX9_feed_77 rfl (lv_at hl 2 rfl) ?_
  refine va_get (D := (dC, dI)) (ci := 8) (v := .int 0) (C := RX9) (T := TX9) (N := 62) hx hb hG inX9 hown hK hP 0 rfl rfl 2 (by decide) (hG _ gw1173) (fun _ h9 => h9) rfl dX9_feed_78 ?_
  refine lv_iload hx hb dX9_feed_81 (lv_at hl 1 rfl) ?_
  refine lv_iadd hx hb dX9_feed_83 ?_
  refine wt_c (v := 14) (by decide) ?_
  refine lv_iload hx hb dX9_feed_84 (lv_at hl 0 rfl) ?_
  refine lv_bipush (v := 24) hx hb dX9_feed_86 (by decide) ?_
  refine lv_bipush (v := 8) hx hb dX9_feed_88 (by decide) ?_
  refine lv_iload hx hb dX9_feed_90 (lv_at hl 1 rfl) ?_
  refine lv_iconst (v := 3) hx hb dX9_feed_92 (by decide) ?_
  refine lv_iand hx hb dX9_feed_93 ?_
  refine wt_c (v := 2) (by decide) ?_
  refine lv_imul hx hb dX9_feed_94 ?_
  refine wt_c (v := 16) (by decide) ?_
  refine lv_isub hx hb dX9_feed_95 ?_
  refine wt_c (v := 8) (by decide) ?_
  refine lv_ishr hx hb dX9_feed_96 ?_
  refine lv_topi (fun x109 ex109 => ?_)
  refine lv_i2b (v := _) hx hb dX9_feed_97 rfl ?_
  refine lv_topi (fun x110 ex110 => ?_)
  refine va_bast hx hb hK hP hD hS 1 0 rfl rfl (vin (by decide)) dX9_feed_98 (fun H111 locs hP hD hS => ?_)
  obtain ⟨zf112, ezf112⟩ : ∃ z : Nat → Int32, z = upd zf103 (14 : Int32).toNatClampNeg (vp_nar .byte x110) := ⟨_, rfl⟩
  have hP : va_P (dC, dI) vwCl [(r 0, .inr (8, [.ref (r 1), .ref (r 2), .int 0, .int 0, .int 0, .int (-1), .int 0, .int 0, .int 0, .int 0, .long 0, .ref (r 3), .ref (r 4), .ref (r 5), .ref (r 6), .ref (r 7), .ref (r 8), .ref (r 9), .ref (r 10), .ref (r 11), .ref (r 12), .ref (r 13), .ref (r 14), .ref (r 15), .ref (r 16), .ref (r 17), .ref (r 18), .ref (r 19), .ref (r 20), .ref (r 21), .ref (r 22), .ref (r 23), .ref (r 24), .int 0, .int 0, .int 0, .int 0, .int 0, .int 0, .int 0, .int 0, .int 0, .ref (r 25), .ref (r 26), .ref (r 27), .int 0, .int 0, .ref (r 28), .int 0, .ref (r 29), .ref (r 30), .ref (r 31), .ref (r 32), .ref (r 33), .ref (r 34), .ref (r 35), .ref (r 36), .int 0, .int 0, .int 0, .ref (r 37), .ref (r 38)])), (r 1, .inl ((c 1), 1620, .inl zf112))] H111 := by rw [ezf112]; exact hP
  have hD : va_D A [(r 0, .inr (8, [.ref (r 1), .ref (r 2), .int 0, .int 0, .int 0, .int (-1), .int 0, .int 0, .int 0, .int 0, .long 0, .ref (r 3), .ref (r 4), .ref (r 5), .ref (r 6), .ref (r 7), .ref (r 8), .ref (r 9), .ref (r 10), .ref (r 11), .ref (r 12), .ref (r 13), .ref (r 14), .ref (r 15), .ref (r 16), .ref (r 17), .ref (r 18), .ref (r 19), .ref (r 20), .ref (r 21), .ref (r 22), .ref (r 23), .ref (r 24), .int 0, .int 0, .int 0, .int 0, .int 0, .int 0, .int 0, .int 0, .int 0, .ref (r 25), .ref (r 26), .ref (r 27), .int 0, .int 0, .ref (r 28), .int 0, .ref (r 29), .ref (r 30), .ref (r 31), .ref (r 32), .ref (r 33), .ref (r 34), .ref (r 35), .ref (r 36), .int 0, .int 0, .int 0, .ref (r 37), .ref (r 38)])), (r 1, .inl ((c 1), 1620, .inl zf112))] := by rw [ezf112]; exact hD
  refine lv_iinc (v := 15) (lv' := [(6, .int 15), (7, .int p3), (0, .ref (r 0)), (1, .int p0), (2, .int p1), (3, .int p2), (4, .int p3), (5, .int p4)]) hx hb dX9_feed_99 hl (k := 1) rfl (by decide) (by decide) rfl (fun ls hl => ?_)
  refine lv_goto (tgt := 18) hx hb dX9_feed_102 (by decide) ?_
  refine lv_iload hx hb dX9_feed_18 (lv_at hl 0 rfl) ?_
  refine lv_bipush (v := 20) hx hb dX9_feed_20 (by decide) ?_
  refine lv_icmp_ge (tgt := 105) hx hb dX9_feed_22 (by decide) (fun c_113 => absurd c_113 (by decide)) (fun c_113 => ?_)
  refine lv_iload hx hb dX9_feed_25 (lv_at hl 0 rfl) ?_
  refine lv_iconst (v := 4) hx hb dX9_feed_27 (by decide) ?_
  refine lv_icmp_ge (tgt := 35) hx hb dX9_feed_28 (by decide) (fun c_114 => ?_) (fun c_114 => absurd (by decide) c_114)
  refine lv_iload hx hb dX9_feed_35 (lv_at hl 0 rfl) ?_
  refine lv_bipush (v := 8) hx hb dX9_feed_37 (by decide) ?_
  refine lv_icmp_ge (tgt := 46) hx hb dX9_feed_39 (by decide) (fun c_115 => ?_) (fun c_115 => absurd (by decide) c_115)
  refine lv_iload hx hb dX9_feed_46 (lv_at hl 0 rfl) ?_
  refine lv_bipush (v := 12) hx hb dX9_feed_48 (by decide) ?_
  refine lv_icmp_ge (tgt := 57) hx hb dX9_feed_50 (by decide) (fun c_116 => ?_) (fun c_116 => absurd (by decide) c_116)
  refine lv_iload hx hb dX9_feed_57 (lv_at hl 0 rfl) ?_
  refine lv_bipush (v := 16) hx hb dX9_feed_59 (by decide) ?_
  refine lv_icmp_ge (tgt := 69) hx hb dX9_feed_61 (by decide) (fun c_117 => absurd c_117 (by decide)) (fun c_117 => ?_)
  refine lv_iload hx hb dX9_feed_64 (lv_at hl 6 rfl) ?_
  refine lv_goto (tgt := 71) hx hb dX9_feed_66 (by decide) ?_
  refine lv_istore (lv' := [(7, .int p3), (6, .int 15), (0, .ref (r 0)), (1, .int p0), (2, .int p1), (3, .int p2), (4, .int p3), (5, .int p4)]) hx hb dX9_feed_71 hl (by decide) rfl (fun ls hl => ?_)
  refine lv_aload_n hx hb dX9_feed_73 rfl (lv_at hl 2 rfl) ?_
  refine va_get (D := (dC, dI)) (ci := 8) (v := .ref (r 1)) (C := RX9) (T := TX9) (N := 62) hx hb hG inX9 hown hK hP 0 rfl rfl 0 (by decide) (hG _ gw1171) (fun _ h9 => h9) rfl dX9_feed_74 ?_
  refine lv_aload_n hx hb dX9_feed_77 rfl (lv_at hl 2 rfl) ?_
  refine va_get (D := (dC, dI)) (ci := 8) (v := .int 0) (C := RX9) (T := TX9) (N := 62) hx hb hG inX9 hown hK hP 0 rfl rfl 2 (by decide) (hG _ gw1173) (fun _ h9 => h9) rfl dX9_feed_78 ?_
  refine lv_iload hx hb dX9_feed_81 (lv_at hl 1 rfl) ?_
  refine lv_iadd hx hb dX9_feed_83 ?_
  refine wt_c (v := 15) (by decide) ?_
  refine lv_iload hx hb dX9_feed_84 (lv_at hl 0 rfl) ?_
  refine lv_bipush (v := 24) hx hb dX9_feed_86 (by decide) ?_
  refine lv_bipush (v := 8) hx hb dX9_feed_88 (by decide) ?_
  refine lv_iload hx hb dX9_feed_90 (lv_at hl 1 rfl) ?_
  refine lv_iconst (v := 3) hx hb dX9_feed_92 (by decide) ?_
  refine lv_iand hx hb dX9_feed_93 ?_
  refine wt_c (v := 3) (by decide) ?_
  refine lv_imul hx hb dX9_feed_94 ?_
  refine wt_c (v := 24) (by decide) ?_
  refine lv_isub hx hb dX9_feed_95 ?_
  refine wt_c (v := 0) (by decide) ?_
  refine lv_ishr hx hb dX9_feed_96 ?_
  refine lv_topi (fun x118 ex118 => ?_)
  refine lv_i2b (v := _) hx hb dX9_feed_97 rfl ?_
  refine lv_topi (fun x119 ex119 => ?_)
  refine va_bast hx hb hK hP hD hS 1 0 rfl rfl (vin (by decide)) dX9_feed_98 (fun H120 locs hP hD hS => ?_)
  obtain ⟨zf121, ezf121⟩ : ∃ z : Nat → Int32, z = upd zf112 (15 : Int32).toNatClampNeg (vp_nar .byte x119) := ⟨_, rfl⟩
  have hP : va_P (dC, dI) vwCl [(r 0, .inr (8, [.ref (r 1), .ref (r 2), .int 0, .int 0, .int 0, .int (-1), .int 0, .int 0, .int 0, .int 0, .long 0, .ref (r 3), .ref (r 4), .ref (r 5), .ref (r 6), .ref (r 7), .ref (r 8), .ref (r 9), .ref (r 10), .ref (r 11), .ref (r 12), .ref (r 13), .ref (r 14), .ref (r 15), .ref (r 16), .ref (r 17), .ref (r 18), .ref (r 19), .ref (r 20), .ref (r 21), .ref (r 22), .ref (r 23), .ref (r 24), .int 0, .int 0, .int 0, .int 0, .int 0, .int 0, .int 0, .int 0, .int 0, .ref (r 25), .ref (r 26), .ref (r 27), .int 0, .int 0, .ref (r 28), .int 0, .ref (r 29), .ref (r 30), .ref (r 31), .ref (r 32), .ref (r 33), .ref (r 34), .ref (r 35), .ref (r 36), .int 0, .int 0, .int 0, .ref (r 37), .ref (r 38)])), (r 1, .inl ((c 1), 1620, .inl zf121))] H120 := by rw [ezf121]; exact hP
  have hD : va_D A [(r 0, .inr (8, [.ref (r 1), .ref (r 2), .int 0, .int 0, .int 0, .int (-1), .int 0, .int 0, .int 0, .int 0, .long 0, .ref (r 3), .ref (r 4), .ref (r 5), .ref (r 6), .ref (r 7), .ref (r 8), .ref (r 9), .ref (r 10), .ref (r 11), .ref (r 12), .ref (r 13), .ref (r 14), .ref (r 15), .ref (r 16), .ref (r 17), .ref (r 18), .ref (r 19), .ref (r 20), .ref (r 21), .ref (r 22), .ref (r 23), .ref (r 24), .int 0, .int 0, .int 0, .int 0, .int 0, .int 0, .int 0, .int 0, .int 0, .ref (r 25), .ref (r 26), .ref (r 27), .int 0, .int 0, .ref (r 28), .int 0, .ref (r 29), .ref (r 30), .ref (r 31), .ref (r 32), .ref (r 33), .ref (r 34), .ref (r 35), .ref (r 36), .int 0, .int 0, .int 0, .ref (r 37), .ref (r 38)])), (r 1, .inl ((c 1), 1620, .inl zf121))] := by rw [ezf121]; exact hD
  refine lv_iinc (v := 16) (lv' := [(6, .int 16), (7, .int p3), (0, .ref (r 0)), (1, .int p0), (2, .int p1), (3, .int p2), (4, .int p3), (5, .int p4)]) hx hb dX9_feed_99 hl (k := 1) rfl (by decide) (by decide) rfl (fun ls hl => ?_)
  refine lv_goto (tgt := 18) hx hb dX9_feed_102 (by decide) ?_
  refine lv_iload hx hb dX9_feed_18 (lv_at hl 0 rfl) ?_
  refine lv_bipush (v := 20) hx hb dX9_feed_20 (by decide) ?_
  refine lv_icmp_ge (tgt := 105) hx hb dX9_feed_22 (by decide) (fun c_122 => absurd c_122 (by decide)) (fun c_122 => ?_)
  refine lv_iload hx hb dX9_feed_25 (lv_at hl 0 rfl) ?_
  refine lv_iconst (v := 4) hx hb dX9_feed_27 (by decide) ?_
  refine lv_icmp_ge (tgt := 35) hx hb dX9_feed_28 (by decide) (fun c_123 => ?_) (fun c_123 => absurd (by decide) c_123)
  refine lv_iload hx hb dX9_feed_35 (lv_at hl 0 rfl) ?_
  refine lv_bipush (v := 8) hx hb dX9_feed_37 (by decide) ?_
  refine lv_icmp_ge (tgt := 46) hx hb dX9_feed_39 (by decide) (fun c_124 => ?_) (fun c_124 => absurd (by decide) c_124)
  refine lv_iload hx hb dX9_feed_46 (lv_at hl 0 rfl) ?_
  refine lv_bipush (v := 12) hx hb dX9_feed_48 (by decide) ?_
  refine lv_icmp_ge (tgt := 57) hx hb dX9_feed_50 (by decide) (fun c_125 => ?_) (fun c_125 => absurd (by decide) c_125)
  refine lv_iload hx hb dX9_feed_57 (lv_at hl 0 rfl) ?_
  refine lv_bipush (v := 16) hx hb dX9_feed_59 (by decide) ?_
  refine lv_icmp_ge (tgt := 69) hx hb dX9_feed_61 (by decide) (fun c_126 => ?_) (fun c_126 => absurd (by decide) c_126)
  refine lv_iload hx hb dX9_feed_69 (lv_at hl 7 rfl) ?_
  refine lv_istore (lv' := [(7, .int p4), (6, .int 16), (0, .ref (r 0)), (1, .int p0), (2, .int p1), (3, .int p2), (4, .int p3), (5, .int p4)]) hx hb dX9_feed_71 hl (by decide) rfl (fun ls hl => ?_)
  refine lv_aload_n hx hb dX9_feed_73 rfl (lv_at hl 2 rfl) ?_
  refine va_get (D := (dC, dI)) (ci := 8) (v := .ref (r 1)) (C := RX9) (T := TX9) (N := 62) hx hb hG inX9 hown hK hP 0 rfl rfl 0 (by decide) (hG _ gw1171) (fun _ h9 => h9) rfl dX9_feed_74 ?_
  refine lv_aload_n hx hb dX9_feed_77 rfl (lv_at hl 2 rfl) ?_
  refine va_get (D := (dC, dI)) (ci := 8) (v := .int 0) (C := RX9) (T := TX9) (N := 62) hx hb hG inX9 hown hK hP 0 rfl rfl 2 (by decide) (hG _ gw1173) (fun _ h9 => h9) rfl dX9_feed_78 ?_
  refine lv_iload hx hb dX9_feed_81 (lv_at hl 1 rfl) ?_
  refine lv_iadd hx hb dX9_feed_83 ?_
  refine wt_c (v := 16) (by decide) ?_
  refine lv_iload hx hb dX9_feed_84 (lv_at hl 0 rfl) ?_
  refine lv_bipush (v := 24) hx hb dX9_feed_86 (by decide) ?_
  refine lv_bipush (v := 8) hx hb dX9_feed_88 (by decide) ?_
  refine lv_iload hx hb dX9_feed_90 (lv_at hl 1 rfl) ?_
  refine lv_iconst (v := 3) hx hb dX9_feed_92 (by decide) ?_
  refine lv_iand hx hb dX9_feed_93 ?_
  refine wt_c (v := 0) (by decide) ?_
  refine lv_imul hx hb dX9_feed_94 ?_
  refine wt_c (v := 0) (by decide) ?_
  refine lv_isub hx hb dX9_feed_95 ?_
  refine wt_c (v := 24) (by decide) ?_
  refine lv_ishr hx hb dX9_feed_96 ?_
  refine lv_topi (fun x127 ex127 => ?_)
  refine lv_i2b (v := _) hx hb dX9_feed_97 rfl ?_
  refine lv_topi (fun x128 ex128 => ?_)
  refine va_bast hx hb hK hP hD hS 1 0 rfl rfl (vin (by decide)) dX9_feed_98 (fun H129 locs hP hD hS => ?_)
  obtain ⟨zf130, ezf130⟩ : ∃ z : Nat → Int32, z = upd zf121 (16 : Int32).toNatClampNeg (vp_nar .byte x128) := ⟨_, rfl⟩
  have hP : va_P (dC, dI) vwCl [(r 0, .inr (8, [.ref (r 1), .ref (r 2), .int 0, .int 0, .int 0, .int (-1), .int 0, .int 0, .int 0, .int 0, .long 0, .ref (r 3), .ref (r 4), .ref (r 5), .ref (r 6), .ref (r 7), .ref (r 8), .ref (r 9), .ref (r 10), .ref (r 11), .ref (r 12), .ref (r 13), .ref (r 14), .ref (r 15), .ref (r 16), .ref (r 17), .ref (r 18), .ref (r 19), .ref (r 20), .ref (r 21), .ref (r 22), .ref (r 23), .ref (r 24), .int 0, .int 0, .int 0, .int 0, .int 0, .int 0, .int 0, .int 0, .int 0, .ref (r 25), .ref (r 26), .ref (r 27), .int 0, .int 0, .ref (r 28), .int 0, .ref (r 29), .ref (r 30), .ref (r 31), .ref (r 32), .ref (r 33), .ref (r 34), .ref (r 35), .ref (r 36), .int 0, .int 0, .int 0, .ref (r 37), .ref (r 38)])), (r 1, .inl ((c 1), 1620, .inl zf130))] H129 := by rw [ezf130]; exact hP
  have hD : va_D A [(r 0, .inr (8, [.ref (r 1), .ref (r 2), .int 0, .int 0, .int 0, .int (-1), .int 0, .int 0, .int 0, .int 0, .long 0, .ref (r 3), .ref (r 4), .ref (r 5), .ref (r 6), .ref (r 7), .ref (r 8), .ref (r 9), .ref (r 10), .ref (r 11), .ref (r 12), .ref (r 13), .ref (r 14), .ref (r 15), .ref (r 16), .ref (r 17), .ref (r 18), .ref (r 19), .ref (r 20), .ref (r 21), .ref (r 22), .ref (r 23), .ref (r 24), .int 0, .int 0, .int 0, .int 0, .int 0, .int 0, .int 0, .int 0, .int 0, .ref (r 25), .ref (r 26), .ref (r 27), .int 0, .int 0, .ref (r 28), .int 0, .ref (r 29), .ref (r 30), .ref (r 31), .ref (r 32), .ref (r 33), .ref (r 34), .ref (r 35), .ref (r 36), .int 0, .int 0, .int 0, .ref (r 37), .ref (r 38)])), (r 1, .inl ((c 1), 1620, .inl zf130))] := by rw [ezf130]; exact hD
  refine lv_iinc (v := 17) (lv' := [(6, .int 17), (7, .int p4), (0, .ref (r 0)), (1, .int p0), (2, .int p1), (3, .int p2), (4, .int p3), (5, .int p4)]) hx hb dX9_feed_99 hl (k := 1) rfl (by decide) (by decide) rfl (fun ls hl => ?_)
  refine lv_goto (tgt := 18) hx hb dX9_feed_102 (by decide) ?_
  refine lv_iload hx hb dX9_feed_18 (lv_at hl 0 rfl) ?_
  refine lv_bipush (v := 20) hx hb dX9_feed_20 (by decide) ?_
  refine lv_icmp_ge (tgt := 105) hx hb dX9_feed_22 (by decide) (fun c_131 => absurd c_131 (by decide)) (fun c_131 => ?_)
  refine lv_iload hx hb dX9_feed_25 (lv_at hl 0 rfl) ?_
  refine lv_iconst (v := 4) hx hb dX9_feed_27 (by decide) ?_
  refine lv_icmp_ge (tgt := 35) hx hb dX9_feed_28 (by decide) (fun c_132 => ?_) (fun c_132 => absurd (by decide) c_132)
  refine lv_iload hx hb dX9_feed_35 (lv_at hl 0 rfl) ?_
  refine lv_bipush (v := 8) hx hb dX9_feed_37 (by decide) ?_
  refine lv_icmp_ge (tgt := 46) hx hb dX9_feed_39 (by decide) (fun c_133 => ?_) (fun c_133 => absurd (by decide) c_133)
  refine lv_iload hx hb dX9_feed_46 (lv_at hl 0 rfl) ?_
  refine lv_bipush (v := 12) hx hb dX9_feed_48 (by decide) ?_
  refine lv_icmp_ge (tgt := 57) hx hb dX9_feed_50 (by decide) (fun c_134 => ?_) (fun c_134 => absurd (by decide) c_134)
  refine lv_iload hx hb dX9_feed_57 (lv_at hl 0 rfl) ?_
  refine lv_bipush (v := 16) hx hb dX9_feed_59 (by decide) ?_
  refine lv_icmp_ge (tgt := 69) hx hb dX9_feed_61 (by decide) (fun c_135 => ?_) (fun c_135 => absurd (by decide) c_135)
  refine lv_iload hx hb dX9_feed_69 (lv_at hl 7 rfl) ?_
  refine lv_istore (lv' := [(7, .int p4), (6, .int 17), (0, .ref (r 0)), (1, .int p0), (2, .int p1), (3, .int p2), (4, .int p3), (5, .int p4)]) hx hb dX9_feed_71 hl (by decide) rfl (fun ls hl => ?_)
  refine lv_aload_n hx hb dX9_feed_73 rfl (lv_at hl 2 rfl) ?_
  refine va_get (D := (dC, dI)) (ci := 8) (v := .ref (r 1)) (C := RX9) (T := TX9) (N := 62) hx hb hG inX9 hown hK hP 0 rfl rfl 0 (by decide) (hG _ gw1171) (fun _ h9 => h9) rfl dX9_feed_74 ?_
  refine lv_aload_n hx hb dX9_feed_77 rfl (lv_at hl 2 rfl) ?_
  refine va_get (D := (dC, dI)) (ci := 8) (v := .int 0) (C := RX9) (T := TX9) (N := 62) hx hb hG inX9 hown hK hP 0 rfl rfl 2 (by decide) (hG _ gw1173) (fun _ h9 => h9) rfl dX9_feed_78 ?_
  refine lv_iload hx hb dX9_feed_81 (lv_at hl 1 rfl) ?_
  refine lv_iadd hx hb dX9_feed_83 ?_
  refine wt_c (v := 17) (by decide) ?_
  refine lv_iload hx hb dX9_feed_84 (lv_at hl 0 rfl) ?_
  refine lv_bipush (v := 24) hx hb dX9_feed_86 (by decide) ?_
  refine lv_bipush (v := 8) hx hb dX9_feed_88 (by decide) ?_
  refine lv_iload hx hb dX9_feed_90 (lv_at hl 1 rfl) ?_
  refine lv_iconst (v := 3) hx hb dX9_feed_92 (by decide) ?_
  refine lv_iand hx hb dX9_feed_93 ?_
  refine wt_c (v := 1) (by decide) ?_
  refine lv_imul hx hb dX9_feed_94 ?_
  refine wt_c (v := 8) (by decide) ?_
  refine lv_isub hx hb dX9_feed_95 ?_
  refine wt_c (v := 16) (by decide) ?_
  refine lv_ishr hx hb dX9_feed_96 ?_
  refine lv_topi (fun x136 ex136 => ?_)
  refine lv_i2b (v := _) hx hb dX9_feed_97 rfl ?_
  refine lv_topi (fun x137 ex137 => ?_)
  refine va_bast hx hb hK hP hD hS 1 0 rfl rfl (vin (by decide)) dX9_feed_98 (fun H138 locs hP hD hS => ?_)
  obtain ⟨zf139, ezf139⟩ : ∃ z : Nat → Int32, z = upd zf130 (17 : Int32).toNatClampNeg (vp_nar .byte x137) := ⟨_, rfl⟩
  have hP : va_P (dC, dI) vwCl [(r 0, .inr (8, [.ref (r 1), .ref (r 2), .int 0, .int 0, .int 0, .int (-1), .int 0, .int 0, .int 0, .int 0, .long 0, .ref (r 3), .ref (r 4), .ref (r 5), .ref (r 6), .ref (r 7), .ref (r 8), .ref (r 9), .ref (r 10), .ref (r 11), .ref (r 12), .ref (r 13), .ref (r 14), .ref (r 15), .ref (r 16), .ref (r 17), .ref (r 18), .ref (r 19), .ref (r 20), .ref (r 21), .ref (r 22), .ref (r 23), .ref (r 24), .int 0, .int 0, .int 0, .int 0, .int 0, .int 0, .int 0, .int 0, .int 0, .ref (r 25), .ref (r 26), .ref (r 27), .int 0, .int 0, .ref (r 28), .int 0, .ref (r 29), .ref (r 30), .ref (r 31), .ref (r 32), .ref (r 33), .ref (r 34), .ref (r 35), .ref (r 36), .int 0, .int 0, .int 0, .ref (r 37), .ref (r 38)])), (r 1, .inl ((c 1), 1620, .inl zf139))] H138 := by rw [ezf139]; exact hP
  have hD : va_D A [(r 0, .inr (8, [.ref (r 1), .ref (r 2), .int 0, .int 0, .int 0, .int (-1), .int 0, .int 0, .int 0, .int 0, .long 0, .ref (r 3), .ref (r 4), .ref (r 5), .ref (r 6), .ref (r 7), .ref (r 8), .ref (r 9), .ref (r 10), .ref (r 11), .ref (r 12), .ref (r 13), .ref (r 14), .ref (r 15), .ref (r 16), .ref (r 17), .ref (r 18), .ref (r 19), .ref (r 20), .ref (r 21), .ref (r 22), .ref (r 23), .ref (r 24), .int 0, .int 0, .int 0, .int 0, .int 0, .int 0, .int 0, .int 0, .int 0, .ref (r 25), .ref (r 26), .ref (r 27), .int 0, .int 0, .ref (r 28), .int 0, .ref (r 29), .ref (r 30), .ref (r 31), .ref (r 32), .ref (r 33), .ref (r 34), .ref (r 35), .ref (r 36), .int 0, .int 0, .int 0, .ref (r 37), .ref (r 38)])), (r 1, .inl ((c 1), 1620, .inl zf139))] := by rw [ezf139]; exact hD
  refine lv_iinc (v := 18) (lv' := [(6, .int 18), (7, .int p4), (0, .ref (r 0)), (1, .int p0), (2, .int p1), (3, .int p2), (4, .int p3), (5, .int p4)]) hx hb dX9_feed_99 hl (k := 1) rfl (by decide) (by decide) rfl (fun ls hl => ?_)
  refine lv_goto (tgt := 18) hx hb dX9_feed_102 (by decide) ?_
  refine lv_iload hx hb dX9_feed_18 (lv_at hl 0 rfl) ?_
  refine lv_bipush (v := 20) hx hb dX9_feed_20 (by decide) ?_
  refine lv_icmp_ge (tgt := 105) hx hb dX9_feed_22 (by decide) (fun c_140 => absurd c_140 (by decide)) (fun c_140 => ?_)
  refine lv_iload hx hb dX9_feed_25 (lv_at hl 0 rfl) ?_
  refine lv_iconst (v := 4) hx hb dX9_feed_27 (by decide) ?_
  refine lv_icmp_ge (tgt := 35) hx hb dX9_feed_28 (by decide) (fun c_141 => ?_) (fun c_141 => absurd (by decide) c_141)
  refine lv_iload hx hb dX9_feed_35 (lv_at hl 0 rfl) ?_
  refine lv_bipush (v := 8) hx hb dX9_feed_37 (by decide) ?_
  refine lv_icmp_ge (tgt := 46) hx hb dX9_feed_39 (by decide) (fun c_142 => ?_) (fun c_142 => absurd (by decide) c_142)
  refine lv_iload hx hb dX9_feed_46 (lv_at hl 0 rfl) ?_
  refine lv_bipush (v := 12) hx hb dX9_feed_48 (by decide) ?_
  refine lv_icmp_ge (tgt := 57) hx hb dX9_feed_50 (by decide) (fun c_143 => ?_) (fun c_143 => absurd (by decide) c_143)
  refine lv_iload hx hb dX9_feed_57 (lv_at hl 0 rfl) ?_
  refine lv_bipush (v := 16) hx hb dX9_feed_59 (by decide) ?_
  refine lv_icmp_ge (tgt := 69) hx hb dX9_feed_61 (by decide) (fun c_144 => ?_) (fun c_144 => absurd (by decide) c_144)
  refine lv_iload hx hb dX9_feed_69 (lv_at hl 7 rfl) ?_
  refine lv_istore (lv' := [(7, .int p4), (6, .int 18), (0, .ref (r 0)), (1, .int p0), (2, .int p1), (3, .int p2), (4, .int p3), (5, .int p4)]) hx hb dX9_feed_71 hl (by decide) rfl (fun ls hl => ?_)
  refine lv_aload_n hx hb dX9_feed_73 rfl (lv_at hl 2 rfl) ?_
  refine va_get (D := (dC, dI)) (ci := 8) (v := .ref (r 1)) (C := RX9) (T := TX9) (N := 62) hx hb hG inX9 hown hK hP 0 rfl rfl 0 (by decide) (hG _ gw1171) (fun _ h9 => h9) rfl dX9_feed_74 ?_
  refine lv_aload_n hx hb dX9_feed_77 rfl (lv_at hl 2 rfl) ?_
  refine va_get (D := (dC, dI)) (ci := 8) (v := .int 0) (C := RX9) (T := TX9) (N := 62) hx hb hG inX9 hown hK hP 0 rfl rfl 2 (by decide) (hG _ gw1173) (fun _ h9 => h9) rfl dX9_feed_78 ?_
  refine lv_iload hx hb dX9_feed_81 (lv_at hl 1 rfl) ?_
  refine lv_iadd hx hb dX9_feed_83 ?_
  refine wt_c (v := 18) (by decide) ?_
  refine lv_iload hx hb dX9_feed_84 (lv_at hl 0 rfl) ?_
  refine lv_bipush (v := 24) hx hb dX9_feed_86 (by decide) ?_
  refine lv_bipush (v := 8) hx hb dX9_feed_88 (by decide) ?_
  refine lv_iload hx hb dX9_feed_90 (lv_at hl 1 rfl) ?_
  refine lv_iconst (v := 3) hx hb dX9_feed_92 (by decide) ?_
  refine lv_iand hx hb dX9_feed_93 ?_
  refine wt_c (v := 2) (by decide) ?_
  refine lv_imul hx hb dX9_feed_94 ?_
  refine wt_c (v := 16) (by decide) ?_
  refine lv_isub hx hb dX9_feed_95 ?_
  refine wt_c (v := 8) (by decide) ?_
  refine lv_ishr hx hb dX9_feed_96 ?_
  refine lv_topi (fun x145 ex145 => ?_)
  refine lv_i2b (v := _) hx hb dX9_feed_97 rfl ?_
  refine lv_topi (fun x146 ex146 => ?_)
  refine va_bast hx hb hK hP hD hS 1 0 rfl rfl (vin (by decide)) dX9_feed_98 (fun H147 locs hP hD hS => ?_)
  obtain ⟨zf148, ezf148⟩ : ∃ z : Nat → Int32, z = upd zf139 (18 : Int32).toNatClampNeg (vp_nar .byte x146) := ⟨_, rfl⟩
  have hP : va_P (dC, dI) vwCl [(r 0, .inr (8, [.ref (r 1), .ref (r 2), .int 0, .int 0, .int 0, .int (-1), .int 0, .int 0, .int 0, .int 0, .long 0, .ref (r 3), .ref (r 4), .ref (r 5), .ref (r 6), .ref (r 7), .ref (r 8), .ref (r 9), .ref (r 10), .ref (r 11), .ref (r 12), .ref (r 13), .ref (r 14), .ref (r 15), .ref (r 16), .ref (r 17), .ref (r 18), .ref (r 19), .ref (r 20), .ref (r 21), .ref (r 22), .ref (r 23), .ref (r 24), .int 0, .int 0, .int 0, .int 0, .int 0, .int 0, .int 0, .int 0, .int 0, .ref (r 25), .ref (r 26), .ref (r 27), .int 0, .int 0, .ref (r 28), .int 0, .ref (r 29), .ref (r 30), .ref (r 31), .ref (r 32), .ref (r 33), .ref (r 34), .ref (r 35), .ref (r 36), .int 0, .int 0, .int 0, .ref (r 37), .ref (r 38)])), (r 1, .inl ((c 1), 1620, .inl zf148))] H147 := by rw [ezf148]; exact hP
  have hD : va_D A [(r 0, .inr (8, [.ref (r 1), .ref (r 2), .int 0, .int 0, .int 0, .int (-1), .int 0, .int 0, .int 0, .int 0, .long 0, .ref (r 3), .ref (r 4), .ref (r 5), .ref (r 6), .ref (r 7), .ref (r 8), .ref (r 9), .ref (r 10), .ref (r 11), .ref (r 12), .ref (r 13), .ref (r 14), .ref (r 15), .ref (r 16), .ref (r 17), .ref (r 18), .ref (r 19), .ref (r 20), .ref (r 21), .ref (r 22), .ref (r 23), .ref (r 24), .int 0, .int 0, .int 0, .int 0, .int 0, .int 0, .int 0, .int 0, .int 0, .ref (r 25), .ref (r 26), .ref (r 27), .int 0, .int 0, .ref (r 28), .int 0, .ref (r 29), .ref (r 30), .ref (r 31), .ref (r 32), .ref (r 33), .ref (r 34), .ref (r 35), .ref (r 36), .int 0, .int 0, .int 0, .ref (r 37), .ref (r 38)])), (r 1, .inl ((c 1), 1620, .inl zf148))] := by rw [ezf148]; exact hD
  refine lv_iinc (v := 19) (lv' := [(6, .int 19), (7, .int p4), (0, .ref (r 0)), (1, .int p0), (2, .int p1), (3, .int p2), (4, .int p3), (5, .int p4)]) hx hb dX9_feed_99 hl (k := 1) rfl (by decide) (by decide) rfl (fun ls hl => ?_)
  refine lv_goto (tgt := 18) hx hb dX9_feed_102 (by decide) ?_
  refine lv_iload hx hb dX9_feed_18 (lv_at hl 0 rfl) ?_
  refine lv_bipush (v := 20) hx hb dX9_feed_20 (by decide) ?_
  refine lv_icmp_ge (tgt := 105) hx hb dX9_feed_22 (by decide) (fun c_149 => absurd c_149 (by decide)) (fun c_149 => ?_)
  refine lv_iload hx hb dX9_feed_25 (lv_at hl 0 rfl) ?_
  refine lv_iconst (v := 4) hx hb dX9_feed_27 (by decide) ?_
  refine lv_icmp_ge (tgt := 35) hx hb dX9_feed_28 (by decide) (fun c_150 => ?_) (fun c_150 => absurd (by decide) c_150)
  refine lv_iload hx hb dX9_feed_35 (lv_at hl 0 rfl) ?_
  refine lv_bipush (v := 8) hx hb dX9_feed_37 (by decide) ?_
  refine lv_icmp_ge (tgt := 46) hx hb dX9_feed_39 (by decide) (fun c_151 => ?_) (fun c_151 => absurd (by decide) c_151)
  refine lv_iload hx hb dX9_feed_46 (lv_at hl 0 rfl) ?_
  refine lv_bipush (v := 12) hx hb dX9_feed_48 (by decide) ?_
  refine lv_icmp_ge (tgt := 57) hx hb dX9_feed_50 (by decide) (fun c_152 => ?_) (fun c_152 => absurd (by decide) c_152)
  refine lv_iload hx hb dX9_feed_57 (lv_at hl 0 rfl) ?_
  refine lv_bipush (v := 16) hx hb dX9_feed_59 (by decide) ?_
  refine lv_icmp_ge (tgt := 69) hx hb dX9_feed_61 (by decide) (fun c_153 => ?_) (fun c_153 => absurd (by decide) c_153)
  refine lv_iload hx hb dX9_feed_69 (lv_at hl 7 rfl) ?_
  refine lv_istore (lv' := [(7, .int p4), (6, .int 19), (0, .ref (r 0)), (1, .int p0), (2, .int p1), (3, .int p2), (4, .int p3), (5, .int p4)]) hx hb dX9_feed_71 hl (by decide) rfl (fun ls hl => ?_)
  refine lv_aload_n hx hb dX9_feed_73 rfl (lv_at hl 2 rfl) ?_
  refine va_get (D := (dC, dI)) (ci := 8) (v := .ref (r 1)) (C := RX9) (T := TX9) (N := 62) hx hb hG inX9 hown hK hP 0 rfl rfl 0 (by decide) (hG _ gw1171) (fun _ h9 => h9) rfl dX9_feed_74 ?_
  refine lv_aload_n hx hb dX9_feed_77 rfl (lv_at hl 2 rfl) ?_
  refine va_get (D := (dC, dI)) (ci := 8) (v := .int 0) (C := RX9) (T := TX9) (N := 62) hx hb hG inX9 hown hK hP 0 rfl rfl 2 (by decide) (hG _ gw1173) (fun _ h9 => h9) rfl dX9_feed_78 ?_
  refine lv_iload hx hb dX9_feed_81 (lv_at hl 1 rfl) ?_
  refine lv_iadd hx hb dX9_feed_83 ?_
  refine wt_c (v := 19) (by decide) ?_
  refine lv_iload hx hb dX9_feed_84 (lv_at hl 0 rfl) ?_
  refine lv_bipush (v := 24) hx hb dX9_feed_86 (by decide) ?_
  refine lv_bipush (v := 8) hx hb dX9_feed_88 (by decide) ?_
  refine lv_iload hx hb dX9_feed_90 (lv_at hl 1 rfl) ?_
  refine lv_iconst (v := 3) hx hb dX9_feed_92 (by decide) ?_
  refine lv_iand hx hb dX9_feed_93 ?_
  refine wt_c (v := 3) (by decide) ?_
  refine lv_imul hx hb dX9_feed_94 ?_
  refine wt_c (v := 24) (by decide) ?_
  refine lv_isub hx hb dX9_feed_95 ?_
  refine wt_c (v := 0) (by decide) ?_
  refine lv_ishr hx hb dX9_feed_96 ?_
  refine lv_topi (fun x154 ex154 => ?_)
  refine lv_i2b (v := _) hx hb dX9_feed_97 rfl ?_
  refine lv_topi (fun x155 ex155 => ?_)
  refine va_bast hx hb hK hP hD hS 1 0 rfl rfl (vin (by decide)) dX9_feed_98 (fun H156 locs hP hD hS => ?_)
  obtain ⟨zf157, ezf157⟩ : ∃ z : Nat → Int32, z = upd zf148 (19 : Int32).toNatClampNeg (vp_nar .byte x155) := ⟨_, rfl⟩
  have hP : va_P (dC, dI) vwCl [(r 0, .inr (8, [.ref (r 1), .ref (r 2), .int 0, .int 0, .int 0, .int (-1), .int 0, .int 0, .int 0, .int 0, .long 0, .ref (r 3), .ref (r 4), .ref (r 5), .ref (r 6), .ref (r 7), .ref (r 8), .ref (r 9), .ref (r 10), .ref (r 11), .ref (r 12), .ref (r 13), .ref (r 14), .ref (r 15), .ref (r 16), .ref (r 17), .ref (r 18), .ref (r 19), .ref (r 20), .ref (r 21), .ref (r 22), .ref (r 23), .ref (r 24), .int 0, .int 0, .int 0, .int 0, .int 0, .int 0, .int 0, .int 0, .int 0, .ref (r 25), .ref (r 26), .ref (r 27), .int 0, .int 0, .ref (r 28), .int 0, .ref (r 29), .ref (r 30), .ref (r 31), .ref (r 32), .ref (r 33), .ref (r 34), .ref (r 35), .ref (r 36), .int 0, .int 0, .int 0, .ref (r 37), .ref (r 38)])), (r 1, .inl ((c 1), 1620, .inl zf157))] H156 := by rw [ezf157]; exact hP
  have hD : va_D A [(r 0, .inr (8, [.ref (r 1), .ref (r 2), .int 0, .int 0, .int 0, .int (-1), .int 0, .int 0, .int 0, .int 0, .long 0, .ref (r 3), .ref (r 4), .ref (r 5), .ref (r 6), .ref (r 7), .ref (r 8), .ref (r 9), .ref (r 10), .ref (r 11), .ref (r 12), .ref (r 13), .ref (r 14), .ref (r 15), .ref (r 16), .ref (r 17), .ref (r 18), .ref (r 19), .ref (r 20), .ref (r 21), .ref (r 22), .ref (r 23), .ref (r 24), .int 0, .int 0, .int 0, .int 0, .int 0, .int 0, .int 0, .int 0, .int 0, .ref (r 25), .ref (r 26), .ref (r 27), .int 0, .int 0, .ref (r 28), .int 0, .ref (r 29), .ref (r 30), .ref (r 31), .ref (r 32), .ref (r 33), .ref (r 34), .ref (r 35), .ref (r 36), .int 0, .int 0, .int 0, .ref (r 37), .ref (r 38)])), (r 1, .inl ((c 1), 1620, .inl zf157))] := by rw [ezf157]; exact hD
  refine lv_iinc (v := 20) (lv' := [(6, .int 20), (7, .int p4), (0, .ref (r 0)), (1, .int p0), (2, .int p1), (3, .int p2), (4, .int p3), (5, .int p4)]) hx hb dX9_feed_99 hl (k := 1) rfl (by decide) (by decide) rfl (fun ls hl => ?_)
  refine lv_goto (tgt := 18) hx hb dX9_feed_102 (by decide) ?_
  refine lv_iload hx hb dX9_feed_18 (lv_at hl 0 rfl) ?_
  refine lv_bipush (v := 20) hx hb dX9_feed_20 (by decide) ?_
  refine lv_icmp_ge (tgt := 105) hx hb dX9_feed_22 (by decide) (fun c_158 => ?_) (fun c_158 => absurd (by decide) c_158)
  refine lv_aload_n hx hb dX9_feed_105 rfl (lv_at hl 2 rfl) ?_
  refine lv_dup hx hb dX9_feed_106 rfl ?_
  refine va_get (D := (dC, dI)) (ci := 8) (v := .int 0) (C := RX9) (T := TX9) (N := 62) hx hb hG inX9 hown hK hP 0 rfl rfl 2 (by decide) (hG _ gw1173) (fun _ h9 => h9) rfl dX9_feed_107 ?_
  refine lv_bipush (v := 20) hx hb dX9_feed_110 (by decide) ?_
  refine lv_iadd hx hb dX9_feed_112 ?_
  refine wt_c (v := 20) (by decide) ?_
  refine va_put (D := (dC, dI)) (ci := 8) (v := .int 20) (ty := .int) (C := RX9) (T := TX9) (N := 62) hx hb hG inX9 tyX9 tyX9_ok nmX9 hown hK hP hD hS 0 rfl rfl 2 (by decide) (hG _ gw1173) (fun _ h9 => h9) rfl (by decide +kernel) rfl rfl (Nat.le_of_ble_eq_true rfl) dX9_feed_113 (fun H159 locs hP hD hS => ?_)
  have hP : va_P (dC, dI) vwCl [(r 0, .inr (8, [.ref (r 1), .ref (r 2), .int 20, .int 0, .int 0, .int (-1), .int 0, .int 0, .int 0, .int 0, .long 0, .ref (r 3), .ref (r 4), .ref (r 5), .ref (r 6), .ref (r 7), .ref (r 8), .ref (r 9), .ref (r 10), .ref (r 11), .ref (r 12), .ref (r 13), .ref (r 14), .ref (r 15), .ref (r 16), .ref (r 17), .ref (r 18), .ref (r 19), .ref (r 20), .ref (r 21), .ref (r 22), .ref (r 23), .ref (r 24), .int 0, .int 0, .int 0, .int 0, .int 0, .int 0, .int 0, .int 0, .int 0, .ref (r 25), .ref (r 26), .ref (r 27), .int 0, .int 0, .ref (r 28), .int 0, .ref (r 29), .ref (r 30), .ref (r 31), .ref (r 32), .ref (r 33), .ref (r 34), .ref (r 35), .ref (r 36), .int 0, .int 0, .int 0, .ref (r 37), .ref (r 38)])), (r 1, .inl ((c 1), 1620, .inl zf157))] H159 := hP
  have hD : va_D A [(r 0, .inr (8, [.ref (r 1), .ref (r 2), .int 20, .int 0, .int 0, .int (-1), .int 0, .int 0, .int 0, .int 0, .long 0, .ref (r 3), .ref (r 4), .ref (r 5), .ref (r 6), .ref (r 7), .ref (r 8), .ref (r 9), .ref (r 10), .ref (r 11), .ref (r 12), .ref (r 13), .ref (r 14), .ref (r 15), .ref (r 16), .ref (r 17), .ref (r 18), .ref (r 19), .ref (r 20), .ref (r 21), .ref (r 22), .ref (r 23), .ref (r 24), .int 0, .int 0, .int 0, .int 0, .int 0, .int 0, .int 0, .int 0, .int 0, .ref (r 25), .ref (r 26), .ref (r 27), .int 0, .int 0, .ref (r 28), .int 0, .ref (r 29), .ref (r 30), .ref (r 31), .ref (r 32), .ref (r 33), .ref (r 34), .ref (r 35), .ref (r 36), .int 0, .int 0, .int 0, .ref (r 37), .ref (r 38)])), (r 1, .inl ((c 1), 1620, .inl zf157))] := hD
  refine lv_aload_n hx hb dX9_feed_116 rfl (lv_at hl 2 rfl) ?_
  refine va_get (D := (dC, dI)) (ci := 8) (v := .int 20) (C := RX9) (T := TX9) (N := 62) hx hb hG inX9 hown hK hP 0 rfl rfl 2 (by decide) (hG _ gw1173) (fun _ h9 => h9) rfl dX9_feed_117 ?_
  exact W.iret (v := 20) hx hb hr (fun t ht hW => ⟨⟨20, (), rfl, rfl, trivial⟩, hS.F ht⟩) hS.2.2 dX9_feed_120
set_option maxHeartbeats 4000000 in
set_option maxRecDepth 100000 in
theorem kX8_end (l : Launch) (dC : Nat → ClassId) (dI : Nat → Nat → Nat) (r : Nat → Nat) (c : Nat → ClassId) (p0 : Int32) (sz : Nat) : Met l yX8_end (.code yX8_end cX8_end 2 (some .int) :: GW) { frames := 2, cells := 0, slots := 0, locals := 100 } (va_Pc [.ref (r 0), .int p0] (pW (dC, dI) [(r 0, .inr (7, [.ref (r 1), .int 0, .ref (r 2), .ref (r 55), .ref (r 57), .ref (r 30), .ref (r 56), .ref (r 36), .ref (r 37), .ref (r 38), .int 0, .ref (r 51), .int 0, .ref (r 52), .ref (r 53), .ref (r 54)]))] [] sz)) (va_Qi (fun (r0 : Int32) (u : Nat) => (u = 0 ∧ p0 < 0 ∧ r0 = (-1)) ∨ (u = 1 ∧ ¬ p0 < 0 ∧ p0 ≤ 0 ∧ r0 = p0) ∨ (u = 2 ∧ ¬ p0 < 0 ∧ ¬ p0 ≤ 0 ∧ r0 = (-1))) (fun _ _ => True) (va_A [(r 0, .inr (7, [.ref (r 1), .int 0, .ref (r 2), .ref (r 55), .ref (r 57), .ref (r 30), .ref (r 56), .ref (r 36), .ref (r 37), .ref (r 38), .int 0, .ref (r 51), .int 0, .ref (r 52), .ref (r 53), .ref (r 54)]))] sz)) 0 0 (va_A [(r 0, .inr (7, [.ref (r 1), .int 0, .ref (r 2), .ref (r 55), .ref (r 57), .ref (r 30), .ref (r 56), .ref (r 36), .ref (r 37), .ref (r 38), .int 0, .ref (r 51), .int 0, .ref (r 52), .ref (r 53), .ref (r 54)]))] sz) := by
  refine Met.ofW (cc := cX8_end) (maxL := 2) (ret := (some .int)) (by decide) rfl ?_
  intro p e s m args below meth c0 s₁ B hml hv
  obtain ⟨rfl, hsz, hP, hK, hD0⟩ := hv
  have hx := B.exec
  have hb := B.bytes
  have hr := B.returns
  have hts := atoms_spec (ws := .code yX8_end cX8_end 2 (some .int) :: GW) B.pre
  have hG : ∀ w ∈ GW, w.before _ s = true := fun w h => hts w (List.mem_cons_of_mem _ h)
  have hown : s.vm.findClass RX8 = some m.cls := findClass_of_methodNamed B.named
  have hlocks := B.notSynchronized
  subst hsz
  have hD := hD0.self (sz := s.heap.size)
  generalize hAe : va_A [(r 0, .inr (7, [.ref (r 1), .int 0, .ref (r 2), .ref (r 55), .ref (r 57), .ref (r 30), .ref (r 56), .ref (r 36), .ref (r 37), .ref (r 38), .int 0, .ref (r 51), .int 0, .ref (r 52), .ref (r 53), .ref (r 54)]))] s.heap.size = A at hD ⊢
  have hA : ∀ q : Nat, s.heap.size ≤ q → A q := fun q h => by rw [← hAe]; exact Or.inr h
  have hS : va_S A s.heap s.heap [] := va_S.rf
  have hP : va_P (dC, dI) vwCl [(r 0, .inr (7, [.ref (r 1), .int 0, .ref (r 2), .ref (r 55), .ref (r 57), .ref (r 30), .ref (r 56), .ref (r 36), .ref (r 37), .ref (r 38), .int 0, .ref (r 51), .int 0, .ref (r 52), .ref (r 53), .ref (r 54)]))] s.heap := hP
  have hl := lv_entry ([.ref (r 0), .int p0]) (n := 2) (Nat.le_of_ble_eq_true rfl)
  rw [lg_entry_eq]
  generalize (lg_sl ([.ref (r 0), .int p0]) ++ List.replicate (2 - (lg_sl ([.ref (r 0), .int p0])).length) Slot.unset).toArray = ls at hl ⊢
  have hl : lv_has ls 2 [(0, .ref (r 0)), (1, .int p0)] := hl
  refine lv_iload_n hx hb dX8_end_0 rfl (lv_at hl 1 rfl) ?_
  refine lv_if_lt (tgt := 12) hx hb dX8_end_1 (by decide) (fun c_1 => ?_) (fun c_1 => ?_)
  · skip
    refine lv_iconst (v := (-1)) hx hb dX8_end_12 (by decide) ?_
    exact W.iret (v := (-1)) hx hb hr (fun t ht hW => ⟨⟨(-1), 0, rfl, (Or.inl ⟨rfl, c_1, rfl⟩), trivial⟩, hS.F ht⟩) hS.2.2 dX8_end_13
  · skip
    refine lv_iload_n hx hb dX8_end_4 rfl (lv_at hl 1 rfl) ?_
    refine lv_aload_n hx hb dX8_end_5 rfl (lv_at hl 0 rfl) ?_
    refine va_get (D := (dC, dI)) (ci := 7) (v := .int 0) (C := RX8) (T := TX8) (N := 16) hx hb hG inX8 hown hK hP 0 rfl rfl 1 (by decide) (hG _ gw469) (fun _ h9 => h9) rfl dX8_end_6 ?_
    refine lv_icmp_le (tgt := 14) hx hb dX8_end_9 (by decide) (fun c_2 => ?_) (fun c_2 => ?_)
    · skip
      refine lv_aload_n hx hb dX8_end_14 rfl (lv_at hl 0 rfl) ?_
      refine lv_iload_n hx hb dX8_end_15 rfl (lv_at hl 1 rfl) ?_
      refine va_put (D := (dC, dI)) (ci := 7) (v := .int p0) (ty := .int) (C := RX8) (T := TX8) (N := 16) hx hb hG inX8 tyX8 tyX8_ok nmX8 hown hK hP hD hS 0 rfl rfl 1 (by decide) (hG _ gw469) (fun _ h9 => h9) rfl (by decide +kernel) rfl rfl (Nat.le_of_ble_eq_true rfl) dX8_end_16 (fun H3 locs hP hD hS => ?_)
      have hP : va_P (dC, dI) vwCl [(r 0, .inr (7, [.ref (r 1), .int p0, .ref (r 2), .ref (r 55), .ref (r 57), .ref (r 30), .ref (r 56), .ref (r 36), .ref (r 37), .ref (r 38), .int 0, .ref (r 51), .int 0, .ref (r 52), .ref (r 53), .ref (r 54)]))] H3 := hP
      have hD : va_D A [(r 0, .inr (7, [.ref (r 1), .int p0, .ref (r 2), .ref (r 55), .ref (r 57), .ref (r 30), .ref (r 56), .ref (r 36), .ref (r 37), .ref (r 38), .int 0, .ref (r 51), .int 0, .ref (r 52), .ref (r 53), .ref (r 54)]))] := hD
      refine lv_iload_n hx hb dX8_end_19 rfl (lv_at hl 1 rfl) ?_
      exact W.iret (v := p0) hx hb hr (fun t ht hW => ⟨⟨p0, 1, rfl, (Or.inr (Or.inl ⟨rfl, c_1, c_2, rfl⟩)), trivial⟩, hS.F ht⟩) hS.2.2 dX8_end_20
    · skip
      refine lv_iconst (v := (-1)) hx hb dX8_end_12 (by decide) ?_
      exact W.iret (v := (-1)) hx hb hr (fun t ht hW => ⟨⟨(-1), 2, rfl, (Or.inr (Or.inr ⟨rfl, c_1, c_2, rfl⟩)), trivial⟩, hS.F ht⟩) hS.2.2 dX8_end_13
set_option maxHeartbeats 4000000 in
set_option maxRecDepth 100000 in
theorem kX9_end (l : Launch) (dC : Nat → ClassId) (dI : Nat → Nat → Nat) (r : Nat → Nat) (c : Nat → ClassId) (p0 : Int32) (sz : Nat) : Met l yX9_end (.code yX9_end cX9_end 2 (some .int) :: GW) { frames := 2, cells := 0, slots := 0, locals := 100 } (va_Pc [.ref (r 0), .int p0] (pW (dC, dI) [(r 0, .inr (8, [.ref (r 1), .ref (r 2), .int 0, .int 0, .int 0, .int (-1), .int 0, .int 0, .int 0, .int 0, .long 0, .ref (r 3), .ref (r 4), .ref (r 5), .ref (r 6), .ref (r 7), .ref (r 8), .ref (r 9), .ref (r 10), .ref (r 11), .ref (r 12), .ref (r 13), .ref (r 14), .ref (r 15), .ref (r 16), .ref (r 17), .ref (r 18), .ref (r 19), .ref (r 20), .ref (r 21), .ref (r 22), .ref (r 23), .ref (r 24), .int 0, .int 0, .int 0, .int 0, .int 0, .int 0, .int 0, .int 0, .int 0, .ref (r 25), .ref (r 26), .ref (r 27), .int 0, .int 0, .ref (r 28), .int 0, .ref (r 29), .ref (r 30), .ref (r 31), .ref (r 32), .ref (r 33), .ref (r 34), .ref (r 35), .ref (r 36), .int 0, .int 0, .int 0, .ref (r 37), .ref (r 38)]))] [] sz)) (va_Qi (fun (r0 : Int32) (u : Nat) => (u = 0 ∧ p0 < 0 ∧ r0 = (-1)) ∨ (u = 1 ∧ ¬ p0 < 0 ∧ p0 ≤ 0 ∧ r0 = p0) ∨ (u = 2 ∧ ¬ p0 < 0 ∧ ¬ p0 ≤ 0 ∧ r0 = (-1))) (fun _ _ => True) (va_A [(r 0, .inr (8, [.ref (r 1), .ref (r 2), .int 0, .int 0, .int 0, .int (-1), .int 0, .int 0, .int 0, .int 0, .long 0, .ref (r 3), .ref (r 4), .ref (r 5), .ref (r 6), .ref (r 7), .ref (r 8), .ref (r 9), .ref (r 10), .ref (r 11), .ref (r 12), .ref (r 13), .ref (r 14), .ref (r 15), .ref (r 16), .ref (r 17), .ref (r 18), .ref (r 19), .ref (r 20), .ref (r 21), .ref (r 22), .ref (r 23), .ref (r 24), .int 0, .int 0, .int 0, .int 0, .int 0, .int 0, .int 0, .int 0, .int 0, .ref (r 25), .ref (r 26), .ref (r 27), .int 0, .int 0, .ref (r 28), .int 0, .ref (r 29), .ref (r 30), .ref (r 31), .ref (r 32), .ref (r 33), .ref (r 34), .ref (r 35), .ref (r 36), .int 0, .int 0, .int 0, .ref (r 37), .ref (r 38)]))] sz)) 0 0 (va_A [(r 0, .inr (8, [.ref (r 1), .ref (r 2), .int 0, .int 0, .int 0, .int (-1), .int 0, .int 0, .int 0, .int 0, .long 0, .ref (r 3), .ref (r 4), .ref (r 5), .ref (r 6), .ref (r 7), .ref (r 8), .ref (r 9), .ref (r 10), .ref (r 11), .ref (r 12), .ref (r 13), .ref (r 14), .ref (r 15), .ref (r 16), .ref (r 17), .ref (r 18), .ref (r 19), .ref (r 20), .ref (r 21), .ref (r 22), .ref (r 23), .ref (r 24), .int 0, .int 0, .int 0, .int 0, .int 0, .int 0, .int 0, .int 0, .int 0, .ref (r 25), .ref (r 26), .ref (r 27), .int 0, .int 0, .ref (r 28), .int 0, .ref (r 29), .ref (r 30), .ref (r 31), .ref (r 32), .ref (r 33), .ref (r 34), .ref (r 35), .ref (r 36), .int 0, .int 0, .int 0, .ref (r 37), .ref (r 38)]))] sz) := by
  refine Met.ofW (cc := cX9_end) (maxL := 2) (ret := (some .int)) (by decide) rfl ?_
  intro p e s m args below meth c0 s₁ B hml hv
  obtain ⟨rfl, hsz, hP, hK, hD0⟩ := hv
  have hx := B.exec
  have hb := B.bytes
  have hr := B.returns
  have hts := atoms_spec (ws := .code yX9_end cX9_end 2 (some .int) :: GW) B.pre
  have hG : ∀ w ∈ GW, w.before _ s = true := fun w h => hts w (List.mem_cons_of_mem _ h)
  have hown : s.vm.findClass RX9 = some m.cls := findClass_of_methodNamed B.named
  have hlocks := B.notSynchronized
  subst hsz
  have hD := hD0.self (sz := s.heap.size)
  generalize hAe : va_A [(r 0, .inr (8, [.ref (r 1), .ref (r 2), .int 0, .int 0, .int 0, .int (-1), .int 0, .int 0, .int 0, .int 0, .long 0, .ref (r 3), .ref (r 4), .ref (r 5), .ref (r 6), .ref (r 7), .ref (r 8), .ref (r 9), .ref (r 10), .ref (r 11), .ref (r 12), .ref (r 13), .ref (r 14), .ref (r 15), .ref (r 16), .ref (r 17), .ref (r 18), .ref (r 19), .ref (r 20), .ref (r 21), .ref (r 22), .ref (r 23), .ref (r 24), .int 0, .int 0, .int 0, .int 0, .int 0, .int 0, .int 0, .int 0, .int 0, .ref (r 25), .ref (r 26), .ref (r 27), .int 0, .int 0, .ref (r 28), .int 0, .ref (r 29), .ref (r 30), .ref (r 31), .ref (r 32), .ref (r 33), .ref (r 34), .ref (r 35), .ref (r 36), .int 0, .int 0, .int 0, .ref (r 37), .ref (r 38)]))] s.heap.size = A at hD ⊢
  have hA : ∀ q : Nat, s.heap.size ≤ q → A q := fun q h => by rw [← hAe]; exact Or.inr h
  have hS : va_S A s.heap s.heap [] := va_S.rf
  have hP : va_P (dC, dI) vwCl [(r 0, .inr (8, [.ref (r 1), .ref (r 2), .int 0, .int 0, .int 0, .int (-1), .int 0, .int 0, .int 0, .int 0, .long 0, .ref (r 3), .ref (r 4), .ref (r 5), .ref (r 6), .ref (r 7), .ref (r 8), .ref (r 9), .ref (r 10), .ref (r 11), .ref (r 12), .ref (r 13), .ref (r 14), .ref (r 15), .ref (r 16), .ref (r 17), .ref (r 18), .ref (r 19), .ref (r 20), .ref (r 21), .ref (r 22), .ref (r 23), .ref (r 24), .int 0, .int 0, .int 0, .int 0, .int 0, .int 0, .int 0, .int 0, .int 0, .ref (r 25), .ref (r 26), .ref (r 27), .int 0, .int 0, .ref (r 28), .int 0, .ref (r 29), .ref (r 30), .ref (r 31), .ref (r 32), .ref (r 33), .ref (r 34), .ref (r 35), .ref (r 36), .int 0, .int 0, .int 0, .ref (r 37), .ref (r 38)]))] s.heap := hP
  have hl := lv_entry ([.ref (r 0), .int p0]) (n := 2) (Nat.le_of_ble_eq_true rfl)
  rw [lg_entry_eq]
  generalize (lg_sl ([.ref (r 0), .int p0]) ++ List.replicate (2 - (lg_sl ([.ref (r 0), .int p0])).length) Slot.unset).toArray = ls at hl ⊢
  have hl : lv_has ls 2 [(0, .ref (r 0)), (1, .int p0)] := hl
  refine lv_iload_n hx hb dX9_end_0 rfl (lv_at hl 1 rfl) ?_
  refine lv_if_lt (tgt := 12) hx hb dX9_end_1 (by decide) (fun c_1 => ?_) (fun c_1 => ?_)
  · skip
    refine lv_iconst (v := (-1)) hx hb dX9_end_12 (by decide) ?_
    exact W.iret (v := (-1)) hx hb hr (fun t ht hW => ⟨⟨(-1), 0, rfl, (Or.inl ⟨rfl, c_1, rfl⟩), trivial⟩, hS.F ht⟩) hS.2.2 dX9_end_13
  · skip
    refine lv_iload_n hx hb dX9_end_4 rfl (lv_at hl 1 rfl) ?_
    refine lv_aload_n hx hb dX9_end_5 rfl (lv_at hl 0 rfl) ?_
    refine va_get (D := (dC, dI)) (ci := 8) (v := .int 0) (C := RX9) (T := TX9) (N := 62) hx hb hG inX9 hown hK hP 0 rfl rfl 2 (by decide) (hG _ gw1173) (fun _ h9 => h9) rfl dX9_end_6 ?_
    refine lv_icmp_le (tgt := 14) hx hb dX9_end_9 (by decide) (fun c_2 => ?_) (fun c_2 => ?_)
    · skip
      refine lv_aload_n hx hb dX9_end_14 rfl (lv_at hl 0 rfl) ?_
      refine lv_iload_n hx hb dX9_end_15 rfl (lv_at hl 1 rfl) ?_
      refine va_put (D := (dC, dI)) (ci := 8) (v := .int p0) (ty := .int) (C := RX9) (T := TX9) (N := 62) hx hb hG inX9 tyX9 tyX9_ok nmX9 hown hK hP hD hS 0 rfl rfl 2 (by decide) (hG _ gw1173) (fun _ h9 => h9) rfl (by decide +kernel) rfl rfl (Nat.le_of_ble_eq_true rfl) dX9_end_16 (fun H3 locs hP hD hS => ?_)
      have hP : va_P (dC, dI) vwCl [(r 0, .inr (8, [.ref (r 1), .ref (r 2), .int p0, .int 0, .int 0, .int (-1), .int 0, .int 0, .int 0, .int 0, .long 0, .ref (r 3), .ref (r 4), .ref (r 5), .ref (r 6), .ref (r 7), .ref (r 8), .ref (r 9), .ref (r 10), .ref (r 11), .ref (r 12), .ref (r 13), .ref (r 14), .ref (r 15), .ref (r 16), .ref (r 17), .ref (r 18), .ref (r 19), .ref (r 20), .ref (r 21), .ref (r 22), .ref (r 23), .ref (r 24), .int 0, .int 0, .int 0, .int 0, .int 0, .int 0, .int 0, .int 0, .int 0, .ref (r 25), .ref (r 26), .ref (r 27), .int 0, .int 0, .ref (r 28), .int 0, .ref (r 29), .ref (r 30), .ref (r 31), .ref (r 32), .ref (r 33), .ref (r 34), .ref (r 35), .ref (r 36), .int 0, .int 0, .int 0, .ref (r 37), .ref (r 38)]))] H3 := hP
      have hD : va_D A [(r 0, .inr (8, [.ref (r 1), .ref (r 2), .int p0, .int 0, .int 0, .int (-1), .int 0, .int 0, .int 0, .int 0, .long 0, .ref (r 3), .ref (r 4), .ref (r 5), .ref (r 6), .ref (r 7), .ref (r 8), .ref (r 9), .ref (r 10), .ref (r 11), .ref (r 12), .ref (r 13), .ref (r 14), .ref (r 15), .ref (r 16), .ref (r 17), .ref (r 18), .ref (r 19), .ref (r 20), .ref (r 21), .ref (r 22), .ref (r 23), .ref (r 24), .int 0, .int 0, .int 0, .int 0, .int 0, .int 0, .int 0, .int 0, .int 0, .ref (r 25), .ref (r 26), .ref (r 27), .int 0, .int 0, .ref (r 28), .int 0, .ref (r 29), .ref (r 30), .ref (r 31), .ref (r 32), .ref (r 33), .ref (r 34), .ref (r 35), .ref (r 36), .int 0, .int 0, .int 0, .ref (r 37), .ref (r 38)]))] := hD
      refine lv_iload_n hx hb dX9_end_19 rfl (lv_at hl 1 rfl) ?_
      exact W.iret (v := p0) hx hb hr (fun t ht hW => ⟨⟨p0, 1, rfl, (Or.inr (Or.inl ⟨rfl, c_1, c_2, rfl⟩)), trivial⟩, hS.F ht⟩) hS.2.2 dX9_end_20
    · skip
      refine lv_iconst (v := (-1)) hx hb dX9_end_12 (by decide) ?_
      exact W.iret (v := (-1)) hx hb hr (fun t ht hW => ⟨⟨(-1), 2, rfl, (Or.inr (Or.inr ⟨rfl, c_1, c_2, rfl⟩)), trivial⟩, hS.F ht⟩) hS.2.2 dX9_end_13
set_option maxHeartbeats 4000000 in
set_option maxRecDepth 100000 in
theorem kX6_scanToken (l : Launch) (dC : Nat → ClassId) (dI : Nat → Nat → Nat) (a0 a2 a3 a4 a1 : Nat) (c3 : ClassId) (sz : Nat) : Met l yX6_scanToken (.code yX6_scanToken cX6_scanToken 4 (some .int) :: GW) { frames := 2, cells := 0, slots := 0, locals := 100 } (va_Pc [.ref a0, .ref a1, .int 0] (pW (dC, dI) [(a0, .inr (5, [.ref a2, .ref a3, .ref a4, .int 0, .int 0])), (a3, .inl (c3, 1601, .inl (fun _ => 0)))] [(c3, .int)] sz)) (va_Qi (fun (r0 : Int32) (_ : Unit) => r0 = 1) (fun (_ : Unit) (t : State) => ∃ (F0 : Nat → Int32), va_P (dC, dI) vwCl [(a0, .inr (5, [.ref a2, .ref a3, .ref a4, .int 0, .int 0])), (a3, .inl (c3, 1601, .inl F0))] t.heap ∧ va_D (va_A [(a0, .inr (5, [.ref a2, .ref a3, .ref a4, .int 0, .int 0])), (a3, .inl (c3, 1601, .inl (fun _ => 0)))] sz) [(a0, .inr (5, [.ref a2, .ref a3, .ref a4, .int 0, .int 0])), (a3, .inl (c3, 1601, .inl F0))]) (va_A [(a0, .inr (5, [.ref a2, .ref a3, .ref a4, .int 0, .int 0])), (a3, .inl (c3, 1601, .inl (fun _ => 0)))] sz)) 0 0 (va_A [(a0, .inr (5, [.ref a2, .ref a3, .ref a4, .int 0, .int 0])), (a3, .inl (c3, 1601, .inl (fun _ => 0)))] sz) := by
  refine Met.ofW (cc := cX6_scanToken) (maxL := 4) (ret := (some .int)) (by decide) rfl ?_
  intro p e s m args below meth c0 s₁ B hml hv
  obtain ⟨rfl, hsz, hP, hK, hD0⟩ := hv
  have hx := B.exec
  have hb := B.bytes
  have hr := B.returns
  have hts := atoms_spec (ws := .code yX6_scanToken cX6_scanToken 4 (some .int) :: GW) B.pre
  have hG : ∀ w ∈ GW, w.before _ s = true := fun w h => hts w (List.mem_cons_of_mem _ h)
  have hown : s.vm.findClass RX6 = some m.cls := findClass_of_methodNamed B.named
  have hlocks := B.notSynchronized
  subst hsz
  have hD := hD0.self (sz := s.heap.size)
  generalize hAe : va_A [(a0, .inr (5, [.ref a2, .ref a3, .ref a4, .int 0, .int 0])), (a3, .inl (c3, 1601, .inl (fun _ => 0)))] s.heap.size = A at hD ⊢
  have hA : ∀ q : Nat, s.heap.size ≤ q → A q := fun q h => by rw [← hAe]; exact Or.inr h
  have hS : va_S A s.heap s.heap [] := va_S.rf
  have hP : va_P (dC, dI) vwCl [(a0, .inr (5, [.ref a2, .ref a3, .ref a4, .int 0, .int 0])), (a3, .inl (c3, 1601, .inl (fun _ => 0)))] s.heap := hP
  have hl := lv_entry ([.ref a0, .ref a1, .int 0]) (n := 4) (Nat.le_of_ble_eq_true rfl)
  rw [lg_entry_eq]
  generalize (lg_sl ([.ref a0, .ref a1, .int 0]) ++ List.replicate (4 - (lg_sl ([.ref a0, .ref a1, .int 0])).length) Slot.unset).toArray = ls at hl ⊢
  have hl : lv_has ls 4 [(0, .ref a0), (1, .ref a1), (2, .int 0)] := hl
  refine lv_iconst (v := 0) hx hb dX6_scanToken_0 (by decide) ?_
  refine lv_istore_n (lv' := [(3, .int 0), (0, .ref a0), (1, .ref a1), (2, .int 0)]) hx hb dX6_scanToken_1 rfl hl (by decide) rfl (fun ls hl => ?_)
  refine lv_iload_n hx hb dX6_scanToken_2 rfl (lv_at hl 0 rfl) ?_
  refine lv_sipush (v := 1600) hx hb dX6_scanToken_3 (by decide) ?_
  refine lv_icmp_ge (tgt := 55) hx hb dX6_scanToken_6 (by decide) (fun c_1 => absurd c_1 (by decide)) (fun c_1 => ?_)
  refine lv_aload_n hx hb dX6_scanToken_9 rfl (lv_at hl 1 rfl) ?_
  refine va_get (D := (dC, dI)) (ci := 5) (v := .int 0) (C := RX6) (T := TX6) (N := 5) hx hb hG inX6 hown hK hP 0 rfl rfl 4 (by decide) (hG _ gw173) (fun _ h9 => h9) rfl dX6_scanToken_10 ?_
  refine lv_iload_n hx hb dX6_scanToken_13 rfl (lv_at hl 3 rfl) ?_
  refine lv_icmp_ge (tgt := 55) hx hb dX6_scanToken_14 (by decide) (fun c_2 => ?_) (fun c_2 => absurd (by decide) c_2)
  refine lv_aload_n hx hb dX6_scanToken_55 rfl (lv_at hl 1 rfl) ?_
  refine va_get (D := (dC, dI)) (ci := 5) (v := .ref a3) (C := RX6) (T := TX6) (N := 5) hx hb hG inX6 hown hK hP 0 rfl rfl 1 (by decide) (hG _ gw168) (fun _ h9 => h9) rfl dX6_scanToken_56 ?_
  refine lv_aload_n hx hb dX6_scanToken_59 rfl (lv_at hl 1 rfl) ?_
  refine va_get (D := (dC, dI)) (ci := 5) (v := .int 0) (C := RX6) (T := TX6) (N := 5) hx hb hG inX6 hown hK hP 0 rfl rfl 3 (by decide) (hG _ gw172) (fun _ h9 => h9) rfl dX6_scanToken_60 ?_
  refine lv_aload_n hx hb dX6_scanToken_63 rfl (lv_at hl 1 rfl) ?_
  refine va_get (D := (dC, dI)) (ci := 5) (v := .int 0) (C := RX6) (T := TX6) (N := 5) hx hb hG inX6 hown hK hP 0 rfl rfl 4 (by decide) (hG _ gw173) (fun _ h9 => h9) rfl dX6_scanToken_64 ?_
  refine va_iast hx hb hK hP hD hS 1 0 rfl rfl (vin (by decide)) dX6_scanToken_67 (fun H3 locs hP hD hS => ?_)
  obtain ⟨zf4, ezf4⟩ : ∃ z : Nat → Int32, z = upd (fun _ => 0) (0 : Int32).toNatClampNeg 0 := ⟨_, rfl⟩
  have hP : va_P (dC, dI) vwCl [(a0, .inr (5, [.ref a2, .ref a3, .ref a4, .int 0, .int 0])), (a3, .inl (c3, 1601, .inl zf4))] H3 := by rw [ezf4]; exact hP
  have hD : va_D A [(a0, .inr (5, [.ref a2, .ref a3, .ref a4, .int 0, .int 0])), (a3, .inl (c3, 1601, .inl zf4))] := by rw [ezf4]; exact hD
  refine lv_aload_n hx hb dX6_scanToken_68 rfl (lv_at hl 1 rfl) ?_
  refine va_get (D := (dC, dI)) (ci := 5) (v := .int 0) (C := RX6) (T := TX6) (N := 5) hx hb hG inX6 hown hK hP 0 rfl rfl 4 (by decide) (hG _ gw173) (fun _ h9 => h9) rfl dX6_scanToken_69 ?_
  refine lv_iload_n hx hb dX6_scanToken_72 rfl (lv_at hl 3 rfl) ?_
  refine lv_icmp_lt (tgt := 78) hx hb dX6_scanToken_73 (by decide) (fun c_5 => absurd c_5 (by decide)) (fun c_5 => ?_)
  refine lv_iconst (v := 1) hx hb dX6_scanToken_76 (by decide) ?_
  have hP9 := hP.sub (ws' := [(a0, .inr (5, [.ref a2, .ref a3, .ref a4, .int 0, .int 0])), (a3, .inl (c3, 1601, .inl zf4))]) [0, 1] rfl
  have hD9 := hD.sub (ws' := [(a0, .inr (5, [.ref a2, .ref a3, .ref a4, .int 0, .int 0])), (a3, .inl (c3, 1601, .inl zf4))]) [0, 1] (by decide) rfl
  exact W.iret (v := 1) hx hb hr (fun t ht hW => ⟨⟨1, (), rfl, rfl, ⟨zf4, by rw [ht]; exact hP9, hD9⟩⟩, hS.F ht⟩) hS.2.2 dX6_scanToken_77
