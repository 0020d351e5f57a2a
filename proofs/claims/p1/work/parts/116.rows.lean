set_option maxHeartbeats 4000000 in
set_option maxRecDepth 100000 in
theorem kX7_writeTo_v4 (l : Launch) (dC : Nat → ClassId) (dI : Nat → Nat → Nat) (a0 a2 a3 a4 a5 a6 a1 : Nat) (c1 c2 c3 c4 c5 c6 : ClassId) (f2 : Nat → Int32) (f3 : Nat → Int32) (f4 : Nat → Int32) (f5 : Nat → Int32) (f6 : Nat → Int32) (sz : Nat) : Met l yX7_writeTo (.code yX7_writeTo cX7_writeTo 4 none :: GW) { frames := 2, cells := 0, slots := 0, locals := 100 } (va_Pc [.ref a0, .ref a1, .int 1] (pW (dC, dI) [(a0, .inr (6, [.ref a2, .ref a3, .ref a4, .ref a5, .ref a6, .int 0, .int 0])), (a1, .inl (c1, 78, .inl (fun _ => 0))), (a2, .inl (c2, 5, .inl f2)), (a3, .inl (c3, 5, .inl f3)), (a4, .inl (c4, 5, .inl f4)), (a5, .inl (c5, 5, .inl f5)), (a6, .inl (c6, 4, .inl f6))] [(c1, .int), (c2, .int), (c3, .int), (c4, .int), (c5, .int), (c6, .int)] sz)) (va_Qv (fun _ : Unit => True) (fun (_ : Unit) (t : State) => ∃ (F0 : Nat → Int32), va_P (dC, dI) vwCl [(a0, .inr (6, [.ref a2, .ref a3, .ref a4, .ref a5, .ref a6, .int 0, .int 0])), (a1, .inl (c1, 78, .inl F0)), (a2, .inl (c2, 5, .inl f2)), (a3, .inl (c3, 5, .inl f3)), (a4, .inl (c4, 5, .inl f4)), (a5, .inl (c5, 5, .inl f5)), (a6, .inl (c6, 4, .inl f6))] t.heap ∧ va_D (va_A [(a0, .inr (6, [.ref a2, .ref a3, .ref a4, .ref a5, .ref a6, .int 0, .int 0])), (a1, .inl (c1, 78, .inl (fun _ => 0))), (a2, .inl (c2, 5, .inl f2)), (a3, .inl (c3, 5, .inl f3)), (a4, .inl (c4, 5, .inl f4)), (a5, .inl (c5, 5, .inl f5)), (a6, .inl (c6, 4, .inl f6))] sz) [(a0, .inr (6, [.ref a2, .ref a3, .ref a4, .ref a5, .ref a6, .int 0, .int 0])), (a1, .inl (c1, 78, .inl F0)), (a2, .inl (c2, 5, .inl f2)), (a3, .inl (c3, 5, .inl f3)), (a4, .inl (c4, 5, .inl f4)), (a5, .inl (c5, 5, .inl f5)), (a6, .inl (c6, 4, .inl f6))]) (va_A [(a0, .inr (6, [.ref a2, .ref a3, .ref a4, .ref a5, .ref a6, .int 0, .int 0])), (a1, .inl (c1, 78, .inl (fun _ => 0))), (a2, .inl (c2, 5, .inl f2)), (a3, .inl (c3, 5, .inl f3)), (a4, .inl (c4, 5, .inl f4)), (a5, .inl (c5, 5, .inl f5)), (a6, .inl (c6, 4, .inl f6))] sz)) 0 0 (va_A [(a0, .inr (6, [.ref a2, .ref a3, .ref a4, .ref a5, .ref a6, .int 0, .int 0])), (a1, .inl (c1, 78, .inl (fun _ => 0))), (a2, .inl (c2, 5, .inl f2)), (a3, .inl (c3, 5, .inl f3)), (a4, .inl (c4, 5, .inl f4)), (a5, .inl (c5, 5, .inl f5)), (a6, .inl (c6, 4, .inl f6))] sz) := by
  refine Met.ofW (cc := cX7_writeTo) (maxL := 4) (ret := none) (by decide) rfl ?_
  intro p e s m args below meth c0 s₁ B hml hv
  obtain ⟨rfl, hsz, hP, hK, hD0⟩ := hv
  have hx := B.exec
  have hb := B.bytes
  have hr := B.returns
  have hts := atoms_spec (ws := .code yX7_writeTo cX7_writeTo 4 none :: GW) B.pre
  have hG : ∀ w ∈ GW, w.before _ s = true := fun w h => hts w (List.mem_cons_of_mem _ h)
  have hown : s.vm.findClass RX7 = some m.cls := findClass_of_methodNamed B.named
  have hlocks := B.notSynchronized
  subst hsz
  have hD := hD0.self (sz := s.heap.size)
  generalize hAe : va_A [(a0, .inr (6, [.ref a2, .ref a3, .ref a4, .ref a5, .ref a6, .int 0, .int 0])), (a1, .inl (c1, 78, .inl (fun _ => 0))), (a2, .inl (c2, 5, .inl f2)), (a3, .inl (c3, 5, .inl f3)), (a4, .inl (c4, 5, .inl f4)), (a5, .inl (c5, 5, .inl f5)), (a6, .inl (c6, 4, .inl f6))] s.heap.size = A at hD ⊢
  have hA : ∀ q : Nat, s.heap.size ≤ q → A q := fun q h => by rw [← hAe]; exact Or.inr h
  have hS : va_S A s.heap s.heap [] := va_S.rf
  have hP : va_P (dC, dI) vwCl [(a0, .inr (6, [.ref a2, .ref a3, .ref a4, .ref a5, .ref a6, .int 0, .int 0])), (a1, .inl (c1, 78, .inl (fun _ => 0))), (a2, .inl (c2, 5, .inl f2)), (a3, .inl (c3, 5, .inl f3)), (a4, .inl (c4, 5, .inl f4)), (a5, .inl (c5, 5, .inl f5)), (a6, .inl (c6, 4, .inl f6))] s.heap := hP
  have hl := lv_entry ([.ref a0, .ref a1, .int 1]) (n := 4) (Nat.le_of_ble_eq_true rfl)
  rw [lg_entry_eq]
  generalize (lg_sl ([.ref a0, .ref a1, .int 1]) ++ List.replicate (4 - (lg_sl ([.ref a0, .ref a1, .int 1])).length) Slot.unset).toArray = ls at hl ⊢
  have hl : lv_has ls 4 [(0, .ref a0), (1, .ref a1), (2, .int 1)] := hl
  refine lv_iload_n hx hb dX7_writeTo_0 rfl (lv_at hl 2 rfl) ?_
  refine lv_bipush (v := 26) hx hb dX7_writeTo_1 (by decide) ?_
  refine lv_imul hx hb dX7_writeTo_3 ?_
  refine wt_c (v := 26) (by decide) ?_
  refine lv_istore_n (lv' := [(3, .int 26), (0, .ref a0), (1, .ref a1), (2, .int 1)]) hx hb dX7_writeTo_4 rfl hl (by decide) rfl (fun ls hl => ?_)
  refine lv_iload_n hx hb dX7_writeTo_5 rfl (lv_at hl 0 rfl) ?_
  refine lv_if_lt (tgt := 18) hx hb dX7_writeTo_6 (by decide) (fun c_1 => absurd c_1 (by decide)) (fun c_1 => ?_)
  refine lv_iload_n hx hb dX7_writeTo_9 rfl (lv_at hl 0 rfl) ?_
  refine lv_bipush (v := 26) hx hb dX7_writeTo_10 (by decide) ?_
  refine lv_iadd hx hb dX7_writeTo_12 ?_
  refine wt_c (v := 52) (by decide) ?_
  refine lv_aload_n hx hb dX7_writeTo_13 rfl (lv_at hl 2 rfl) ?_
  refine va_alen (v := 78) hx hb hK hP 1 0 rfl rfl (show Int32.ofNat 78 = 78 by decide) dX7_writeTo_14 ?_
  refine lv_icmp_le (tgt := 19) hx hb dX7_writeTo_15 (by decide) (fun c_2 => ?_) (fun c_2 => absurd (by decide) c_2)
  refine lv_aload_n hx hb dX7_writeTo_19 rfl (lv_at hl 1 rfl) ?_
  refine va_get (D := (dC, dI)) (ci := 6) (v := .ref a2) (C := RX7) (T := TX7) (N := 7) hx hb hG inX7 hown hK hP 0 rfl rfl 0 (by decide) (hG _ gw351) (fun _ h9 => h9) rfl dX7_writeTo_20 ?_
  refine lv_iconst (v := 0) hx hb dX7_writeTo_23 (by decide) ?_
  refine lv_aload_n hx hb dX7_writeTo_24 rfl (lv_at hl 2 rfl) ?_
  refine lv_iload_n hx hb dX7_writeTo_25 rfl (lv_at hl 0 rfl) ?_
  refine lv_iconst (v := 5) hx hb dX7_writeTo_26 (by decide) ?_
  refine va_copyi (ty := .int) hx hb (hml.trans hl.1.symm) hown (hG _ gw465) (hG _ gw467) (hG _ gw466) (hG _ gw137) hK hP hD hS 2 1 1 0 rfl rfl rfl rfl rfl (by decide) (by decide) (by decide) (by decide) (by decide) (fun _ _ => rfl) (Nat.le_of_ble_eq_true rfl) (Nat.le_of_ble_eq_true rfl) dX7_writeTo_27 (fun H3 locs hP hD hS => ?_)
  obtain ⟨zf4, ezf4⟩ : ∃ z : Nat → Int32, z = va_cpy f2 (fun _ => 0) (0 : Int32).toNatClampNeg (26 : Int32).toNatClampNeg (5 : Int32).toNatClampNeg := ⟨_, rfl⟩
  have hP : va_P (dC, dI) vwCl [(a0, .inr (6, [.ref a2, .ref a3, .ref a4, .ref a5, .ref a6, .int 0, .int 0])), (a1, .inl (c1, 78, .inl zf4)), (a2, .inl (c2, 5, .inl f2)), (a3, .inl (c3, 5, .inl f3)), (a4, .inl (c4, 5, .inl f4)), (a5, .inl (c5, 5, .inl f5)), (a6, .inl (c6, 4, .inl f6))] H3 := by rw [ezf4]; exact hP
  have hD : va_D A [(a0, .inr (6, [.ref a2, .ref a3, .ref a4, .ref a5, .ref a6, .int 0, .int 0])), (a1, .inl (c1, 78, .inl zf4)), (a2, .inl (c2, 5, .inl f2)), (a3, .inl (c3, 5, .inl f3)), (a4, .inl (c4, 5, .inl f4)), (a5, .inl (c5, 5, .inl f5)), (a6, .inl (c6, 4, .inl f6))] := by rw [ezf4]; exact hD
  refine lv_aload_n hx hb dX7_writeTo_30 rfl (lv_at hl 1 rfl) ?_
  refine va_get (D := (dC, dI)) (ci := 6) (v := .ref a3) (C := RX7) (T := TX7) (N := 7) hx hb hG inX7 hown hK hP 0 rfl rfl 1 (by decide) (hG _ gw353) (fun _ h9 => h9) rfl dX7_writeTo_31 ?_
  refine lv_iconst (v := 0) hx hb dX7_writeTo_34 (by decide) ?_
  refine lv_aload_n hx hb dX7_writeTo_35 rfl (lv_at hl 2 rfl) ?_
  refine lv_iload_n hx hb dX7_writeTo_36 rfl (lv_at hl 0 rfl) ?_
  refine lv_iconst (v := 5) hx hb dX7_writeTo_37 (by decide) ?_
  refine lv_iadd hx hb dX7_writeTo_38 ?_
  refine wt_c (v := 31) (by decide) ?_
  refine lv_iconst (v := 5) hx hb dX7_writeTo_39 (by decide) ?_
  refine va_copyi (ty := .int) hx hb (hml.trans hl.1.symm) hown (hG _ gw465) (hG _ gw467) (hG _ gw466) (hG _ gw137) hK hP hD hS 3 1 2 0 rfl rfl rfl rfl rfl (by decide) (by decide) (by decide) (by decide) (by decide) (fun _ _ => rfl) (Nat.le_of_ble_eq_true rfl) (Nat.le_of_ble_eq_true rfl) dX7_writeTo_40 (fun H5 locs hP hD hS => ?_)
  obtain ⟨zf6, ezf6⟩ : ∃ z : Nat → Int32, z = va_cpy f3 zf4 (0 : Int32).toNatClampNeg (31 : Int32).toNatClampNeg (5 : Int32).toNatClampNeg := ⟨_, rfl⟩
  have hP : va_P (dC, dI) vwCl [(a0, .inr (6, [.ref a2, .ref a3, .ref a4, .ref a5, .ref a6, .int 0, .int 0])), (a1, .inl (c1, 78, .inl zf6)), (a2, .inl (c2, 5, .inl f2)), (a3, .inl (c3, 5, .inl f3)), (a4, .inl (c4, 5, .inl f4)), (a5, .inl (c5, 5, .inl f5)), (a6, .inl (c6, 4, .inl f6))] H5 := by rw [ezf6]; exact hP
  have hD : va_D A [(a0, .inr (6, [.ref a2, .ref a3, .ref a4, .ref a5, .ref a6, .int 0, .int 0])), (a1, .inl (c1, 78, .inl zf6)), (a2, .inl (c2, 5, .inl f2)), (a3, .inl (c3, 5, .inl f3)), (a4, .inl (c4, 5, .inl f4)), (a5, .inl (c5, 5, .inl f5)), (a6, .inl (c6, 4, .inl f6))] := by rw [ezf6]; exact hD
  refine lv_aload_n hx hb dX7_writeTo_43 rfl (lv_at hl 1 rfl) ?_
  refine va_get (D := (dC, dI)) (ci := 6) (v := .ref a4) (C := RX7) (T := TX7) (N := 7) hx hb hG inX7 hown hK hP 0 rfl rfl 2 (by decide) (hG _ gw355) (fun _ h9 => h9) rfl dX7_writeTo_44 ?_
  refine lv_iconst (v := 0) hx hb dX7_writeTo_47 (by decide) ?_
  refine lv_aload_n hx hb dX7_writeTo_48 rfl (lv_at hl 2 rfl) ?_
  refine lv_iload_n hx hb dX7_writeTo_49 rfl (lv_at hl 0 rfl) ?_
  refine lv_bipush (v := 10) hx hb dX7_writeTo_50 (by decide) ?_
  refine lv_iadd hx hb dX7_writeTo_52 ?_
  refine wt_c (v := 36) (by decide) ?_
  refine lv_iconst (v := 5) hx hb dX7_writeTo_53 (by decide) ?_
  refine va_copyi (ty := .int) hx hb (hml.trans hl.1.symm) hown (hG _ gw465) (hG _ gw467) (hG _ gw466) (hG _ gw137) hK hP hD hS 4 1 3 0 rfl rfl rfl rfl rfl (by decide) (by decide) (by decide) (by decide) (by decide) (fun _ _ => rfl) (Nat.le_of_ble_eq_true rfl) (Nat.le_of_ble_eq_true rfl) dX7_writeTo_54 (fun H7 locs hP hD hS => ?_)
  obtain ⟨zf8, ezf8⟩ : ∃ z : Nat → Int32, z = va_cpy f4 zf6 (0 : Int32).toNatClampNeg (36 : Int32).toNatClampNeg (5 : Int32).toNatClampNeg := ⟨_, rfl⟩
  have hP : va_P (dC, dI) vwCl [(a0, .inr (6, [.ref a2, .ref a3, .ref a4, .ref a5, .ref a6, .int 0, .int 0])), (a1, .inl (c1, 78, .inl zf8)), (a2, .inl (c2, 5, .inl f2)), (a3, .inl (c3, 5, .inl f3)), (a4, .inl (c4, 5, .inl f4)), (a5, .inl (c5, 5, .inl f5)), (a6, .inl (c6, 4, .inl f6))] H7 := by rw [ezf8]; exact hP
  have hD : va_D A [(a0, .inr (6, [.ref a2, .ref a3, .ref a4, .ref a5, .ref a6, .int 0, .int 0])), (a1, .inl (c1, 78, .inl zf8)), (a2, .inl (c2, 5, .inl f2)), (a3, .inl (c3, 5, .inl f3)), (a4, .inl (c4, 5, .inl f4)), (a5, .inl (c5, 5, .inl f5)), (a6, .inl (c6, 4, .inl f6))] := by rw [ezf8]; exact hD
  refine lv_aload_n hx hb dX7_writeTo_57 rfl (lv_at hl 1 rfl) ?_
  refine va_get (D := (dC, dI)) (ci := 6) (v := .ref a5) (C := RX7) (T := TX7) (N := 7) hx hb hG inX7 hown hK hP 0 rfl rfl 3 (by decide) (hG _ gw357) (fun _ h9 => h9) rfl dX7_writeTo_58 ?_
  refine lv_iconst (v := 0) hx hb dX7_writeTo_61 (by decide) ?_
  refine lv_aload_n hx hb dX7_writeTo_62 rfl (lv_at hl 2 rfl) ?_
  refine lv_iload_n hx hb dX7_writeTo_63 rfl (lv_at hl 0 rfl) ?_
  refine lv_bipush (v := 15) hx hb dX7_writeTo_64 (by decide) ?_
  refine lv_iadd hx hb dX7_writeTo_66 ?_
  refine wt_c (v := 41) (by decide) ?_
  refine lv_iconst (v := 5) hx hb dX7_writeTo_67 (by decide) ?_
  refine va_copyi (ty := .int) hx hb (hml.trans hl.1.symm) hown (hG _ gw465) (hG _ gw467) (hG _ gw466) (hG _ gw137) hK hP hD hS 5 1 4 0 rfl rfl rfl rfl rfl (by decide) (by decide) (by decide) (by decide) (by decide) (fun _ _ => rfl) (Nat.le_of_ble_eq_true rfl) (Nat.le_of_ble_eq_true rfl) dX7_writeTo_68 (fun H9 locs hP hD hS => ?_)
  obtain ⟨zf10, ezf10⟩ : ∃ z : Nat → Int32, z = va_cpy f5 zf8 (0 : Int32).toNatClampNeg (41 : Int32).toNatClampNeg (5 : Int32).toNatClampNeg := ⟨_, rfl⟩
  have hP : va_P (dC, dI) vwCl [(a0, .inr (6, [.ref a2, .ref a3, .ref a4, .ref a5, .ref a6, .int 0, .int 0])), (a1, .inl (c1, 78, .inl zf10)), (a2, .inl (c2, 5, .inl f2)), (a3, .inl (c3, 5, .inl f3)), (a4, .inl (c4, 5, .inl f4)), (a5, .inl (c5, 5, .inl f5)), (a6, .inl (c6, 4, .inl f6))] H9 := by rw [ezf10]; exact hP
  have hD : va_D A [(a0, .inr (6, [.ref a2, .ref a3, .ref a4, .ref a5, .ref a6, .int 0, .int 0])), (a1, .inl (c1, 78, .inl zf10)), (a2, .inl (c2, 5, .inl f2)), (a3, .inl (c3, 5, .inl f3)), (a4, .inl (c4, 5, .inl f4)), (a5, .inl (c5, 5, .inl f5)), (a6, .inl (c6, 4, .inl f6))] := by rw [ezf10]; exact hD
  refine lv_aload_n hx hb dX7_writeTo_71 rfl (lv_at hl 1 rfl) ?_
  refine va_get (D := (dC, dI)) (ci := 6) (v := .ref a6) (C := RX7) (T := TX7) (N := 7) hx hb hG inX7 hown hK hP 0 rfl rfl 4 (by decide) (hG _ gw359) (fun _ h9 => h9) rfl dX7_writeTo_72 ?_
  refine lv_iconst (v := 0) hx hb dX7_writeTo_75 (by decide) ?_
  refine lv_aload_n hx hb dX7_writeTo_76 rfl (lv_at hl 2 rfl) ?_
  refine lv_iload_n hx hb dX7_writeTo_77 rfl (lv_at hl 0 rfl) ?_
  refine lv_bipush (v := 20) hx hb dX7_writeTo_78 (by decide) ?_
  refine lv_iadd hx hb dX7_writeTo_80 ?_
  refine wt_c (v := 46) (by decide) ?_
  refine lv_iconst (v := 4) hx hb dX7_writeTo_81 (by decide) ?_
  refine va_copyi (ty := .int) hx hb (hml.trans hl.1.symm) hown (hG _ gw465) (hG _ gw467) (hG _ gw466) (hG _ gw137) hK hP hD hS 6 1 5 0 rfl rfl rfl rfl rfl (by decide) (by decide) (by decide) (by decide) (by decide) (fun _ _ => rfl) (Nat.le_of_ble_eq_true rfl) (Nat.le_of_ble_eq_true rfl) dX7_writeTo_82 (fun H11 locs hP hD hS => ?_)
  obtain ⟨zf12, ezf12⟩ : ∃ z : Nat → Int32, z = va_cpy f6 zf10 (0 : Int32).toNatClampNeg (46 : Int32).toNatClampNeg (4 : Int32).toNatClampNeg := ⟨_, rfl⟩
  have hP : va_P (dC, dI) vwCl [(a0, .inr (6, [.ref a2, .ref a3, .ref a4, .ref a5, .ref a6, .int 0, .int 0])), (a1, .inl (c1, 78, .inl zf12)), (a2, .inl (c2, 5, .inl f2)), (a3, .inl (c3, 5, .inl f3)), (a4, .inl (c4, 5, .inl f4)), (a5, .inl (c5, 5, .inl f5)), (a6, .inl (c6, 4, .inl f6))] H11 := by rw [ezf12]; exact hP
  have hD : va_D A [(a0, .inr (6, [.ref a2, .ref a3, .ref a4, .ref a5, .ref a6, .int 0, .int 0])), (a1, .inl (c1, 78, .inl zf12)), (a2, .inl (c2, 5, .inl f2)), (a3, .inl (c3, 5, .inl f3)), (a4, .inl (c4, 5, .inl f4)), (a5, .inl (c5, 5, .inl f5)), (a6, .inl (c6, 4, .inl f6))] := by rw [ezf12]; exact hD
  refine lv_aload_n hx hb dX7_writeTo_85 rfl (lv_at hl 2 rfl) ?_
  refine lv_iload_n hx hb dX7_writeTo_86 rfl (lv_at hl 0 rfl) ?_
  refine lv_bipush (v := 26) hx hb dX7_writeTo_87 (by decide) ?_
  refine lv_iadd hx hb dX7_writeTo_89 ?_
  refine wt_c (v := 52) (by decide) ?_
  refine lv_iconst (v := 2) hx hb dX7_writeTo_90 (by decide) ?_
  refine lv_isub hx hb dX7_writeTo_91 ?_
  refine wt_c (v := 50) (by decide) ?_
  refine lv_aload_n hx hb dX7_writeTo_92 rfl (lv_at hl 1 rfl) ?_
  refine va_get (D := (dC, dI)) (ci := 6) (v := .int 0) (C := RX7) (T := TX7) (N := 7) hx hb hG inX7 hown hK hP 0 rfl rfl 5 (by decide) (hG _ gw361) (fun _ h9 => h9) rfl dX7_writeTo_93 ?_
  refine va_iast hx hb hK hP hD hS 1 0 rfl rfl (vin (by decide)) dX7_writeTo_96 (fun H13 locs hP hD hS => ?_)
  obtain ⟨zf14, ezf14⟩ : ∃ z : Nat → Int32, z = upd zf12 (50 : Int32).toNatClampNeg 0 := ⟨_, rfl⟩
  have hP : va_P (dC, dI) vwCl [(a0, .inr (6, [.ref a2, .ref a3, .ref a4, .ref a5, .ref a6, .int 0, .int 0])), (a1, .inl (c1, 78, .inl zf14)), (a2, .inl (c2, 5, .inl f2)), (a3, .inl (c3, 5, .inl f3)), (a4, .inl (c4, 5, .inl f4)), (a5, .inl (c5, 5, .inl f5)), (a6, .inl (c6, 4, .inl f6))] H13 := by rw [ezf14]; exact hP
  have hD : va_D A [(a0, .inr (6, [.ref a2, .ref a3, .ref a4, .ref a5, .ref a6, .int 0, .int 0])), (a1, .inl (c1, 78, .inl zf14)), (a2, .inl (c2, 5, .inl f2)), (a3, .inl (c3, 5, .inl f3)), (a4, .inl (c4, 5, .inl f4)), (a5, .inl (c5, 5, .inl f5)), (a6, .inl (c6, 4, .inl f6))] := by rw [ezf14]; exact hD
  refine lv_aload_n hx hb dX7_writeTo_97 rfl (lv_at hl 2 rfl) ?_
  refine lv_iload_n hx hb dX7_writeTo_98 rfl (lv_at hl 0 rfl) ?_
  refine lv_bipush (v := 26) hx hb dX7_writeTo_99 (by decide) ?_
  refine lv_iadd hx hb dX7_writeTo_101 ?_
  refine wt_c (v := 52) (by decide) ?_
  refine lv_iconst (v := 1) hx hb dX7_writeTo_102 (by decide) ?_
  refine lv_isub hx hb dX7_writeTo_103 ?_
  refine wt_c (v := 51) (by decide) ?_
  refine lv_aload_n hx hb dX7_writeTo_104 rfl (lv_at hl 1 rfl) ?_
  refine va_get (D := (dC, dI)) (ci := 6) (v := .int 0) (C := RX7) (T := TX7) (N := 7) hx hb hG inX7 hown hK hP 0 rfl rfl 6 (by decide) (hG _ gw363) (fun _ h9 => h9) rfl dX7_writeTo_105 ?_
  refine va_iast hx hb hK hP hD hS 1 0 rfl rfl (vin (by decide)) dX7_writeTo_108 (fun H15 locs hP hD hS => ?_)
  obtain ⟨zf16, ezf16⟩ : ∃ z : Nat → Int32, z = upd zf14 (51 : Int32).toNatClampNeg 0 := ⟨_, rfl⟩
  have hP : va_P (dC, dI) vwCl [(a0, .inr (6, [.ref a2, .ref a3, .ref a4, .ref a5, .ref a6, .int 0, .int 0])), (a1, .inl (c1, 78, .inl zf16)), (a2, .inl (c2, 5, .inl f2)), (a3, .inl (c3, 5, .inl f3)), (a4, .inl (c4, 5, .inl f4)), (a5, .inl (c5, 5, .inl f5)), (a6, .inl (c6, 4, .inl f6))] H15 := by rw [ezf16]; exact hP
  have hD : va_D A [(a0, .inr (6, [.ref a2, .ref a3, .ref a4, .ref a5, .ref a6, .int 0, .int 0])), (a1, .inl (c1, 78, .inl zf16)), (a2, .inl (c2, 5, .inl f2)), (a3, .inl (c3, 5, .inl f3)), (a4, .inl (c4, 5, .inl f4)), (a5, .inl (c5, 5, .inl f5)), (a6, .inl (c6, 4, .inl f6))] := by rw [ezf16]; exact hD
  have hP9 := hP.sub (ws' := [(a0, .inr (6, [.ref a2, .ref a3, .ref a4, .ref a5, .ref a6, .int 0, .int 0])), (a1, .inl (c1, 78, .inl zf16)), (a2, .inl (c2, 5, .inl f2)), (a3, .inl (c3, 5, .inl f3)), (a4, .inl (c4, 5, .inl f4)), (a5, .inl (c5, 5, .inl f5)), (a6, .inl (c6, 4, .inl f6))]) [0, 1, 2, 3, 4, 5, 6] rfl
  have hD9 := hD.sub (ws' := [(a0, .inr (6, [.ref a2, .ref a3, .ref a4, .ref a5, .ref a6, .int 0, .int 0])), (a1, .inl (c1, 78, .inl zf16)), (a2, .inl (c2, 5, .inl f2)), (a3, .inl (c3, 5, .inl f3)), (a4, .inl (c4, 5, .inl f4)), (a5, .inl (c5, 5, .inl f5)), (a6, .inl (c6, 4, .inl f6))]) [0, 1, 2, 3, 4, 5, 6] (by decide) rfl
  exact W.vret hx hb hr (fun t ht hW => ⟨⟨(), rfl, trivial, ⟨zf16, by rw [ht]; exact hP9, hD9⟩⟩, hS.F ht⟩) hS.2.2 dX7_writeTo_109
set_option maxHeartbeats 4000000 in
set_option maxRecDepth 100000 in
theorem kX7_writeTo_v5 (l : Launch) (dC : Nat → ClassId) (dI : Nat → Nat → Nat) (a0 a2 a3 a4 a5 a6 a1 : Nat) (c1 c2 c3 c4 c5 c6 : ClassId) (f2 : Nat → Int32) (f3 : Nat → Int32) (f4 : Nat → Int32) (f5 : Nat → Int32) (f6 : Nat → Int32) (sz : Nat) : Met l yX7_writeTo (.code yX7_writeTo cX7_writeTo 4 none :: GW) { frames := 2, cells := 0, slots := 0, locals := 100 } (va_Pc [.ref a0, .ref a1, .int 2] (pW (dC, dI) [(a0, .inr (6, [.ref a2, .ref a3, .ref a4, .ref a5, .ref a6, .int 0, .int 0])), (a1, .inl (c1, 78, .inl (fun _ => 0))), (a2, .inl (c2, 5, .inl f2)), (a3, .inl (c3, 5, .inl f3)), (a4, .inl (c4, 5, .inl f4)), (a5, .inl (c5, 5, .inl f5)), (a6, .inl (c6, 4, .inl f6))] [(c1, .int), (c2, .int), (c3, .int), (c4, .int), (c5, .int), (c6, .int)] sz)) (va_Qv (fun _ : Unit => True) (fun (_ : Unit) (t : State) => ∃ (F0 : Nat → Int32), va_P (dC, dI) vwCl [(a0, .inr (6, [.ref a2, .ref a3, .ref a4, .ref a5, .ref a6, .int 0, .int 0])), (a1, .inl (c1, 78, .inl F0)), (a2, .inl (c2, 5, .inl f2)), (a3, .inl (c3, 5, .inl f3)), (a4, .inl (c4, 5, .inl f4)), (a5, .inl (c5, 5, .inl f5)), (a6, .inl (c6, 4, .inl f6))] t.heap ∧ va_D (va_A [(a0, .inr (6, [.ref a2, .ref a3, .ref a4, .ref a5, .ref a6, .int 0, .int 0])), (a1, .inl (c1, 78, .inl (fun _ => 0))), (a2, .inl (c2, 5, .inl f2)), (a3, .inl (c3, 5, .inl f3)), (a4, .inl (c4, 5, .inl f4)), (a5, .inl (c5, 5, .inl f5)), (a6, .inl (c6, 4, .inl f6))] sz) [(a0, .inr (6, [.ref a2, .ref a3, .ref a4, .ref a5, .ref a6, .int 0, .int 0])), (a1, .inl (c1, 78, .inl F0)), (a2, .inl (c2, 5, .inl f2)), (a3, .inl (c3, 5, .inl f3)), (a4, .inl (c4, 5, .inl f4)), (a5, .inl (c5, 5, .inl f5)), (a6, .inl (c6, 4, .inl f6))]) (va_A [(a0, .inr (6, [.ref a2, .ref a3, .ref a4, .ref a5, .ref a6, .int 0, .int 0])), (a1, .inl (c1, 78, .inl (fun _ => 0))), (a2, .inl (c2, 5, .inl f2)), (a3, .inl (c3, 5, .inl f3)), (a4, .inl (c4, 5, .inl f4)), (a5, .inl (c5, 5, .inl f5)), (a6, .inl (c6, 4, .inl f6))] sz)) 0 0 (va_A [(a0, .inr (6, [.ref a2, .ref a3, .ref a4, .ref a5, .ref a6, .int 0, .int 0])), (a1, .inl (c1, 78, .inl (fun _ => 0))), (a2, .inl (c2, 5, .inl f2)), (a3, .inl (c3, 5, .inl f3)), (a4, .inl (c4, 5, .inl f4)), (a5, .inl (c5, 5, .inl f5)), (a6, .inl (c6, 4, .inl f6))] sz) := by
  refine Met.ofW (cc := cX7_writeTo) (maxL := 4) (ret := none) (by decide) rfl ?_
  intro p e s m args below meth c0 s₁ B hml hv
  obtain ⟨rfl, hsz, hP, hK, hD0⟩ := hv
  have hx := B.exec
  have hb := B.bytes
  have hr := B.returns
  have hts := atoms_spec (ws := .code yX7_writeTo cX7_writeTo 4 none :: GW) B.pre
  have hG : ∀ w ∈ GW, w.before _ s = true := fun w h => hts w (List.mem_cons_of_mem _ h)
  have hown : s.vm.findClass RX7 = some m.cls := findClass_of_methodNamed B.named
  have hlocks := B.notSynchronized
  subst hsz
  have hD := hD0.self (sz := s.heap.size)
  generalize hAe : va_A [(a0, .inr (6, [.ref a2, .ref a3, .ref a4, .ref a5, .ref a6, .int 0, .int 0])), (a1, .inl (c1, 78, .inl (fun _ => 0))), (a2, .inl (c2, 5, .inl f2)), (a3, .inl (c3, 5, .inl f3)), (a4, .inl (c4, 5, .inl f4)), (a5, .inl (c5, 5, .inl f5)), (a6, .inl (c6, 4, .inl f6))] s.heap.size = A at hD ⊢
  have hA : ∀ q : Nat, s.heap.size ≤ q → A q := fun q h => by rw [← hAe]; exact Or.inr h
  have hS : va_S A s.heap s.heap [] := va_S.rf
  have hP : va_P (dC, dI) vwCl [(a0, .inr (6, [.ref a2, .ref a3, .ref a4, .ref a5, .ref a6, .int 0, .int 0])), (a1, .inl (c1, 78, .inl (fun _ => 0))), (a2, .inl (c2, 5, .inl f2)), (a3, .inl (c3, 5, .inl f3)), (a4, .inl (c4, 5, .inl f4)), (a5, .inl (c5, 5, .inl f5)), (a6, .inl (c6, 4, .inl f6))] s.heap := hP
  have hl := lv_entry ([.ref a0, .ref a1, .int 2]) (n := 4) (Nat.le_of_ble_eq_true rfl)
  rw [lg_entry_eq]
  generalize (lg_sl ([.ref a0, .ref a1, .int 2]) ++ List.replicate (4 - (lg_sl ([.ref a0, .ref a1, .int 2])).length) Slot.unset).toArray = ls at hl ⊢
  have hl : lv_has ls 4 [(0, .ref a0), (1, .ref a1), (2, .int 2)] := hl
  refine lv_iload_n hx hb dX7_writeTo_0 rfl (lv_at hl 2 rfl) ?_
  refine lv_bipush (v := 26) hx hb dX7_writeTo_1 (by decide) ?_
  refine lv_imul hx hb dX7_writeTo_3 ?_
  refine wt_c (v := 52) (by decide) ?_
  refine lv_istore_n (lv' := [(3, .int 52), (0, .ref a0), (1, .ref a1), (2, .int 2)]) hx hb dX7_writeTo_4 rfl hl (by decide) rfl (fun ls hl => ?_)
  refine lv_iload_n hx hb dX7_writeTo_5 rfl (lv_at hl 0 rfl) ?_
  refine lv_if_lt (tgt := 18) hx hb dX7_writeTo_6 (by decide) (fun c_1 => absurd c_1 (by decide)) (fun c_1 => ?_)
  refine lv_iload_n hx hb dX7_writeTo_9 rfl (lv_at hl 0 rfl) ?_
  refine lv_bipush (v := 26) hx hb dX7_writeTo_10 (by decide) ?_
  refine lv_iadd hx hb dX7_writeTo_12 ?_
  refine wt_c (v := 78) (by decide) ?_
  refine lv_aload_n hx hb dX7_writeTo_13 rfl (lv_at hl 2 rfl) ?_
  refine va_alen (v := 78) hx hb hK hP 1 0 rfl rfl (show Int32.ofNat 78 = 78 by decide) dX7_writeTo_14 ?_
  refine lv_icmp_le (tgt := 19) hx hb dX7_writeTo_15 (by decide) (fun c_2 => ?_) (fun c_2 => absurd (by decide) c_2)
  refine lv_aload_n hx hb dX7_writeTo_19 rfl (lv_at hl 1 rfl) ?_
  refine va_get (D := (dC, dI)) (ci := 6) (v := .ref a2) (C := RX7) (T := TX7) (N := 7) hx hb hG inX7 hown hK hP 0 rfl rfl 0 (by decide) (hG _ gw351) (fun _ h9 => h9) rfl dX7_writeTo_20 ?_
  refine lv_iconst (v := 0) hx hb dX7_writeTo_23 (by decide) ?_
  refine lv_aload_n hx hb dX7_writeTo_24 rfl (lv_at hl 2 rfl) ?_
  refine lv_iload_n hx hb dX7_writeTo_25 rfl (lv_at hl 0 rfl) ?_
  refine lv_iconst (v := 5) hx hb dX7_writeTo_26 (by decide) ?_
  refine va_copyi (ty := .int) hx hb (hml.trans hl.1.symm) hown (hG _ gw465) (hG _ gw467) (hG _ gw466) (hG _ gw137) hK hP hD hS 2 1 1 0 rfl rfl rfl rfl rfl (by decide) (by decide) (by decide) (by decide) (by decide) (fun _ _ => rfl) (Nat.le_of_ble_eq_true rfl) (Nat.le_of_ble_eq_true rfl) dX7_writeTo_27 (fun H3 locs hP hD hS => ?_)
  obtain ⟨zf4, ezf4⟩ : ∃ z : Nat → Int32, z = va_cpy f2 (fun _ => 0) (0 : Int32).toNatClampNeg (52 : Int32).toNatClampNeg (5 : Int32).toNatClampNeg := ⟨_, rfl⟩
  have hP : va_P (dC, dI) vwCl [(a0, .inr (6, [.ref a2, .ref a3, .ref a4, .ref a5, .ref a6, .int 0, .int 0])), (a1, .inl (c1, 78, .inl zf4)), (a2, .inl (c2, 5, .inl f2)), (a3, .inl (c3, 5, .inl f3)), (a4, .inl (c4, 5, .inl f4)), (a5, .inl (c5, 5, .inl f5)), (a6, .inl (c6, 4, .inl f6))] H3 := by rw [ezf4]; exact hP
  have hD : va_D A [(a0, .inr (6, [.ref a2, .ref a3, .ref a4, .ref a5, .ref a6, .int 0, .int 0])), (a1, .inl (c1, 78, .inl zf4)), (a2, .inl (c2, 5, .inl f2)), (a3, .inl (c3, 5, .inl f3)), (a4, .inl (c4, 5, .inl f4)), (a5, .inl (c5, 5, .inl f5)), (a6, .inl (c6, 4, .inl f6))] := by rw [ezf4]; exact hD
  refine lv_aload_n hx hb dX7_writeTo_30 rfl (lv_at hl 1 rfl) ?_
  refine va_get (D := (dC, dI)) (ci := 6) (v := .ref a3) (C := RX7) (T := TX7) (N := 7) hx hb hG inX7 hown hK hP 0 rfl rfl 1 (by decide) (hG _ gw353) (fun _ h9 => h9) rfl dX7_writeTo_31 ?_
  refine lv_iconst (v := 0) hx hb dX7_writeTo_34 (by decide) ?_
  refine lv_aload_n hx hb dX7_writeTo_35 rfl (lv_at hl 2 rfl) ?_
  refine lv_iload_n hx hb dX7_writeTo_36 rfl (lv_at hl 0 rfl) ?_
  refine lv_iconst (v := 5) hx hb dX7_writeTo_37 (by decide) ?_
  refine lv_iadd hx hb dX7_writeTo_38 ?_
  refine wt_c (v := 57) (by decide) ?_
  refine lv_iconst (v := 5) hx hb dX7_writeTo_39 (by decide) ?_
  refine va_copyi (ty := .int) hx hb (hml.trans hl.1.symm) hown (hG _ gw465) (hG _ gw467) (hG _ gw466) (hG _ gw137) hK hP hD hS 3 1 2 0 rfl rfl rfl rfl rfl (by decide) (by decide) (by decide) (by decide) (by decide) (fun _ _ => rfl) (Nat.le_of_ble_eq_true rfl) (Nat.le_of_ble_eq_true rfl) dX7_writeTo_40 (fun H5 locs hP hD hS => ?_)
  obtain ⟨zf6, ezf6⟩ : ∃ z : Nat → Int32, z = va_cpy f3 zf4 (0 : Int32).toNatClampNeg (57 : Int32).toNatClampNeg (5 : Int32).toNatClampNeg := ⟨_, rfl⟩
  have hP : va_P (dC, dI) vwCl [(a0, .inr (6, [.ref a2, .ref a3, .ref a4, .ref a5, .ref a6, .int 0, .int 0])), (a1, .inl (c1, 78, .inl zf6)), (a2, .inl (c2, 5, .inl f2)), (a3, .inl (c3, 5, .inl f3)), (a4, .inl (c4, 5, .inl f4)), (a5, .inl (c5, 5, .inl f5)), (a6, .inl (c6, 4, .inl f6))] H5 := by rw [ezf6]; exact hP
  have hD : va_D A [(a0, .inr (6, [.ref a2, .ref a3, .ref a4, .ref a5, .ref a6, .int 0, .int 0])), (a1, .inl (c1, 78, .inl zf6)), (a2, .inl (c2, 5, .inl f2)), (a3, .inl (c3, 5, .inl f3)), (a4, .inl (c4, 5, .inl f4)), (a5, .inl (c5, 5, .inl f5)), (a6, .inl (c6, 4, .inl f6))] := by rw [ezf6]; exact hD
  refine lv_aload_n hx hb dX7_writeTo_43 rfl (lv_at hl 1 rfl) ?_
  refine va_get (D := (dC, dI)) (ci := 6) (v := .ref a4) (C := RX7) (T := TX7) (N := 7) hx hb hG inX7 hown hK hP 0 rfl rfl 2 (by decide) (hG _ gw355) (fun _ h9 => h9) rfl dX7_writeTo_44 ?_
  refine lv_iconst (v := 0) hx hb dX7_writeTo_47 (by decide) ?_
  refine lv_aload_n hx hb dX7_writeTo_48 rfl (lv_at hl 2 rfl) ?_
  refine lv_iload_n hx hb dX7_writeTo_49 rfl (lv_at hl 0 rfl) ?_
  refine lv_bipush (v := 10) hx hb dX7_writeTo_50 (by decide) ?_
  refine lv_iadd hx hb dX7_writeTo_52 ?_
  refine wt_c (v := 62) (by decide) ?_
  refine lv_iconst (v := 5) hx hb dX7_writeTo_53 (by decide) ?_
  refine va_copyi (ty := .int) hx hb (hml.trans hl.1.symm) hown (hG _ gw465) (hG _ gw467) (hG _ gw466) (hG _ gw137) hK hP hD hS 4 1 3 0 rfl rfl rfl rfl rfl (by decide) (by decide) (by decide) (by decide) (by decide) (fun _ _ => rfl) (Nat.le_of_ble_eq_true rfl) (Nat.le_of_ble_eq_true rfl) dX7_writeTo_54 (fun H7 locs hP hD hS => ?_)
  obtain ⟨zf8, ezf8⟩ : ∃ z : Nat → Int32, z = va_cpy f4 zf6 (0 : Int32).toNatClampNeg (62 : Int32).toNatClampNeg (5 : Int32).toNatClampNeg := ⟨_, rfl⟩
  have hP : va_P (dC, dI) vwCl [(a0, .inr (6, [.ref a2, .ref a3, .ref a4, .ref a5, .ref a6, .int 0, .int 0])), (a1, .inl (c1, 78, .inl zf8)), (a2, .inl (c2, 5, .inl f2)), (a3, .inl (c3, 5, .inl f3)), (a4, .inl (c4, 5, .inl f4)), (a5, .inl (c5, 5, .inl f5)), (a6, .inl (c6, 4, .inl f6))] H7 := by rw [ezf8]; exact hP
  have hD : va_D A [(a0, .inr (6, [.ref a2, .ref a3, .ref a4, .ref a5, .ref a6, .int 0, .int 0])), (a1, .inl (c1, 78, .inl zf8)), (a2, .inl (c2, 5, .inl f2)), (a3, .inl (c3, 5, .inl f3)), (a4, .inl (c4, 5, .inl f4)), (a5, .inl (c5, 5, .inl f5)), (a6, .inl (c6, 4, .inl f6))] := by rw [ezf8]; exact hD
  refine lv_aload_n hx hb dX7_writeTo_57 rfl (lv_at hl 1 rfl) ?_
  refine va_get (D := (dC, dI)) (ci := 6) (v := .ref a5) (C := RX7) (T := TX7) (N := 7) hx hb hG inX7 hown hK hP 0 rfl rfl 3 (by decide) (hG _ gw357) (fun _ h9 => h9) rfl dX7_writeTo_58 ?_
  refine lv_iconst (v := 0) hx hb dX7_writeTo_61 (by decide) ?_
  refine lv_aload_n hx hb dX7_writeTo_62 rfl (lv_at hl 2 rfl) ?_
  refine lv_iload_n hx hb dX7_writeTo_63 rfl (lv_at hl 0 rfl) ?_
  refine lv_bipush (v := 15) hx hb dX7_writeTo_64 (by decide) ?_
  refine lv_iadd hx hb dX7_writeTo_66 ?_
  refine wt_c (v := 67) (by decide) ?_
  refine lv_iconst (v := 5) hx hb dX7_writeTo_67 (by decide) ?_
  refine va_copyi (ty := .int) hx hb (hml.trans hl.1.symm) hown (hG _ gw465) (hG _ gw467) (hG _ gw466) (hG _ gw137) hK hP hD hS 5 1 4 0 rfl rfl rfl rfl rfl (by decide) (by decide) (by decide) (by decide) (by decide) (fun _ _ => rfl) (Nat.le_of_ble_eq_true rfl) (Nat.le_of_ble_eq_true rfl) dX7_writeTo_68 (fun H9 locs hP hD hS => ?_)
  obtain ⟨zf10, ezf10⟩ : ∃ z : Nat → Int32, z = va_cpy f5 zf8 (0 : Int32).toNatClampNeg (67 : Int32).toNatClampNeg (5 : Int32).toNatClampNeg := ⟨_, rfl⟩
  have hP : va_P (dC, dI) vwCl [(a0, .inr (6, [.ref a2, .ref a3, .ref a4, .ref a5, .ref a6, .int 0, .int 0])), (a1, .inl (c1, 78, .inl zf10)), (a2, .inl (c2, 5, .inl f2)), (a3, .inl (c3, 5, .inl f3)), (a4, .inl (c4, 5, .inl f4)), (a5, .inl (c5, 5, .inl f5)), (a6, .inl (c6, 4, .inl f6))] H9 := by rw [ezf10]; exact hP
  have hD : va_D A [(a0, .inr (6, [.ref a2, .ref a3, .ref a4, .ref a5, .ref a6, .int 0, .int 0])), (a1, .inl (c1, 78, .inl zf10)), (a2, .inl (c2, 5, .inl f2)), (a3, .inl (c3, 5, .inl f3)), (a4, .inl (c4, 5, .inl f4)), (a5, .inl (c5, 5, .inl f5)), (a6, .inl (c6, 4, .inl f6))] := by rw [ezf10]; exact hD
  refine lv_aload_n hx hb dX7_writeTo_71 rfl (lv_at hl 1 rfl) ?_
  refine va_get (D := (dC, dI)) (ci := 6) (v := .ref a6) (C := RX7) (T := TX7) (N := 7) hx hb hG inX7 hown hK hP 0 rfl rfl 4 (by decide) (hG _ gw359) (fun _ h9 => h9) rfl dX7_writeTo_72 ?_
  refine lv_iconst (v := 0) hx hb dX7_writeTo_75 (by decide) ?_
  refine lv_aload_n hx hb dX7_writeTo_76 rfl (lv_at hl 2 rfl) ?_
  refine lv_iload_n hx hb dX7_writeTo_77 rfl (lv_at hl 0 rfl) ?_
  refine lv_bipush (v := 20) hx hb dX7_writeTo_78 (by decide) ?_
  refine lv_iadd hx hb dX7_writeTo_80 ?_
  refine wt_c (v := 72) (by decide) ?_
  refine lv_iconst (v := 4) hx hb dX7_writeTo_81 (by decide) ?_
  refine va_copyi (ty := .int) hx hb (hml.trans hl.1.symm) hown (hG _ gw465) (hG _ gw467) (hG _ gw466) (hG _ gw137) hK hP hD hS 6 1 5 0 rfl rfl rfl rfl rfl (by decide) (by decide) (by decide) (by decide) (by decide) (fun _ _ => rfl) (Nat.le_of_ble_eq_true rfl) (Nat.le_of_ble_eq_true rfl) dX7_writeTo_82 (fun H11 locs hP hD hS => ?_)
  obtain ⟨zf12, ezf12⟩ : ∃ z : Nat → Int32, z = va_cpy f6 zf10 (0 : Int32).toNatClampNeg (72 : Int32).toNatClampNeg (4 : Int32).toNatClampNeg := ⟨_, rfl⟩
  have hP : va_P (dC, dI) vwCl [(a0, .inr (6, [.ref a2, .ref a3, .ref a4, .ref a5, .ref a6, .int 0, .int 0])), (a1, .inl (c1, 78, .inl zf12)), (a2, .inl (c2, 5, .inl f2)), (a3, .inl (c3, 5, .inl f3)), (a4, .inl (c4, 5, .inl f4)), (a5, .inl (c5, 5, .inl f5)), (a6, .inl (c6, 4, .inl f6))] H11 := by rw [ezf12]; exact hP
  have hD : va_D A [(a0, .inr (6, [.ref a2, .ref a3, .ref a4, .ref a5, .ref a6, .int 0, .int 0])), (a1, .inl (c1, 78, .inl zf12)), (a2, .inl (c2, 5, .inl f2)), (a3, .inl (c3, 5, .inl f3)), (a4, .inl (c4, 5, .inl f4)), (a5, .inl (c5, 5, .inl f5)), (a6, .inl (c6, 4, .inl f6))] := by rw [ezf12]; exact hD
  refine lv_aload_n hx hb dX7_writeTo_85 rfl (lv_at hl 2 rfl) ?_
  refine lv_iload_n hx hb dX7_writeTo_86 rfl (lv_at hl 0 rfl) ?_
  refine lv_bipush (v := 26) hx hb dX7_writeTo_87 (by decide) ?_
  refine lv_iadd hx hb dX7_writeTo_89 ?_
  refine wt_c (v := 78) (by decide) ?_
  refine lv_iconst (v := 2) hx hb dX7_writeTo_90 (by decide) ?_
  refine lv_isub hx hb dX7_writeTo_91 ?_
  refine wt_c (v := 76) (by decide) ?_
  refine lv_aload_n hx hb dX7_writeTo_92 rfl (lv_at hl 1 rfl) ?_
  refine va_get (D := (dC, dI)) (ci := 6) (v := .int 0) (C := RX7) (T := TX7) (N := 7) hx hb hG inX7 hown hK hP 0 rfl rfl 5 (by decide) (hG _ gw361) (fun _ h9 => h9) rfl dX7_writeTo_93 ?_
  refine va_iast hx hb hK hP hD hS 1 0 rfl rfl (vin (by decide)) dX7_writeTo_96 (fun H13 locs hP hD hS => ?_)
  obtain ⟨zf14, ezf14⟩ : ∃ z : Nat → Int32, z = upd zf12 (76 : Int32).toNatClampNeg 0 := ⟨_, rfl⟩
  have hP : va_P (dC, dI) vwCl [(a0, .inr (6, [.ref a2, .ref a3, .ref a4, .ref a5, .ref a6, .int 0, .int 0])), (a1, .inl (c1, 78, .inl zf14)), (a2, .inl (c2, 5, .inl f2)), (a3, .inl (c3, 5, .inl f3)), (a4, .inl (c4, 5, .inl f4)), (a5, .inl (c5, 5, .inl f5)), (a6, .inl (c6, 4, .inl f6))] H13 := by rw [ezf14]; exact hP
  have hD : va_D A [(a0, .inr (6, [.ref a2, .ref a3, .ref a4, .ref a5, .ref a6, .int 0, .int 0])), (a1, .inl (c1, 78, .inl zf14)), (a2, .inl (c2, 5, .inl f2)), (a3, .inl (c3, 5, .inl f3)), (a4, .inl (c4, 5, .inl f4)), (a5, .inl (c5, 5, .inl f5)), (a6, .inl (c6, 4, .inl f6))] := by rw [ezf14]; exact hD
  refine lv_aload_n hx hb dX7_writeTo_97 rfl (lv_at hl 2 rfl) ?_
  refine lv_iload_n hx hb dX7_writeTo_98 rfl (lv_at hl 0 rfl) ?_
  refine lv_bipush (v := 26) hx hb dX7_writeTo_99 (by decide) ?_
  refine lv_iadd hx hb dX7_writeTo_101 ?_
  refine wt_c (v := 78) (by decide) ?_
  refine lv_iconst (v := 1) hx hb dX7_writeTo_102 (by decide) ?_
  refine lv_isub hx hb dX7_writeTo_103 ?_
  refine wt_c (v := 77) (by decide) ?_
  refine lv_aload_n hx hb dX7_writeTo_104 rfl (lv_at hl 1 rfl) ?_
  refine va_get (D := (dC, dI)) (ci := 6) (v := .int 0) (C := RX7) (T := TX7) (N := 7) hx hb hG inX7 hown hK hP 0 rfl rfl 6 (by decide) (hG _ gw363) (fun _ h9 => h9) rfl dX7_writeTo_105 ?_
  refine va_iast hx hb hK hP hD hS 1 0 rfl rfl (vin (by decide)) dX7_writeTo_108 (fun H15 locs hP hD hS => ?_)
  obtain ⟨zf16, ezf16⟩ : ∃ z : Nat → Int32, z = upd zf14 (77 : Int32).toNatClampNeg 0 := ⟨_, rfl⟩
  have hP : va_P (dC, dI) vwCl [(a0, .inr (6, [.ref a2, .ref a3, .ref a4, .ref a5, .ref a6, .int 0, .int 0])), (a1, .inl (c1, 78, .inl zf16)), (a2, .inl (c2, 5, .inl f2)), (a3, .inl (c3, 5, .inl f3)), (a4, .inl (c4, 5, .inl f4)), (a5, .inl (c5, 5, .inl f5)), (a6, .inl (c6, 4, .inl f6))] H15 := by rw [ezf16]; exact hP
  have hD : va_D A [(a0, .inr (6, [.ref a2, .ref a3, .ref a4, .ref a5, .ref a6, .int 0, .int 0])), (a1, .inl (c1, 78, .inl zf16)), (a2, .inl (c2, 5, .inl f2)), (a3, .inl (c3, 5, .inl f3)), (a4, .inl (c4, 5, .inl f4)), (a5, .inl (c5, 5, .inl f5)), (a6, .inl (c6, 4, .inl f6))] := by rw [ezf16]; exact hD
  have hP9 := hP.sub (ws' := [(a0, .inr (6, [.ref a2, .ref a3, .ref a4, .ref a5, .ref a6, .int 0, .int 0])), (a1, .inl (c1, 78, .inl zf16)), (a2, .inl (c2, 5, .inl f2)), (a3, .inl (c3, 5, .inl f3)), (a4, .inl (c4, 5, .inl f4)), (a5, .inl (c5, 5, .inl f5)), (a6, .inl (c6, 4, .inl f6))]) [0, 1, 2, 3, 4, 5, 6] rfl
  have hD9 := hD.sub (ws' := [(a0, .inr (6, [.ref a2, .ref a3, .ref a4, .ref a5, .ref a6, .int 0, .int 0])), (a1, .inl (c1, 78, .inl zf16)), (a2, .inl (c2, 5, .inl f2)), (a3, .inl (c3, 5, .inl f3)), (a4, .inl (c4, 5, .inl f4)), (a5, .inl (c5, 5, .inl f5)), (a6, .inl (c6, 4, .inl f6))]) [0, 1, 2, 3, 4, 5, 6] (by decide) rfl
  exact W.vret hx hb hr (fun t ht hW => ⟨⟨(), rfl, trivial, ⟨zf16, by rw [ht]; exact hP9, hD9⟩⟩, hS.F ht⟩) hS.2.2 dX7_writeTo_109
set_option maxHeartbeats 4000000 in
set_option maxRecDepth 100000 in
theorem kX8_image (l : Launch) (dC : Nat → ClassId) (dI : Nat → Nat → Nat) (r : Nat → Nat) (c : Nat → ClassId) (f59 : Nat → Int32) (f60 : Nat → Int32) (f61 : Nat → Int32) (f62 : Nat → Int32) (f63 : Nat → Int32) (p0 : Int32) (sz : Nat) : Met l yX8_image (.code yX8_image cX8_image 2 (some .int) :: GW) { frames := 4, cells := 0, slots := 0, locals := 163 } (va_Pc [.ref (r 0), .int p0] (pW (dC, dI) [(r 0, .inr (7, [.ref (r 1), .int 0, .ref (r 2), .ref (r 55), .ref (r 57), .ref (r 30), .ref (r 56), .ref (r 36), .ref (r 37), .ref (r 38), .int 0, .ref (r 51), .int 0, .ref (r 52), .ref (r 53), .ref (r 54)])), (r 36, .inl ((c 36), 78, .inl (fun _ => 0))), (r 37, .inl ((c 37), 3, .inl (fun _ => 0))), (r 57, .inr (6, [.ref (r 59), .ref (r 60), .ref (r 61), .ref (r 62), .ref (r 63), .int 0, .int 0])), (r 59, .inl ((c 59), 5, .inl f59)), (r 60, .inl ((c 60), 5, .inl f60)), (r 61, .inl ((c 61), 5, .inl f61)), (r 62, .inl ((c 62), 5, .inl f62)), (r 63, .inl ((c 63), 4, .inl f63))] [((c 36), .int), ((c 37), .boolean), ((c 59), .int), ((c 60), .int), ((c 61), .int), ((c 62), .int), ((c 63), .int)] sz)) (va_Qi (fun (r0 : Int32) (u : Nat) => (u = 0 ∧ p0 < 0 ∧ r0 = (-1)) ∨ (u = 1 ∧ p0 = 0 ∧ r0 = 0) ∨ (u = 2 ∧ p0 = 1 ∧ r0 = 0) ∨ (u = 3 ∧ p0 = 2 ∧ r0 = 0) ∨ (u = 4 ∧ ¬ p0 < 0 ∧ ¬ p0 < 3 ∧ r0 = (-1))) (fun _ _ => True) (va_A [(r 0, .inr (7, [.ref (r 1), .int 0, .ref (r 2), .ref (r 55), .ref (r 57), .ref (r 30), .ref (r 56), .ref (r 36), .ref (r 37), .ref (r 38), .int 0, .ref (r 51), .int 0, .ref (r 52), .ref (r 53), .ref (r 54)])), (r 36, .inl ((c 36), 78, .inl (fun _ => 0))), (r 37, .inl ((c 37), 3, .inl (fun _ => 0))), (r 57, .inr (6, [.ref (r 59), .ref (r 60), .ref (r 61), .ref (r 62), .ref (r 63), .int 0, .int 0])), (r 59, .inl ((c 59), 5, .inl f59)), (r 60, .inl ((c 60), 5, .inl f60)), (r 61, .inl ((c 61), 5, .inl f61)), (r 62, .inl ((c 62), 5, .inl f62)), (r 63, .inl ((c 63), 4, .inl f63))] sz)) 0 0 (va_A [(r 0, .inr (7, [.ref (r 1), .int 0, .ref (r 2), .ref (r 55), .ref (r 57), .ref (r 30), .ref (r 56), .ref (r 36), .ref (r 37), .ref (r 38), .int 0, .ref (r 51), .int 0, .ref (r 52), .ref (r 53), .ref (r 54)])), (r 36, .inl ((c 36), 78, .inl (fun _ => 0))), (r 37, .inl ((c 37), 3, .inl (fun _ => 0))), (r 57, .inr (6, [.ref (r 59), .ref (r 60), .ref (r 61), .ref (r 62), .ref (r 63), .int 0, .int 0])), (r 59, .inl ((c 59), 5, .inl f59)), (r 60, .inl ((c 60), 5, .inl f60)), (r 61, .inl ((c 61), 5, .inl f61)), (r 62, .inl ((c 62), 5, .inl f62)), (r 63, .inl ((c 63), 4, .inl f63))] sz) := by
  refine Met.ofW (cc := cX8_image) (maxL := 2) (ret := (some .int)) (by decide) rfl ?_
  intro p e s m args below meth c0 s₁ B hml hv
  obtain ⟨rfl, hsz, hP, hK, hD0⟩ := hv
  have hx := B.exec
  have hb := B.bytes
  have hr := B.returns
  have hts := atoms_spec (ws := .code yX8_image cX8_image 2 (some .int) :: GW) B.pre
  have hG : ∀ w ∈ GW, w.before _ s = true := fun w h => hts w (List.mem_cons_of_mem _ h)
  have hown : s.vm.findClass RX8 = some m.cls := findClass_of_methodNamed B.named
  have hlocks := B.notSynchronized
  subst hsz
  have hD := hD0.self (sz := s.heap.size)
  generalize hAe : va_A [(r 0, .inr (7, [.ref (r 1), .int 0, .ref (r 2), .ref (r 55), .ref (r 57), .ref (r 30), .ref (r 56), .ref (r 36), .ref (r 37), .ref (r 38), .int 0, .ref (r 51), .int 0, .ref (r 52), .ref (r 53), .ref (r 54)])), (r 36, .inl ((c 36), 78, .inl (fun _ => 0))), (r 37, .inl ((c 37), 3, .inl (fun _ => 0))), (r 57, .inr (6, [.ref (r 59), .ref (r 60), .ref (r 61), .ref (r 62), .ref (r 63), .int 0, .int 0])), (r 59, .inl ((c 59), 5, .inl f59)), (r 60, .inl ((c 60), 5, .inl f60)), (r 61, .inl ((c 61), 5, .inl f61)), (r 62, .inl ((c 62), 5, .inl f62)), (r 63, .inl ((c 63), 4, .inl f63))] s.heap.size = A at hD ⊢
  have hA : ∀ q : Nat, s.heap.size ≤ q → A q := fun q h => by rw [← hAe]; exact Or.inr h
  have hS : va_S A s.heap s.heap [] := va_S.rf
  have hP : va_P (dC, dI) vwCl [(r 0, .inr (7, [.ref (r 1), .int 0, .ref (r 2), .ref (r 55), .ref (r 57), .ref (r 30), .ref (r 56), .ref (r 36), .ref (r 37), .ref (r 38), .int 0, .ref (r 51), .int 0, .ref (r 52), .ref (r 53), .ref (r 54)])), (r 36, .inl ((c 36), 78, .inl (fun _ => 0))), (r 37, .inl ((c 37), 3, .inl (fun _ => 0))), (r 57, .inr (6, [.ref (r 59), .ref (r 60), .ref (r 61), .ref (r 62), .ref (r 63), .int 0, .int 0])), (r 59, .inl ((c 59), 5, .inl f59)), (r 60, .inl ((c 60), 5, .inl f60)), (r 61, .inl ((c 61), 5, .inl f61)), (r 62, .inl ((c 62), 5, .inl f62)), (r 63, .inl ((c 63), 4, .inl f63))] s.heap := hP
  have hl := lv_entry ([.ref (r 0), .int p0]) (n := 2) (Nat.le_of_ble_eq_true rfl)
  rw [lg_entry_eq]
  generalize (lg_sl ([.ref (r 0), .int p0]) ++ List.replicate (2 - (lg_sl ([.ref (r 0), .int p0])).length) Slot.unset).toArray = ls at hl ⊢
  have hl : lv_has ls 2 [(0, .ref (r 0)), (1, .int p0)] := hl
  refine lv_iload_n hx hb dX8_image_0 rfl (lv_at hl 1 rfl) ?_
  refine lv_if_lt (tgt := 9) hx hb dX8_image_1 (by decide) (fun c_1 => ?_) (fun c_1 => ?_)
  · skip
    refine lv_iconst (v := (-1)) hx hb dX8_image_9 (by decide) ?_
    exact W.iret (v := (-1)) hx hb hr (fun t ht hW => ⟨⟨(-1), 0, rfl, (Or.inl ⟨rfl, c_1, rfl⟩), trivial⟩, hS.F ht⟩) hS.2.2 dX8_image_10
  · skip
    refine lv_iload_n hx hb dX8_image_4 rfl (lv_at hl 1 rfl) ?_
    refine lv_iconst (v := 3) hx hb dX8_image_5 (by decide) ?_
    refine lv_icmp_lt (tgt := 11) hx hb dX8_image_6 (by decide) (fun c_2 => ?_) (fun c_2 => ?_)
    · skip
      refine lv_aload_n hx hb dX8_image_11 rfl (lv_at hl 0 rfl) ?_
      refine va_get (D := (dC, dI)) (ci := 7) (v := .ref (r 57)) (C := RX8) (T := TX8) (N := 16) hx hb hG inX8 hown hK hP 0 rfl rfl 4 (by decide) (hG _ gw472) (fun _ h9 => h9) rfl dX8_image_12 ?_
      refine lv_aload_n hx hb dX8_image_15 rfl (lv_at hl 0 rfl) ?_
      refine va_get (D := (dC, dI)) (ci := 7) (v := .ref (r 36)) (C := RX8) (T := TX8) (N := 16) hx hb hG inX8 hown hK hP 0 rfl rfl 7 (by decide) (hG _ gw475) (fun _ h9 => h9) rfl dX8_image_16 ?_
      refine lv_iload_n hx hb dX8_image_19 rfl (lv_at hl 1 rfl) ?_
      have hq : p0 = 0 ∨ p0 = 1 ∨ p0 = 2 := by
        have k0 := q_nlt c_1
        have k1 := q_lt c_2
        have z0 : (0 : Int32).toInt = 0 := (by decide)
        have z3 : (3 : Int32).toInt = 3 := (by decide)
        have hz : p0.toInt = 0 ∨ p0.toInt = 1 ∨ p0.toInt = 2 := by omega
        rcases hz with hz | hz | hz
        · exact Or.inl (Int32.toInt_inj.mp (hz.trans (by decide)))
        · exact Or.inr (Or.inl (Int32.toInt_inj.mp (hz.trans (by decide))))
        · exact Or.inr (Or.inr ((Int32.toInt_inj.mp (hz.trans (by decide)))))
      rcases hq with rfl | rfl | rfl
      · skip
        have hPc := hP.sub (ws' := [(r 57, .inr (6, [.ref (r 59), .ref (r 60), .ref (r 61), .ref (r 62), .ref (r 63), .int 0, .int 0])), (r 36, .inl ((c 36), 78, .inl (fun _ => 0))), (r 59, .inl ((c 59), 5, .inl f59)), (r 60, .inl ((c 60), 5, .inl f60)), (r 61, .inl ((c 61), 5, .inl f61)), (r 62, .inl ((c 62), 5, .inl f62)), (r 63, .inl ((c 63), 4, .inl f63))]) [3, 1, 4, 5, 6, 7, 8] rfl
        have hKc := hK.sub (tys' := [((c 36), .int), ((c 59), .int), ((c 60), .int), ((c 61), .int), ((c 62), .int), ((c 63), .int)]) [0, 2, 3, 4, 5, 6] rfl
        have hDc := hD.sub (ws' := [(r 57, .inr (6, [.ref (r 59), .ref (r 60), .ref (r 61), .ref (r 62), .ref (r 63), .int 0, .int 0])), (r 36, .inl ((c 36), 78, .inl (fun _ => 0))), (r 59, .inl ((c 59), 5, .inl f59)), (r 60, .inl ((c 60), 5, .inl f60)), (r 61, .inl ((c 61), 5, .inl f61)), (r 62, .inl ((c 62), 5, .inl f62)), (r 63, .inl ((c 63), 4, .inl f63))]) [3, 1, 4, 5, 6, 7, 8] (by decide) rfl
        have hFc := va_free (wc := [(r 57, .inr (6, [.ref (r 59), .ref (r 60), .ref (r 61), .ref (r 62), .ref (r 63), .int 0, .int 0])), (r 36, .inl ((c 36), 78, .inl (fun _ => 0))), (r 59, .inl ((c 59), 5, .inl f59)), (r 60, .inl ((c 60), 5, .inl f60)), (r 61, .inl ((c 61), 5, .inl f61)), (r 62, .inl ((c 62), 5, .inl f62)), (r 63, .inl ((c 63), 4, .inl f63))]) hD hS hA [3, 1, 4, 5, 6, 7, 8] rfl
        refine va_callv (va_runV (As := [.ref (r 36), .int 0]) (rest := []) ⟨hx, hb, hml, hown, hG⟩ (kX7_writeTo_v3 l dC dI (r 57) (r 59) (r 60) (r 61) (r 62) (r 63) (r 36) (c 36) (c 59) (c 60) (c 61) (c 62) (c 63) f59 f60 f61 f62 f63 s.heap.size ) (cwV 2 hG (goodV gw1139 gw462 gw463 gw134 gw464) rfl rfl rfl hd_X7_writeTo ⟨(Nat.le_of_ble_eq_true rfl), (Nat.le_of_ble_eq_true rfl)⟩) ⟨fbW, va_recv hKc hPc (ci := 6) (q0 := 0) rfl rfl, pW_in hPc hKc hDc⟩ rfl rfl hl.1 rfl (lv_room (Nat.le_of_ble_eq_true rfl)) dX8_image_20 ⟨(Nat.le_of_ble_eq_true rfl), (Nat.le_of_ble_eq_true rfl)⟩) hS (fun q _ h => hFc q h) hFc (fun u t H3 locs ht hvm hw hB hz1 hk1 hS => ?_)
        obtain ⟨zf5, hP1, hD1⟩ := hB
        rw [ht] at hP1
        obtain ⟨hP, hD⟩ := va_join (wr := [(r 0, .inr (7, [.ref (r 1), .int 0, .ref (r 2), .ref (r 55), .ref (r 57), .ref (r 30), .ref (r 56), .ref (r 36), .ref (r 37), .ref (r 38), .int 0, .ref (r 51), .int 0, .ref (r 52), .ref (r 53), .ref (r 54)])), (r 37, .inl ((c 37), 3, .inl (fun _ => 0)))]) (w1 := [(r 57, .inr (6, [.ref (r 59), .ref (r 60), .ref (r 61), .ref (r 62), .ref (r 63), .int 0, .int 0])), (r 36, .inl ((c 36), 78, .inl zf5)), (r 59, .inl ((c 59), 5, .inl f59)), (r 60, .inl ((c 60), 5, .inl f60)), (r 61, .inl ((c 61), 5, .inl f61)), (r 62, .inl ((c 62), 5, .inl f62)), (r 63, .inl ((c 63), 4, .inl f63))]) hP hD [3, 1, 4, 5, 6, 7, 8] [0, 2] rfl rfl (by decide) (by decide) hk1 hFc hP1 hD1
        have hP : va_P (dC, dI) vwCl [(r 0, .inr (7, [.ref (r 1), .int 0, .ref (r 2), .ref (r 55), .ref (r 57), .ref (r 30), .ref (r 56), .ref (r 36), .ref (r 37), .ref (r 38), .int 0, .ref (r 51), .int 0, .ref (r 52), .ref (r 53), .ref (r 54)])), (r 37, .inl ((c 37), 3, .inl (fun _ => 0))), (r 57, .inr (6, [.ref (r 59), .ref (r 60), .ref (r 61), .ref (r 62), .ref (r 63), .int 0, .int 0])), (r 36, .inl ((c 36), 78, .inl zf5)), (r 59, .inl ((c 59), 5, .inl f59)), (r 60, .inl ((c 60), 5, .inl f60)), (r 61, .inl ((c 61), 5, .inl f61)), (r 62, .inl ((c 62), 5, .inl f62)), (r 63, .inl ((c 63), 4, .inl f63))] H3 := hP
        have hD : va_D A [(r 0, .inr (7, [.ref (r 1), .int 0, .ref (r 2), .ref (r 55), .ref (r 57), .ref (r 30), .ref (r 56), .ref (r 36), .ref (r 37), .ref (r 38), .int 0, .ref (r 51), .int 0, .ref (r 52), .ref (r 53), .ref (r 54)])), (r 37, .inl ((c 37), 3, .inl (fun _ => 0))), (r 57, .inr (6, [.ref (r 59), .ref (r 60), .ref (r 61), .ref (r 62), .ref (r 63), .int 0, .int 0])), (r 36, .inl ((c 36), 78, .inl zf5)), (r 59, .inl ((c 59), 5, .inl f59)), (r 60, .inl ((c 60), 5, .inl f60)), (r 61, .inl ((c 61), 5, .inl f61)), (r 62, .inl ((c 62), 5, .inl f62)), (r 63, .inl ((c 63), 4, .inl f63))] := hD
        refine lv_aload_n hx hb dX8_image_23 rfl (lv_at hl 0 rfl) ?_
        refine va_get (D := (dC, dI)) (ci := 7) (v := .ref (r 37)) (C := RX8) (T := TX8) (N := 16) hx hb hG inX8 hown hK hP 0 rfl rfl 8 (by decide) (hG _ gw476) (fun _ h9 => h9) rfl dX8_image_24 ?_
        refine lv_iload_n hx hb dX8_image_27 rfl (lv_at hl 1 rfl) ?_
        refine lv_iconst (v := 1) hx hb dX8_image_28 (by decide) ?_
        refine va_zast hx hb hK hP hD hS 1 1 rfl rfl (vin (by decide)) dX8_image_29 (fun H6 locs hP hD hS => ?_)
        obtain ⟨zf7, ezf7⟩ : ∃ z : Nat → Int32, z = upd (fun _ => 0) (0 : Int32).toNatClampNeg (vp_nar .boolean 1) := ⟨_, rfl⟩
        have hP : va_P (dC, dI) vwCl [(r 0, .inr (7, [.ref (r 1), .int 0, .ref (r 2), .ref (r 55), .ref (r 57), .ref (r 30), .ref (r 56), .ref (r 36), .ref (r 37), .ref (r 38), .int 0, .ref (r 51), .int 0, .ref (r 52), .ref (r 53), .ref (r 54)])), (r 37, .inl ((c 37), 3, .inl zf7)), (r 57, .inr (6, [.ref (r 59), .ref (r 60), .ref (r 61), .ref (r 62), .ref (r 63), .int 0, .int 0])), (r 36, .inl ((c 36), 78, .inl zf5)), (r 59, .inl ((c 59), 5, .inl f59)), (r 60, .inl ((c 60), 5, .inl f60)), (r 61, .inl ((c 61), 5, .inl f61)), (r 62, .inl ((c 62), 5, .inl f62)), (r 63, .inl ((c 63), 4, .inl f63))] H6 := by rw [ezf7]; exact hP
        have hD : va_D A [(r 0, .inr (7, [.ref (r 1), .int 0, .ref (r 2), .ref (r 55), .ref (r 57), .ref (r 30), .ref (r 56), .ref (r 36), .ref (r 37), .ref (r 38), .int 0, .ref (r 51), .int 0, .ref (r 52), .ref (r 53), .ref (r 54)])), (r 37, .inl ((c 37), 3, .inl zf7)), (r 57, .inr (6, [.ref (r 59), .ref (r 60), .ref (r 61), .ref (r 62), .ref (r 63), .int 0, .int 0])), (r 36, .inl ((c 36), 78, .inl zf5)), (r 59, .inl ((c 59), 5, .inl f59)), (r 60, .inl ((c 60), 5, .inl f60)), (r 61, .inl ((c 61), 5, .inl f61)), (r 62, .inl ((c 62), 5, .inl f62)), (r 63, .inl ((c 63), 4, .inl f63))] := by rw [ezf7]; exact hD
        refine lv_aload_n hx hb dX8_image_30 rfl (lv_at hl 0 rfl) ?_
        refine va_get (D := (dC, dI)) (ci := 7) (v := .ref (r 57)) (C := RX8) (T := TX8) (N := 16) hx hb hG inX8 hown hK hP 0 rfl rfl 4 (by decide) (hG _ gw472) (fun _ h9 => h9) rfl dX8_image_31 ?_
        refine va_get (D := (dC, dI)) (ci := 6) (v := .int 0) (C := RX7) (T := TX7) (N := 7) hx hb hG inX7 hown hK hP 2 rfl rfl 5 (by decide) (hG _ gw362) (fun _ h9 => h9) rfl dX8_image_34 ?_
        exact W.iret (v := 0) hx hb hr (fun t ht hW => ⟨⟨0, 1, rfl, (Or.inr (Or.inl ⟨rfl, rfl, rfl⟩)), trivial⟩, hS.F ht⟩) hS.2.2 dX8_image_37
      · skip
        have hPc := hP.sub (ws' := [(r 57, .inr (6, [.ref (r 59), .ref (r 60), .ref (r 61), .ref (r 62), .ref (r 63), .int 0, .int 0])), (r 36, .inl ((c 36), 78, .inl (fun _ => 0))), (r 59, .inl ((c 59), 5, .inl f59)), (r 60, .inl ((c 60), 5, .inl f60)), (r 61, .inl ((c 61), 5, .inl f61)), (r 62, .inl ((c 62), 5, .inl f62)), (r 63, .inl ((c 63), 4, .inl f63))]) [3, 1, 4, 5, 6, 7, 8] rfl
        have hKc := hK.sub (tys' := [((c 36), .int), ((c 59), .int), ((c 60), .int), ((c 61), .int), ((c 62), .int), ((c 63), .int)]) [0, 2, 3, 4, 5, 6] rfl
        have hDc := hD.sub (ws' := [(r 57, .inr (6, [.ref (r 59), .ref (r 60), .ref (r 61), .ref (r 62), .ref (r 63), .int 0, .int 0])), (r 36, .inl ((c 36), 78, .inl (fun _ => 0))), (r 59, .inl ((c 59), 5, .inl f59)), (r 60, .inl ((c 60), 5, .inl f60)), (r 61, .inl ((c 61), 5, .inl f61)), (r 62, .inl ((c 62), 5, .inl f62)), (r 63, .inl ((c 63), 4, .inl f63))]) [3, 1, 4, 5, 6, 7, 8] (by decide) rfl
        have hFc := va_free (wc := [(r 57, .inr (6, [.ref (r 59), .ref (r 60), .ref (r 61), .ref (r 62), .ref (r 63), .int 0, .int 0])), (r 36, .inl ((c 36), 78, .inl (fun _ => 0))), (r 59, .inl ((c 59), 5, .inl f59)), (r 60, .inl ((c 60), 5, .inl f60)), (r 61, .inl ((c 61), 5, .inl f61)), (r 62, .inl ((c 62), 5, .inl f62)), (r 63, .inl ((c 63), 4, .inl f63))]) hD hS hA [3, 1, 4, 5, 6, 7, 8] rfl
        refine va_callv (va_runV (As := [.ref (r 36), .int 1]) (rest := []) ⟨hx, hb, hml, hown, hG⟩ (kX7_writeTo_v4 l dC dI (r 57) (r 59) (r 60) (r 61) (r 62) (r 63) (r 36) (c 36) (c 59) (c 60) (c 61) (c 62) (c 63) f59 f60 f61 f62 f63 s.heap.size ) (cwV 2 hG (goodV gw1139 gw462 gw463 gw134 gw464) rfl rfl rfl hd_X7_writeTo ⟨(Nat.le_of_ble_eq_true rfl), (Nat.le_of_ble_eq_true rfl)⟩) ⟨fbW, va_recv hKc hPc (ci := 6) (q0 := 0) rfl rfl, pW_in hPc hKc hDc⟩ rfl rfl hl.1 rfl (lv_room (Nat.le_of_ble_eq_true rfl)) dX8_image_20 ⟨(Nat.le_of_ble_eq_true rfl), (Nat.le_of_ble_eq_true rfl)⟩) hS (fun q _ h => hFc q h) hFc (fun u t H8 locs ht hvm hw hB hz1 hk1 hS => ?_)
        obtain ⟨zf10, hP1, hD1⟩ := hB
        rw [ht] at hP1
        obtain ⟨hP, hD⟩ := va_join (wr := [(r 0, .inr (7, [.ref (r 1), .int 0, .ref (r 2), .ref (r 55), .ref (r 57), .ref (r 30), .ref (r 56), .ref (r 36), .ref (r 37), .ref (r 38), .int 0, .ref (r 51), .int 0, .ref (r 52), .ref (r 53), .ref (r 54)])), (r 37, .inl ((c 37), 3, .inl (fun _ => 0)))]) (w1 := [(r 57, .inr (6, [.ref (r 59), .ref (r 60), .ref (r 61), .ref (r 62), .ref (r 63), .int 0, .int 0])), (r 36, .inl ((c 36), 78, .inl zf10)), (r 59, .inl ((c 59), 5, .inl f59)), (r 60, .inl ((c 60), 5, .inl f60)), (r 61, .inl ((c 61), 5, .inl f61)), (r 62, .inl ((c 62), 5, .inl f62)), (r 63, .inl ((c 63), 4, .inl f63))]) hP hD [3, 1, 4, 5, 6, 7, 8] [0, 2] rfl rfl (by decide) (by decide) hk1 hFc hP1 hD1
        have hP : va_P (dC, dI) vwCl [(r 0, .inr (7, [.ref (r 1), .int 0, .ref (r 2), .ref (r 55), .ref (r 57), .ref (r 30), .ref (r 56), .ref (r 36), .ref (r 37), .ref (r 38), .int 0, .ref (r 51), .int 0, .ref (r 52), .ref (r 53), .ref (r 54)])), (r 37, .inl ((c 37), 3, .inl (fun _ => 0))), (r 57, .inr (6, [.ref (r 59), .ref (r 60), .ref (r 61), .ref (r 62), .ref (r 63), .int 0, .int 0])), (r 36, .inl ((c 36), 78, .inl zf10)), (r 59, .inl ((c 59), 5, .inl f59)), (r 60, .inl ((c 60), 5, .inl f60)), (r 61, .inl ((c 61), 5, .inl f61)), (r 62, .inl ((c 62), 5, .inl f62)), (r 63, .inl ((c 63), 4, .inl f63))] H8 := hP
        have hD : va_D A [(r 0, .inr (7, [.ref (r 1), .int 0, .ref (r 2), .ref (r 55), .ref (r 57), .ref (r 30), .ref (r 56), .ref (r 36), .ref (r 37), .ref (r 38), .int 0, .ref (r 51), .int 0, .ref (r 52), .ref (r 53), .ref (r 54)])), (r 37, .inl ((c 37), 3, .inl (fun _ => 0))), (r 57, .inr (6, [.ref (r 59), .ref (r 60), .ref (r 61), .ref (r 62), .ref (r 63), .int 0, .int 0])), (r 36, .inl ((c 36), 78, .inl zf10)), (r 59, .inl ((c 59), 5, .inl f59)), (r 60, .inl ((c 60), 5, .inl f60)), (r 61, .inl ((c 61), 5, .inl f61)), (r 62, .inl ((c 62), 5, .inl f62)), (r 63, .inl ((c 63), 4, .inl f63))] := hD
        refine lv_aload_n hx hb dX8_image_23 rfl (lv_at hl 0 rfl) ?_
        refine va_get (D := (dC, dI)) (ci := 7) (v := .ref (r 37)) (C := RX8) (T := TX8) (N := 16) hx hb hG inX8 hown hK hP 0 rfl rfl 8 (by decide) (hG _ gw476) (fun _ h9 => h9) rfl dX8_image_24 ?_
        refine lv_iload_n hx hb dX8_image_27 rfl (lv_at hl 1 rfl) ?_
        refine lv_iconst (v := 1) hx hb dX8_image_28 (by decide) ?_
        refine va_zast hx hb hK hP hD hS 1 1 rfl rfl (vin (by decide)) dX8_image_29 (fun H11 locs hP hD hS => ?_)
        obtain ⟨zf12, ezf12⟩ : ∃ z : Nat → Int32, z = upd (fun _ => 0) (1 : Int32).toNatClampNeg (vp_nar .boolean 1) := ⟨_, rfl⟩
        have hP : va_P (dC, dI) vwCl [(r 0, .inr (7, [.ref (r 1), .int 0, .ref (r 2), .ref (r 55), .ref (r 57), .ref (r 30), .ref (r 56), .ref (r 36), .ref (r 37), .ref (r 38), .int 0, .ref (r 51), .int 0, .ref (r 52), .ref (r 53), .ref (r 54)])), (r 37, .inl ((c 37), 3, .inl zf12)), (r 57, .inr (6, [.ref (r 59), .ref (r 60), .ref (r 61), .ref (r 62), .ref (r 63), .int 0, .int 0])), (r 36, .inl ((c 36), 78, .inl zf10)), (r 59, .inl ((c 59), 5, .inl f59)), (r 60, .inl ((c 60), 5, .inl f60)), (r 61, .inl ((c 61), 5, .inl f61)), (r 62, .inl ((c 62), 5, .inl f62)), (r 63, .inl ((c 63), 4, .inl f63))] H11 := by rw [ezf12]; exact hP
        have hD : va_D A [(r 0, .inr (7, [.ref (r 1), .int 0, .ref (r 2), .ref (r 55), .ref (r 57), .ref (r 30), .ref (r 56), .ref (r 36), .ref (r 37), .ref (r 38), .int 0, .ref (r 51), .int 0, .ref (r 52), .ref (r 53), .ref (r 54)])), (r 37, .inl ((c 37), 3, .inl zf12)), (r 57, .inr (6, [.ref (r 59), .ref (r 60), .ref (r 61), .ref (r 62), .ref (r 63), .int 0, .int 0])), (r 36, .inl ((c 36), 78, .inl zf10)), (r 59, .inl ((c 59), 5, .inl f59)), (r 60, .inl ((c 60), 5, .inl f60)), (r 61, .inl ((c 61), 5, .inl f61)), (r 62, .inl ((c 62), 5, .inl f62)), (r 63, .inl ((c 63), 4, .inl f63))] := by rw [ezf12]; exact hD
        refine lv_aload_n hx hb dX8_image_30 rfl (lv_at hl 0 rfl) ?_
        refine va_get (D := (dC, dI)) (ci := 7) (v := .ref (r 57)) (C := RX8) (T := TX8) (N := 16) hx hb hG inX8 hown hK hP 0 rfl rfl 4 (by decide) (hG _ gw472) (fun _ h9 => h9) rfl dX8_image_31 ?_
        refine va_get (D := (dC, dI)) (ci := 6) (v := .int 0) (C := RX7) (T := TX7) (N := 7) hx hb hG inX7 hown hK hP 2 rfl rfl 5 (by decide) (hG _ gw362) (fun _ h9 => h9) rfl dX8_image_34 ?_
        exact W.iret (v := 0) hx hb hr (fun t ht hW => ⟨⟨0, 2, rfl, (Or.inr (Or.inr (Or.inl ⟨rfl, rfl, rfl⟩))), trivial⟩, hS.F ht⟩) hS.2.2 dX8_image_37
      · skip
        have hPc := hP.sub (ws' := [(r 57, .inr (6, [.ref (r 59), .ref (r 60), .ref (r 61), .ref (r 62), .ref (r 63), .int 0, .int 0])), (r 36, .inl ((c 36), 78, .inl (fun _ => 0))), (r 59, .inl ((c 59), 5, .inl f59)), (r 60, .inl ((c 60), 5, .inl f60)), (r 61, .inl ((c 61), 5, .inl f61)), (r 62, .inl ((c 62), 5, .inl f62)), (r 63, .inl ((c 63), 4, .inl f63))]) [3, 1, 4, 5, 6, 7, 8] rfl
        have hKc := hK.sub (tys' := [((c 36), .int), ((c 59), .int), ((c 60), .int), ((c 61), .int), ((c 62), .int), ((c 63), .int)]) [0, 2, 3, 4, 5, 6] rfl
        have hDc := hD.sub (ws' := [(r 57, .inr (6, [.ref (r 59), .ref (r 60), .ref (r 61), .ref (r 62), .ref (r 63), .int 0, .int 0])), (r 36, .inl ((c 36), 78, .inl (fun _ => 0))), (r 59, .inl ((c 59), 5, .inl f59)), (r 60, .inl ((c 60), 5, .inl f60)), (r 61, .inl ((c 61), 5, .inl f61)), (r 62, .inl ((c 62), 5, .inl f62)), (r 63, .inl ((c 63), 4, .inl f63))]) [3, 1, 4, 5, 6, 7, 8] (by decide) rfl
        have hFc := va_free (wc := [(r 57, .inr (6, [.ref (r 59), .ref (r 60), .ref (r 61), .ref (r 62), .ref (r 63), .int 0, .int 0])), (r 36, .inl ((c 36), 78, .inl (fun _ => 0))), (r 59, .inl ((c 59), 5, .inl f59)), (r 60, .inl ((c 60), 5, .inl f60)), (r 61, .inl ((c 61), 5, .inl f61)), (r 62, .inl ((c 62), 5, .inl f62)), (r 63, .inl ((c 63), 4, .inl f63))]) hD hS hA [3, 1, 4, 5, 6, 7, 8] rfl
        refine va_callv (va_runV (As := [.ref (r 36), .int 2]) (rest := []) ⟨hx, hb, hml, hown, hG⟩ (kX7_writeTo_v5 l dC dI (r 57) (r 59) (r 60) (r 61) (r 62) (r 63) (r 36) (c 36) (c 59) (c 60) (c 61) (c 62) (c 63) f59 f60 f61 f62 f63 s.heap.size ) (cwV 2 hG (goodV gw1139 gw462 gw463 gw134 gw464) rfl rfl rfl hd_X7_writeTo ⟨(Nat.le_of_ble_eq_true rfl), (Nat.le_of_ble_eq_true rfl)⟩) ⟨fbW, va_recv hKc hPc (ci := 6) (q0 := 0) rfl rfl, pW_in hPc hKc hDc⟩ rfl rfl hl.1 rfl (lv_room (Nat.le_of_ble_eq_true rfl)) dX8_image_20 ⟨(Nat.le_of_ble_eq_true rfl), (Nat.le_of_ble_eq_true rfl)⟩) hS (fun q _ h => hFc q h) hFc (fun u t H13 locs ht hvm hw hB hz1 hk1 hS => ?_)
        obtain ⟨zf15, hP1, hD1⟩ := hB
        rw [ht] at hP1
        obtain ⟨hP, hD⟩ := va_join (wr := [(r 0, .inr (7, [.ref (r 1), .int 0, .ref (r 2), .ref (r 55), .ref (r 57), .ref (r 30), .ref (r 56), .ref (r 36), .ref (r 37), .ref (r 38), .int 0, .ref (r 51), .int 0, .ref (r 52), .ref (r 53), .ref (r 54)])), (r 37, .inl ((c 37), 3, .inl (fun _ => 0)))]) (w1 := [(r 57, .inr (6, [.ref (r 59), .ref (r 60), .ref (r 61), .ref (r 62), .ref (r 63), .int 0, .int 0])), (r 36, .inl ((c 36), 78, .inl zf15)), (r 59, .inl ((c 59), 5, .inl f59)), (r 60, .inl ((c 60), 5, .inl f60)), (r 61, .inl ((c 61), 5, .inl f61)), (r 62, .inl ((c 62), 5, .inl f62)), (r 63, .inl ((c 63), 4, .inl f63))]) hP hD [3, 1, 4, 5, 6, 7, 8] [0, 2] rfl rfl (by decide) (by decide) hk1 hFc hP1 hD1
        have hP : va_P (dC, dI) vwCl [(r 0, .inr (7, [.ref (r 1), .int 0, .ref (r 2), .ref (r 55), .ref (r 57), .ref (r 30), .ref (r 56), .ref (r 36), .ref (r 37), .ref (r 38), .int 0, .ref (r 51), .int 0, .ref (r 52), .ref (r 53), .ref (r 54)])), (r 37, .inl ((c 37), 3, .inl (fun _ => 0))), (r 57, .inr (6, [.ref (r 59), .ref (r 60), .ref (r 61), .ref (r 62), .ref (r 63), .int 0, .int 0])), (r 36, .inl ((c 36), 78, .inl zf15)), (r 59, .inl ((c 59), 5, .inl f59)), (r 60, .inl ((c 60), 5, .inl f60)), (r 61, .inl ((c 61), 5, .inl f61)), (r 62, .inl ((c 62), 5, .inl f62)), (r 63, .inl ((c 63), 4, .inl f63))] H13 := hP
        have hD : va_D A [(r 0, .inr (7, [.ref (r 1), .int 0, .ref (r 2), .ref (r 55), .ref (r 57), .ref (r 30), .ref (r 56), .ref (r 36), .ref (r 37), .ref (r 38), .int 0, .ref (r 51), .int 0, .ref (r 52), .ref (r 53), .ref (r 54)])), (r 37, .inl ((c 37), 3, .inl (fun _ => 0))), (r 57, .inr (6, [.ref (r 59), .ref (r 60), .ref (r 61), .ref (r 62), .ref (r 63), .int 0, .int 0])), (r 36, .inl ((c 36), 78, .inl zf15)), (r 59, .inl ((c 59), 5, .inl f59)), (r 60, .inl ((c 60), 5, .inl f60)), (r 61, .inl ((c 61), 5, .inl f61)), (r 62, .inl ((c 62), 5, .inl f62)), (r 63, .inl ((c 63), 4, .inl f63))] := hD
        refine lv_aload_n hx hb dX8_image_23 rfl (lv_at hl 0 rfl) ?_
        refine va_get (D := (dC, dI)) (ci := 7) (v := .ref (r 37)) (C := RX8) (T := TX8) (N := 16) hx hb hG inX8 hown hK hP 0 rfl rfl 8 (by decide) (hG _ gw476) (fun _ h9 => h9) rfl dX8_image_24 ?_
        refine lv_iload_n hx hb dX8_image_27 rfl (lv_at hl 1 rfl) ?_
        refine lv_iconst (v := 1) hx hb dX8_image_28 (by decide) ?_
        refine va_zast hx hb hK hP hD hS 1 1 rfl rfl (vin (by decide)) dX8_image_29 (fun H16 locs hP hD hS => ?_)
        obtain ⟨zf17, ezf17⟩ : ∃ z : Nat → Int32, z = upd (fun _ => 0) (2 : Int32).toNatClampNeg (vp_nar .boolean 1) := ⟨_, rfl⟩
        have hP : va_P (dC, dI) vwCl [(r 0, .inr (7, [.ref (r 1), .int 0, .ref (r 2), .ref (r 55), .ref (r 57), .ref (r 30), .ref (r 56), .ref (r 36), .ref (r 37), .ref (r 38), .int 0, .ref (r 51), .int 0, .ref (r 52), .ref (r 53), .ref (r 54)])), (r 37, .inl ((c 37), 3, .inl zf17)), (r 57, .inr (6, [.ref (r 59), .ref (r 60), .ref (r 61), .ref (r 62), .ref (r 63), .int 0, .int 0])), (r 36, .inl ((c 36), 78, .inl zf15)), (r 59, .inl ((c 59), 5, .inl f59)), (r 60, .inl ((c 60), 5, .inl f60)), (r 61, .inl ((c 61), 5, .inl f61)), (r 62, .inl ((c 62), 5, .inl f62)), (r 63, .inl ((c 63), 4, .inl f63))] H16 := by rw [ezf17]; exact hP
        have hD : va_D A [(r 0, .inr (7, [.ref (r 1), .int 0, .ref (r 2), .ref (r 55), .ref (r 57), .ref (r 30), .ref (r 56), .ref (r 36), .ref (r 37), .ref (r 38), .int 0, .ref (r 51), .int 0, .ref (r 52), .ref (r 53), .ref (r 54)])), (r 37, .inl ((c 37), 3, .inl zf17)), (r 57, .inr (6, [.ref (r 59), .ref (r 60), .ref (r 61), .ref (r 62), .ref (r 63), .int 0, .int 0])), (r 36, .inl ((c 36), 78, .inl zf15)), (r 59, .inl ((c 59), 5, .inl f59)), (r 60, .inl ((c 60), 5, .inl f60)), (r 61, .inl ((c 61), 5, .inl f61)), (r 62, .inl ((c 62), 5, .inl f62)), (r 63, .inl ((c 63), 4, .inl f63))] := by rw [ezf17]; exact hD
        refine lv_aload_n hx hb dX8_image_30 rfl (lv_at hl 0 rfl) ?_
        refine va_get (D := (dC, dI)) (ci := 7) (v := .ref (r 57)) (C := RX8) (T := TX8) (N := 16) hx hb hG inX8 hown hK hP 0 rfl rfl 4 (by decide) (hG _ gw472) (fun _ h9 => h9) rfl dX8_image_31 ?_
        refine va_get (D := (dC, dI)) (ci := 6) (v := .int 0) (C := RX7) (T := TX7) (N := 7) hx hb hG inX7 hown hK hP 2 rfl rfl 5 (by decide) (hG _ gw362) (fun _ h9 => h9) rfl dX8_image_34 ?_
        exact W.iret (v := 0) hx hb hr (fun t ht hW => ⟨⟨0, 3, rfl, (Or.inr (Or.inr (Or.inr (Or.inl ⟨rfl, rfl, rfl⟩)))), trivial⟩, hS.F ht⟩) hS.2.2 dX8_image_37
    · skip
      refine lv_iconst (v := (-1)) hx hb dX8_image_9 (by decide) ?_
      exact W.iret (v := (-1)) hx hb hr (fun t ht hW => ⟨⟨(-1), 4, rfl, (Or.inr (Or.inr (Or.inr (Or.inr ⟨rfl, c_1, c_2, rfl⟩)))), trivial⟩, hS.F ht⟩) hS.2.2 dX8_image_10
