set_option maxHeartbeats 4000000 in
set_option maxRecDepth 100000 in
theorem kX8_lies_v1 (l : Launch) (dC : Nat → ClassId) (dI : Nat → Nat → Nat) (r : Nat → Nat) (c : Nat → ClassId) (p0 : Int32) (sz : Nat) : Met l yX8_lies (.code yX8_lies cX8_lies 2 (some .int) :: GW) { frames := 2, cells := 0, slots := 0, locals := 100 } (va_Pc [.ref (r 0), .int p0] (pR (dC, dI) [(r 0, .inr (7, [.ref (r 1), .int 0, .ref (r 2), .ref (r 55), .ref (r 57), .ref (r 30), .ref (r 56), .ref (r 36), .ref (r 37), .ref (r 38), .int 0, .ref (r 51), .int 0, .ref (r 52), .ref (r 53), .ref (r 54)]))] [] sz)) (va_Qi (fun (r0 : Int32) (_ : Unit) => r0 = (-2)) (fun _ _ => True) (fun q => sz ≤ q)) 0 0 (fun q => sz ≤ q) := by
  refine Met.ofW (cc := cX8_lies) (maxL := 2) (ret := (some .int)) (by decide) rfl ?_
  intro p e s m args below meth c0 s₁ B hml hv
  obtain ⟨rfl, hsz, hP, hK⟩ := hv
  have hx := B.exec
  have hb := B.bytes
  have hr := B.returns
  have hts := atoms_spec (ws := .code yX8_lies cX8_lies 2 (some .int) :: GW) B.pre
  have hG : ∀ w ∈ GW, w.before _ s = true := fun w h => hts w (List.mem_cons_of_mem _ h)
  have hown : s.vm.findClass RX8 = some m.cls := findClass_of_methodNamed B.named
  have hlocks := B.notSynchronized
  subst hsz
  have hS : va_S (fun q => s.heap.size ≤ q) s.heap s.heap [] := va_S.rf
  have hP : va_P (dC, dI) vwCl [(r 0, .inr (7, [.ref (r 1), .int 0, .ref (r 2), .ref (r 55), .ref (r 57), .ref (r 30), .ref (r 56), .ref (r 36), .ref (r 37), .ref (r 38), .int 0, .ref (r 51), .int 0, .ref (r 52), .ref (r 53), .ref (r 54)]))] s.heap := hP
  have hl := lv_entry ([.ref (r 0), .int p0]) (n := 2) (Nat.le_of_ble_eq_true rfl)
  rw [lg_entry_eq]
  generalize (lg_sl ([.ref (r 0), .int p0]) ++ List.replicate (2 - (lg_sl ([.ref (r 0), .int p0])).length) Slot.unset).toArray = ls at hl ⊢
  have hl : lv_has ls 2 [(0, .ref (r 0)), (1, .int p0)] := hl
  refine lv_iload_n hx hb dX8_lies_0 rfl (lv_at hl 1 rfl) ?_
  refine lv_if_lt (tgt := 21) hx hb dX8_lies_1 (by decide) (fun c_1 => ?_) (fun c_1 => ?_)
  · skip
    refine lv_bipush (v := (-2)) hx hb dX8_lies_21 (by decide) ?_
    exact W.iret (v := (-2)) hx hb hr (fun t ht hW => ⟨⟨(-2), (), rfl, rfl, trivial⟩, hS.F ht⟩) hS.2.2 dX8_lies_23
  · skip
    refine lv_iload_n hx hb dX8_lies_4 rfl (lv_at hl 1 rfl) ?_
    refine lv_aload_n hx hb dX8_lies_5 rfl (lv_at hl 0 rfl) ?_
    refine va_get (D := (dC, dI)) (ci := 7) (v := .int 0) (C := RX8) (T := TX8) (N := 16) hx hb hG inX8 hown hK hP 0 rfl rfl 12 (by decide) (hG _ gw480) (fun _ h9 => h9) rfl dX8_lies_6 ?_
    refine lv_icmp_ge (tgt := 21) hx hb dX8_lies_9 (by decide) (fun c_2 => ?_) (fun c_2 => ((by have k0 := q_nlt c_1; have k1 := q_nle c_2; have z0 : (0 : Int32).toInt = 0 := (by decide); omega) : False).elim)
    refine lv_bipush (v := (-2)) hx hb dX8_lies_21 (by decide) ?_
    exact W.iret (v := (-2)) hx hb hr (fun t ht hW => ⟨⟨(-2), (), rfl, rfl, trivial⟩, hS.F ht⟩) hS.2.2 dX8_lies_23
set_option maxHeartbeats 4000000 in
set_option maxRecDepth 100000 in
theorem kX9_lies_v1 (l : Launch) (dC : Nat → ClassId) (dI : Nat → Nat → Nat) (r : Nat → Nat) (c : Nat → ClassId) (p0 : Int32) (sz : Nat) : Met l yX9_lies (.code yX9_lies cX9_lies 2 (some .int) :: GW) { frames := 4, cells := 0, slots := 0, locals := 162 } (va_Pc [.ref (r 0), .int p0] (pR (dC, dI) [(r 0, .inr (8, [.ref (r 1), .ref (r 2), .int 0, .int 0, .int 0, .int (-1), .int 0, .int 0, .int 0, .int 0, .long 0, .ref (r 3), .ref (r 4), .ref (r 5), .ref (r 6), .ref (r 7), .ref (r 8), .ref (r 9), .ref (r 10), .ref (r 11), .ref (r 12), .ref (r 13), .ref (r 14), .ref (r 15), .ref (r 16), .ref (r 17), .ref (r 18), .ref (r 19), .ref (r 20), .ref (r 21), .ref (r 22), .ref (r 23), .ref (r 24), .int 0, .int 0, .int 0, .int 0, .int 0, .int 0, .int 0, .int 0, .int 0, .ref (r 25), .ref (r 26), .ref (r 27), .int 0, .int 0, .ref (r 28), .int 0, .ref (r 29), .ref (r 30), .ref (r 31), .ref (r 32), .ref (r 33), .ref (r 34), .ref (r 35), .ref (r 36), .int 0, .int 0, .int 0, .ref (r 37), .ref (r 38)]))] [] sz)) (va_Qi (fun (r0 : Int32) (_ : Unit) => r0 = (-2)) (fun _ _ => True) (fun q => sz ≤ q)) 0 0 (fun q => sz ≤ q) := by
  refine Met.ofW (cc := cX9_lies) (maxL := 2) (ret := (some .int)) (by decide) rfl ?_
  intro p e s m args below meth c0 s₁ B hml hv
  obtain ⟨rfl, hsz, hP, hK⟩ := hv
  have hx := B.exec
  have hb := B.bytes
  have hr := B.returns
  have hts := atoms_spec (ws := .code yX9_lies cX9_lies 2 (some .int) :: GW) B.pre
  have hG : ∀ w ∈ GW, w.before _ s = true := fun w h => hts w (List.mem_cons_of_mem _ h)
  have hown : s.vm.findClass RX9 = some m.cls := findClass_of_methodNamed B.named
  have hlocks := B.notSynchronized
  subst hsz
  have hS : va_S (fun q => s.heap.size ≤ q) s.heap s.heap [] := va_S.rf
  have hP : va_P (dC, dI) vwCl [(r 0, .inr (8, [.ref (r 1), .ref (r 2), .int 0, .int 0, .int 0, .int (-1), .int 0, .int 0, .int 0, .int 0, .long 0, .ref (r 3), .ref (r 4), .ref (r 5), .ref (r 6), .ref (r 7), .ref (r 8), .ref (r 9), .ref (r 10), .ref (r 11), .ref (r 12), .ref (r 13), .ref (r 14), .ref (r 15), .ref (r 16), .ref (r 17), .ref (r 18), .ref (r 19), .ref (r 20), .ref (r 21), .ref (r 22), .ref (r 23), .ref (r 24), .int 0, .int 0, .int 0, .int 0, .int 0, .int 0, .int 0, .int 0, .int 0, .ref (r 25), .ref (r 26), .ref (r 27), .int 0, .int 0, .ref (r 28), .int 0, .ref (r 29), .ref (r 30), .ref (r 31), .ref (r 32), .ref (r 33), .ref (r 34), .ref (r 35), .ref (r 36), .int 0, .int 0, .int 0, .ref (r 37), .ref (r 38)]))] s.heap := hP
  have hl := lv_entry ([.ref (r 0), .int p0]) (n := 2) (Nat.le_of_ble_eq_true rfl)
  rw [lg_entry_eq]
  generalize (lg_sl ([.ref (r 0), .int p0]) ++ List.replicate (2 - (lg_sl ([.ref (r 0), .int p0])).length) Slot.unset).toArray = ls at hl ⊢
  have hl : lv_has ls 2 [(0, .ref (r 0)), (1, .int p0)] := hl
  refine lv_iload_n hx hb dX9_lies_0 rfl (lv_at hl 1 rfl) ?_
  refine lv_iconst (v := 0) hx hb dX9_lies_1 (by decide) ?_
  refine lv_aload_n hx hb dX9_lies_2 rfl (lv_at hl 0 rfl) ?_
  refine va_get (D := (dC, dI)) (ci := 8) (v := .int 0) (C := RX9) (T := TX9) (N := 62) hx hb hG inX9 hown hK hP 0 rfl rfl 48 (by decide) (hG _ gw1219) (fun _ h9 => h9) rfl dX9_lies_3 ?_
  refine lv_iconst (v := 1) hx hb dX9_lies_6 (by decide) ?_
  refine lv_isub hx hb dX9_lies_7 ?_
  refine wt_c (v := (-1)) (by decide) ?_
  have hPc := hP.sub (ws' := []) [] rfl
  have hKc := hK.sub (tys' := []) [] rfl
  refine va_calli (va_runS (As := [.int p0, .int 0, .int (-1)]) (rest := []) ⟨hx, hb, hml, hown, hG⟩ (kX9_isIn l dC dI p0 s.heap.size ) (va_cwS 3 hG (goodS gw1516 gw1517 gw138 gw1518) rfl rfl rfl hd_X9_isIn ⟨(Nat.le_of_ble_eq_true rfl), (Nat.le_of_ble_eq_true rfl)⟩) ⟨fbR, pR_in hPc hKc⟩ rfl rfl hl.1 rfl (lv_room (Nat.le_of_ble_eq_true rfl)) dX9_lies_8 ⟨(Nat.le_of_ble_eq_true rfl), (Nat.le_of_ble_eq_true rfl)⟩) hS (fun q hq h => absurd hq (Nat.not_lt.mpr h)) (fun q h => Nat.le_trans hS.1 h) (fun r_2 u t H1 locs ht hvm hw hB hz1 hk1 hS => ?_)
  have hP := wk hP hk1
  refine wt_c (v := 0) hw ?_
  refine lv_if_eq (tgt := 23) hx hb dX9_lies_11 (by decide) (fun c_3 => ?_) (fun c_3 => absurd (by decide) c_3)
  refine lv_bipush (v := (-2)) hx hb dX9_lies_23 (by decide) ?_
  exact W.iret (v := (-2)) hx hb hr (fun t ht hW => ⟨⟨(-2), (), rfl, rfl, trivial⟩, hS.F ht⟩) hS.2.2 dX9_lies_25
set_option maxHeartbeats 4000000 in
set_option maxRecDepth 100000 in
theorem kX8_known (l : Launch) (dC : Nat → ClassId) (dI : Nat → Nat → Nat) (r : Nat → Nat) (c : Nat → ClassId) (p0 p1 : Int32) (sz : Nat) : Met l yX8_known (.code yX8_known cX8_known 4 (some .int) :: GW) { frames := 4, cells := 0, slots := 0, locals := 161 } (va_Pc [.ref (r 0), .int p0, .int p1, .int 0] (pW (dC, dI) [(r 0, .inr (7, [.ref (r 1), .int 0, .ref (r 2), .ref (r 55), .ref (r 57), .ref (r 30), .ref (r 56), .ref (r 36), .ref (r 37), .ref (r 38), .int 0, .ref (r 51), .int 0, .ref (r 52), .ref (r 53), .ref (r 54)])), (r 55, .inr (3, [.int 1, .int 0, .int 0, .int 0, .ref (r 20), .ref (r 21), .ref (r 22), .int 0, .ref (r 23), .ref (r 24), .ref (r 25), .int 0, .ref (r 28), .ref (r 27)]))] [] sz)) (va_Qi (fun (r0 : Int32) (_ : Unit) => r0 = (-1)) (fun _ _ => True) (va_A [(r 0, .inr (7, [.ref (r 1), .int 0, .ref (r 2), .ref (r 55), .ref (r 57), .ref (r 30), .ref (r 56), .ref (r 36), .ref (r 37), .ref (r 38), .int 0, .ref (r 51), .int 0, .ref (r 52), .ref (r 53), .ref (r 54)])), (r 55, .inr (3, [.int 1, .int 0, .int 0, .int 0, .ref (r 20), .ref (r 21), .ref (r 22), .int 0, .ref (r 23), .ref (r 24), .ref (r 25), .int 0, .ref (r 28), .ref (r 27)]))] sz)) 0 0 (va_A [(r 0, .inr (7, [.ref (r 1), .int 0, .ref (r 2), .ref (r 55), .ref (r 57), .ref (r 30), .ref (r 56), .ref (r 36), .ref (r 37), .ref (r 38), .int 0, .ref (r 51), .int 0, .ref (r 52), .ref (r 53), .ref (r 54)])), (r 55, .inr (3, [.int 1, .int 0, .int 0, .int 0, .ref (r 20), .ref (r 21), .ref (r 22), .int 0, .ref (r 23), .ref (r 24), .ref (r 25), .int 0, .ref (r 28), .ref (r 27)]))] sz) := by
  refine Met.ofW (cc := cX8_known) (maxL := 4) (ret := (some .int)) (by decide) rfl ?_
  intro p e s m args below meth c0 s₁ B hml hv
  obtain ⟨rfl, hsz, hP, hK, hD0⟩ := hv
  have hx := B.exec
  have hb := B.bytes
  have hr := B.returns
  have hts := atoms_spec (ws := .code yX8_known cX8_known 4 (some .int) :: GW) B.pre
  have hG : ∀ w ∈ GW, w.before _ s = true := fun w h => hts w (List.mem_cons_of_mem _ h)
  have hown : s.vm.findClass RX8 = some m.cls := findClass_of_methodNamed B.named
  have hlocks := B.notSynchronized
  subst hsz
  have hD := hD0.self (sz := s.heap.size)
  generalize hAe : va_A [(r 0, .inr (7, [.ref (r 1), .int 0, .ref (r 2), .ref (r 55), .ref (r 57), .ref (r 30), .ref (r 56), .ref (r 36), .ref (r 37), .ref (r 38), .int 0, .ref (r 51), .int 0, .ref (r 52), .ref (r 53), .ref (r 54)])), (r 55, .inr (3, [.int 1, .int 0, .int 0, .int 0, .ref (r 20), .ref (r 21), .ref (r 22), .int 0, .ref (r 23), .ref (r 24), .ref (r 25), .int 0, .ref (r 28), .ref (r 27)]))] s.heap.size = A at hD ⊢
  have hA : ∀ q : Nat, s.heap.size ≤ q → A q := fun q h => by rw [← hAe]; exact Or.inr h
  have hS : va_S A s.heap s.heap [] := va_S.rf
  have hP : va_P (dC, dI) vwCl [(r 0, .inr (7, [.ref (r 1), .int 0, .ref (r 2), .ref (r 55), .ref (r 57), .ref (r 30), .ref (r 56), .ref (r 36), .ref (r 37), .ref (r 38), .int 0, .ref (r 51), .int 0, .ref (r 52), .ref (r 53), .ref (r 54)])), (r 55, .inr (3, [.int 1, .int 0, .int 0, .int 0, .ref (r 20), .ref (r 21), .ref (r 22), .int 0, .ref (r 23), .ref (r 24), .ref (r 25), .int 0, .ref (r 28), .ref (r 27)]))] s.heap := hP
  have hl := lv_entry ([.ref (r 0), .int p0, .int p1, .int 0]) (n := 4) (Nat.le_of_ble_eq_true rfl)
  rw [lg_entry_eq]
  generalize (lg_sl ([.ref (r 0), .int p0, .int p1, .int 0]) ++ List.replicate (4 - (lg_sl ([.ref (r 0), .int p0, .int p1, .int 0])).length) Slot.unset).toArray = ls at hl ⊢
  have hl : lv_has ls 4 [(0, .ref (r 0)), (1, .int p0), (2, .int p1), (3, .int 0)] := hl
  refine lv_aload_n hx hb dX8_known_0 rfl (lv_at hl 0 rfl) ?_
  refine lv_iload_n hx hb dX8_known_1 rfl (lv_at hl 1 rfl) ?_
  have hPc := hP.sub (ws' := [(r 0, .inr (7, [.ref (r 1), .int 0, .ref (r 2), .ref (r 55), .ref (r 57), .ref (r 30), .ref (r 56), .ref (r 36), .ref (r 37), .ref (r 38), .int 0, .ref (r 51), .int 0, .ref (r 52), .ref (r 53), .ref (r 54)])), (r 55, .inr (3, [.int 1, .int 0, .int 0, .int 0, .ref (r 20), .ref (r 21), .ref (r 22), .int 0, .ref (r 23), .ref (r 24), .ref (r 25), .int 0, .ref (r 28), .ref (r 27)]))]) [0, 1] rfl
  have hKc := hK.sub (tys' := []) [] rfl
  have hDc := hD.sub (ws' := [(r 0, .inr (7, [.ref (r 1), .int 0, .ref (r 2), .ref (r 55), .ref (r 57), .ref (r 30), .ref (r 56), .ref (r 36), .ref (r 37), .ref (r 38), .int 0, .ref (r 51), .int 0, .ref (r 52), .ref (r 53), .ref (r 54)])), (r 55, .inr (3, [.int 1, .int 0, .int 0, .int 0, .ref (r 20), .ref (r 21), .ref (r 22), .int 0, .ref (r 23), .ref (r 24), .ref (r 25), .int 0, .ref (r 28), .ref (r 27)]))]) [0, 1] (by decide) rfl
  have hFc := va_free (wc := [(r 0, .inr (7, [.ref (r 1), .int 0, .ref (r 2), .ref (r 55), .ref (r 57), .ref (r 30), .ref (r 56), .ref (r 36), .ref (r 37), .ref (r 38), .int 0, .ref (r 51), .int 0, .ref (r 52), .ref (r 53), .ref (r 54)])), (r 55, .inr (3, [.int 1, .int 0, .int 0, .int 0, .ref (r 20), .ref (r 21), .ref (r 22), .int 0, .ref (r 23), .ref (r 24), .ref (r 25), .int 0, .ref (r 28), .ref (r 27)]))]) hD hS hA [0, 1] rfl
  refine va_calli (va_runV (As := [.int p0]) (rest := []) ⟨hx, hb, hml, hown, hG⟩ (kX8_isTune l dC dI r c p0 s.heap.size ) (cwV 1 hG (goodV gw695 gw697 gw20 gw129 gw698) rfl rfl rfl hd_X8_isTune ⟨(Nat.le_of_ble_eq_true rfl), (Nat.le_of_ble_eq_true rfl)⟩) ⟨fbW, va_recv hKc hPc (ci := 7) (q0 := 0) rfl rfl, pW_in hPc hKc hDc⟩ rfl rfl hl.1 rfl (lv_room (Nat.le_of_ble_eq_true rfl)) dX8_known_2 ⟨(Nat.le_of_ble_eq_true rfl), (Nat.le_of_ble_eq_true rfl)⟩) hS (fun q _ h => hFc q h) hFc (fun r_2 u t H1 locs ht hvm hw hB hz1 hk1 hS => ?_)
  obtain ⟨hP1, hD1⟩ := hB
  rw [ht] at hP1
  obtain ⟨hP, hD⟩ := va_join (wr := []) (w1 := [(r 0, .inr (7, [.ref (r 1), .int 0, .ref (r 2), .ref (r 55), .ref (r 57), .ref (r 30), .ref (r 56), .ref (r 36), .ref (r 37), .ref (r 38), .int 0, .ref (r 51), .int 0, .ref (r 52), .ref (r 53), .ref (r 54)])), (r 55, .inr (3, [.int 1, .int 0, .int 0, .int 0, .ref (r 20), .ref (r 21), .ref (r 22), .int 0, .ref (r 23), .ref (r 24), .ref (r 25), .int 0, .ref (r 28), .ref (r 27)]))]) hP hD [0, 1] [] rfl rfl (by decide) (by decide) hk1 hFc hP1 hD1
  have hP : va_P (dC, dI) vwCl [(r 0, .inr (7, [.ref (r 1), .int 0, .ref (r 2), .ref (r 55), .ref (r 57), .ref (r 30), .ref (r 56), .ref (r 36), .ref (r 37), .ref (r 38), .int 0, .ref (r 51), .int 0, .ref (r 52), .ref (r 53), .ref (r 54)])), (r 55, .inr (3, [.int 1, .int 0, .int 0, .int 0, .ref (r 20), .ref (r 21), .ref (r 22), .int 0, .ref (r 23), .ref (r 24), .ref (r 25), .int 0, .ref (r 28), .ref (r 27)]))] H1 := hP
  have hD : va_D A [(r 0, .inr (7, [.ref (r 1), .int 0, .ref (r 2), .ref (r 55), .ref (r 57), .ref (r 30), .ref (r 56), .ref (r 36), .ref (r 37), .ref (r 38), .int 0, .ref (r 51), .int 0, .ref (r 52), .ref (r 53), .ref (r 54)])), (r 55, .inr (3, [.int 1, .int 0, .int 0, .int 0, .ref (r 20), .ref (r 21), .ref (r 22), .int 0, .ref (r 23), .ref (r 24), .ref (r 25), .int 0, .ref (r 28), .ref (r 27)]))] := hD
  refine wt_c (v := 0) hw ?_
  refine lv_if_eq (tgt := 18) hx hb dX8_known_5 (by decide) (fun c_3 => ?_) (fun c_3 => absurd (by decide) c_3)
  refine lv_iconst (v := (-1)) hx hb dX8_known_18 (by decide) ?_
  exact W.iret (v := (-1)) hx hb hr (fun t ht hW => ⟨⟨(-1), (), rfl, rfl, trivial⟩, hS.F ht⟩) hS.2.2 dX8_known_19
set_option maxHeartbeats 4000000 in
set_option maxRecDepth 100000 in
theorem kX9_known (l : Launch) (dC : Nat → ClassId) (dI : Nat → Nat → Nat) (r : Nat → Nat) (c : Nat → ClassId) (f4 : Nat → Int32) (p0 p1 : Int32) (sz : Nat) (hf4_0 : f4 0 = 0) : Met l yX9_known (.code yX9_known cX9_known 4 (some .int) :: GW) { frames := 6, cells := 0, slots := 0, locals := 223 } (va_Pc [.ref (r 0), .int p0, .int p1, .int 0] (pW (dC, dI) [(r 0, .inr (8, [.ref (r 1), .ref (r 2), .int 0, .int 0, .int 0, .int (-1), .int 0, .int 0, .int 0, .int 0, .long 0, .ref (r 3), .ref (r 4), .ref (r 5), .ref (r 6), .ref (r 7), .ref (r 8), .ref (r 9), .ref (r 10), .ref (r 11), .ref (r 12), .ref (r 13), .ref (r 14), .ref (r 15), .ref (r 16), .ref (r 17), .ref (r 18), .ref (r 19), .ref (r 20), .ref (r 21), .ref (r 22), .ref (r 23), .ref (r 24), .int 0, .int 0, .int 0, .int 0, .int 0, .int 0, .int 0, .int 0, .int 0, .ref (r 25), .ref (r 26), .ref (r 27), .int 0, .int 0, .ref (r 28), .int 0, .ref (r 29), .ref (r 30), .ref (r 31), .ref (r 32), .ref (r 33), .ref (r 34), .ref (r 35), .ref (r 36), .int 0, .int 0, .int 0, .ref (r 37), .ref (r 38)])), (r 4, .inl ((c 4), 2, .inl f4))] [((c 4), .int)] sz)) (va_Qi (fun (r0 : Int32) (_ : Unit) => r0 = (-1)) (fun _ _ => True) (va_A [(r 0, .inr (8, [.ref (r 1), .ref (r 2), .int 0, .int 0, .int 0, .int (-1), .int 0, .int 0, .int 0, .int 0, .long 0, .ref (r 3), .ref (r 4), .ref (r 5), .ref (r 6), .ref (r 7), .ref (r 8), .ref (r 9), .ref (r 10), .ref (r 11), .ref (r 12), .ref (r 13), .ref (r 14), .ref (r 15), .ref (r 16), .ref (r 17), .ref (r 18), .ref (r 19), .ref (r 20), .ref (r 21), .ref (r 22), .ref (r 23), .ref (r 24), .int 0, .int 0, .int 0, .int 0, .int 0, .int 0, .int 0, .int 0, .int 0, .ref (r 25), .ref (r 26), .ref (r 27), .int 0, .int 0, .ref (r 28), .int 0, .ref (r 29), .ref (r 30), .ref (r 31), .ref (r 32), .ref (r 33), .ref (r 34), .ref (r 35), .ref (r 36), .int 0, .int 0, .int 0, .ref (r 37), .ref (r 38)])), (r 4, .inl ((c 4), 2, .inl f4))] sz)) 0 0 (va_A [(r 0, .inr (8, [.ref (r 1), .ref (r 2), .int 0, .int 0, .int 0, .int (-1), .int 0, .int 0, .int 0, .int 0, .long 0, .ref (r 3), .ref (r 4), .ref (r 5), .ref (r 6), .ref (r 7), .ref (r 8), .ref (r 9), .ref (r 10), .ref (r 11), .ref (r 12), .ref (r 13), .ref (r 14), .ref (r 15), .ref (r 16), .ref (r 17), .ref (r 18), .ref (r 19), .ref (r 20), .ref (r 21), .ref (r 22), .ref (r 23), .ref (r 24), .int 0, .int 0, .int 0, .int 0, .int 0, .int 0, .int 0, .int 0, .int 0, .ref (r 25), .ref (r 26), .ref (r 27), .int 0, .int 0, .ref (r 28), .int 0, .ref (r 29), .ref (r 30), .ref (r 31), .ref (r 32), .ref (r 33), .ref (r 34), .ref (r 35), .ref (r 36), .int 0, .int 0, .int 0, .ref (r 37), .ref (r 38)])), (r 4, .inl ((c 4), 2, .inl f4))] sz) := by
  refine Met.ofW (cc := cX9_known) (maxL := 4) (ret := (some .int)) (by decide) rfl ?_
  intro p e s m args below meth c0 s₁ B hml hv
  obtain ⟨rfl, hsz, hP, hK, hD0⟩ := hv
  have hx := B.exec
  have hb := B.bytes
  have hr := B.returns
  have hts := atoms_spec (ws := .code yX9_known cX9_known 4 (some .int) :: GW) B.pre
  have hG : ∀ w ∈ GW, w.before _ s = true := fun w h => hts w (List.mem_cons_of_mem _ h)
  have hown : s.vm.findClass RX9 = some m.cls := findClass_of_methodNamed B.named
  have hlocks := B.notSynchronized
  subst hsz
  have hD := hD0.self (sz := s.heap.size)
  generalize hAe : va_A [(r 0, .inr (8, [.ref (r 1), .ref (r 2), .int 0, .int 0, .int 0, .int (-1), .int 0, .int 0, .int 0, .int 0, .long 0, .ref (r 3), .ref (r 4), .ref (r 5), .ref (r 6), .ref (r 7), .ref (r 8), .ref (r 9), .ref (r 10), .ref (r 11), .ref (r 12), .ref (r 13), .ref (r 14), .ref (r 15), .ref (r 16), .ref (r 17), .ref (r 18), .ref (r 19), .ref (r 20), .ref (r 21), .ref (r 22), .ref (r 23), .ref (r 24), .int 0, .int 0, .int 0, .int 0, .int 0, .int 0, .int 0, .int 0, .int 0, .ref (r 25), .ref (r 26), .ref (r 27), .int 0, .int 0, .ref (r 28), .int 0, .ref (r 29), .ref (r 30), .ref (r 31), .ref (r 32), .ref (r 33), .ref (r 34), .ref (r 35), .ref (r 36), .int 0, .int 0, .int 0, .ref (r 37), .ref (r 38)])), (r 4, .inl ((c 4), 2, .inl f4))] s.heap.size = A at hD ⊢
  have hA : ∀ q : Nat, s.heap.size ≤ q → A q := fun q h => by rw [← hAe]; exact Or.inr h
  have hS : va_S A s.heap s.heap [] := va_S.rf
  have hP : va_P (dC, dI) vwCl [(r 0, .inr (8, [.ref (r 1), .ref (r 2), .int 0, .int 0, .int 0, .int (-1), .int 0, .int 0, .int 0, .int 0, .long 0, .ref (r 3), .ref (r 4), .ref (r 5), .ref (r 6), .ref (r 7), .ref (r 8), .ref (r 9), .ref (r 10), .ref (r 11), .ref (r 12), .ref (r 13), .ref (r 14), .ref (r 15), .ref (r 16), .ref (r 17), .ref (r 18), .ref (r 19), .ref (r 20), .ref (r 21), .ref (r 22), .ref (r 23), .ref (r 24), .int 0, .int 0, .int 0, .int 0, .int 0, .int 0, .int 0, .int 0, .int 0, .ref (r 25), .ref (r 26), .ref (r 27), .int 0, .int 0, .ref (r 28), .int 0, .ref (r 29), .ref (r 30), .ref (r 31), .ref (r 32), .ref (r 33), .ref (r 34), .ref (r 35), .ref (r 36), .int 0, .int 0, .int 0, .ref (r 37), .ref (r 38)])), (r 4, .inl ((c 4), 2, .inl f4))] s.heap := hP
  have hl := lv_entry ([.ref (r 0), .int p0, .int p1, .int 0]) (n := 4) (Nat.le_of_ble_eq_true rfl)
  rw [lg_entry_eq]
  generalize (lg_sl ([.ref (r 0), .int p0, .int p1, .int 0]) ++ List.replicate (4 - (lg_sl ([.ref (r 0), .int p0, .int p1, .int 0])).length) Slot.unset).toArray = ls at hl ⊢
  have hl : lv_has ls 4 [(0, .ref (r 0)), (1, .int p0), (2, .int p1), (3, .int 0)] := hl
  refine lv_aload_n hx hb dX9_known_0 rfl (lv_at hl 0 rfl) ?_
  refine lv_iload_n hx hb dX9_known_1 rfl (lv_at hl 1 rfl) ?_
  have hPc := hP.sub (ws' := [(r 0, .inr (8, [.ref (r 1), .ref (r 2), .int 0, .int 0, .int 0, .int (-1), .int 0, .int 0, .int 0, .int 0, .long 0, .ref (r 3), .ref (r 4), .ref (r 5), .ref (r 6), .ref (r 7), .ref (r 8), .ref (r 9), .ref (r 10), .ref (r 11), .ref (r 12), .ref (r 13), .ref (r 14), .ref (r 15), .ref (r 16), .ref (r 17), .ref (r 18), .ref (r 19), .ref (r 20), .ref (r 21), .ref (r 22), .ref (r 23), .ref (r 24), .int 0, .int 0, .int 0, .int 0, .int 0, .int 0, .int 0, .int 0, .int 0, .ref (r 25), .ref (r 26), .ref (r 27), .int 0, .int 0, .ref (r 28), .int 0, .ref (r 29), .ref (r 30), .ref (r 31), .ref (r 32), .ref (r 33), .ref (r 34), .ref (r 35), .ref (r 36), .int 0, .int 0, .int 0, .ref (r 37), .ref (r 38)])), (r 4, .inl ((c 4), 2, .inl f4))]) [0, 1] rfl
  have hKc := hK.sub (tys' := [((c 4), .int)]) [0] rfl
  have hDc := hD.sub (ws' := [(r 0, .inr (8, [.ref (r 1), .ref (r 2), .int 0, .int 0, .int 0, .int (-1), .int 0, .int 0, .int 0, .int 0, .long 0, .ref (r 3), .ref (r 4), .ref (r 5), .ref (r 6), .ref (r 7), .ref (r 8), .ref (r 9), .ref (r 10), .ref (r 11), .ref (r 12), .ref (r 13), .ref (r 14), .ref (r 15), .ref (r 16), .ref (r 17), .ref (r 18), .ref (r 19), .ref (r 20), .ref (r 21), .ref (r 22), .ref (r 23), .ref (r 24), .int 0, .int 0, .int 0, .int 0, .int 0, .int 0, .int 0, .int 0, .int 0, .ref (r 25), .ref (r 26), .ref (r 27), .int 0, .int 0, .ref (r 28), .int 0, .ref (r 29), .ref (r 30), .ref (r 31), .ref (r 32), .ref (r 33), .ref (r 34), .ref (r 35), .ref (r 36), .int 0, .int 0, .int 0, .ref (r 37), .ref (r 38)])), (r 4, .inl ((c 4), 2, .inl f4))]) [0, 1] (by decide) rfl
  have hFc := va_free (wc := [(r 0, .inr (8, [.ref (r 1), .ref (r 2), .int 0, .int 0, .int 0, .int (-1), .int 0, .int 0, .int 0, .int 0, .long 0, .ref (r 3), .ref (r 4), .ref (r 5), .ref (r 6), .ref (r 7), .ref (r 8), .ref (r 9), .ref (r 10), .ref (r 11), .ref (r 12), .ref (r 13), .ref (r 14), .ref (r 15), .ref (r 16), .ref (r 17), .ref (r 18), .ref (r 19), .ref (r 20), .ref (r 21), .ref (r 22), .ref (r 23), .ref (r 24), .int 0, .int 0, .int 0, .int 0, .int 0, .int 0, .int 0, .int 0, .int 0, .ref (r 25), .ref (r 26), .ref (r 27), .int 0, .int 0, .ref (r 28), .int 0, .ref (r 29), .ref (r 30), .ref (r 31), .ref (r 32), .ref (r 33), .ref (r 34), .ref (r 35), .ref (r 36), .int 0, .int 0, .int 0, .ref (r 37), .ref (r 38)])), (r 4, .inl ((c 4), 2, .inl f4))]) hD hS hA [0, 1] rfl
  refine va_calli (va_runV (As := [.int p0]) (rest := []) ⟨hx, hb, hml, hown, hG⟩ (kX9_isTune l dC dI r c f4 p0 s.heap.size hf4_0) (cwV 1 hG (goodV gw1508 gw1510 gw85 gw138 gw1511) rfl rfl rfl hd_X9_isTune ⟨(Nat.le_of_ble_eq_true rfl), (Nat.le_of_ble_eq_true rfl)⟩) ⟨fbW, va_recv hKc hPc (ci := 8) (q0 := 0) rfl rfl, pW_in hPc hKc hDc⟩ rfl rfl hl.1 rfl (lv_room (Nat.le_of_ble_eq_true rfl)) dX9_known_2 ⟨(Nat.le_of_ble_eq_true rfl), (Nat.le_of_ble_eq_true rfl)⟩) hS (fun q _ h => hFc q h) hFc (fun r_2 u t H1 locs ht hvm hw hB hz1 hk1 hS => ?_)
  obtain ⟨hP1, hD1⟩ := hB
  rw [ht] at hP1
  obtain ⟨hP, hD⟩ := va_join (wr := []) (w1 := [(r 0, .inr (8, [.ref (r 1), .ref (r 2), .int 0, .int 0, .int 0, .int (-1), .int 0, .int 0, .int 0, .int 0, .long 0, .ref (r 3), .ref (r 4), .ref (r 5), .ref (r 6), .ref (r 7), .ref (r 8), .ref (r 9), .ref (r 10), .ref (r 11), .ref (r 12), .ref (r 13), .ref (r 14), .ref (r 15), .ref (r 16), .ref (r 17), .ref (r 18), .ref (r 19), .ref (r 20), .ref (r 21), .ref (r 22), .ref (r 23), .ref (r 24), .int 0, .int 0, .int 0, .int 0, .int 0, .int 0, .int 0, .int 0, .int 0, .ref (r 25), .ref (r 26), .ref (r 27), .int 0, .int 0, .ref (r 28), .int 0, .ref (r 29), .ref (r 30), .ref (r 31), .ref (r 32), .ref (r 33), .ref (r 34), .ref (r 35), .ref (r 36), .int 0, .int 0, .int 0, .ref (r 37), .ref (r 38)])), (r 4, .inl ((c 4), 2, .inl f4))]) hP hD [0, 1] [] rfl rfl (by decide) (by decide) hk1 hFc hP1 hD1
  have hP : va_P (dC, dI) vwCl [(r 0, .inr (8, [.ref (r 1), .ref (r 2), .int 0, .int 0, .int 0, .int (-1), .int 0, .int 0, .int 0, .int 0, .long 0, .ref (r 3), .ref (r 4), .ref (r 5), .ref (r 6), .ref (r 7), .ref (r 8), .ref (r 9), .ref (r 10), .ref (r 11), .ref (r 12), .ref (r 13), .ref (r 14), .ref (r 15), .ref (r 16), .ref (r 17), .ref (r 18), .ref (r 19), .ref (r 20), .ref (r 21), .ref (r 22), .ref (r 23), .ref (r 24), .int 0, .int 0, .int 0, .int 0, .int 0, .int 0, .int 0, .int 0, .int 0, .ref (r 25), .ref (r 26), .ref (r 27), .int 0, .int 0, .ref (r 28), .int 0, .ref (r 29), .ref (r 30), .ref (r 31), .ref (r 32), .ref (r 33), .ref (r 34), .ref (r 35), .ref (r 36), .int 0, .int 0, .int 0, .ref (r 37), .ref (r 38)])), (r 4, .inl ((c 4), 2, .inl f4))] H1 := hP
  have hD : va_D A [(r 0, .inr (8, [.ref (r 1), .ref (r 2), .int 0, .int 0, .int 0, .int (-1), .int 0, .int 0, .int 0, .int 0, .long 0, .ref (r 3), .ref (r 4), .ref (r 5), .ref (r 6), .ref (r 7), .ref (r 8), .ref (r 9), .ref (r 10), .ref (r 11), .ref (r 12), .ref (r 13), .ref (r 14), .ref (r 15), .ref (r 16), .ref (r 17), .ref (r 18), .ref (r 19), .ref (r 20), .ref (r 21), .ref (r 22), .ref (r 23), .ref (r 24), .int 0, .int 0, .int 0, .int 0, .int 0, .int 0, .int 0, .int 0, .int 0, .ref (r 25), .ref (r 26), .ref (r 27), .int 0, .int 0, .ref (r 28), .int 0, .ref (r 29), .ref (r 30), .ref (r 31), .ref (r 32), .ref (r 33), .ref (r 34), .ref (r 35), .ref (r 36), .int 0, .int 0, .int 0, .ref (r 37), .ref (r 38)])), (r 4, .inl ((c 4), 2, .inl f4))] := hD
  refine wt_c (v := 0) hw ?_
  refine lv_if_eq (tgt := 37) hx hb dX9_known_5 (by decide) (fun c_3 => ?_) (fun c_3 => absurd (by decide) c_3)
  refine lv_iconst (v := (-1)) hx hb dX9_known_37 (by decide) ?_
  exact W.iret (v := (-1)) hx hb hr (fun t ht hW => ⟨⟨(-1), (), rfl, rfl, trivial⟩, hS.F ht⟩) hS.2.2 dX9_known_38
set_option maxHeartbeats 4000000 in
set_option maxRecDepth 100000 in
theorem kX8_known_v1 (l : Launch) (dC : Nat → ClassId) (dI : Nat → Nat → Nat) (r : Nat → Nat) (c : Nat → ClassId) (p0 p1 : Int32) (sz : Nat) : Met l yX8_known (.code yX8_known cX8_known 4 (some .int) :: GW) { frames := 4, cells := 0, slots := 0, locals := 161 } (va_Pc [.ref (r 0), .int p0, .int p1, .int 1] (pW (dC, dI) [(r 0, .inr (7, [.ref (r 1), .int 0, .ref (r 2), .ref (r 55), .ref (r 57), .ref (r 30), .ref (r 56), .ref (r 36), .ref (r 37), .ref (r 38), .int 0, .ref (r 51), .int 0, .ref (r 52), .ref (r 53), .ref (r 54)])), (r 55, .inr (3, [.int 1, .int 0, .int 0, .int 0, .ref (r 20), .ref (r 21), .ref (r 22), .int 0, .ref (r 23), .ref (r 24), .ref (r 25), .int 0, .ref (r 28), .ref (r 27)]))] [] sz)) (va_Qi (fun (r0 : Int32) (_ : Unit) => r0 = (-1)) (fun _ _ => True) (va_A [(r 0, .inr (7, [.ref (r 1), .int 0, .ref (r 2), .ref (r 55), .ref (r 57), .ref (r 30), .ref (r 56), .ref (r 36), .ref (r 37), .ref (r 38), .int 0, .ref (r 51), .int 0, .ref (r 52), .ref (r 53), .ref (r 54)])), (r 55, .inr (3, [.int 1, .int 0, .int 0, .int 0, .ref (r 20), .ref (r 21), .ref (r 22), .int 0, .ref (r 23), .ref (r 24), .ref (r 25), .int 0, .ref (r 28), .ref (r 27)]))] sz)) 0 0 (va_A [(r 0, .inr (7, [.ref (r 1), .int 0, .ref (r 2), .ref (r 55), .ref (r 57), .ref (r 30), .ref (r 56), .ref (r 36), .ref (r 37), .ref (r 38), .int 0, .ref (r 51), .int 0, .ref (r 52), .ref (r 53), .ref (r 54)])), (r 55, .inr (3, [.int 1, .int 0, .int 0, .int 0, .ref (r 20), .ref (r 21), .ref (r 22), .int 0, .ref (r 23), .ref (r 24), .ref (r 25), .int 0, .ref (r 28), .ref (r 27)]))] sz) := by
  refine Met.ofW (cc := cX8_known) (maxL := 4) (ret := (some .int)) (by decide) rfl ?_
  intro p e s m args below meth c0 s₁ B hml hv
  obtain ⟨rfl, hsz, hP, hK, hD0⟩ := hv
  have hx := B.exec
  have hb := B.bytes
  have hr := B.returns
  have hts := atoms_spec (ws := .code yX8_known cX8_known 4 (some .int) :: GW) B.pre
  have hG : ∀ w ∈ GW, w.before _ s = true := fun w h => hts w (List.mem_cons_of_mem _ h)
  have hown : s.vm.findClass RX8 = some m.cls := findClass_of_methodNamed B.named
  have hlocks := B.notSynchronized
  subst hsz
  have hD := hD0.self (sz := s.heap.size)
  generalize hAe : va_A [(r 0, .inr (7, [.ref (r 1), .int 0, .ref (r 2), .ref (r 55), .ref (r 57), .ref (r 30), .ref (r 56), .ref (r 36), .ref (r 37), .ref (r 38), .int 0, .ref (r 51), .int 0, .ref (r 52), .ref (r 53), .ref (r 54)])), (r 55, .inr (3, [.int 1, .int 0, .int 0, .int 0, .ref (r 20), .ref (r 21), .ref (r 22), .int 0, .ref (r 23), .ref (r 24), .ref (r 25), .int 0, .ref (r 28), .ref (r 27)]))] s.heap.size = A at hD ⊢
  have hA : ∀ q : Nat, s.heap.size ≤ q → A q := fun q h => by rw [← hAe]; exact Or.inr h
  have hS : va_S A s.heap s.heap [] := va_S.rf
  have hP : va_P (dC, dI) vwCl [(r 0, .inr (7, [.ref (r 1), .int 0, .ref (r 2), .ref (r 55), .ref (r 57), .ref (r 30), .ref (r 56), .ref (r 36), .ref (r 37), .ref (r 38), .int 0, .ref (r 51), .int 0, .ref (r 52), .ref (r 53), .ref (r 54)])), (r 55, .inr (3, [.int 1, .int 0, .int 0, .int 0, .ref (r 20), .ref (r 21), .ref (r 22), .int 0, .ref (r 23), .ref (r 24), .ref (r 25), .int 0, .ref (r 28), .ref (r 27)]))] s.heap := hP
  have hl := lv_entry ([.ref (r 0), .int p0, .int p1, .int 1]) (n := 4) (Nat.le_of_ble_eq_true rfl)
  rw [lg_entry_eq]
  generalize (lg_sl ([.ref (r 0), .int p0, .int p1, .int 1]) ++ List.replicate (4 - (lg_sl ([.ref (r 0), .int p0, .int p1, .int 1])).length) Slot.unset).toArray = ls at hl ⊢
  have hl : lv_has ls 4 [(0, .ref (r 0)), (1, .int p0), (2, .int p1), (3, .int 1)] := hl
  refine lv_aload_n hx hb dX8_known_0 rfl (lv_at hl 0 rfl) ?_
  refine lv_iload_n hx hb dX8_known_1 rfl (lv_at hl 1 rfl) ?_
  have hPc := hP.sub (ws' := [(r 0, .inr (7, [.ref (r 1), .int 0, .ref (r 2), .ref (r 55), .ref (r 57), .ref (r 30), .ref (r 56), .ref (r 36), .ref (r 37), .ref (r 38), .int 0, .ref (r 51), .int 0, .ref (r 52), .ref (r 53), .ref (r 54)])), (r 55, .inr (3, [.int 1, .int 0, .int 0, .int 0, .ref (r 20), .ref (r 21), .ref (r 22), .int 0, .ref (r 23), .ref (r 24), .ref (r 25), .int 0, .ref (r 28), .ref (r 27)]))]) [0, 1] rfl
  have hKc := hK.sub (tys' := []) [] rfl
  have hDc := hD.sub (ws' := [(r 0, .inr (7, [.ref (r 1), .int 0, .ref (r 2), .ref (r 55), .ref (r 57), .ref (r 30), .ref (r 56), .ref (r 36), .ref (r 37), .ref (r 38), .int 0, .ref (r 51), .int 0, .ref (r 52), .ref (r 53), .ref (r 54)])), (r 55, .inr (3, [.int 1, .int 0, .int 0, .int 0, .ref (r 20), .ref (r 21), .ref (r 22), .int 0, .ref (r 23), .ref (r 24), .ref (r 25), .int 0, .ref (r 28), .ref (r 27)]))]) [0, 1] (by decide) rfl
  have hFc := va_free (wc := [(r 0, .inr (7, [.ref (r 1), .int 0, .ref (r 2), .ref (r 55), .ref (r 57), .ref (r 30), .ref (r 56), .ref (r 36), .ref (r 37), .ref (r 38), .int 0, .ref (r 51), .int 0, .ref (r 52), .ref (r 53), .ref (r 54)])), (r 55, .inr (3, [.int 1, .int 0, .int 0, .int 0, .ref (r 20), .ref (r 21), .ref (r 22), .int 0, .ref (r 23), .ref (r 24), .ref (r 25), .int 0, .ref (r 28), .ref (r 27)]))]) hD hS hA [0, 1] rfl
  refine va_calli (va_runV (As := [.int p0]) (rest := []) ⟨hx, hb, hml, hown, hG⟩ (kX8_isTune l dC dI r c p0 s.heap.size ) (cwV 1 hG (goodV gw695 gw697 gw20 gw129 gw698) rfl rfl rfl hd_X8_isTune ⟨(Nat.le_of_ble_eq_true rfl), (Nat.le_of_ble_eq_true rfl)⟩) ⟨fbW, va_recv hKc hPc (ci := 7) (q0 := 0) rfl rfl, pW_in hPc hKc hDc⟩ rfl rfl hl.1 rfl (lv_room (Nat.le_of_ble_eq_true rfl)) dX8_known_2 ⟨(Nat.le_of_ble_eq_true rfl), (Nat.le_of_ble_eq_true rfl)⟩) hS (fun q _ h => hFc q h) hFc (fun r_2 u t H1 locs ht hvm hw hB hz1 hk1 hS => ?_)
  obtain ⟨hP1, hD1⟩ := hB
  rw [ht] at hP1
  obtain ⟨hP, hD⟩ := va_join (wr := []) (w1 := [(r 0, .inr (7, [.ref (r 1), .int 0, .ref (r 2), .ref (r 55), .ref (r 57), .ref (r 30), .ref (r 56), .ref (r 36), .ref (r 37), .ref (r 38), .int 0, .ref (r 51), .int 0, .ref (r 52), .ref (r 53), .ref (r 54)])), (r 55, .inr (3, [.int 1, .int 0, .int 0, .int 0, .ref (r 20), .ref (r 21), .ref (r 22), .int 0, .ref (r 23), .ref (r 24), .ref (r 25), .int 0, .ref (r 28), .ref (r 27)]))]) hP hD [0, 1] [] rfl rfl (by decide) (by decide) hk1 hFc hP1 hD1
  have hP : va_P (dC, dI) vwCl [(r 0, .inr (7, [.ref (r 1), .int 0, .ref (r 2), .ref (r 55), .ref (r 57), .ref (r 30), .ref (r 56), .ref (r 36), .ref (r 37), .ref (r 38), .int 0, .ref (r 51), .int 0, .ref (r 52), .ref (r 53), .ref (r 54)])), (r 55, .inr (3, [.int 1, .int 0, .int 0, .int 0, .ref (r 20), .ref (r 21), .ref (r 22), .int 0, .ref (r 23), .ref (r 24), .ref (r 25), .int 0, .ref (r 28), .ref (r 27)]))] H1 := hP
  have hD : va_D A [(r 0, .inr (7, [.ref (r 1), .int 0, .ref (r 2), .ref (r 55), .ref (r 57), .ref (r 30), .ref (r 56), .ref (r 36), .ref (r 37), .ref (r 38), .int 0, .ref (r 51), .int 0, .ref (r 52), .ref (r 53), .ref (r 54)])), (r 55, .inr (3, [.int 1, .int 0, .int 0, .int 0, .ref (r 20), .ref (r 21), .ref (r 22), .int 0, .ref (r 23), .ref (r 24), .ref (r 25), .int 0, .ref (r 28), .ref (r 27)]))] := hD
  refine wt_c (v := 0) hw ?_
  refine lv_if_eq (tgt := 18) hx hb dX8_known_5 (by decide) (fun c_3 => ?_) (fun c_3 => absurd (by decide) c_3)
  refine lv_iconst (v := (-1)) hx hb dX8_known_18 (by decide) ?_
  exact W.iret (v := (-1)) hx hb hr (fun t ht hW => ⟨⟨(-1), (), rfl, rfl, trivial⟩, hS.F ht⟩) hS.2.2 dX8_known_19
set_option maxHeartbeats 4000000 in
set_option maxRecDepth 100000 in
theorem kX9_known_v1 (l : Launch) (dC : Nat → ClassId) (dI : Nat → Nat → Nat) (r : Nat → Nat) (c : Nat → ClassId) (f4 : Nat → Int32) (p0 p1 : Int32) (sz : Nat) (hf4_0 : f4 0 = 0) : Met l yX9_known (.code yX9_known cX9_known 4 (some .int) :: GW) { frames := 6, cells := 0, slots := 0, locals := 223 } (va_Pc [.ref (r 0), .int p0, .int p1, .int 1] (pW (dC, dI) [(r 0, .inr (8, [.ref (r 1), .ref (r 2), .int 0, .int 0, .int 0, .int (-1), .int 0, .int 0, .int 0, .int 0, .long 0, .ref (r 3), .ref (r 4), .ref (r 5), .ref (r 6), .ref (r 7), .ref (r 8), .ref (r 9), .ref (r 10), .ref (r 11), .ref (r 12), .ref (r 13), .ref (r 14), .ref (r 15), .ref (r 16), .ref (r 17), .ref (r 18), .ref (r 19), .ref (r 20), .ref (r 21), .ref (r 22), .ref (r 23), .ref (r 24), .int 0, .int 0, .int 0, .int 0, .int 0, .int 0, .int 0, .int 0, .int 0, .ref (r 25), .ref (r 26), .ref (r 27), .int 0, .int 0, .ref (r 28), .int 0, .ref (r 29), .ref (r 30), .ref (r 31), .ref (r 32), .ref (r 33), .ref (r 34), .ref (r 35), .ref (r 36), .int 0, .int 0, .int 0, .ref (r 37), .ref (r 38)])), (r 4, .inl ((c 4), 2, .inl f4))] [((c 4), .int)] sz)) (va_Qi (fun (r0 : Int32) (_ : Unit) => r0 = (-1)) (fun _ _ => True) (va_A [(r 0, .inr (8, [.ref (r 1), .ref (r 2), .int 0, .int 0, .int 0, .int (-1), .int 0, .int 0, .int 0, .int 0, .long 0, .ref (r 3), .ref (r 4), .ref (r 5), .ref (r 6), .ref (r 7), .ref (r 8), .ref (r 9), .ref (r 10), .ref (r 11), .ref (r 12), .ref (r 13), .ref (r 14), .ref (r 15), .ref (r 16), .ref (r 17), .ref (r 18), .ref (r 19), .ref (r 20), .ref (r 21), .ref (r 22), .ref (r 23), .ref (r 24), .int 0, .int 0, .int 0, .int 0, .int 0, .int 0, .int 0, .int 0, .int 0, .ref (r 25), .ref (r 26), .ref (r 27), .int 0, .int 0, .ref (r 28), .int 0, .ref (r 29), .ref (r 30), .ref (r 31), .ref (r 32), .ref (r 33), .ref (r 34), .ref (r 35), .ref (r 36), .int 0, .int 0, .int 0, .ref (r 37), .ref (r 38)])), (r 4, .inl ((c 4), 2, .inl f4))] sz)) 0 0 (va_A [(r 0, .inr (8, [.ref (r 1), .ref (r 2), .int 0, .int 0, .int 0, .int (-1), .int 0, .int 0, .int 0, .int 0, .long 0, .ref (r 3), .ref (r 4), .ref (r 5), .ref (r 6), .ref (r 7), .ref (r 8), .ref (r 9), .ref (r 10), .ref (r 11), .ref (r 12), .ref (r 13), .ref (r 14), .ref (r 15), .ref (r 16), .ref (r 17), .ref (r 18), .ref (r 19), .ref (r 20), .ref (r 21), .ref (r 22), .ref (r 23), .ref (r 24), .int 0, .int 0, .int 0, .int 0, .int 0, .int 0, .int 0, .int 0, .int 0, .ref (r 25), .ref (r 26), .ref (r 27), .int 0, .int 0, .ref (r 28), .int 0, .ref (r 29), .ref (r 30), .ref (r 31), .ref (r 32), .ref (r 33), .ref (r 34), .ref (r 35), .ref (r 36), .int 0, .int 0, .int 0, .ref (r 37), .ref (r 38)])), (r 4, .inl ((c 4), 2, .inl f4))] sz) := by
  refine Met.ofW (cc := cX9_known) (maxL := 4) (ret := (some .int)) (by decide) rfl ?_
  intro p e s m args below meth c0 s₁ B hml hv
  obtain ⟨rfl, hsz, hP, hK, hD0⟩ := hv
  have hx := B.exec
  have hb := B.bytes
  have hr := B.returns
  have hts := atoms_spec (ws := .code yX9_known cX9_known 4 (some .int) :: GW) B.pre
  have hG : ∀ w ∈ GW, w.before _ s = true := fun w h => hts w (List.mem_cons_of_mem _ h)
  have hown : s.vm.findClass RX9 = some m.cls := findClass_of_methodNamed B.named
  have hlocks := B.notSynchronized
  subst hsz
  have hD := hD0.self (sz := s.heap.size)
  generalize hAe : va_A [(r 0, .inr (8, [.ref (r 1), .ref (r 2), .int 0, .int 0, .int 0, .int (-1), .int 0, .int 0, .int 0, .int 0, .long 0, .ref (r 3), .ref (r 4), .ref (r 5), .ref (r 6), .ref (r 7), .ref (r 8), .ref (r 9), .ref (r 10), .ref (r 11), .ref (r 12), .ref (r 13), .ref (r 14), .ref (r 15), .ref (r 16), .ref (r 17), .ref (r 18), .ref (r 19), .ref (r 20), .ref (r 21), .ref (r 22), .ref (r 23), .ref (r 24), .int 0, .int 0, .int 0, .int 0, .int 0, .int 0, .int 0, .int 0, .int 0, .ref (r 25), .ref (r 26), .ref (r 27), .int 0, .int 0, .ref (r 28), .int 0, .ref (r 29), .ref (r 30), .ref (r 31), .ref (r 32), .ref (r 33), .ref (r 34), .ref (r 35), .ref (r 36), .int 0, .int 0, .int 0, .ref (r 37), .ref (r 38)])), (r 4, .inl ((c 4), 2, .inl f4))] s.heap.size = A at hD ⊢
  have hA : ∀ q : Nat, s.heap.size ≤ q → A q := fun q h => by rw [← hAe]; exact Or.inr h
  have hS : va_S A s.heap s.heap [] := va_S.rf
  have hP : va_P (dC, dI) vwCl [(r 0, .inr (8, [.ref (r 1), .ref (r 2), .int 0, .int 0, .int 0, .int (-1), .int 0, .int 0, .int 0, .int 0, .long 0, .ref (r 3), .ref (r 4), .ref (r 5), .ref (r 6), .ref (r 7), .ref (r 8), .ref (r 9), .ref (r 10), .ref (r 11), .ref (r 12), .ref (r 13), .ref (r 14), .ref (r 15), .ref (r 16), .ref (r 17), .ref (r 18), .ref (r 19), .ref (r 20), .ref (r 21), .ref (r 22), .ref (r 23), .ref (r 24), .int 0, .int 0, .int 0, .int 0, .int 0, .int 0, .int 0, .int 0, .int 0, .ref (r 25), .ref (r 26), .ref (r 27), .int 0, .int 0, .ref (r 28), .int 0, .ref (r 29), .ref (r 30), .ref (r 31), .ref (r 32), .ref (r 33), .ref (r 34), .ref (r 35), .ref (r 36), .int 0, .int 0, .int 0, .ref (r 37), .ref (r 38)])), (r 4, .inl ((c 4), 2, .inl f4))] s.heap := hP
  have hl := lv_entry ([.ref (r 0), .int p0, .int p1, .int 1]) (n := 4) (Nat.le_of_ble_eq_true rfl)
  rw [lg_entry_eq]
  generalize (lg_sl ([.ref (r 0), .int p0, .int p1, .int 1]) ++ List.replicate (4 - (lg_sl ([.ref (r 0), .int p0, .int p1, .int 1])).length) Slot.unset).toArray = ls at hl ⊢
  have hl : lv_has ls 4 [(0, .ref (r 0)), (1, .int p0), (2, .int p1), (3, .int 1)] := hl
  refine lv_aload_n hx hb dX9_known_0 rfl (lv_at hl 0 rfl) ?_
  refine lv_iload_n hx hb dX9_known_1 rfl (lv_at hl 1 rfl) ?_
  have hPc := hP.sub (ws' := [(r 0, .inr (8, [.ref (r 1), .ref (r 2), .int 0, .int 0, .int 0, .int (-1), .int 0, .int 0, .int 0, .int 0, .long 0, .ref (r 3), .ref (r 4), .ref (r 5), .ref (r 6), .ref (r 7), .ref (r 8), .ref (r 9), .ref (r 10), .ref (r 11), .ref (r 12), .ref (r 13), .ref (r 14), .ref (r 15), .ref (r 16), .ref (r 17), .ref (r 18), .ref (r 19), .ref (r 20), .ref (r 21), .ref (r 22), .ref (r 23), .ref (r 24), .int 0, .int 0, .int 0, .int 0, .int 0, .int 0, .int 0, .int 0, .int 0, .ref (r 25), .ref (r 26), .ref (r 27), .int 0, .int 0, .ref (r 28), .int 0, .ref (r 29), .ref (r 30), .ref (r 31), .ref (r 32), .ref (r 33), .ref (r 34), .ref (r 35), .ref (r 36), .int 0, .int 0, .int 0, .ref (r 37), .ref (r 38)])), (r 4, .inl ((c 4), 2, .inl f4))]) [0, 1] rfl
  have hKc := hK.sub (tys' := [((c 4), .int)]) [0] rfl
  have hDc := hD.sub (ws' := [(r 0, .inr (8, [.ref (r 1), .ref (r 2), .int 0, .int 0, .int 0, .int (-1), .int 0, .int 0, .int 0, .int 0, .long 0, .ref (r 3), .ref (r 4), .ref (r 5), .ref (r 6), .ref (r 7), .ref (r 8), .ref (r 9), .ref (r 10), .ref (r 11), .ref (r 12), .ref (r 13), .ref (r 14), .ref (r 15), .ref (r 16), .ref (r 17), .ref (r 18), .ref (r 19), .ref (r 20), .ref (r 21), .ref (r 22), .ref (r 23), .ref (r 24), .int 0, .int 0, .int 0, .int 0, .int 0, .int 0, .int 0, .int 0, .int 0, .ref (r 25), .ref (r 26), .ref (r 27), .int 0, .int 0, .ref (r 28), .int 0, .ref (r 29), .ref (r 30), .ref (r 31), .ref (r 32), .ref (r 33), .ref (r 34), .ref (r 35), .ref (r 36), .int 0, .int 0, .int 0, .ref (r 37), .ref (r 38)])), (r 4, .inl ((c 4), 2, .inl f4))]) [0, 1] (by decide) rfl
  have hFc := va_free (wc := [(r 0, .inr (8, [.ref (r 1), .ref (r 2), .int 0, .int 0, .int 0, .int (-1), .int 0, .int 0, .int 0, .int 0, .long 0, .ref (r 3), .ref (r 4), .ref (r 5), .ref (r 6), .ref (r 7), .ref (r 8), .ref (r 9), .ref (r 10), .ref (r 11), .ref (r 12), .ref (r 13), .ref (r 14), .ref (r 15), .ref (r 16), .ref (r 17), .ref (r 18), .ref (r 19), .ref (r 20), .ref (r 21), .ref (r 22), .ref (r 23), .ref (r 24), .int 0, .int 0, .int 0, .int 0, .int 0, .int 0, .int 0, .int 0, .int 0, .ref (r 25), .ref (r 26), .ref (r 27), .int 0, .int 0, .ref (r 28), .int 0, .ref (r 29), .ref (r 30), .ref (r 31), .ref (r 32), .ref (r 33), .ref (r 34), .ref (r 35), .ref (r 36), .int 0, .int 0, .int 0, .ref (r 37), .ref (r 38)])), (r 4, .inl ((c 4), 2, .inl f4))]) hD hS hA [0, 1] rfl
  refine va_calli (va_runV (As := [.int p0]) (rest := []) ⟨hx, hb, hml, hown, hG⟩ (kX9_isTune l dC dI r c f4 p0 s.heap.size hf4_0) (cwV 1 hG (goodV gw1508 gw1510 gw85 gw138 gw1511) rfl rfl rfl hd_X9_isTune ⟨(Nat.le_of_ble_eq_true rfl), (Nat.le_of_ble_eq_true rfl)⟩) ⟨fbW, va_recv hKc hPc (ci := 8) (q0 := 0) rfl rfl, pW_in hPc hKc hDc⟩ rfl rfl hl.1 rfl (lv_room (Nat.le_of_ble_eq_true rfl)) dX9_known_2 ⟨(Nat.le_of_ble_eq_true rfl), (Nat.le_of_ble_eq_true rfl)⟩) hS (fun q _ h => hFc q h) hFc (fun r_2 u t H1 locs ht hvm hw hB hz1 hk1 hS => ?_)
  obtain ⟨hP1, hD1⟩ := hB
  rw [ht] at hP1
  obtain ⟨hP, hD⟩ := va_join (wr := []) (w1 := [(r 0, .inr (8, [.ref (r 1), .ref (r 2), .int 0, .int 0, .int 0, .int (-1), .int 0, .int 0, .int 0, .int 0, .long 0, .ref (r 3), .ref (r 4), .ref (r 5), .ref (r 6), .ref (r 7), .ref (r 8), .ref (r 9), .ref (r 10), .ref (r 11), .ref (r 12), .ref (r 13), .ref (r 14), .ref (r 15), .ref (r 16), .ref (r 17), .ref (r 18), .ref (r 19), .ref (r 20), .ref (r 21), .ref (r 22), .ref (r 23), .ref (r 24), .int 0, .int 0, .int 0, .int 0, .int 0, .int 0, .int 0, .int 0, .int 0, .ref (r 25), .ref (r 26), .ref (r 27), .int 0, .int 0, .ref (r 28), .int 0, .ref (r 29), .ref (r 30), .ref (r 31), .ref (r 32), .ref (r 33), .ref (r 34), .ref (r 35), .ref (r 36), .int 0, .int 0, .int 0, .ref (r 37), .ref (r 38)])), (r 4, .inl ((c 4), 2, .inl f4))]) hP hD [0, 1] [] rfl rfl (by decide) (by decide) hk1 hFc hP1 hD1
  have hP : va_P (dC, dI) vwCl [(r 0, .inr (8, [.ref (r 1), .ref (r 2), .int 0, .int 0, .int 0, .int (-1), .int 0, .int 0, .int 0, .int 0, .long 0, .ref (r 3), .ref (r 4), .ref (r 5), .ref (r 6), .ref (r 7), .ref (r 8), .ref (r 9), .ref (r 10), .ref (r 11), .ref (r 12), .ref (r 13), .ref (r 14), .ref (r 15), .ref (r 16), .ref (r 17), .ref (r 18), .ref (r 19), .ref (r 20), .ref (r 21), .ref (r 22), .ref (r 23), .ref (r 24), .int 0, .int 0, .int 0, .int 0, .int 0, .int 0, .int 0, .int 0, .int 0, .ref (r 25), .ref (r 26), .ref (r 27), .int 0, .int 0, .ref (r 28), .int 0, .ref (r 29), .ref (r 30), .ref (r 31), .ref (r 32), .ref (r 33), .ref (r 34), .ref (r 35), .ref (r 36), .int 0, .int 0, .int 0, .ref (r 37), .ref (r 38)])), (r 4, .inl ((c 4), 2, .inl f4))] H1 := hP
  have hD : va_D A [(r 0, .inr (8, [.ref (r 1), .ref (r 2), .int 0, .int 0, .int 0, .int (-1), .int 0, .int 0, .int 0, .int 0, .long 0, .ref (r 3), .ref (r 4), .ref (r 5), .ref (r 6), .ref (r 7), .ref (r 8), .ref (r 9), .ref (r 10), .ref (r 11), .ref (r 12), .ref (r 13), .ref (r 14), .ref (r 15), .ref (r 16), .ref (r 17), .ref (r 18), .ref (r 19), .ref (r 20), .ref (r 21), .ref (r 22), .ref (r 23), .ref (r 24), .int 0, .int 0, .int 0, .int 0, .int 0, .int 0, .int 0, .int 0, .int 0, .ref (r 25), .ref (r 26), .ref (r 27), .int 0, .int 0, .ref (r 28), .int 0, .ref (r 29), .ref (r 30), .ref (r 31), .ref (r 32), .ref (r 33), .ref (r 34), .ref (r 35), .ref (r 36), .int 0, .int 0, .int 0, .ref (r 37), .ref (r 38)])), (r 4, .inl ((c 4), 2, .inl f4))] := hD
  refine wt_c (v := 0) hw ?_
  refine lv_if_eq (tgt := 37) hx hb dX9_known_5 (by decide) (fun c_3 => ?_) (fun c_3 => absurd (by decide) c_3)
  refine lv_iconst (v := (-1)) hx hb dX9_known_37 (by decide) ?_
  exact W.iret (v := (-1)) hx hb hr (fun t ht hW => ⟨⟨(-1), (), rfl, rfl, trivial⟩, hS.F ht⟩) hS.2.2 dX9_known_38
set_option maxHeartbeats 4000000 in
set_option maxRecDepth 100000 in
theorem kX3_drop (l : Launch) (dC : Nat → ClassId) (dI : Nat → Nat → Nat) (a0 a1 a2 a3 a4 a5 a6 a7 a8 a9 a10 a11 a12 : Nat) (p0 : Int32) (sz : Nat) : Met l yX3_drop (.code yX3_drop cX3_drop 3 (some .boolean) :: GW) { frames := 2, cells := 0, slots := 0, locals := 100 } (va_Pc [.ref a0, .int p0, .int 0] (pR (dC, dI) [(a0, .inr (2, [.int 0, .ref a1, .ref a2, .ref a3, .ref a4, .ref a5, .ref a6, .int 0, .ref a7, .ref a8, .ref a9, .ref a10, .ref a11, .ref a12]))] [] sz)) (va_Qi (fun (r0 : Int32) (_ : Unit) => r0 = 0) (fun _ _ => True) (fun q => sz ≤ q)) 0 0 (fun q => sz ≤ q) := by
  refine Met.ofW (cc := cX3_drop) (maxL := 3) (ret := (some .boolean)) (by decide) rfl ?_
  intro p e s m args below meth c0 s₁ B hml hv
  obtain ⟨rfl, hsz, hP, hK⟩ := hv
  have hx := B.exec
  have hb := B.bytes
  have hr := B.returns
  have hts := atoms_spec (ws := .code yX3_drop cX3_drop 3 (some .boolean) :: GW) B.pre
  have hG : ∀ w ∈ GW, w.before _ s = true := fun w h => hts w (List.mem_cons_of_mem _ h)
  have hown : s.vm.findClass RX3 = some m.cls := findClass_of_methodNamed B.named
  have hlocks := B.notSynchronized
  subst hsz
  have hS : va_S (fun q => s.heap.size ≤ q) s.heap s.heap [] := va_S.rf
  have hP : va_P (dC, dI) vwCl [(a0, .inr (2, [.int 0, .ref a1, .ref a2, .ref a3, .ref a4, .ref a5, .ref a6, .int 0, .ref a7, .ref a8, .ref a9, .ref a10, .ref a11, .ref a12]))] s.heap := hP
  have hl := lv_entry ([.ref a0, .int p0, .int 0]) (n := 3) (Nat.le_of_ble_eq_true rfl)
  rw [lg_entry_eq]
  generalize (lg_sl ([.ref a0, .int p0, .int 0]) ++ List.replicate (3 - (lg_sl ([.ref a0, .int p0, .int 0])).length) Slot.unset).toArray = ls at hl ⊢
  have hl : lv_has ls 3 [(0, .ref a0), (1, .int p0), (2, .int 0)] := hl
  refine lv_iload_n hx hb dX3_drop_0 rfl (lv_at hl 1 rfl) ?_
  refine lv_if_lt (tgt := 22) hx hb dX3_drop_1 (by decide) (fun c_1 => ?_) (fun c_1 => ?_)
  · skip
    refine lv_iconst (v := 0) hx hb dX3_drop_22 (by decide) ?_
    exact W.zret (v := 0) hx hb hr (by decide) (fun t ht hW => ⟨⟨0, (), rfl, rfl, trivial⟩, hS.F ht⟩) hS.2.2 dX3_drop_23
  · skip
    refine lv_iload_n hx hb dX3_drop_4 rfl (lv_at hl 1 rfl) ?_
    refine lv_aload_n hx hb dX3_drop_5 rfl (lv_at hl 0 rfl) ?_
    refine va_get (D := (dC, dI)) (ci := 2) (v := .int 0) (C := RX3) (T := TX3) (N := 14) hx hb hG inX3 hown hK hP 0 rfl rfl 0 (by decide) (hG _ gw404) (fun _ h9 => h9) rfl dX3_drop_6 ?_
    refine lv_icmp_ge (tgt := 22) hx hb dX3_drop_9 (by decide) (fun c_2 => ?_) (fun c_2 => ((by have k0 := q_nlt c_1; have k1 := q_nle c_2; have z0 : (0 : Int32).toInt = 0 := (by decide); omega) : False).elim)
    refine lv_iconst (v := 0) hx hb dX3_drop_22 (by decide) ?_
    exact W.zret (v := 0) hx hb hr (by decide) (fun t ht hW => ⟨⟨0, (), rfl, rfl, trivial⟩, hS.F ht⟩) hS.2.2 dX3_drop_23
set_option maxHeartbeats 4000000 in
set_option maxRecDepth 100000 in
theorem kX8_untell (l : Launch) (dC : Nat → ClassId) (dI : Nat → Nat → Nat) (r : Nat → Nat) (c : Nat → ClassId) (p0 : Int32) (sz : Nat) : Met l yX8_untell (.code yX8_untell cX8_untell 2 (some .boolean) :: GW) { frames := 4, cells := 0, slots := 0, locals := 162 } (va_Pc [.ref (r 0), .int p0] (pW (dC, dI) [(r 0, .inr (7, [.ref (r 1), .int 0, .ref (r 2), .ref (r 55), .ref (r 57), .ref (r 30), .ref (r 56), .ref (r 36), .ref (r 37), .ref (r 38), .int 0, .ref (r 51), .int 0, .ref (r 52), .ref (r 53), .ref (r 54)])), (r 38, .inr (2, [.int 0, .ref (r 39), .ref (r 40), .ref (r 41), .ref (r 42), .ref (r 43), .ref (r 44), .int 0, .ref (r 45), .ref (r 46), .ref (r 47), .ref (r 48), .ref (r 49), .ref (r 50)]))] [] sz)) (va_Qi (fun (r0 : Int32) (_ : Unit) => r0 = 0) (fun _ _ => True) (va_A [(r 0, .inr (7, [.ref (r 1), .int 0, .ref (r 2), .ref (r 55), .ref (r 57), .ref (r 30), .ref (r 56), .ref (r 36), .ref (r 37), .ref (r 38), .int 0, .ref (r 51), .int 0, .ref (r 52), .ref (r 53), .ref (r 54)])), (r 38, .inr (2, [.int 0, .ref (r 39), .ref (r 40), .ref (r 41), .ref (r 42), .ref (r 43), .ref (r 44), .int 0, .ref (r 45), .ref (r 46), .ref (r 47), .ref (r 48), .ref (r 49), .ref (r 50)]))] sz)) 0 0 (va_A [(r 0, .inr (7, [.ref (r 1), .int 0, .ref (r 2), .ref (r 55), .ref (r 57), .ref (r 30), .ref (r 56), .ref (r 36), .ref (r 37), .ref (r 38), .int 0, .ref (r 51), .int 0, .ref (r 52), .ref (r 53), .ref (r 54)])), (r 38, .inr (2, [.int 0, .ref (r 39), .ref (r 40), .ref (r 41), .ref (r 42), .ref (r 43), .ref (r 44), .int 0, .ref (r 45), .ref (r 46), .ref (r 47), .ref (r 48), .ref (r 49), .ref (r 50)]))] sz) := by
  refine Met.ofW (cc := cX8_untell) (maxL := 2) (ret := (some .boolean)) (by decide) rfl ?_
  intro p e s m args below meth c0 s₁ B hml hv
  obtain ⟨rfl, hsz, hP, hK, hD0⟩ := hv
  have hx := B.exec
  have hb := B.bytes
  have hr := B.returns
  have hts := atoms_spec (ws := .code yX8_untell cX8_untell 2 (some .boolean) :: GW) B.pre
  have hG : ∀ w ∈ GW, w.before _ s = true := fun w h => hts w (List.mem_cons_of_mem _ h)
  have hown : s.vm.findClass RX8 = some m.cls := findClass_of_methodNamed B.named
  have hlocks := B.notSynchronized
  subst hsz
  have hD := hD0.self (sz := s.heap.size)
  generalize hAe : va_A [(r 0, .inr (7, [.ref (r 1), .int 0, .ref (r 2), .ref (r 55), .ref (r 57), .ref (r 30), .ref (r 56), .ref (r 36), .ref (r 37), .ref (r 38), .int 0, .ref (r 51), .int 0, .ref (r 52), .ref (r 53), .ref (r 54)])), (r 38, .inr (2, [.int 0, .ref (r 39), .ref (r 40), .ref (r 41), .ref (r 42), .ref (r 43), .ref (r 44), .int 0, .ref (r 45), .ref (r 46), .ref (r 47), .ref (r 48), .ref (r 49), .ref (r 50)]))] s.heap.size = A at hD ⊢
  have hA : ∀ q : Nat, s.heap.size ≤ q → A q := fun q h => by rw [← hAe]; exact Or.inr h
  have hS : va_S A s.heap s.heap [] := va_S.rf
  have hP : va_P (dC, dI) vwCl [(r 0, .inr (7, [.ref (r 1), .int 0, .ref (r 2), .ref (r 55), .ref (r 57), .ref (r 30), .ref (r 56), .ref (r 36), .ref (r 37), .ref (r 38), .int 0, .ref (r 51), .int 0, .ref (r 52), .ref (r 53), .ref (r 54)])), (r 38, .inr (2, [.int 0, .ref (r 39), .ref (r 40), .ref (r 41), .ref (r 42), .ref (r 43), .ref (r 44), .int 0, .ref (r 45), .ref (r 46), .ref (r 47), .ref (r 48), .ref (r 49), .ref (r 50)]))] s.heap := hP
  have hl := lv_entry ([.ref (r 0), .int p0]) (n := 2) (Nat.le_of_ble_eq_true rfl)
  rw [lg_entry_eq]
  generalize (lg_sl ([.ref (r 0), .int p0]) ++ List.replicate (2 - (lg_sl ([.ref (r 0), .int p0])).length) Slot.unset).toArray = ls at hl ⊢
  have hl : lv_has ls 2 [(0, .ref (r 0)), (1, .int p0)] := hl
  refine lv_aload_n hx hb dX8_untell_0 rfl (lv_at hl 0 rfl) ?_
  refine va_get (D := (dC, dI)) (ci := 7) (v := .ref (r 38)) (C := RX8) (T := TX8) (N := 16) hx hb hG inX8 hown hK hP 0 rfl rfl 9 (by decide) (hG _ gw477) (fun _ h9 => h9) rfl dX8_untell_1 ?_
  refine lv_iload_n hx hb dX8_untell_4 rfl (lv_at hl 1 rfl) ?_
  refine lv_aload_n hx hb dX8_untell_5 rfl (lv_at hl 0 rfl) ?_
  refine va_get (D := (dC, dI)) (ci := 7) (v := .int 0) (C := RX8) (T := TX8) (N := 16) hx hb hG inX8 hown hK hP 0 rfl rfl 10 (by decide) (hG _ gw478) (fun _ h9 => h9) rfl dX8_untell_6 ?_
  have hPc := hP.sub (ws' := [(r 38, .inr (2, [.int 0, .ref (r 39), .ref (r 40), .ref (r 41), .ref (r 42), .ref (r 43), .ref (r 44), .int 0, .ref (r 45), .ref (r 46), .ref (r 47), .ref (r 48), .ref (r 49), .ref (r 50)]))]) [1] rfl
  have hKc := hK.sub (tys' := []) [] rfl
  refine va_calli (va_runV (As := [.int p0, .int 0]) (rest := []) ⟨hx, hb, hml, hown, hG⟩ (kX3_drop l dC dI (r 38) (r 39) (r 40) (r 41) (r 42) (r 43) (r 44) (r 45) (r 46) (r 47) (r 48) (r 49) (r 50) p0 s.heap.size ) (cwV 2 hG (goodV gw1065 gw1066 gw1067 gw136 gw1068) rfl rfl rfl hd_X3_drop ⟨(Nat.le_of_ble_eq_true rfl), (Nat.le_of_ble_eq_true rfl)⟩) ⟨fbR, va_recv hKc hPc (ci := 2) (q0 := 0) rfl rfl, pR_in hPc hKc⟩ rfl rfl hl.1 rfl (lv_room (Nat.le_of_ble_eq_true rfl)) dX8_untell_9 ⟨(Nat.le_of_ble_eq_true rfl), (Nat.le_of_ble_eq_true rfl)⟩) hS (fun q hq h => absurd hq (Nat.not_lt.mpr h)) (fun q h => hA q (Nat.le_trans hS.1 h)) (fun r_2 u t H1 locs ht hvm hw hB hz1 hk1 hS => ?_)
  have hP := wk hP hk1
  refine wt_c (v := 0) hw ?_
  exact W.zret (v := 0) hx hb hr (by decide) (fun t ht hW => ⟨⟨0, (), rfl, rfl, trivial⟩, hS.F ht⟩) hS.2.2 dX8_untell_12
set_option maxHeartbeats 4000000 in
set_option maxRecDepth 100000 in
theorem kX9_untell (l : Launch) (dC : Nat → ClassId) (dI : Nat → Nat → Nat) (r : Nat → Nat) (c : Nat → ClassId) (p0 : Int32) (sz : Nat) : Met l yX9_untell (.code yX9_untell cX9_untell 2 (some .boolean) :: GW) { frames := 4, cells := 0, slots := 0, locals := 162 } (va_Pc [.ref (r 0), .int p0] (pW (dC, dI) [(r 0, .inr (8, [.ref (r 1), .ref (r 2), .int 0, .int 0, .int 0, .int (-1), .int 0, .int 0, .int 0, .int 0, .long 0, .ref (r 3), .ref (r 4), .ref (r 5), .ref (r 6), .ref (r 7), .ref (r 8), .ref (r 9), .ref (r 10), .ref (r 11), .ref (r 12), .ref (r 13), .ref (r 14), .ref (r 15), .ref (r 16), .ref (r 17), .ref (r 18), .ref (r 19), .ref (r 20), .ref (r 21), .ref (r 22), .ref (r 23), .ref (r 24), .int 0, .int 0, .int 0, .int 0, .int 0, .int 0, .int 0, .int 0, .int 0, .ref (r 25), .ref (r 26), .ref (r 27), .int 0, .int 0, .ref (r 28), .int 0, .ref (r 29), .ref (r 30), .ref (r 31), .ref (r 32), .ref (r 33), .ref (r 34), .ref (r 35), .ref (r 36), .int 0, .int 0, .int 0, .ref (r 37), .ref (r 38)]))] [] sz)) (va_Qi (fun (r0 : Int32) (_ : Unit) => r0 = 0) (fun _ _ => True) (va_A [(r 0, .inr (8, [.ref (r 1), .ref (r 2), .int 0, .int 0, .int 0, .int (-1), .int 0, .int 0, .int 0, .int 0, .long 0, .ref (r 3), .ref (r 4), .ref (r 5), .ref (r 6), .ref (r 7), .ref (r 8), .ref (r 9), .ref (r 10), .ref (r 11), .ref (r 12), .ref (r 13), .ref (r 14), .ref (r 15), .ref (r 16), .ref (r 17), .ref (r 18), .ref (r 19), .ref (r 20), .ref (r 21), .ref (r 22), .ref (r 23), .ref (r 24), .int 0, .int 0, .int 0, .int 0, .int 0, .int 0, .int 0, .int 0, .int 0, .ref (r 25), .ref (r 26), .ref (r 27), .int 0, .int 0, .ref (r 28), .int 0, .ref (r 29), .ref (r 30), .ref (r 31), .ref (r 32), .ref (r 33), .ref (r 34), .ref (r 35), .ref (r 36), .int 0, .int 0, .int 0, .ref (r 37), .ref (r 38)]))] sz)) 0 0 (va_A [(r 0, .inr (8, [.ref (r 1), .ref (r 2), .int 0, .int 0, .int 0, .int (-1), .int 0, .int 0, .int 0, .int 0, .long 0, .ref (r 3), .ref (r 4), .ref (r 5), .ref (r 6), .ref (r 7), .ref (r 8), .ref (r 9), .ref (r 10), .ref (r 11), .ref (r 12), .ref (r 13), .ref (r 14), .ref (r 15), .ref (r 16), .ref (r 17), .ref (r 18), .ref (r 19), .ref (r 20), .ref (r 21), .ref (r 22), .ref (r 23), .ref (r 24), .int 0, .int 0, .int 0, .int 0, .int 0, .int 0, .int 0, .int 0, .int 0, .ref (r 25), .ref (r 26), .ref (r 27), .int 0, .int 0, .ref (r 28), .int 0, .ref (r 29), .ref (r 30), .ref (r 31), .ref (r 32), .ref (r 33), .ref (r 34), .ref (r 35), .ref (r 36), .int 0, .int 0, .int 0, .ref (r 37), .ref (r 38)]))] sz) := by
  refine Met.ofW (cc := cX9_untell) (maxL := 2) (ret := (some .boolean)) (by decide) rfl ?_
  intro p e s m args below meth c0 s₁ B hml hv
  obtain ⟨rfl, hsz, hP, hK, hD0⟩ := hv
  have hx := B.exec
  have hb := B.bytes
  have hr := B.returns
  have hts := atoms_spec (ws := .code yX9_untell cX9_untell 2 (some .boolean) :: GW) B.pre
  have hG : ∀ w ∈ GW, w.before _ s = true := fun w h => hts w (List.mem_cons_of_mem _ h)
  have hown : s.vm.findClass RX9 = some m.cls := findClass_of_methodNamed B.named
  have hlocks := B.notSynchronized
  subst hsz
  have hD := hD0.self (sz := s.heap.size)
  generalize hAe : va_A [(r 0, .inr (8, [.ref (r 1), .ref (r 2), .int 0, .int 0, .int 0, .int (-1), .int 0, .int 0, .int 0, .int 0, .long 0, .ref (r 3), .ref (r 4), .ref (r 5), .ref (r 6), .ref (r 7), .ref (r 8), .ref (r 9), .ref (r 10), .ref (r 11), .ref (r 12), .ref (r 13), .ref (r 14), .ref (r 15), .ref (r 16), .ref (r 17), .ref (r 18), .ref (r 19), .ref (r 20), .ref (r 21), .ref (r 22), .ref (r 23), .ref (r 24), .int 0, .int 0, .int 0, .int 0, .int 0, .int 0, .int 0, .int 0, .int 0, .ref (r 25), .ref (r 26), .ref (r 27), .int 0, .int 0, .ref (r 28), .int 0, .ref (r 29), .ref (r 30), .ref (r 31), .ref (r 32), .ref (r 33), .ref (r 34), .ref (r 35), .ref (r 36), .int 0, .int 0, .int 0, .ref (r 37), .ref (r 38)]))] s.heap.size = A at hD ⊢
  have hA : ∀ q : Nat, s.heap.size ≤ q → A q := fun q h => by rw [← hAe]; exact Or.inr h
  have hS : va_S A s.heap s.heap [] := va_S.rf
  have hP : va_P (dC, dI) vwCl [(r 0, .inr (8, [.ref (r 1), .ref (r 2), .int 0, .int 0, .int 0, .int (-1), .int 0, .int 0, .int 0, .int 0, .long 0, .ref (r 3), .ref (r 4), .ref (r 5), .ref (r 6), .ref (r 7), .ref (r 8), .ref (r 9), .ref (r 10), .ref (r 11), .ref (r 12), .ref (r 13), .ref (r 14), .ref (r 15), .ref (r 16), .ref (r 17), .ref (r 18), .ref (r 19), .ref (r 20), .ref (r 21), .ref (r 22), .ref (r 23), .ref (r 24), .int 0, .int 0, .int 0, .int 0, .int 0, .int 0, .int 0, .int 0, .int 0, .ref (r 25), .ref (r 26), .ref (r 27), .int 0, .int 0, .ref (r 28), .int 0, .ref (r 29), .ref (r 30), .ref (r 31), .ref (r 32), .ref (r 33), .ref (r 34), .ref (r 35), .ref (r 36), .int 0, .int 0, .int 0, .ref (r 37), .ref (r 38)]))] s.heap := hP
  have hl := lv_entry ([.ref (r 0), .int p0]) (n := 2) (Nat.le_of_ble_eq_true rfl)
  rw [lg_entry_eq]
  generalize (lg_sl ([.ref (r 0), .int p0]) ++ List.replicate (2 - (lg_sl ([.ref (r 0), .int p0])).length) Slot.unset).toArray = ls at hl ⊢
  have hl : lv_has ls 2 [(0, .ref (r 0)), (1, .int p0)] := hl
  refine lv_iload_n hx hb dX9_untell_0 rfl (lv_at hl 1 rfl) ?_
  refine lv_iconst (v := 0) hx hb dX9_untell_1 (by decide) ?_
  refine lv_aload_n hx hb dX9_untell_2 rfl (lv_at hl 0 rfl) ?_
  refine va_get (D := (dC, dI)) (ci := 8) (v := .int 0) (C := RX9) (T := TX9) (N := 62) hx hb hG inX9 hown hK hP 0 rfl rfl 57 (by decide) (hG _ gw1228) (fun _ h9 => h9) rfl dX9_untell_3 ?_
  refine lv_iconst (v := 1) hx hb dX9_untell_6 (by decide) ?_
  refine lv_isub hx hb dX9_untell_7 ?_
  refine wt_c (v := (-1)) (by decide) ?_
  have hPc := hP.sub (ws' := []) [] rfl
  have hKc := hK.sub (tys' := []) [] rfl
  refine va_calli (va_runS (As := [.int p0, .int 0, .int (-1)]) (rest := []) ⟨hx, hb, hml, hown, hG⟩ (kX9_isIn l dC dI p0 s.heap.size ) (va_cwS 3 hG (goodS gw1516 gw1517 gw138 gw1518) rfl rfl rfl hd_X9_isIn ⟨(Nat.le_of_ble_eq_true rfl), (Nat.le_of_ble_eq_true rfl)⟩) ⟨fbR, pR_in hPc hKc⟩ rfl rfl hl.1 rfl (lv_room (Nat.le_of_ble_eq_true rfl)) dX9_untell_8 ⟨(Nat.le_of_ble_eq_true rfl), (Nat.le_of_ble_eq_true rfl)⟩) hS (fun q hq h => absurd hq (Nat.not_lt.mpr h)) (fun q h => hA q (Nat.le_trans hS.1 h)) (fun r_2 u t H1 locs ht hvm hw hB hz1 hk1 hS => ?_)
  have hP := wk hP hk1
  refine wt_c (v := 0) hw ?_
  refine lv_if_eq (tgt := 23) hx hb dX9_untell_11 (by decide) (fun c_3 => ?_) (fun c_3 => absurd (by decide) c_3)
  refine lv_iconst (v := 0) hx hb dX9_untell_23 (by decide) ?_
  exact W.zret (v := 0) hx hb hr (by decide) (fun t ht hW => ⟨⟨0, (), rfl, rfl, trivial⟩, hS.F ht⟩) hS.2.2 dX9_untell_24
set_option maxHeartbeats 4000000 in
set_option maxRecDepth 100000 in
theorem kX9_untell_v1 (l : Launch) (dC : Nat → ClassId) (dI : Nat → Nat → Nat) (r : Nat → Nat) (c : Nat → ClassId) (p0 : Int32) (sz : Nat) : Met l yX9_untell (.code yX9_untell cX9_untell 2 (some .boolean) :: GW) { frames := 4, cells := 0, slots := 0, locals := 162 } (va_Pc [.ref (r 0), .int p0] (pR (dC, dI) [(r 0, .inr (8, [.ref (r 1), .ref (r 2), .int 0, .int 0, .int 0, .int (-1), .int 0, .int 0, .int 0, .int 0, .long 0, .ref (r 3), .ref (r 4), .ref (r 5), .ref (r 6), .ref (r 7), .ref (r 8), .ref (r 9), .ref (r 10), .ref (r 11), .ref (r 12), .ref (r 13), .ref (r 14), .ref (r 15), .ref (r 16), .ref (r 17), .ref (r 18), .ref (r 19), .ref (r 20), .ref (r 21), .ref (r 22), .ref (r 23), .ref (r 24), .int 0, .int 0, .int 0, .int 0, .int 0, .int 0, .int 0, .int 0, .int 0, .ref (r 25), .ref (r 26), .ref (r 27), .int 0, .int 0, .ref (r 28), .int 0, .ref (r 29), .ref (r 30), .ref (r 31), .ref (r 32), .ref (r 33), .ref (r 34), .ref (r 35), .ref (r 36), .int 0, .int 0, .int 0, .ref (r 37), .ref (r 38)]))] [] sz)) (va_Qi (fun (r0 : Int32) (_ : Unit) => r0 = 0) (fun _ _ => True) (fun q => sz ≤ q)) 0 0 (fun q => sz ≤ q) := by
  refine Met.ofW (cc := cX9_untell) (maxL := 2) (ret := (some .boolean)) (by decide) rfl ?_
  intro p e s m args below meth c0 s₁ B hml hv
  obtain ⟨rfl, hsz, hP, hK⟩ := hv
  have hx := B.exec
  have hb := B.bytes
  have hr := B.returns
  have hts := atoms_spec (ws := .code yX9_untell cX9_untell 2 (some .boolean) :: GW) B.pre
  have hG : ∀ w ∈ GW, w.before _ s = true := fun w h => hts w (List.mem_cons_of_mem _ h)
  have hown : s.vm.findClass RX9 = some m.cls := findClass_of_methodNamed B.named
  have hlocks := B.notSynchronized
  subst hsz
  have hS : va_S (fun q => s.heap.size ≤ q) s.heap s.heap [] := va_S.rf
  have hP : va_P (dC, dI) vwCl [(r 0, .inr (8, [.ref (r 1), .ref (r 2), .int 0, .int 0, .int 0, .int (-1), .int 0, .int 0, .int 0, .int 0, .long 0, .ref (r 3), .ref (r 4), .ref (r 5), .ref (r 6), .ref (r 7), .ref (r 8), .ref (r 9), .ref (r 10), .ref (r 11), .ref (r 12), .ref (r 13), .ref (r 14), .ref (r 15), .ref (r 16), .ref (r 17), .ref (r 18), .ref (r 19), .ref (r 20), .ref (r 21), .ref (r 22), .ref (r 23), .ref (r 24), .int 0, .int 0, .int 0, .int 0, .int 0, .int 0, .int 0, .int 0, .int 0, .ref (r 25), .ref (r 26), .ref (r 27), .int 0, .int 0, .ref (r 28), .int 0, .ref (r 29), .ref (r 30), .ref (r 31), .ref (r 32), .ref (r 33), .ref (r 34), .ref (r 35), .ref (r 36), .int 0, .int 0, .int 0, .ref (r 37), .ref (r 38)]))] s.heap := hP
  have hl := lv_entry ([.ref (r 0), .int p0]) (n := 2) (Nat.le_of_ble_eq_true rfl)
  rw [lg_entry_eq]
  generalize (lg_sl ([.ref (r 0), .int p0]) ++ List.replicate (2 - (lg_sl ([.ref (r 0), .int p0])).length) Slot.unset).toArray = ls at hl ⊢
  have hl : lv_has ls 2 [(0, .ref (r 0)), (1, .int p0)] := hl
  refine lv_iload_n hx hb dX9_untell_0 rfl (lv_at hl 1 rfl) ?_
  refine lv_iconst (v := 0) hx hb dX9_untell_1 (by decide) ?_
  refine lv_aload_n hx hb dX9_untell_2 rfl (lv_at hl 0 rfl) ?_
  refine va_get (D := (dC, dI)) (ci := 8) (v := .int 0) (C := RX9) (T := TX9) (N := 62) hx hb hG inX9 hown hK hP 0 rfl rfl 57 (by decide) (hG _ gw1228) (fun _ h9 => h9) rfl dX9_untell_3 ?_
  refine lv_iconst (v := 1) hx hb dX9_untell_6 (by decide) ?_
  refine lv_isub hx hb dX9_untell_7 ?_
  refine wt_c (v := (-1)) (by decide) ?_
  have hPc := hP.sub (ws' := []) [] rfl
  have hKc := hK.sub (tys' := []) [] rfl
  refine va_calli (va_runS (As := [.int p0, .int 0, .int (-1)]) (rest := []) ⟨hx, hb, hml, hown, hG⟩ (kX9_isIn l dC dI p0 s.heap.size ) (va_cwS 3 hG (goodS gw1516 gw1517 gw138 gw1518) rfl rfl rfl hd_X9_isIn ⟨(Nat.le_of_ble_eq_true rfl), (Nat.le_of_ble_eq_true rfl)⟩) ⟨fbR, pR_in hPc hKc⟩ rfl rfl hl.1 rfl (lv_room (Nat.le_of_ble_eq_true rfl)) dX9_untell_8 ⟨(Nat.le_of_ble_eq_true rfl), (Nat.le_of_ble_eq_true rfl)⟩) hS (fun q hq h => absurd hq (Nat.not_lt.mpr h)) (fun q h => Nat.le_trans hS.1 h) (fun r_2 u t H1 locs ht hvm hw hB hz1 hk1 hS => ?_)
  have hP := wk hP hk1
  refine wt_c (v := 0) hw ?_
  refine lv_if_eq (tgt := 23) hx hb dX9_untell_11 (by decide) (fun c_3 => ?_) (fun c_3 => absurd (by decide) c_3)
  refine lv_iconst (v := 0) hx hb dX9_untell_23 (by decide) ?_
  exact W.zret (v := 0) hx hb hr (by decide) (fun t ht hW => ⟨⟨0, (), rfl, rfl, trivial⟩, hS.F ht⟩) hS.2.2 dX9_untell_24
set_option maxHeartbeats 4000000 in
set_option maxRecDepth 100000 in
theorem kX8_later (l : Launch) (dC : Nat → ClassId) (dI : Nat → Nat → Nat) (r : Nat → Nat) (c : Nat → ClassId) (p0 : Int32) (sz : Nat) : Met l yX8_later (.code yX8_later cX8_later 2 (some .int) :: GW) { frames := 2, cells := 0, slots := 0, locals := 100 } (va_Pc [.ref (r 0), .int p0] (pW (dC, dI) [(r 0, .inr (7, [.ref (r 1), .int 0, .ref (r 2), .ref (r 55), .ref (r 57), .ref (r 30), .ref (r 56), .ref (r 36), .ref (r 37), .ref (r 38), .int 0, .ref (r 51), .int 0, .ref (r 52), .ref (r 53), .ref (r 54)]))] [] sz)) (va_Qi (fun (r0 : Int32) (u : Nat) => (u = 0 ∧ p0 < 0 ∧ r0 = (-1)) ∨ (u = 1 ∧ ¬ p0 < 0 ∧ 1000 < p0 ∧ r0 = (-1)) ∨ (u = 2 ∧ ¬ p0 < 0 ∧ ¬ 1000 < p0 ∧ p0 ≤ 100000 ∧ r0 = p0)) (fun _ _ => True) (va_A [(r 0, .inr (7, [.ref (r 1), .int 0, .ref (r 2), .ref (r 55), .ref (r 57), .ref (r 30), .ref (r 56), .ref (r 36), .ref (r 37), .ref (r 38), .int 0, .ref (r 51), .int 0, .ref (r 52), .ref (r 53), .ref (r 54)]))] sz)) 0 0 (va_A [(r 0, .inr (7, [.ref (r 1), .int 0, .ref (r 2), .ref (r 55), .ref (r 57), .ref (r 30), .ref (r 56), .ref (r 36), .ref (r 37), .ref (r 38), .int 0, .ref (r 51), .int 0, .ref (r 52), .ref (r 53), .ref (r 54)]))] sz) := by
  refine Met.ofW (cc := cX8_later) (maxL := 2) (ret := (some .int)) (by decide) rfl ?_
  intro p e s m args below meth c0 s₁ B hml hv
  obtain ⟨rfl, hsz, hP, hK, hD0⟩ := hv
  have hx := B.exec
  have hb := B.bytes
  have hr := B.returns
  have hts := atoms_spec (ws := .code yX8_later cX8_later 2 (some .int) :: GW) B.pre
  have hG : ∀ w ∈ GW, w.before _ s = true := fun w h => hts w (List.mem_cons_of_mem _ h)
  have hown : s.vm.findClass RX8 = some m.cls := findClass_of_methodNamed B.named
  have hlocks := B.notSynchronized
  subst hsz
  have hD := hD0.self (sz := s.heap.size)
  generalize hAe : va_A [(r 0, .inr (7, [.ref (r 1), .int 0, .ref (r 2), .ref (r 55), .ref (r 57), .ref (r 30), .ref (r 56), .ref (r 36), .ref (r 37), .ref (r 38), .int 0, .ref (r 51), .int 0, .ref (r 52), .ref (r 53), .ref (r 54)]))] s.heap.size = A at hD ⊢
  have hA : ∀ q : Nat, s.heap.size ≤ q → A q := fun q h => by rw [← hAe]; exact Or.inr h
  have hS : va_S A s.heap s.heap [] := va_S.rf
  have hP : va_P (dC, dI) vwCl [(r 0, .inr (7, [.ref (r 1), .int 0, .ref (r 2), .ref (r 55), .ref (r 57), .ref (r 30), .ref (r 56), .ref (r 36), .ref (r 37), .ref (r 38), .int 0, .ref (r 51), .int 0, .ref (r 52), .ref (r 53), .ref (r 54)]))] s.heap := hP
  have hl := lv_entry ([.ref (r 0), .int p0]) (n := 2) (Nat.le_of_ble_eq_true rfl)
  rw [lg_entry_eq]
  generalize (lg_sl ([.ref (r 0), .int p0]) ++ List.replicate (2 - (lg_sl ([.ref (r 0), .int p0])).length) Slot.unset).toArray = ls at hl ⊢
  have hl : lv_has ls 2 [(0, .ref (r 0)), (1, .int p0)] := hl
  refine lv_iload_n hx hb dX8_later_0 rfl (lv_at hl 1 rfl) ?_
  refine lv_if_lt (tgt := 23) hx hb dX8_later_1 (by decide) (fun c_1 => ?_) (fun c_1 => ?_)
  · skip
    refine lv_iconst (v := (-1)) hx hb dX8_later_23 (by decide) ?_
    exact W.iret (v := (-1)) hx hb hr (fun t ht hW => ⟨⟨(-1), 0, rfl, (Or.inl ⟨rfl, c_1, rfl⟩), trivial⟩, hS.F ht⟩) hS.2.2 dX8_later_24
  · skip
    refine lv_iload_n hx hb dX8_later_4 rfl (lv_at hl 1 rfl) ?_
    refine lv_sipush (v := 1000) hx hb dX8_later_5 (by decide) ?_
    refine lv_icmp_gt (tgt := 23) hx hb dX8_later_8 (by decide) (fun c_2 => ?_) (fun c_2 => ?_)
    · skip
      refine lv_iconst (v := (-1)) hx hb dX8_later_23 (by decide) ?_
      exact W.iret (v := (-1)) hx hb hr (fun t ht hW => ⟨⟨(-1), 1, rfl, (Or.inr (Or.inl ⟨rfl, c_1, c_2, rfl⟩)), trivial⟩, hS.F ht⟩) hS.2.2 dX8_later_24
    · skip
      refine lv_aload_n hx hb dX8_later_11 rfl (lv_at hl 0 rfl) ?_
      refine va_get (D := (dC, dI)) (ci := 7) (v := .int 0) (C := RX8) (T := TX8) (N := 16) hx hb hG inX8 hown hK hP 0 rfl rfl 10 (by decide) (hG _ gw478) (fun _ h9 => h9) rfl dX8_later_12 ?_
      refine lv_iload_n hx hb dX8_later_15 rfl (lv_at hl 1 rfl) ?_
      refine lv_iadd hx hb dX8_later_16 ?_
      refine wt_c (v := p0) (Int32.zero_add _) ?_
      refine lv_ldcw (v := 100000) hx hb hown (hG _ gw1073) dX8_later_17 ?_
      refine lv_icmp_le (tgt := 25) hx hb dX8_later_20 (by decide) (fun c_3 => ?_) (fun c_3 => ((by have k0 := q_nlt c_1; have k1 := q_nlt c_2; have k2 := q_nle c_3; have z0 : (0 : Int32).toInt = 0 := (by decide); have z1000 : (1000 : Int32).toInt = 1000 := (by decide); have z100000 : (100000 : Int32).toInt = 100000 := (by decide); omega) : False).elim)
      refine lv_aload_n hx hb dX8_later_25 rfl (lv_at hl 0 rfl) ?_
      refine lv_dup hx hb dX8_later_26 rfl ?_
      refine va_get (D := (dC, dI)) (ci := 7) (v := .int 0) (C := RX8) (T := TX8) (N := 16) hx hb hG inX8 hown hK hP 0 rfl rfl 10 (by decide) (hG _ gw478) (fun _ h9 => h9) rfl dX8_later_27 ?_
      refine lv_iload_n hx hb dX8_later_30 rfl (lv_at hl 1 rfl) ?_
      refine lv_iadd hx hb dX8_later_31 ?_
      refine wt_c (v := p0) (Int32.zero_add _) ?_
      refine va_put (D := (dC, dI)) (ci := 7) (v := .int p0) (ty := .int) (C := RX8) (T := TX8) (N := 16) hx hb hG inX8 tyX8 tyX8_ok nmX8 hown hK hP hD hS 0 rfl rfl 10 (by decide) (hG _ gw478) (fun _ h9 => h9) rfl (by decide +kernel) rfl rfl (Nat.le_of_ble_eq_true rfl) dX8_later_32 (fun H4 locs hP hD hS => ?_)
      have hP : va_P (dC, dI) vwCl [(r 0, .inr (7, [.ref (r 1), .int 0, .ref (r 2), .ref (r 55), .ref (r 57), .ref (r 30), .ref (r 56), .ref (r 36), .ref (r 37), .ref (r 38), .int p0, .ref (r 51), .int 0, .ref (r 52), .ref (r 53), .ref (r 54)]))] H4 := hP
      have hD : va_D A [(r 0, .inr (7, [.ref (r 1), .int 0, .ref (r 2), .ref (r 55), .ref (r 57), .ref (r 30), .ref (r 56), .ref (r 36), .ref (r 37), .ref (r 38), .int p0, .ref (r 51), .int 0, .ref (r 52), .ref (r 53), .ref (r 54)]))] := hD
      refine lv_aload_n hx hb dX8_later_35 rfl (lv_at hl 0 rfl) ?_
      refine va_get (D := (dC, dI)) (ci := 7) (v := .int p0) (C := RX8) (T := TX8) (N := 16) hx hb hG inX8 hown hK hP 0 rfl rfl 10 (by decide) (hG _ gw478) (fun _ h9 => h9) rfl dX8_later_36 ?_
      exact W.iret (v := p0) hx hb hr (fun t ht hW => ⟨⟨p0, 2, rfl, (Or.inr (Or.inr ⟨rfl, c_1, c_2, c_3, rfl⟩)), trivial⟩, hS.F ht⟩) hS.2.2 dX8_later_39
set_option maxHeartbeats 4000000 in
set_option maxRecDepth 100000 in
theorem kX9_isIn_v7 (l : Launch) (dC : Nat → ClassId) (dI : Nat → Nat → Nat) (p0 : Int32) (sz : Nat) : Met l yX9_isIn (.code yX9_isIn cX9_isIn 3 (some .boolean) :: GW) { frames := 2, cells := 0, slots := 0, locals := 100 } (va_Pc [.int p0, .int 0, .int 1000] (pR (dC, dI) [] [] sz)) (va_Qi (fun (r0 : Int32) (u : Nat) => (u = 0 ∧ p0 < 0 ∧ r0 = 0) ∨ (u = 1 ∧ ¬ p0 < 0 ∧ 1000 < p0 ∧ r0 = 0) ∨ (u = 2 ∧ ¬ p0 < 0 ∧ ¬ 1000 < p0 ∧ r0 = 1)) (fun _ _ => True) (fun q => sz ≤ q)) 0 0 (fun q => sz ≤ q) := by
  refine Met.ofW (cc := cX9_isIn) (maxL := 3) (ret := (some .boolean)) (by decide) rfl ?_
  intro p e s m args below meth c0 s₁ B hml hv
  obtain ⟨rfl, hsz, hP, hK⟩ := hv
  have hx := B.exec
  have hb := B.bytes
  have hr := B.returns
  have hts := atoms_spec (ws := .code yX9_isIn cX9_isIn 3 (some .boolean) :: GW) B.pre
  have hG : ∀ w ∈ GW, w.before _ s = true := fun w h => hts w (List.mem_cons_of_mem _ h)
  have hown : s.vm.findClass RX9 = some m.cls := findClass_of_methodNamed B.named
  have hlocks := B.notSynchronized
  subst hsz
  have hS : va_S (fun q => s.heap.size ≤ q) s.heap s.heap [] := va_S.rf
  have hP : va_P (dC, dI) vwCl [] s.heap := hP
  have hl := lv_entry ([.int p0, .int 0, .int 1000]) (n := 3) (Nat.le_of_ble_eq_true rfl)
  rw [lg_entry_eq]
  generalize (lg_sl ([.int p0, .int 0, .int 1000]) ++ List.replicate (3 - (lg_sl ([.int p0, .int 0, .int 1000])).length) Slot.unset).toArray = ls at hl ⊢
  have hl : lv_has ls 3 [(0, .int p0), (1, .int 0), (2, .int 1000)] := hl
  refine lv_iload_n hx hb dX9_isIn_0 rfl (lv_at hl 0 rfl) ?_
  refine lv_iload_n hx hb dX9_isIn_1 rfl (lv_at hl 1 rfl) ?_
  refine lv_icmp_lt (tgt := 14) hx hb dX9_isIn_2 (by decide) (fun c_1 => ?_) (fun c_1 => ?_)
  · skip
    refine lv_iconst (v := 0) hx hb dX9_isIn_14 (by decide) ?_
    exact W.zret (v := 0) hx hb hr (by decide) (fun t ht hW => ⟨⟨0, 0, rfl, (Or.inl ⟨rfl, c_1, rfl⟩), trivial⟩, hS.F ht⟩) hS.2.2 dX9_isIn_15
  · skip
    refine lv_iload_n hx hb dX9_isIn_5 rfl (lv_at hl 0 rfl) ?_
    refine lv_iload_n hx hb dX9_isIn_6 rfl (lv_at hl 2 rfl) ?_
    refine lv_icmp_gt (tgt := 14) hx hb dX9_isIn_7 (by decide) (fun c_2 => ?_) (fun c_2 => ?_)
    · skip
      refine lv_iconst (v := 0) hx hb dX9_isIn_14 (by decide) ?_
      exact W.zret (v := 0) hx hb hr (by decide) (fun t ht hW => ⟨⟨0, 1, rfl, (Or.inr (Or.inl ⟨rfl, c_1, c_2, rfl⟩)), trivial⟩, hS.F ht⟩) hS.2.2 dX9_isIn_15
    · skip
      refine lv_iconst (v := 1) hx hb dX9_isIn_10 (by decide) ?_
      refine lv_goto (tgt := 15) hx hb dX9_isIn_11 (by decide) ?_
      exact W.zret (v := 1) hx hb hr (by decide) (fun t ht hW => ⟨⟨1, 2, rfl, (Or.inr (Or.inr ⟨rfl, c_1, c_2, rfl⟩)), trivial⟩, hS.F ht⟩) hS.2.2 dX9_isIn_15
set_option maxHeartbeats 4000000 in
set_option maxRecDepth 100000 in
theorem kX9_later (l : Launch) (dC : Nat → ClassId) (dI : Nat → Nat → Nat) (r : Nat → Nat) (c : Nat → ClassId) (p0 : Int32) (sz : Nat) : Met l yX9_later (.code yX9_later cX9_later 2 (some .int) :: GW) { frames := 4, cells := 0, slots := 0, locals := 162 } (va_Pc [.ref (r 0), .int p0] (pW (dC, dI) [(r 0, .inr (8, [.ref (r 1), .ref (r 2), .int 0, .int 0, .int 0, .int (-1), .int 0, .int 0, .int 0, .int 0, .long 0, .ref (r 3), .ref (r 4), .ref (r 5), .ref (r 6), .ref (r 7), .ref (r 8), .ref (r 9), .ref (r 10), .ref (r 11), .ref (r 12), .ref (r 13), .ref (r 14), .ref (r 15), .ref (r 16), .ref (r 17), .ref (r 18), .ref (r 19), .ref (r 20), .ref (r 21), .ref (r 22), .ref (r 23), .ref (r 24), .int 0, .int 0, .int 0, .int 0, .int 0, .int 0, .int 0, .int 0, .int 0, .ref (r 25), .ref (r 26), .ref (r 27), .int 0, .int 0, .ref (r 28), .int 0, .ref (r 29), .ref (r 30), .ref (r 31), .ref (r 32), .ref (r 33), .ref (r 34), .ref (r 35), .ref (r 36), .int 0, .int 0, .int 0, .ref (r 37), .ref (r 38)]))] [] sz)) (va_Qi (fun (r0 : Int32) (u : Nat) => (u = 0 ∧ p0 < 0 ∧ r0 = (-1)) ∨ (u = 1 ∧ ¬ p0 < 0 ∧ 1000 < p0 ∧ r0 = (-1)) ∨ (u = 2 ∧ ¬ p0 < 0 ∧ ¬ 1000 < p0 ∧ p0 ≤ 100000 ∧ r0 = p0)) (fun _ _ => True) (va_A [(r 0, .inr (8, [.ref (r 1), .ref (r 2), .int 0, .int 0, .int 0, .int (-1), .int 0, .int 0, .int 0, .int 0, .long 0, .ref (r 3), .ref (r 4), .ref (r 5), .ref (r 6), .ref (r 7), .ref (r 8), .ref (r 9), .ref (r 10), .ref (r 11), .ref (r 12), .ref (r 13), .ref (r 14), .ref (r 15), .ref (r 16), .ref (r 17), .ref (r 18), .ref (r 19), .ref (r 20), .ref (r 21), .ref (r 22), .ref (r 23), .ref (r 24), .int 0, .int 0, .int 0, .int 0, .int 0, .int 0, .int 0, .int 0, .int 0, .ref (r 25), .ref (r 26), .ref (r 27), .int 0, .int 0, .ref (r 28), .int 0, .ref (r 29), .ref (r 30), .ref (r 31), .ref (r 32), .ref (r 33), .ref (r 34), .ref (r 35), .ref (r 36), .int 0, .int 0, .int 0, .ref (r 37), .ref (r 38)]))] sz)) 0 0 (va_A [(r 0, .inr (8, [.ref (r 1), .ref (r 2), .int 0, .int 0, .int 0, .int (-1), .int 0, .int 0, .int 0, .int 0, .long 0, .ref (r 3), .ref (r 4), .ref (r 5), .ref (r 6), .ref (r 7), .ref (r 8), .ref (r 9), .ref (r 10), .ref (r 11), .ref (r 12), .ref (r 13), .ref (r 14), .ref (r 15), .ref (r 16), .ref (r 17), .ref (r 18), .ref (r 19), .ref (r 20), .ref (r 21), .ref (r 22), .ref (r 23), .ref (r 24), .int 0, .int 0, .int 0, .int 0, .int 0, .int 0, .int 0, .int 0, .int 0, .ref (r 25), .ref (r 26), .ref (r 27), .int 0, .int 0, .ref (r 28), .int 0, .ref (r 29), .ref (r 30), .ref (r 31), .ref (r 32), .ref (r 33), .ref (r 34), .ref (r 35), .ref (r 36), .int 0, .int 0, .int 0, .ref (r 37), .ref (r 38)]))] sz) := by
  refine Met.ofW (cc := cX9_later) (maxL := 2) (ret := (some .int)) (by decide) rfl ?_
  intro p e s m args below meth c0 s₁ B hml hv
  obtain ⟨rfl, hsz, hP, hK, hD0⟩ := hv
  have hx := B.exec
  have hb := B.bytes
  have hr := B.returns
  have hts := atoms_spec (ws := .code yX9_later cX9_later 2 (some .int) :: GW) B.pre
  have hG : ∀ w ∈ GW, w.before _ s = true := fun w h => hts w (List.mem_cons_of_mem _ h)
  have hown : s.vm.findClass RX9 = some m.cls := findClass_of_methodNamed B.named
  have hlocks := B.notSynchronized
  subst hsz
  have hD := hD0.self (sz := s.heap.size)
  generalize hAe : va_A [(r 0, .inr (8, [.ref (r 1), .ref (r 2), .int 0, .int 0, .int 0, .int (-1), .int 0, .int 0, .int 0, .int 0, .long 0, .ref (r 3), .ref (r 4), .ref (r 5), .ref (r 6), .ref (r 7), .ref (r 8), .ref (r 9), .ref (r 10), .ref (r 11), .ref (r 12), .ref (r 13), .ref (r 14), .ref (r 15), .ref (r 16), .ref (r 17), .ref (r 18), .ref (r 19), .ref (r 20), .ref (r 21), .ref (r 22), .ref (r 23), .ref (r 24), .int 0, .int 0, .int 0, .int 0, .int 0, .int 0, .int 0, .int 0, .int 0, .ref (r 25), .ref (r 26), .ref (r 27), .int 0, .int 0, .ref (r 28), .int 0, .ref (r 29), .ref (r 30), .ref (r 31), .ref (r 32), .ref (r 33), .ref (r 34), .ref (r 35), .ref (r 36), .int 0, .int 0, .int 0, .ref (r 37), .ref (r 38)]))] s.heap.size = A at hD ⊢
  have hA : ∀ q : Nat, s.heap.size ≤ q → A q := fun q h => by rw [← hAe]; exact Or.inr h
  have hS : va_S A s.heap s.heap [] := va_S.rf
  have hP : va_P (dC, dI) vwCl [(r 0, .inr (8, [.ref (r 1), .ref (r 2), .int 0, .int 0, .int 0, .int (-1), .int 0, .int 0, .int 0, .int 0, .long 0, .ref (r 3), .ref (r 4), .ref (r 5), .ref (r 6), .ref (r 7), .ref (r 8), .ref (r 9), .ref (r 10), .ref (r 11), .ref (r 12), .ref (r 13), .ref (r 14), .ref (r 15), .ref (r 16), .ref (r 17), .ref (r 18), .ref (r 19), .ref (r 20), .ref (r 21), .ref (r 22), .ref (r 23), .ref (r 24), .int 0, .int 0, .int 0, .int 0, .int 0, .int 0, .int 0, .int 0, .int 0, .ref (r 25), .ref (r 26), .ref (r 27), .int 0, .int 0, .ref (r 28), .int 0, .ref (r 29), .ref (r 30), .ref (r 31), .ref (r 32), .ref (r 33), .ref (r 34), .ref (r 35), .ref (r 36), .int 0, .int 0, .int 0, .ref (r 37), .ref (r 38)]))] s.heap := hP
  have hl := lv_entry ([.ref (r 0), .int p0]) (n := 2) (Nat.le_of_ble_eq_true rfl)
  rw [lg_entry_eq]
  generalize (lg_sl ([.ref (r 0), .int p0]) ++ List.replicate (2 - (lg_sl ([.ref (r 0), .int p0])).length) Slot.unset).toArray = ls at hl ⊢
  have hl : lv_has ls 2 [(0, .ref (r 0)), (1, .int p0)] := hl
  refine lv_iload_n hx hb dX9_later_0 rfl (lv_at hl 1 rfl) ?_
  refine lv_iconst (v := 0) hx hb dX9_later_1 (by decide) ?_
  refine lv_sipush (v := 1000) hx hb dX9_later_2 (by decide) ?_
  have hPc := hP.sub (ws' := []) [] rfl
  have hKc := hK.sub (tys' := []) [] rfl
  refine va_calli (va_runS (As := [.int p0, .int 0, .int 1000]) (rest := []) ⟨hx, hb, hml, hown, hG⟩ (kX9_isIn_v7 l dC dI p0 s.heap.size ) (va_cwS 3 hG (goodS gw1516 gw1517 gw138 gw1518) rfl rfl rfl hd_X9_isIn ⟨(Nat.le_of_ble_eq_true rfl), (Nat.le_of_ble_eq_true rfl)⟩) ⟨fbR, pR_in hPc hKc⟩ rfl rfl hl.1 rfl (lv_room (Nat.le_of_ble_eq_true rfl)) dX9_later_5 ⟨(Nat.le_of_ble_eq_true rfl), (Nat.le_of_ble_eq_true rfl)⟩) hS (fun q hq h => absurd hq (Nat.not_lt.mpr h)) (fun q h => hA q (Nat.le_trans hS.1 h)) (fun r_2 u t H1 locs ht hvm hw hB hz1 hk1 hS => ?_)
  rcases hw with ⟨rfl, hy3, hw⟩ | ⟨rfl, hy4, hy5, hw⟩ | ⟨rfl, hy6, hy7, hw⟩
  · skip
    have hP := wk hP hk1
    refine wt_c (v := 0) hw ?_
    refine lv_if_eq (tgt := 23) hx hb dX9_later_8 (by decide) (fun c_8 => ?_) (fun c_8 => absurd (by decide) c_8)
    refine lv_iconst (v := (-1)) hx hb dX9_later_23 (by decide) ?_
    exact W.iret (v := (-1)) hx hb hr (fun t ht hW => ⟨⟨(-1), 0, rfl, (Or.inl ⟨rfl, hy3, rfl⟩), trivial⟩, hS.F ht⟩) hS.2.2 dX9_later_24
  · skip
    have hP := wk hP hk1
    refine wt_c (v := 0) hw ?_
    refine lv_if_eq (tgt := 23) hx hb dX9_later_8 (by decide) (fun c_9 => ?_) (fun c_9 => absurd (by decide) c_9)
    refine lv_iconst (v := (-1)) hx hb dX9_later_23 (by decide) ?_
    exact W.iret (v := (-1)) hx hb hr (fun t ht hW => ⟨⟨(-1), 1, rfl, (Or.inr (Or.inl ⟨rfl, hy4, hy5, rfl⟩)), trivial⟩, hS.F ht⟩) hS.2.2 dX9_later_24
  · skip
    have hP := wk hP hk1
    refine wt_c (v := 1) hw ?_
    refine lv_if_eq (tgt := 23) hx hb dX9_later_8 (by decide) (fun c_10 => absurd c_10 (by decide)) (fun c_10 => ?_)
    refine lv_aload_n hx hb dX9_later_11 rfl (lv_at hl 0 rfl) ?_
    refine va_get (D := (dC, dI)) (ci := 8) (v := .int 0) (C := RX9) (T := TX9) (N := 62) hx hb hG inX9 hown hK hP 0 rfl rfl 58 (by decide) (hG _ gw1229) (fun _ h9 => h9) rfl dX9_later_12 ?_
    refine lv_iload_n hx hb dX9_later_15 rfl (lv_at hl 1 rfl) ?_
    refine lv_iadd hx hb dX9_later_16 ?_
    refine wt_c (v := p0) (Int32.zero_add _) ?_
    refine lv_ldcw (v := 100000) hx hb hown (hG _ gw1829) dX9_later_17 ?_
    refine lv_icmp_le (tgt := 25) hx hb dX9_later_20 (by decide) (fun c_11 => ?_) (fun c_11 => ((by have k0 := q_nlt hy6; have k1 := q_nlt hy7; have k2 := q_nle c_11; have z0 : (0 : Int32).toInt = 0 := (by decide); have z1000 : (1000 : Int32).toInt = 1000 := (by decide); have z100000 : (100000 : Int32).toInt = 100000 := (by decide); omega) : False).elim)
    refine lv_aload_n hx hb dX9_later_25 rfl (lv_at hl 0 rfl) ?_
    refine lv_dup hx hb dX9_later_26 rfl ?_
    refine va_get (D := (dC, dI)) (ci := 8) (v := .int 0) (C := RX9) (T := TX9) (N := 62) hx hb hG inX9 hown hK hP 0 rfl rfl 58 (by decide) (hG _ gw1229) (fun _ h9 => h9) rfl dX9_later_27 ?_
    refine lv_iload_n hx hb dX9_later_30 rfl (lv_at hl 1 rfl) ?_
    refine lv_iadd hx hb dX9_later_31 ?_
    refine wt_c (v := p0) (Int32.zero_add _) ?_
    refine va_put (D := (dC, dI)) (ci := 8) (v := .int p0) (ty := .int) (C := RX9) (T := TX9) (N := 62) hx hb hG inX9 tyX9 tyX9_ok nmX9 hown hK hP hD hS 0 rfl rfl 58 (by decide) (hG _ gw1229) (fun _ h9 => h9) rfl (by decide +kernel) rfl rfl (Nat.le_of_ble_eq_true rfl) dX9_later_32 (fun H12 locs hP hD hS => ?_)
    have hP : va_P (dC, dI) vwCl [(r 0, .inr (8, [.ref (r 1), .ref (r 2), .int 0, .int 0, .int 0, .int (-1), .int 0, .int 0, .int 0, .int 0, .long 0, .ref (r 3), .ref (r 4), .ref (r 5), .ref (r 6), .ref (r 7), .ref (r 8), .ref (r 9), .ref (r 10), .ref (r 11), .ref (r 12), .ref (r 13), .ref (r 14), .ref (r 15), .ref (r 16), .ref (r 17), .ref (r 18), .ref (r 19), .ref (r 20), .ref (r 21), .ref (r 22), .ref (r 23), .ref (r 24), .int 0, .int 0, .int 0, .int 0, .int 0, .int 0, .int 0, .int 0, .int 0, .ref (r 25), .ref (r 26), .ref (r 27), .int 0, .int 0, .ref (r 28), .int 0, .ref (r 29), .ref (r 30), .ref (r 31), .ref (r 32), .ref (r 33), .ref (r 34), .ref (r 35), .ref (r 36), .int 0, .int p0, .int 0, .ref (r 37), .ref (r 38)]))] H12 := hP
    have hD : va_D A [(r 0, .inr (8, [.ref (r 1), .ref (r 2), .int 0, .int 0, .int 0, .int (-1), .int 0, .int 0, .int 0, .int 0, .long 0, .ref (r 3), .ref (r 4), .ref (r 5), .ref (r 6), .ref (r 7), .ref (r 8), .ref (r 9), .ref (r 10), .ref (r 11), .ref (r 12), .ref (r 13), .ref (r 14), .ref (r 15), .ref (r 16), .ref (r 17), .ref (r 18), .ref (r 19), .ref (r 20), .ref (r 21), .ref (r 22), .ref (r 23), .ref (r 24), .int 0, .int 0, .int 0, .int 0, .int 0, .int 0, .int 0, .int 0, .int 0, .ref (r 25), .ref (r 26), .ref (r 27), .int 0, .int 0, .ref (r 28), .int 0, .ref (r 29), .ref (r 30), .ref (r 31), .ref (r 32), .ref (r 33), .ref (r 34), .ref (r 35), .ref (r 36), .int 0, .int p0, .int 0, .ref (r 37), .ref (r 38)]))] := hD
    refine lv_aload_n hx hb dX9_later_35 rfl (lv_at hl 0 rfl) ?_
    refine va_get (D := (dC, dI)) (ci := 8) (v := .int p0) (C := RX9) (T := TX9) (N := 62) hx hb hG inX9 hown hK hP 0 rfl rfl 58 (by decide) (hG _ gw1229) (fun _ h9 => h9) rfl dX9_later_36 ?_
    exact W.iret (v := p0) hx hb hr (fun t ht hW => ⟨⟨p0, 2, rfl, (Or.inr (Or.inr ⟨rfl, hy6, hy7, c_11, rfl⟩)), trivial⟩, hS.F ht⟩) hS.2.2 dX9_later_39
set_option maxHeartbeats 4000000 in
set_option maxRecDepth 100000 in
theorem kX3_sift (l : Launch) (dC : Nat → ClassId) (dI : Nat → Nat → Nat) (a1 a14 a15 a16 a17 a18 a19 a20 a21 a0 : Nat) (p1 : Int32) (sz : Nat) : Met l yX3_sift (.code yX3_sift cX3_sift 5 (some .int) :: GW) { frames := 2, cells := 0, slots := 0, locals := 100 } (va_Pc [.ref a0, .ref a1, .int p1] (pR (dC, dI) [(a1, .inr (3, [.int 1, .int 0, .int 0, .int 0, .ref a14, .ref a15, .ref a16, .int 0, .ref a17, .ref a18, .ref a19, .int 0, .ref a20, .ref a21]))] [] sz)) (va_Qi (fun (r0 : Int32) (_ : Unit) => r0 = 0) (fun _ _ => True) (fun q => sz ≤ q)) 0 0 (fun q => sz ≤ q) := by
  refine Met.ofW (cc := cX3_sift) (maxL := 5) (ret := (some .int)) (by decide) rfl ?_
  intro p e s m args below meth c0 s₁ B hml hv
  obtain ⟨rfl, hsz, hP, hK⟩ := hv
  have hx := B.exec
  have hb := B.bytes
  have hr := B.returns
  have hts := atoms_spec (ws := .code yX3_sift cX3_sift 5 (some .int) :: GW) B.pre
  have hG : ∀ w ∈ GW, w.before _ s = true := fun w h => hts w (List.mem_cons_of_mem _ h)
  have hown : s.vm.findClass RX3 = some m.cls := findClass_of_methodNamed B.named
  have hlocks := B.notSynchronized
  subst hsz
  have hS : va_S (fun q => s.heap.size ≤ q) s.heap s.heap [] := va_S.rf
  have hP : va_P (dC, dI) vwCl [(a1, .inr (3, [.int 1, .int 0, .int 0, .int 0, .ref a14, .ref a15, .ref a16, .int 0, .ref a17, .ref a18, .ref a19, .int 0, .ref a20, .ref a21]))] s.heap := hP
  have hl := lv_entry ([.ref a0, .ref a1, .int p1]) (n := 5) (Nat.le_of_ble_eq_true rfl)
  rw [lg_entry_eq]
  generalize (lg_sl ([.ref a0, .ref a1, .int p1]) ++ List.replicate (5 - (lg_sl ([.ref a0, .ref a1, .int p1])).length) Slot.unset).toArray = ls at hl ⊢
  have hl : lv_has ls 5 [(0, .ref a0), (1, .ref a1), (2, .int p1)] := hl
  refine lv_aload_n hx hb dX3_sift_0 rfl (lv_at hl 1 rfl) ?_
  refine va_get (D := (dC, dI)) (ci := 3) (v := .int 0) (C := RX4) (T := TX4) (N := 14) hx hb hG inX4 hown hK hP 0 rfl rfl 7 (by decide) (hG _ gw259) (fun _ h9 => h9) rfl dX3_sift_1 ?_
  refine lv_if_ne (tgt := 9) hx hb dX3_sift_4 (by decide) (fun c_1 => absurd (by decide) c_1) (fun c_1 => ?_)
  refine lv_iconst (v := 0) hx hb dX3_sift_7 (by decide) ?_
  exact W.iret (v := 0) hx hb hr (fun t ht hW => ⟨⟨0, (), rfl, rfl, trivial⟩, hS.F ht⟩) hS.2.2 dX3_sift_8
set_option maxHeartbeats 4000000 in
set_option maxRecDepth 100000 in
theorem kX8_rows (l : Launch) (dC : Nat → ClassId) (dI : Nat → Nat → Nat) (r : Nat → Nat) (c : Nat → ClassId) (p0 : Int32) (sz : Nat) : Met l yX8_rows (.code yX8_rows cX8_rows 2 (some .int) :: GW) { frames := 4, cells := 0, slots := 0, locals := 164 } (va_Pc [.ref (r 0), .int p0] (pW (dC, dI) [(r 0, .inr (7, [.ref (r 1), .int 0, .ref (r 2), .ref (r 55), .ref (r 57), .ref (r 30), .ref (r 56), .ref (r 36), .ref (r 37), .ref (r 38), .int 0, .ref (r 51), .int 0, .ref (r 52), .ref (r 53), .ref (r 54)])), (r 38, .inr (2, [.int 0, .ref (r 39), .ref (r 40), .ref (r 41), .ref (r 42), .ref (r 43), .ref (r 44), .int 0, .ref (r 45), .ref (r 46), .ref (r 47), .ref (r 48), .ref (r 49), .ref (r 50)])), (r 55, .inr (3, [.int 1, .int 0, .int 0, .int 0, .ref (r 20), .ref (r 21), .ref (r 22), .int 0, .ref (r 23), .ref (r 24), .ref (r 25), .int 0, .ref (r 28), .ref (r 27)]))] [] sz)) (va_Qi (fun (r0 : Int32) (_ : Unit) => r0 = 0) (fun _ _ => True) (va_A [(r 0, .inr (7, [.ref (r 1), .int 0, .ref (r 2), .ref (r 55), .ref (r 57), .ref (r 30), .ref (r 56), .ref (r 36), .ref (r 37), .ref (r 38), .int 0, .ref (r 51), .int 0, .ref (r 52), .ref (r 53), .ref (r 54)])), (r 38, .inr (2, [.int 0, .ref (r 39), .ref (r 40), .ref (r 41), .ref (r 42), .ref (r 43), .ref (r 44), .int 0, .ref (r 45), .ref (r 46), .ref (r 47), .ref (r 48), .ref (r 49), .ref (r 50)])), (r 55, .inr (3, [.int 1, .int 0, .int 0, .int 0, .ref (r 20), .ref (r 21), .ref (r 22), .int 0, .ref (r 23), .ref (r 24), .ref (r 25), .int 0, .ref (r 28), .ref (r 27)]))] sz)) 0 0 (va_A [(r 0, .inr (7, [.ref (r 1), .int 0, .ref (r 2), .ref (r 55), .ref (r 57), .ref (r 30), .ref (r 56), .ref (r 36), .ref (r 37), .ref (r 38), .int 0, .ref (r 51), .int 0, .ref (r 52), .ref (r 53), .ref (r 54)])), (r 38, .inr (2, [.int 0, .ref (r 39), .ref (r 40), .ref (r 41), .ref (r 42), .ref (r 43), .ref (r 44), .int 0, .ref (r 45), .ref (r 46), .ref (r 47), .ref (r 48), .ref (r 49), .ref (r 50)])), (r 55, .inr (3, [.int 1, .int 0, .int 0, .int 0, .ref (r 20), .ref (r 21), .ref (r 22), .int 0, .ref (r 23), .ref (r 24), .ref (r 25), .int 0, .ref (r 28), .ref (r 27)]))] sz) := by
  refine Met.ofW (cc := cX8_rows) (maxL := 2) (ret := (some .int)) (by decide) rfl ?_
  intro p e s m args below meth c0 s₁ B hml hv
  obtain ⟨rfl, hsz, hP, hK, hD0⟩ := hv
  have hx := B.exec
  have hb := B.bytes
  have hr := B.returns
  have hts := atoms_spec (ws := .code yX8_rows cX8_rows 2 (some .int) :: GW) B.pre
  have hG : ∀ w ∈ GW, w.before _ s = true := fun w h => hts w (List.mem_cons_of_mem _ h)
  have hown : s.vm.findClass RX8 = some m.cls := findClass_of_methodNamed B.named
  have hlocks := B.notSynchronized
  subst hsz
  have hD := hD0.self (sz := s.heap.size)
  generalize hAe : va_A [(r 0, .inr (7, [.ref (r 1), .int 0, .ref (r 2), .ref (r 55), .ref (r 57), .ref (r 30), .ref (r 56), .ref (r 36), .ref (r 37), .ref (r 38), .int 0, .ref (r 51), .int 0, .ref (r 52), .ref (r 53), .ref (r 54)])), (r 38, .inr (2, [.int 0, .ref (r 39), .ref (r 40), .ref (r 41), .ref (r 42), .ref (r 43), .ref (r 44), .int 0, .ref (r 45), .ref (r 46), .ref (r 47), .ref (r 48), .ref (r 49), .ref (r 50)])), (r 55, .inr (3, [.int 1, .int 0, .int 0, .int 0, .ref (r 20), .ref (r 21), .ref (r 22), .int 0, .ref (r 23), .ref (r 24), .ref (r 25), .int 0, .ref (r 28), .ref (r 27)]))] s.heap.size = A at hD ⊢
  have hA : ∀ q : Nat, s.heap.size ≤ q → A q := fun q h => by rw [← hAe]; exact Or.inr h
  have hS : va_S A s.heap s.heap [] := va_S.rf
  have hP : va_P (dC, dI) vwCl [(r 0, .inr (7, [.ref (r 1), .int 0, .ref (r 2), .ref (r 55), .ref (r 57), .ref (r 30), .ref (r 56), .ref (r 36), .ref (r 37), .ref (r 38), .int 0, .ref (r 51), .int 0, .ref (r 52), .ref (r 53), .ref (r 54)])), (r 38, .inr (2, [.int 0, .ref (r 39), .ref (r 40), .ref (r 41), .ref (r 42), .ref (r 43), .ref (r 44), .int 0, .ref (r 45), .ref (r 46), .ref (r 47), .ref (r 48), .ref (r 49), .ref (r 50)])), (r 55, .inr (3, [.int 1, .int 0, .int 0, .int 0, .ref (r 20), .ref (r 21), .ref (r 22), .int 0, .ref (r 23), .ref (r 24), .ref (r 25), .int 0, .ref (r 28), .ref (r 27)]))] s.heap := hP
  have hl := lv_entry ([.ref (r 0), .int p0]) (n := 2) (Nat.le_of_ble_eq_true rfl)
  rw [lg_entry_eq]
  generalize (lg_sl ([.ref (r 0), .int p0]) ++ List.replicate (2 - (lg_sl ([.ref (r 0), .int p0])).length) Slot.unset).toArray = ls at hl ⊢
  have hl : lv_has ls 2 [(0, .ref (r 0)), (1, .int p0)] := hl
  refine lv_aload_n hx hb dX8_rows_0 rfl (lv_at hl 0 rfl) ?_
  refine va_get (D := (dC, dI)) (ci := 7) (v := .ref (r 38)) (C := RX8) (T := TX8) (N := 16) hx hb hG inX8 hown hK hP 0 rfl rfl 9 (by decide) (hG _ gw477) (fun _ h9 => h9) rfl dX8_rows_1 ?_
  refine lv_aload_n hx hb dX8_rows_4 rfl (lv_at hl 0 rfl) ?_
  refine va_get (D := (dC, dI)) (ci := 7) (v := .ref (r 55)) (C := RX8) (T := TX8) (N := 16) hx hb hG inX8 hown hK hP 0 rfl rfl 3 (by decide) (hG _ gw471) (fun _ h9 => h9) rfl dX8_rows_5 ?_
  refine lv_iload_n hx hb dX8_rows_8 rfl (lv_at hl 1 rfl) ?_
  have hPc := hP.sub (ws' := [(r 55, .inr (3, [.int 1, .int 0, .int 0, .int 0, .ref (r 20), .ref (r 21), .ref (r 22), .int 0, .ref (r 23), .ref (r 24), .ref (r 25), .int 0, .ref (r 28), .ref (r 27)]))]) [2] rfl
  have hKc := hK.sub (tys' := []) [] rfl
  refine va_calli (va_runV (As := [.ref (r 55), .int p0]) (rest := []) ⟨hx, hb, hml, hown, hG⟩ (kX3_sift l dC dI (r 55) (r 20) (r 21) (r 22) (r 23) (r 24) (r 25) (r 28) (r 27) (r 38) p0 s.heap.size ) (cwV 2 hG (goodV gw1078 gw1079 gw1080 gw136 gw1081) rfl rfl rfl hd_X3_sift ⟨(Nat.le_of_ble_eq_true rfl), (Nat.le_of_ble_eq_true rfl)⟩) ⟨fbR, va_recv hK hP (ci := 2) (q0 := 1) rfl rfl, pR_in hPc hKc⟩ rfl rfl hl.1 rfl (lv_room (Nat.le_of_ble_eq_true rfl)) dX8_rows_9 ⟨(Nat.le_of_ble_eq_true rfl), (Nat.le_of_ble_eq_true rfl)⟩) hS (fun q hq h => absurd hq (Nat.not_lt.mpr h)) (fun q h => hA q (Nat.le_trans hS.1 h)) (fun r_2 u t H1 locs ht hvm hw hB hz1 hk1 hS => ?_)
  have hP := wk hP hk1
  refine wt_c (v := 0) hw ?_
  exact W.iret (v := 0) hx hb hr (fun t ht hW => ⟨⟨0, (), rfl, rfl, trivial⟩, hS.F ht⟩) hS.2.2 dX8_rows_12
set_option maxHeartbeats 4000000 in
set_option maxRecDepth 100000 in
theorem kX9_layRows (l : Launch) (dC : Nat → ClassId) (dI : Nat → Nat → Nat) (r : Nat → Nat) (c : Nat → ClassId) (f5 : Nat → Int32) (p0 : Int32) (sz : Nat) (hf5_0 : f5 0 = 0) : Met l yX9_layRows (.code yX9_layRows cX9_layRows 4 none :: GW) { frames := 4, cells := 0, slots := 0, locals := 160 } (va_Pc [.ref (r 0), .int p0] (pW (dC, dI) [(r 0, .inr (8, [.ref (r 1), .ref (r 2), .int 0, .int 0, .int 0, .int (-1), .int 0, .int 0, .int 0, .int 0, .long 0, .ref (r 3), .ref (r 4), .ref (r 5), .ref (r 6), .ref (r 7), .ref (r 8), .ref (r 9), .ref (r 10), .ref (r 11), .ref (r 12), .ref (r 13), .ref (r 14), .ref (r 15), .ref (r 16), .ref (r 17), .ref (r 18), .ref (r 19), .ref (r 20), .ref (r 21), .ref (r 22), .ref (r 23), .ref (r 24), .int 0, .int 0, .int 0, .int 0, .int 0, .int 0, .int 0, .int 0, .int 0, .ref (r 25), .ref (r 26), .ref (r 27), .int 0, .int 0, .ref (r 28), .int 0, .ref (r 29), .ref (r 30), .ref (r 31), .ref (r 32), .ref (r 33), .ref (r 34), .ref (r 35), .ref (r 36), .int 0, .int 0, .int 0, .ref (r 37), .ref (r 38)])), (r 5, .inl ((c 5), 2, .inl f5)), (r 35, .inl ((c 35), 21, .inl (fun _ => 0)))] [((c 5), .int), ((c 35), .int)] sz)) (va_Qv (fun _ : Unit => True) (fun (_ : Unit) (t : State) => ∃ (F0 : Nat → Int32), va_P (dC, dI) vwCl [(r 0, .inr (8, [.ref (r 1), .ref (r 2), .int 0, .int 0, .int 0, .int (-1), .int 0, .int 0, .int 0, .int 0, .long 0, .ref (r 3), .ref (r 4), .ref (r 5), .ref (r 6), .ref (r 7), .ref (r 8), .ref (r 9), .ref (r 10), .ref (r 11), .ref (r 12), .ref (r 13), .ref (r 14), .ref (r 15), .ref (r 16), .ref (r 17), .ref (r 18), .ref (r 19), .ref (r 20), .ref (r 21), .ref (r 22), .ref (r 23), .ref (r 24), .int 0, .int 0, .int 0, .int 0, .int 0, .int 0, .int 0, .int 0, .int 0, .ref (r 25), .ref (r 26), .ref (r 27), .int 0, .int 0, .ref (r 28), .int 0, .ref (r 29), .ref (r 30), .ref (r 31), .ref (r 32), .ref (r 33), .ref (r 34), .ref (r 35), .ref (r 36), .int 0, .int 0, .int 0, .ref (r 37), .ref (r 38)])), (r 5, .inl ((c 5), 2, .inl f5)), (r 35, .inl ((c 35), 21, .inl F0))] t.heap ∧ va_D (va_A [(r 0, .inr (8, [.ref (r 1), .ref (r 2), .int 0, .int 0, .int 0, .int (-1), .int 0, .int 0, .int 0, .int 0, .long 0, .ref (r 3), .ref (r 4), .ref (r 5), .ref (r 6), .ref (r 7), .ref (r 8), .ref (r 9), .ref (r 10), .ref (r 11), .ref (r 12), .ref (r 13), .ref (r 14), .ref (r 15), .ref (r 16), .ref (r 17), .ref (r 18), .ref (r 19), .ref (r 20), .ref (r 21), .ref (r 22), .ref (r 23), .ref (r 24), .int 0, .int 0, .int 0, .int 0, .int 0, .int 0, .int 0, .int 0, .int 0, .ref (r 25), .ref (r 26), .ref (r 27), .int 0, .int 0, .ref (r 28), .int 0, .ref (r 29), .ref (r 30), .ref (r 31), .ref (r 32), .ref (r 33), .ref (r 34), .ref (r 35), .ref (r 36), .int 0, .int 0, .int 0, .ref (r 37), .ref (r 38)])), (r 5, .inl ((c 5), 2, .inl f5)), (r 35, .inl ((c 35), 21, .inl (fun _ => 0)))] sz) [(r 0, .inr (8, [.ref (r 1), .ref (r 2), .int 0, .int 0, .int 0, .int (-1), .int 0, .int 0, .int 0, .int 0, .long 0, .ref (r 3), .ref (r 4), .ref (r 5), .ref (r 6), .ref (r 7), .ref (r 8), .ref (r 9), .ref (r 10), .ref (r 11), .ref (r 12), .ref (r 13), .ref (r 14), .ref (r 15), .ref (r 16), .ref (r 17), .ref (r 18), .ref (r 19), .ref (r 20), .ref (r 21), .ref (r 22), .ref (r 23), .ref (r 24), .int 0, .int 0, .int 0, .int 0, .int 0, .int 0, .int 0, .int 0, .int 0, .ref (r 25), .ref (r 26), .ref (r 27), .int 0, .int 0, .ref (r 28), .int 0, .ref (r 29), .ref (r 30), .ref (r 31), .ref (r 32), .ref (r 33), .ref (r 34), .ref (r 35), .ref (r 36), .int 0, .int 0, .int 0, .ref (r 37), .ref (r 38)])), (r 5, .inl ((c 5), 2, .inl f5)), (r 35, .inl ((c 35), 21, .inl F0))]) (va_A [(r 0, .inr (8, [.ref (r 1), .ref (r 2), .int 0, .int 0, .int 0, .int (-1), .int 0, .int 0, .int 0, .int 0, .long 0, .ref (r 3), .ref (r 4), .ref (r 5), .ref (r 6), .ref (r 7), .ref (r 8), .ref (r 9), .ref (r 10), .ref (r 11), .ref (r 12), .ref (r 13), .ref (r 14), .ref (r 15), .ref (r 16), .ref (r 17), .ref (r 18), .ref (r 19), .ref (r 20), .ref (r 21), .ref (r 22), .ref (r 23), .ref (r 24), .int 0, .int 0, .int 0, .int 0, .int 0, .int 0, .int 0, .int 0, .int 0, .ref (r 25), .ref (r 26), .ref (r 27), .int 0, .int 0, .ref (r 28), .int 0, .ref (r 29), .ref (r 30), .ref (r 31), .ref (r 32), .ref (r 33), .ref (r 34), .ref (r 35), .ref (r 36), .int 0, .int 0, .int 0, .ref (r 37), .ref (r 38)])), (r 5, .inl ((c 5), 2, .inl f5)), (r 35, .inl ((c 35), 21, .inl (fun _ => 0)))] sz)) 0 0 (va_A [(r 0, .inr (8, [.ref (r 1), .ref (r 2), .int 0, .int 0, .int 0, .int (-1), .int 0, .int 0, .int 0, .int 0, .long 0, .ref (r 3), .ref (r 4), .ref (r 5), .ref (r 6), .ref (r 7), .ref (r 8), .ref (r 9), .ref (r 10), .ref (r 11), .ref (r 12), .ref (r 13), .ref (r 14), .ref (r 15), .ref (r 16), .ref (r 17), .ref (r 18), .ref (r 19), .ref (r 20), .ref (r 21), .ref (r 22), .ref (r 23), .ref (r 24), .int 0, .int 0, .int 0, .int 0, .int 0, .int 0, .int 0, .int 0, .int 0, .ref (r 25), .ref (r 26), .ref (r 27), .int 0, .int 0, .ref (r 28), .int 0, .ref (r 29), .ref (r 30), .ref (r 31), .ref (r 32), .ref (r 33), .ref (r 34), .ref (r 35), .ref (r 36), .int 0, .int 0, .int 0, .ref (r 37), .ref (r 38)])), (r 5, .inl ((c 5), 2, .inl f5)), (r 35, .inl ((c 35), 21, .inl (fun _ => 0)))] sz) := by
  refine Met.ofW (cc := cX9_layRows) (maxL := 4) (ret := none) (by decide) rfl ?_
  intro p e s m args below meth c0 s₁ B hml hv
  obtain ⟨rfl, hsz, hP, hK, hD0⟩ := hv
  have hx := B.exec
  have hb := B.bytes
  have hr := B.returns
  have hts := atoms_spec (ws := .code yX9_layRows cX9_layRows 4 none :: GW) B.pre
  have hG : ∀ w ∈ GW, w.before _ s = true := fun w h => hts w (List.mem_cons_of_mem _ h)
  have hown : s.vm.findClass RX9 = some m.cls := findClass_of_methodNamed B.named
  have hlocks := B.notSynchronized
  subst hsz
  have hD := hD0.self (sz := s.heap.size)
  generalize hAe : va_A [(r 0, .inr (8, [.ref (r 1), .ref (r 2), .int 0, .int 0, .int 0, .int (-1), .int 0, .int 0, .int 0, .int 0, .long 0, .ref (r 3), .ref (r 4), .ref (r 5), .ref (r 6), .ref (r 7), .ref (r 8), .ref (r 9), .ref (r 10), .ref (r 11), .ref (r 12), .ref (r 13), .ref (r 14), .ref (r 15), .ref (r 16), .ref (r 17), .ref (r 18), .ref (r 19), .ref (r 20), .ref (r 21), .ref (r 22), .ref (r 23), .ref (r 24), .int 0, .int 0, .int 0, .int 0, .int 0, .int 0, .int 0, .int 0, .int 0, .ref (r 25), .ref (r 26), .ref (r 27), .int 0, .int 0, .ref (r 28), .int 0, .ref (r 29), .ref (r 30), .ref (r 31), .ref (r 32), .ref (r 33), .ref (r 34), .ref (r 35), .ref (r 36), .int 0, .int 0, .int 0, .ref (r 37), .ref (r 38)])), (r 5, .inl ((c 5), 2, .inl f5)), (r 35, .inl ((c 35), 21, .inl (fun _ => 0)))] s.heap.size = A at hD ⊢
  have hA : ∀ q : Nat, s.heap.size ≤ q → A q := fun q h => by rw [← hAe]; exact Or.inr h
  have hS : va_S A s.heap s.heap [] := va_S.rf
  have hP : va_P (dC, dI) vwCl [(r 0, .inr (8, [.ref (r 1), .ref (r 2), .int 0, .int 0, .int 0, .int (-1), .int 0, .int 0, .int 0, .int 0, .long 0, .ref (r 3), .ref (r 4), .ref (r 5), .ref (r 6), .ref (r 7), .ref (r 8), .ref (r 9), .ref (r 10), .ref (r 11), .ref (r 12), .ref (r 13), .ref (r 14), .ref (r 15), .ref (r 16), .ref (r 17), .ref (r 18), .ref (r 19), .ref (r 20), .ref (r 21), .ref (r 22), .ref (r 23), .ref (r 24), .int 0, .int 0, .int 0, .int 0, .int 0, .int 0, .int 0, .int 0, .int 0, .ref (r 25), .ref (r 26), .ref (r 27), .int 0, .int 0, .ref (r 28), .int 0, .ref (r 29), .ref (r 30), .ref (r 31), .ref (r 32), .ref (r 33), .ref (r 34), .ref (r 35), .ref (r 36), .int 0, .int 0, .int 0, .ref (r 37), .ref (r 38)])), (r 5, .inl ((c 5), 2, .inl f5)), (r 35, .inl ((c 35), 21, .inl (fun _ => 0)))] s.heap := hP
  have hl := lv_entry ([.ref (r 0), .int p0]) (n := 4) (Nat.le_of_ble_eq_true rfl)
  rw [lg_entry_eq]
  generalize (lg_sl ([.ref (r 0), .int p0]) ++ List.replicate (4 - (lg_sl ([.ref (r 0), .int p0])).length) Slot.unset).toArray = ls at hl ⊢
  have hl : lv_has ls 4 [(0, .ref (r 0)), (1, .int p0)] := hl
  refine lv_aload_n hx hb dX9_layRows_0 rfl (lv_at hl 0 rfl) ?_
  refine lv_iconst (v := 0) hx hb dX9_layRows_1 (by decide) ?_
  refine va_put (D := (dC, dI)) (ci := 8) (v := .int 0) (ty := .int) (C := RX9) (T := TX9) (N := 62) hx hb hG inX9 tyX9 tyX9_ok nmX9 hown hK hP hD hS 0 rfl rfl 59 (by decide) (hG _ gw1230) (fun _ h9 => h9) rfl (by decide +kernel) rfl rfl (Nat.le_of_ble_eq_true rfl) dX9_layRows_2 (fun H1 locs hP hD hS => ?_)
  have hP : va_P (dC, dI) vwCl [(r 0, .inr (8, [.ref (r 1), .ref (r 2), .int 0, .int 0, .int 0, .int (-1), .int 0, .int 0, .int 0, .int 0, .long 0, .ref (r 3), .ref (r 4), .ref (r 5), .ref (r 6), .ref (r 7), .ref (r 8), .ref (r 9), .ref (r 10), .ref (r 11), .ref (r 12), .ref (r 13), .ref (r 14), .ref (r 15), .ref (r 16), .ref (r 17), .ref (r 18), .ref (r 19), .ref (r 20), .ref (r 21), .ref (r 22), .ref (r 23), .ref (r 24), .int 0, .int 0, .int 0, .int 0, .int 0, .int 0, .int 0, .int 0, .int 0, .ref (r 25), .ref (r 26), .ref (r 27), .int 0, .int 0, .ref (r 28), .int 0, .ref (r 29), .ref (r 30), .ref (r 31), .ref (r 32), .ref (r 33), .ref (r 34), .ref (r 35), .ref (r 36), .int 0, .int 0, .int 0, .ref (r 37), .ref (r 38)])), (r 5, .inl ((c 5), 2, .inl f5)), (r 35, .inl ((c 35), 21, .inl (fun _ => 0)))] H1 := hP
  have hD : va_D A [(r 0, .inr (8, [.ref (r 1), .ref (r 2), .int 0, .int 0, .int 0, .int (-1), .int 0, .int 0, .int 0, .int 0, .long 0, .ref (r 3), .ref (r 4), .ref (r 5), .ref (r 6), .ref (r 7), .ref (r 8), .ref (r 9), .ref (r 10), .ref (r 11), .ref (r 12), .ref (r 13), .ref (r 14), .ref (r 15), .ref (r 16), .ref (r 17), .ref (r 18), .ref (r 19), .ref (r 20), .ref (r 21), .ref (r 22), .ref (r 23), .ref (r 24), .int 0, .int 0, .int 0, .int 0, .int 0, .int 0, .int 0, .int 0, .int 0, .ref (r 25), .ref (r 26), .ref (r 27), .int 0, .int 0, .ref (r 28), .int 0, .ref (r 29), .ref (r 30), .ref (r 31), .ref (r 32), .ref (r 33), .ref (r 34), .ref (r 35), .ref (r 36), .int 0, .int 0, .int 0, .ref (r 37), .ref (r 38)])), (r 5, .inl ((c 5), 2, .inl f5)), (r 35, .inl ((c 35), 21, .inl (fun _ => 0)))] := hD
  refine lv_iconst (v := 0) hx hb dX9_layRows_5 (by decide) ?_
  refine lv_istore_n (lv' := [(2, .int 0), (0, .ref (r 0)), (1, .int p0)]) hx hb dX9_layRows_6 rfl hl (by decide) rfl (fun ls hl => ?_)
  refine lv_iload_n hx hb dX9_layRows_7 rfl (lv_at hl 0 rfl) ?_
  refine lv_bipush (v := 21) hx hb dX9_layRows_8 (by decide) ?_
  refine lv_icmp_ge (tgt := 26) hx hb dX9_layRows_10 (by decide) (fun c_2 => absurd c_2 (by decide)) (fun c_2 => ?_)
  refine lv_aload_n hx hb dX9_layRows_13 rfl (lv_at hl 1 rfl) ?_
  refine va_get (D := (dC, dI)) (ci := 8) (v := .ref (r 35)) (C := RX9) (T := TX9) (N := 62) hx hb hG inX9 hown hK hP 0 rfl rfl 55 (by decide) (hG _ gw1226) (fun _ h9 => h9) rfl dX9_layRows_14 ?_
  refine lv_iload_n hx hb dX9_layRows_17 rfl (lv_at hl 0 rfl) ?_
  refine lv_iconst (v := 0) hx hb dX9_layRows_18 (by decide) ?_
  refine va_iast hx hb hK hP hD hS 2 1 rfl rfl (vin (by decide)) dX9_layRows_19 (fun H3 locs hP hD hS => ?_)
  obtain ⟨zf4, ezf4⟩ : ∃ z : Nat → Int32, z = upd (fun _ => 0) (0 : Int32).toNatClampNeg 0 := ⟨_, rfl⟩
  have hP : va_P (dC, dI) vwCl [(r 0, .inr (8, [.ref (r 1), .ref (r 2), .int 0, .int 0, .int 0, .int (-1), .int 0, .int 0, .int 0, .int 0, .long 0, .ref (r 3), .ref (r 4), .ref (r 5), .ref (r 6), .ref (r 7), .ref (r 8), .ref (r 9), .ref (r 10), .ref (r 11), .ref (r 12), .ref (r 13), .ref (r 14), .ref (r 15), .ref (r 16), .ref (r 17), .ref (r 18), .ref (r 19), .ref (r 20), .ref (r 21), .ref (r 22), .ref (r 23), .ref (r 24), .int 0, .int 0, .int 0, .int 0, .int 0, .int 0, .int 0, .int 0, .int 0, .ref (r 25), .ref (r 26), .ref (r 27), .int 0, .int 0, .ref (r 28), .int 0, .ref (r 29), .ref (r 30), .ref (r 31), .ref (r 32), .ref (r 33), .ref (r 34), .ref (r 35), .ref (r 36), .int 0, .int 0, .int 0, .ref (r 37), .ref (r 38)])), (r 5, .inl ((c 5), 2, .inl f5)), (r 35, .inl ((c 35), 21, .inl zf4))] H3 := by rw [ezf4]; exact hP
  have hD : va_D A [(r 0, .inr (8, [.ref (r 1), .ref (r 2), .int 0, .int 0, .int 0, .int (-1), .int 0, .int 0, .int 0, .int 0, .long 0, .ref (r 3), .ref (r 4), .ref (r 5), .ref (r 6), .ref (r 7), .ref (r 8), .ref (r 9), .ref (r 10), .ref (r 11), .ref (r 12), .ref (r 13), .ref (r 14), .ref (r 15), .ref (r 16), .ref (r 17), .ref (r 18), .ref (r 19), .ref (r 20), .ref (r 21), .ref (r 22), .ref (r 23), .ref (r 24), .int 0, .int 0, .int 0, .int 0, .int 0, .int 0, .int 0, .int 0, .int 0, .ref (r 25), .ref (r 26), .ref (r 27), .int 0, .int 0, .ref (r 28), .int 0, .ref (r 29), .ref (r 30), .ref (r 31), .ref (r 32), .ref (r 33), .ref (r 34), .ref (r 35), .ref (r 36), .int 0, .int 0, .int 0, .ref (r 37), .ref (r 38)])), (r 5, .inl ((c 5), 2, .inl f5)), (r 35, .inl ((c 35), 21, .inl zf4))] := by rw [ezf4]; exact hD
  refine lv_iinc (v := 1) (lv' := [(2, .int 1), (0, .ref (r 0)), (1, .int p0)]) hx hb dX9_layRows_20 hl (k := 0) rfl (by decide) (by decide) rfl (fun ls hl => ?_)
  refine lv_goto (tgt := 7) hx hb dX9_layRows_23 (by decide) ?_
  refine lv_iload_n hx hb dX9_layRows_7 rfl (lv_at hl 0 rfl) ?_
  refine lv_bipush (v := 21) hx hb dX9_layRows_8 (by decide) ?_
  refine lv_icmp_ge (tgt := 26) hx hb dX9_layRows_10 (by decide) (fun c_5 => absurd c_5 (by decide)) (fun c_5 => ?_)
  refine lv_aload_n hx hb dX9_layRows_13 rfl (lv_at hl 1 rfl) ?_
  refine va_get (D := (dC, dI)) (ci := 8) (v := .ref (r 35)) (C := RX9) (T := TX9) (N := 62) hx hb hG inX9 hown hK hP 0 rfl rfl 55 (by decide) (hG _ gw1226) (fun _ h9 => h9) rfl dX9_layRows_14 ?_
  refine lv_iload_n hx hb dX9_layRows_17 rfl (lv_at hl 0 rfl) ?_
  refine lv_iconst (v := 0) hx hb dX9_layRows_18 (by decide) ?_
  refine va_iast hx hb hK hP hD hS 2 1 rfl rfl (vin (by decide)) dX9_layRows_19 (fun H6 locs hP hD hS => ?_)
  obtain ⟨zf7, ezf7⟩ : ∃ z : Nat → Int32, z = upd zf4 (1 : Int32).toNatClampNeg 0 := ⟨_, rfl⟩
  have hP : va_P (dC, dI) vwCl [(r 0, .inr (8, [.ref (r 1), .ref (r 2), .int 0, .int 0, .int 0, .int (-1), .int 0, .int 0, .int 0, .int 0, .long 0, .ref (r 3), .ref (r 4), .ref (r 5), .ref (r 6), .ref (r 7), .ref (r 8), .ref (r 9), .ref (r 10), .ref (r 11), .ref (r 12), .ref (r 13), .ref (r 14), .ref (r 15), .ref (r 16), .ref (r 17), .ref (r 18), .ref (r 19), .ref (r 20), .ref (r 21), .ref (r 22), .ref (r 23), .ref (r 24), .int 0, .int 0, .int 0, .int 0, .int 0, .int 0, .int 0, .int 0, .int 0, .ref (r 25), .ref (r 26), .ref (r 27), .int 0, .int 0, .ref (r 28), .int 0, .ref (r 29), .ref (r 30), .ref (r 31), .ref (r 32), .ref (r 33), .ref (r 34), .ref (r 35), .ref (r 36), .int 0, .int 0, .int 0, .ref (r 37), .ref (r 38)])), (r 5, .inl ((c 5), 2, .inl f5)), (r 35, .inl ((c 35), 21, .inl zf7))] H6 := by rw [ezf7]; exact hP
  have hD : va_D A [(r 0, .inr (8, [.ref (r 1), .ref (r 2), .int 0, .int 0, .int 0, .int (-1), .int 0, .int 0, .int 0, .int 0, .long 0, .ref (r 3), .ref (r 4), .ref (r 5), .ref (r 6), .ref (r 7), .ref (r 8), .ref (r 9), .ref (r 10), .ref (r 11), .ref (r 12), .ref (r 13), .ref (r 14), .ref (r 15), .ref (r 16), .ref (r 17), .ref (r 18), .ref (r 19), .ref (r 20), .ref (r 21), .ref (r 22), .ref (r 23), .ref (r 24), .int 0, .int 0, .int 0, .int 0, .int 0, .int 0, .int 0, .int 0, .int 0, .ref (r 25), .ref (r 26), .ref (r 27), .int 0, .int 0, .ref (r 28), .int 0, .ref (r 29), .ref (r 30), .ref (r 31), .ref (r 32), .ref (r 33), .ref (r 34), .ref (r 35), .ref (r 36), .int 0, .int 0, .int 0, .ref (r 37), .ref (r 38)])), (r 5, .inl ((c 5), 2, .inl f5)), (r 35, .inl ((c 35), 21, .inl zf7))] := by rw [ezf7]; exact hD
  refine lv_iinc (v := 2) (lv' := [(2, .int 2), (0, .ref (r 0)), (1, .int p0)]) hx hb dX9_layRows_20 hl (k := 0) rfl (by decide) (by decide) rfl (fun ls hl => ?_)
  refine lv_goto (tgt := 7) hx hb dX9_layRows_23 (by decide) ?_
  refine lv_iload_n hx hb dX9_layRows_7 rfl (lv_at hl 0 rfl) ?_
  refine lv_bipush (v := 21) hx hb dX9_layRows_8 (by decide) ?_
  refine lv_icmp_ge (tgt := 26) hx hb dX9_layRows_10 (by decide) (fun c_8 => absurd c_8 (by decide)) (fun c_8 => ?_)
  refine lv_aload_n hx hb dX9_layRows_13 rfl (lv_at hl 1 rfl) ?_
  refine va_get (D := (dC, dI)) (ci := 8) (v := .ref (r 35)) (C := RX9) (T := TX9) (N := 62) hx hb hG inX9 hown hK hP 0 rfl rfl 55 (by decide) (hG _ gw1226) (fun _ h9 => h9) rfl dX9_layRows_14 ?_
  refine lv_iload_n hx hb dX9_layRows_17 rfl (lv_at hl 0 rfl) ?_
  refine lv_iconst (v := 0) hx hb dX9_layRows_18 (by decide) ?_
  refine va_iast hx hb hK hP hD hS 2 1 rfl rfl (vin (by decide)) dX9_layRows_19 (fun H9 locs hP hD hS => ?_)
  obtain ⟨zf10, ezf10⟩ : ∃ z : Nat → Int32, z = upd zf7 (2 : Int32).toNatClampNeg 0 := ⟨_, rfl⟩
  have hP : va_P (dC, dI) vwCl [(r 0, .inr (8, [.ref (r 1), .ref (r 2), .int 0, .int 0, .int 0, .int (-1), .int 0, .int 0, .int 0, .int 0, .long 0, .ref (r 3), .ref (r 4), .ref (r 5), .ref (r 6), .ref (r 7), .ref (r 8), .ref (r 9), .ref (r 10), .ref (r 11), .ref (r 12), .ref (r 13), .ref (r 14), .ref (r 15), .ref (r 16), .ref (r 17), .ref (r 18), .ref (r 19), .ref (r 20), .ref (r 21), .ref (r 22), .ref (r 23), .ref (r 24), .int 0, .int 0, .int 0, .int 0, .int 0, .int 0, .int 0, .int 0, .int 0, .ref (r 25), .ref (r 26), .ref (r 27), .int 0, .int 0, .ref (r 28), .int 0, .ref (r 29), .ref (r 30), .ref (r 31), .ref (r 32), .ref (r 33), .ref (r 34), .ref (r 35), .ref (r 36), .int 0, .int 0, .int 0, .ref (r 37), .ref (r 38)])), (r 5, .inl ((c 5), 2, .inl f5)), (r 35, .inl ((c 35), 21, .inl zf10))] H9 := by rw [ezf10]; exact hP
  have hD : va_D A [(r 0, .inr (8, [.ref (r 1), .ref (r 2), .int 0, .int 0, .int 0, .int (-1), .int 0, .int 0, .int 0, .int 0, .long 0, .ref (r 3), .ref (r 4), .ref (r 5), .ref (r 6), .ref (r 7), .ref (r 8), .ref (r 9), .ref (r 10), .ref (r 11), .ref (r 12), .ref (r 13), .ref (r 14), .ref (r 15), .ref (r 16), .ref (r 17), .ref (r 18), .ref (r 19), .ref (r 20), .ref (r 21), .ref (r 22), .ref (r 23), .ref (r 24), .int 0, .int 0, .int 0, .int 0, .int 0, .int 0, .int 0, .int 0, .int 0, .ref (r 25), .ref (r 26), .ref (r 27), .int 0, .int 0, .ref (r 28), .int 0, .ref (r 29), .ref (r 30), .ref (r 31), .ref (r 32), .ref (r 33), .ref (r 34), .ref (r 35), .ref (r 36), .int 0, .int 0, .int 0, .ref (r 37), .ref (r 38)])), (r 5, .inl ((c 5), 2, .inl f5)), (r 35, .inl ((c 35), 21, .inl zf10))] := by rw [ezf10]; exact hD
  refine lv_iinc (v := 3) (lv' := [(2, .int 3), (0, .ref (r 0)), (1, .int p0)]) hx hb dX9_layRows_20 hl (k := 0) rfl (by decide) (by decide) rfl (fun ls hl => ?_)
  refine lv_goto (tgt := 7) hx hb dX9_layRows_23 (by decide) ?_
  refine lv_iload_n hx hb dX9_layRows_7 rfl (lv_at hl 0 rfl) ?_
  refine lv_bipush (v := 21) hx hb dX9_layRows_8 (by decide) ?_
  refine lv_icmp_ge (tgt := 26) hx hb dX9_layRows_10 (by decide) (fun c_11 => absurd c_11 (by decide)) (fun c_11 => ?_)
  refine lv_aload_n hx hb dX9_layRows_13 rfl (lv_at hl 1 rfl) ?_
  refine va_get (D := (dC, dI)) (ci := 8) (v := .ref (r 35)) (C := RX9) (T := TX9) (N := 62) hx hb hG inX9 hown hK hP 0 rfl rfl 55 (by decide) (hG _ gw1226) (fun _ h9 => h9) rfl dX9_layRows_14 ?_
  refine lv_iload_n hx hb dX9_layRows_17 rfl (lv_at hl 0 rfl) ?_
  refine lv_iconst (v := 0) hx hb dX9_layRows_18 (by decide) ?_
  refine va_iast hx hb hK hP hD hS 2 1 rfl rfl (vin (by decide)) dX9_layRows_19 (fun H12 locs hP hD hS => ?_)
  obtain ⟨zf13, ezf13⟩ : ∃ z : Nat → Int32, z = upd zf10 (3 : Int32).toNatClampNeg 0 := ⟨_, rfl⟩
  have hP : va_P (dC, dI) vwCl [(r 0, .inr (8, [.ref (r 1), .ref (r 2), .int 0, .int 0, .int 0, .int (-1), .int 0, .int 0, .int 0, .int 0, .long 0, .ref (r 3), .ref (r 4), .ref (r 5), .ref (r 6), .ref (r 7), .ref (r 8), .ref (r 9), .ref (r 10), .ref (r 11), .ref (r 12), .ref (r 13), .ref (r 14), .ref (r 15), .ref (r 16), .ref (r 17), .ref (r 18), .ref (r 19), .ref (r 20), .ref (r 21), .ref (r 22), .ref (r 23), .ref (r 24), .int 0, .int 0, .int 0, .int 0, .int 0, .int 0, .int 0, .int 0, .int 0, .ref (r 25), .ref (r 26), .ref (r 27), .int 0, .int 0, .ref (r 28), .int 0, .ref (r 29), .ref (r 30), .ref (r 31), .ref (r 32), .ref (r 33), .ref (r 34), .ref (r 35), .ref (r 36), .int 0, .int 0, .int 0, .ref (r 37), .ref (r 38)])), (r 5, .inl ((c 5), 2, .inl f5)), (r 35, .inl ((c 35), 21, .inl zf13))] H12 := by rw [ezf13]; exact hP
  have hD : va_D A [(r 0, .inr (8, [.ref (r 1), .ref (r 2), .int 0, .int 0, .int 0, .int (-1), .int 0, .int 0, .int 0, .int 0, .long 0, .ref (r 3), .ref (r 4), .ref (r 5), .ref (r 6), .ref (r 7), .ref (r 8), .ref (r 9), .ref (r 10), .ref (r 11), .ref (r 12), .ref (r 13), .ref (r 14), .ref (r 15), .ref (r 16), .ref (r 17), .ref (r 18), .ref (r 19), .ref (r 20), .ref (r 21), .ref (r 22), .ref (r 23), .ref (r 24), .int 0, .int 0, .int 0, .int 0, .int 0, .int 0, .int 0, .int 0, .int 0, .ref (r 25), .ref (r 26), .ref (r 27), .int 0, .int 0, .ref (r 28), .int 0, .ref (r 29), .ref (r 30), .ref (r 31), .ref (r 32), .ref (r 33), .ref (r 34), .ref (r 35), .ref (r 36), .int 0, .int 0, .int 0, .ref (r 37), .ref (r 38)])), (r 5, .inl ((c 5), 2, .inl f5)), (r 35, .inl ((c 35), 21, .inl zf13))] := by rw [ezf13]; exact hD
  refine lv_iinc (v := 4) (lv' := [(2, .int 4), (0, .ref (r 0)), (1, .int p0)]) hx hb dX9_layRows_20 hl (k := 0) rfl (by decide) (by decide) rfl (fun ls hl => ?_)
  refine lv_goto (tgt := 7) hx hb dX9_layRows_23 (by decide) ?_
  refine lv_iload_n hx hb dX9_layRows_7 rfl (lv_at hl 0 rfl) ?_
  refine lv_bipush (v := 21) hx hb dX9_layRows_8 (by decide) ?_
  refine lv_icmp_ge (tgt := 26) hx hb dX9_layRows_10 (by decide) (fun c_14 => absurd c_14 (by decide)) (fun c_14 => ?_)
  refine lv_aload_n hx hb dX9_layRows_13 rfl (lv_at hl 1 rfl) ?_
  refine va_get (D := (dC, dI)) (ci := 8) (v := .ref (r 35)) (C := RX9) (T := TX9) (N := 62) hx hb hG inX9 hown hK hP 0 rfl rfl 55 (by decide) (hG _ gw1226) (fun _ h9 => h9) rfl dX9_layRows_14 ?_
  refine lv_iload_n hx hb dX9_layRows_17 rfl (lv_at hl 0 rfl) ?_
  refine lv_iconst (v := 0) hx hb dX9_layRows_18 (by decide) ?_
  refine va_iast hx hb hK hP hD hS 2 1 rfl rfl (vin (by decide)) dX9_layRows_19 (fun H15 locs hP hD hS => ?_)
  obtain ⟨zf16, ezf16⟩ : ∃ z : Nat → Int32, z = upd zf13 (4 : Int32).toNatClampNeg 0 := ⟨_, rfl⟩
  have hP : va_P (dC, dI) vwCl [(r 0, .inr (8, [.ref (r 1), .ref (r 2), .int 0, .int 0, .int 0, .int (-1), .int 0, .int 0, .int 0, .int 0, .long 0, .ref (r 3), .ref (r 4), .ref (r 5), .ref (r 6), .ref (r 7), .ref (r 8), .ref (r 9), .ref (r 10), .ref (r 11), .ref (r 12), .ref (r 13), .ref (r 14), .ref (r 15), .ref (r 16), .ref (r 17), .ref (r 18), .ref (r 19), .ref (r 20), .ref (r 21), .ref (r 22), .ref (r 23), .ref (r 24), .int 0, .int 0, .int 0, .int 0, .int 0, .int 0, .int 0, .int 0, .int 0, .ref (r 25), .ref (r 26), .ref (r 27), .int 0, .int 0, .ref (r 28), .int 0, .ref (r 29), .ref (r 30), .ref (r 31), .ref (r 32), .ref (r 33), .ref (r 34), .ref (r 35), .ref (r 36), .int 0, .int 0, .int 0, .ref (r 37), .ref (r 38)])), (r 5, .inl ((c 5), 2, .inl f5)), (r 35, .inl ((c 35), 21, .inl zf16))] H15 := by rw [ezf16]; exact hP
  have hD : va_D A [(r 0, .inr (8, [.ref (r 1), .ref (r 2), .int 0, .int 0, .int 0, .int (-1), .int 0, .int 0, .int 0, .int 0, .long 0, .ref (r 3), .ref (r 4), .ref (r 5), .ref (r 6), .ref (r 7), .ref (r 8), .ref (r 9), .ref (r 10), .ref (r 11), .ref (r 12), .ref (r 13), .ref (r 14), .ref (r 15), .ref (r 16), .ref (r 17), .ref (r 18), .ref (r 19), .ref (r 20), .ref (r 21), .ref (r 22), .ref (r 23), .ref (r 24), .int 0, .int 0, .int 0, .int 0, .int 0, .int 0, .int 0, .int 0, .int 0, .ref (r 25), .ref (r 26), .ref (r 27), .int 0, .int 0, .ref (r 28), .int 0, .ref (r 29), .ref (r 30), .ref (r 31), .ref (r 32), .ref (r 33), .ref (r 34), .ref (r 35), .ref (r 36), .int 0, .int 0, .int 0, .ref (r 37), .ref (r 38)])), (r 5, .inl ((c 5), 2, .inl f5)), (r 35, .inl ((c 35), 21, .inl zf16))] := by rw [ezf16]; exact hD
  refine lv_iinc (v := 5) (lv' := [(2, .int 5), (0, .ref (r 0)), (1, .int p0)]) hx hb dX9_layRows_20 hl (k := 0) rfl (by decide) (by decide) rfl (fun ls hl => ?_)
  refine lv_goto (tgt := 7) hx hb dX9_layRows_23 (by decide) ?_
  refine lv_iload_n hx hb dX9_layRows_7 rfl (lv_at hl 0 rfl) ?_
  refine lv_bipush (v := 21) hx hb dX9_layRows_8 (by decide) ?_
  refine lv_icmp_ge (tgt := 26) hx hb dX9_layRows_10 (by decide) (fun c_17 => absurd c_17 (by decide)) (fun c_17 => ?_)
  refine lv_aload_n hx hb dX9_layRows_13 rfl (lv_at hl 1 rfl) ?_
  refine va_get (D := (dC, dI)) (ci := 8) (v := .ref (r 35)) (C := RX9) (T := TX9) (N := 62) hx hb hG inX9 hown hK hP 0 rfl rfl 55 (by decide) (hG _ gw1226) (fun _ h9 => h9) rfl dX9_layRows_14 ?_
  refine lv_iload_n hx hb dX9_layRows_17 rfl (lv_at hl 0 rfl) ?_
  refine lv_iconst (v := 0) hx hb dX9_layRows_18 (by decide) ?_
  refine va_iast hx hb hK hP hD hS 2 1 rfl rfl (vin (by decide)) dX9_layRows_19 (fun H18 locs hP hD hS => ?_)
  obtain ⟨zf19, ezf19⟩ : ∃ z : Nat → Int32, z = upd zf16 (5 : Int32).toNatClampNeg 0 := ⟨_, rfl⟩
  have hP : va_P (dC, dI) vwCl [(r 0, .inr (8, [.ref (r 1), .ref (r 2), .int 0, .int 0, .int 0, .int (-1), .int 0, .int 0, .int 0, .int 0, .long 0, .ref (r 3), .ref (r 4), .ref (r 5), .ref (r 6), .ref (r 7), .ref (r 8), .ref (r 9), .ref (r 10), .ref (r 11), .ref (r 12), .ref (r 13), .ref (r 14), .ref (r 15), .ref (r 16), .ref (r 17), .ref (r 18), .ref (r 19), .ref (r 20), .ref (r 21), .ref (r 22), .ref (r 23), .ref (r 24), .int 0, .int 0, .int 0, .int 0, .int 0, .int 0, .int 0, .int 0, .int 0, .ref (r 25), .ref (r 26), .ref (r 27), .int 0, .int 0, .ref (r 28), .int 0, .ref (r 29), .ref (r 30), .ref (r 31), .ref (r 32), .ref (r 33), .ref (r 34), .ref (r 35), .ref (r 36), .int 0, .int 0, .int 0, .ref (r 37), .ref (r 38)])), (r 5, .inl ((c 5), 2, .inl f5)), (r 35, .inl ((c 35), 21, .inl zf19))] H18 := by rw [ezf19]; exact hP
  have hD : va_D A [(r 0, .inr (8, [.ref (r 1), .ref (r 2), .int 0, .int 0, .int 0, .int (-1), .int 0, .int 0, .int 0, .int 0, .long 0, .ref (r 3), .ref (r 4), .ref (r 5), .ref (r 6), .ref (r 7), .ref (r 8), .ref (r 9), .ref (r 10), .ref (r 11), .ref (r 12), .ref (r 13), .ref (r 14), .ref (r 15), .ref (r 16), .ref (r 17), .ref (r 18), .ref (r 19), .ref (r 20), .ref (r 21), .ref (r 22), .ref (r 23), .ref (r 24), .int 0, .int 0, .int 0, .int 0, .int 0, .int 0, .int 0, .int 0, .int 0, .ref (r 25), .ref (r 26), .ref (r 27), .int 0, .int 0, .ref (r 28), .int 0, .ref (r 29), .ref (r 30), .ref (r 31), .ref (r 32), .ref (r 33), .ref (r 34), .ref (r 35), .ref (r 36), .int 0, .int 0, .int 0, .ref (r 37), .ref (r 38)])), (r 5, .inl ((c 5), 2, .inl f5)), (r 35, .inl ((c 35), 21, .inl zf19))] := by rw [ezf19]; exact hD
  refine lv_iinc (v := 6) (lv' := [(2, .int 6), (0, .ref (r 0)), (1, .int p0)]) hx hb dX9_layRows_20 hl (k := 0) rfl (by decide) (by decide) rfl (fun ls hl => ?_)
  refine lv_goto (tgt := 7) hx hb dX9_layRows_23 (by decide) ?_
  refine lv_iload_n hx hb dX9_layRows_7 rfl (lv_at hl 0 rfl) ?_
  refine lv_bipush (v := 21) hx hb dX9_layRows_8 (by decide) ?_
  refine lv_icmp_ge (tgt := 26) hx hb dX9_layRows_10 (by decide) (fun c_20 => absurd c_20 (by decide)) (fun c_20 => ?_)
  refine lv_aload_n hx hb dX9_layRows_13 rfl (lv_at hl 1 rfl) ?_
  refine va_get (D := (dC, dI)) (ci := 8) (v := .ref (r 35)) (C := RX9) (T := TX9) (N := 62) hx hb hG inX9 hown hK hP 0 rfl rfl 55 (by decide) (hG _ gw1226) (fun _ h9 => h9) rfl dX9_layRows_14 ?_
  refine lv_iload_n hx hb dX9_layRows_17 rfl (lv_at hl 0 rfl) ?_
  refine lv_iconst (v := 0) hx hb dX9_layRows_18 (by decide) ?_
  refine va_iast hx hb hK hP hD hS 2 1 rfl rfl (vin (by decide)) dX9_layRows_19 (fun H21 locs hP hD hS => ?_)
  obtain ⟨zf22, ezf22⟩ : ∃ z : Nat → Int32, z = upd zf19 (6 : Int32).toNatClampNeg 0 := ⟨_, rfl⟩
  have hP : va_P (dC, dI) vwCl [(r 0, .inr (8, [.ref (r 1), .ref (r 2), .int 0, .int 0, .int 0, .int (-1), .int 0, .int 0, .int 0, .int 0, .long 0, .ref (r 3), .ref (r 4), .ref (r 5), .ref (r 6), .ref (r 7), .ref (r 8), .ref (r 9), .ref (r 10), .ref (r 11), .ref (r 12), .ref (r 13), .ref (r 14), .ref (r 15), .ref (r 16), .ref (r 17), .ref (r 18), .ref (r 19), .ref (r 20), .ref (r 21), .ref (r 22), .ref (r 23), .ref (r 24), .int 0, .int 0, .int 0, .int 0, .int 0, .int 0, .int 0, .int 0, .int 0, .ref (r 25), .ref (r 26), .ref (r 27), .int 0, .int 0, .ref (r 28), .int 0, .ref (r 29), .ref (r 30), .ref (r 31), .ref (r 32), .ref (r 33), .ref (r 34), .ref (r 35), .ref (r 36), .int 0, .int 0, .int 0, .ref (r 37), .ref (r 38)])), (r 5, .inl ((c 5), 2, .inl f5)), (r 35, .inl ((c 35), 21, .inl zf22))] H21 := by rw [ezf22]; exact hP
  have hD : va_D A [(r 0, .inr (8, [.ref (r 1), .ref (r 2), .int 0, .int 0, .int 0, .int (-1), .int 0, .int 0, .int 0, .int 0, .long 0, .ref (r 3), .ref (r 4), .ref (r 5), .ref (r 6), .ref (r 7), .ref (r 8), .ref (r 9), .ref (r 10), .ref (r 11), .ref (r 12), .ref (r 13), .ref (r 14), .ref (r 15), .ref (r 16), .ref (r 17), .ref (r 18), .ref (r 19), .ref (r 20), .ref (r 21), .ref (r 22), .ref (r 23), .ref (r 24), .int 0, .int 0, .int 0, .int 0, .int 0, .int 0, .int 0, .int 0, .int 0, .ref (r 25), .ref (r 26), .ref (r 27), .int 0, .int 0, .ref (r 28), .int 0, .ref (r 29), .ref (r 30), .ref (r 31), .ref (r 32), .ref (r 33), .ref (r 34), .ref (r 35), .ref (r 36), .int 0, .int 0, .int 0, .ref (r 37), .ref (r 38)])), (r 5, .inl ((c 5), 2, .inl f5)), (r 35, .inl ((c 35), 21, .inl zf22))] := by rw [ezf22]; exact hD
  refine lv_iinc (v := 7) (lv' := [(2, .int 7), (0, .ref (r 0)), (1, .int p0)]) hx hb dX9_layRows_20 hl (k := 0) rfl (by decide) (by decide) rfl (fun ls hl => ?_)
  refine lv_goto (tgt := 7) hx hb dX9_layRows_23 (by decide) ?_
  refine lv_iload_n hx hb dX9_layRows_7 rfl (lv_at hl 0 rfl) ?_
  refine lv_bipush (v := 21) hx hb dX9_layRows_8 (by decide) ?_
  refine lv_icmp_ge (tgt := 26) hx hb dX9_layRows_10 (by decide) (fun c_23 => absurd c_23 (by decide)) (fun c_23 => ?_)
  refine lv_aload_n hx hb dX9_layRows_13 rfl (lv_at hl 1 rfl) ?_
  refine va_get (D := (dC, dI)) (ci := 8) (v := .ref (r 35)) (C := RX9) (T := TX9) (N := 62) hx hb hG inX9 hown hK hP 0 rfl rfl 55 (by decide) (hG _ gw1226) (fun _ h9 => h9) rfl dX9_layRows_14 ?_
  refine lv_iload_n hx hb dX9_layRows_17 rfl (lv_at hl 0 rfl) ?_
  refine lv_iconst (v := 0) hx hb dX9_layRows_18 (by decide) ?_
  refine va_iast hx hb hK hP hD hS 2 1 rfl rfl (vin (by decide)) dX9_layRows_19 (fun H24 locs hP hD hS => ?_)
  obtain ⟨zf25, ezf25⟩ : ∃ z : Nat → Int32, z = upd zf22 (7 : Int32).toNatClampNeg 0 := ⟨_, rfl⟩
  have hP : va_P (dC, dI) vwCl [(r 0, .inr (8, [.ref (r 1), .ref (r 2), .int 0, .int 0, .int 0, .int (-1), .int 0, .int 0, .int 0, .int 0, .long 0, .ref (r 3), .ref (r 4), .ref (r 5), .ref (r 6), .ref (r 7), .ref (r 8), .ref (r 9), .ref (r 10), .ref (r 11), .ref (r 12), .ref (r 13), .ref (r 14), .ref (r 15), .ref (r 16), .ref (r 17), .ref (r 18), .ref (r 19), .ref (r 20), .ref (r 21), .ref (r 22), .ref (r 23), .ref (r 24), .int 0, .int 0, .int 0, .int 0, .int 0, .int 0, .int 0, .int 0, .int 0, .ref (r 25), .ref (r 26), .ref (r 27), .int 0, .int 0, .ref (r 28), .int 0, .ref (r 29), .ref (r 30), .ref (r 31), .ref (r 32), .ref (r 33), .ref (r 34), .ref (r 35), .ref (r 36), .int 0, .int 0, .int 0, .ref (r 37), .ref (r 38)])), (r 5, .inl ((c 5), 2, .inl f5)), (r 35, .inl ((c 35), 21, .inl zf25))] H24 := by rw [ezf25]; exact hP
  have hD : va_D A [(r 0, .inr (8, [.ref (r 1), .ref (r 2), .int 0, .int 0, .int 0, .int (-1), .int 0, .int 0, .int 0, .int 0, .long 0, .ref (r 3), .ref (r 4), .ref (r 5), .ref (r 6), .ref (r 7), .ref (r 8), .ref (r 9), .ref (r 10), .ref (r 11), .ref (r 12), .ref (r 13), .ref (r 14), .ref (r 15), .ref (r 16), .ref (r 17), .ref (r 18), .ref (r 19), .ref (r 20), .ref (r 21), .ref (r 22), .ref (r 23), .ref (r 24), .int 0, .int 0, .int 0, .int 0, .int 0, .int 0, .int 0, .int 0, .int 0, .ref (r 25), .ref (r 26), .ref (r 27), .int 0, .int 0, .ref (r 28), .int 0, .ref (r 29), .ref (r 30), .ref (r 31), .ref (r 32), .ref (r 33), .ref (r 34), .ref (r 35), .ref (r 36), .int 0, .int 0, .int 0, .ref (r 37), .ref (r 38)])), (r 5, .inl ((c 5), 2, .inl f5)), (r 35, .inl ((c 35), 21, .inl zf25))] := by rw [ezf25]; exact hD
  refine lv_iinc (v := 8) (lv' := [(2, .int 8), (0, .ref (r 0)), (1, .int p0)]) hx hb dX9_layRows_20 hl (k := 0) rfl (by decide) (by decide) rfl (fun ls hl => ?_)
  refine lv_goto (tgt := 7) hx hb dX9_layRows_23 (by decide) ?_
  refine lv_iload_n hx hb dX9_layRows_7 rfl (lv_at hl 0 rfl) ?_
  refine lv_bipush (v := 21) hx hb dX9_layRows_8 (by decide) ?_
  refine lv_icmp_ge (tgt := 26) hx hb dX9_layRows_10 (by decide) (fun c_26 => absurd c_26 (by decide)) (fun c_26 => ?_)
  refine lv_aload_n hx hb dX9_layRows_13 rfl (lv_at hl 1 rfl) ?_
  refine va_get (D := (dC, dI)) (ci := 8) (v := .ref (r 35)) (C := RX9) (T := TX9) (N := 62) hx hb hG inX9 hown hK hP 0 rfl rfl 55 (by decide) (hG _ gw1226) (fun _ h9 => h9) rfl dX9_layRows_14 ?_
  refine lv_iload_n hx hb dX9_layRows_17 rfl (lv_at hl 0 rfl) ?_
  refine lv_iconst (v := 0) hx hb dX9_layRows_18 (by decide) ?_
  refine va_iast hx hb hK hP hD hS 2 1 rfl rfl (vin (by decide)) dX9_layRows_19 (fun H27 locs hP hD hS => ?_)
  obtain ⟨zf28, ezf28⟩ : ∃ z : Nat → Int32, z = upd zf25 (8 : Int32).toNatClampNeg 0 := ⟨_, rfl⟩
  have hP : va_P (dC, dI) vwCl [(r 0, .inr (8, [.ref (r 1), .ref (r 2), .int 0, .int 0, .int 0, .int (-1), .int 0, .int 0, .int 0, .int 0, .long 0, .ref (r 3), .ref (r 4), .ref (r 5), .ref (r 6), .ref (r 7), .ref (r 8), .ref (r 9), .ref (r 10), .ref (r 11), .ref (r 12), .ref (r 13), .ref (r 14), .ref (r 15), .ref (r 16), .ref (r 17), .ref (r 18), .ref (r 19), .ref (r 20), .ref (r 21), .ref (r 22), .ref (r 23), .ref (r 24), .int 0, .int 0, .int 0, .int 0, .int 0, .int 0, .int 0, .int 0, .int 0, .ref (r 25), .ref (r 26), .ref (r 27), .int 0, .int 0, .ref (r 28), .int 0, .ref (r 29), .ref (r 30), .ref (r 31), .ref (r 32), .ref (r 33), .ref (r 34), .ref (r 35), .ref (r 36), .int 0, .int 0, .int 0, .ref (r 37), .ref (r 38)])), (r 5, .inl ((c 5), 2, .inl f5)), (r 35, .inl ((c 35), 21, .inl zf28))] H27 := by rw [ezf28]; exact hP
  have hD : va_D A [(r 0, .inr (8, [.ref (r 1), .ref (r 2), .int 0, .int 0, .int 0, .int (-1), .int 0, .int 0, .int 0, .int 0, .long 0, .ref (r 3), .ref (r 4), .ref (r 5), .ref (r 6), .ref (r 7), .ref (r 8), .ref (r 9), .ref (r 10), .ref (r 11), .ref (r 12), .ref (r 13), .ref (r 14), .ref (r 15), .ref (r 16), .ref (r 17), .ref (r 18), .ref (r 19), .ref (r 20), .ref (r 21), .ref (r 22), .ref (r 23), .ref (r 24), .int 0, .int 0, .int 0, .int 0, .int 0, .int 0, .int 0, .int 0, .int 0, .ref (r 25), .ref (r 26), .ref (r 27), .int 0, .int 0, .ref (r 28), .int 0, .ref (r 29), .ref (r 30), .ref (r 31), .ref (r 32), .ref (r 33), .ref (r 34), .ref (r 35), .ref (r 36), .int 0, .int 0, .int 0, .ref (r 37), .ref (r 38)])), (r 5, .inl ((c 5), 2, .inl f5)), (r 35, .inl ((c 35), 21, .inl zf28))] := by rw [ezf28]; exact hD
  refine lv_iinc (v := 9) (lv' := [(2, .int 9), (0, .ref (r 0)), (1, .int p0)]) hx hb dX9_layRows_20 hl (k := 0) rfl (by decide) (by decide) rfl (fun ls hl => ?_)
  refine lv_goto (tgt := 7) hx hb dX9_layRows_23 (by decide) ?_
  refine lv_iload_n hx hb dX9_layRows_7 rfl (lv_at hl 0 rfl) ?_
  refine lv_bipush (v := 21) hx hb dX9_layRows_8 (by decide) ?_
  refine lv_icmp_ge (tgt := 26) hx hb dX9_layRows_10 (by decide) (fun c_29 => absurd c_29 (by decide)) (fun c_29 => ?_)
  refine lv_aload_n hx hb dX9_layRows_13 rfl (lv_at hl 1 rfl) ?_
  refine va_get (D := (dC, dI)) (ci := 8) (v := .ref (r 35)) (C := RX9) (T := TX9) (N := 62) hx hb hG inX9 hown hK hP 0 rfl rfl 55 (by decide) (hG _ gw1226) (fun _ h9 => h9) rfl dX9_layRows_14 ?_
  refine lv_iload_n hx hb dX9_layRows_17 rfl (lv_at hl 0 rfl) ?_
  refine lv_iconst (v := 0) hx hb dX9_layRows_18 (by decide) ?_
  refine va_iast hx hb hK hP hD hS 2 1 rfl rfl (vin (by decide)) dX9_layRows_19 (fun H30 locs hP hD hS => ?_)
  obtain ⟨zf31, ezf31⟩ : ∃ z : Nat → Int32, z = upd zf28 (9 : Int32).toNatClampNeg 0 := ⟨_, rfl⟩
  have hP : va_P (dC, dI) vwCl [(r 0, .inr (8, [.ref (r 1), .ref (r 2), .int 0, .int 0, .int 0, .int (-1), .int 0, .int 0, .int 0, .int 0, .long 0, .ref (r 3), .ref (r 4), .ref (r 5), .ref (r 6), .ref (r 7), .ref (r 8), .ref (r 9), .ref (r 10), .ref (r 11), .ref (r 12), .ref (r 13), .ref (r 14), .ref (r 15), .ref (r 16), .ref (r 17), .ref (r 18), .ref (r 19), .ref (r 20), .ref (r 21), .ref (r 22), .ref (r 23), .ref (r 24), .int 0, .int 0, .int 0, .int 0, .int 0, .int 0, .int 0, .int 0, .int 0, .ref (r 25), .ref (r 26), .ref (r 27), .int 0, .int 0, .ref (r 28), .int 0, .ref (r 29), .ref (r 30), .ref (r 31), .ref (r 32), .ref (r 33), .ref (r 34), .ref (r 35), .ref (r 36), .int 0, .int 0, .int 0, .ref (r 37), .ref (r 38)])), (r 5, .inl ((c 5), 2, .inl f5)), (r 35, .inl ((c 35), 21, .inl zf31))] H30 := by rw [ezf31]; exact hP
  have hD : va_D A [(r 0, .inr (8, [.ref (r 1), .ref (r 2), .int 0, .int 0, .int 0, .int (-1), .int 0, .int 0, .int 0, .int 0, .long 0, .ref (r 3), .ref (r 4), .ref (r 5), .ref (r 6), .ref (r 7), .ref (r 8), .ref (r 9), .ref (r 10), .ref (r 11), .ref (r 12), .ref (r 13), .ref (r 14), .ref (r 15), .ref (r 16), .ref (r 17), .ref (r 18), .ref (r 19), .ref (r 20), .ref (r 21), .ref (r 22), .ref (r 23), .ref (r 24), .int 0, .int 0, .int 0, .int 0, .int 0, .int 0, .int 0, .int 0, .int 0, .ref (r 25), .ref (r 26), .ref (r 27), .int 0, .int 0, .ref (r 28), .int 0, .ref (r 29), .ref (r 30), .ref (r 31), .ref (r 32), .ref (r 33), .ref (r 34), .ref (r 35), .ref (r 36), .int 0, .int 0, .int 0, .ref (r 37), .ref (r 38)])), (r 5, .inl ((c 5), 2, .inl f5)), (r 35, .inl ((c 35), 21, .inl zf31))] := by rw [ezf31]; exact hD
  refine lv_iinc (v := 10) (lv' := [(2, .int 10), (0, .ref (r 0)), (1, .int p0)]) hx hb dX9_layRows_20 hl (k := 0) rfl (by decide) (by decide) rfl (fun ls hl => ?_)
  refine lv_goto (tgt := 7) hx hb dX9_layRows_23 (by decide) ?_
  refine lv_iload_n hx hb dX9_layRows_7 rfl (lv_at hl 0 rfl) ?_
  refine lv_bipush (v := 21) hx hb dX9_layRows_8 (by decide) ?_
  refine lv_icmp_ge (tgt := 26) hx hb dX9_layRows_10 (by decide) (fun c_32 => absurd c_32 (by decide)) (fun c_32 => ?_)
  refine lv_aload_n hx hb dX9_layRows_13 rfl (lv_at hl 1 rfl) ?_
  refine va_get (D := (dC, dI)) (ci := 8) (v := .ref (r 35)) (C := RX9) (T := TX9) (N := 62) hx hb hG inX9 hown hK hP 0 rfl rfl 55 (by decide) (hG _ gw1226) (fun _ h9 => h9) rfl dX9_layRows_14 ?_
  refine lv_iload_n hx hb dX9_layRows_17 rfl (lv_at hl 0 rfl) ?_
  refine lv_iconst (v := 0) hx hb dX9_layRows_18 (by decide) ?_
  refine va_iast hx hb hK hP hD hS 2 1 rfl rfl (vin (by decide)) dX9_layRows_19 (fun H33 locs hP hD hS => ?_)
  obtain ⟨zf34, ezf34⟩ : ∃ z : Nat → Int32, z = upd zf31 (10 : Int32).toNatClampNeg 0 := ⟨_, rfl⟩
  have hP : va_P (dC, dI) vwCl [(r 0, .inr (8, [.ref (r 1), .ref (r 2), .int 0, .int 0, .int 0, .int (-1), .int 0, .int 0, .int 0, .int 0, .long 0, .ref (r 3), .ref (r 4), .ref (r 5), .ref (r 6), .ref (r 7), .ref (r 8), .ref (r 9), .ref (r 10), .ref (r 11), .ref (r 12), .ref (r 13), .ref (r 14), .ref (r 15), .ref (r 16), .ref (r 17), .ref (r 18), .ref (r 19), .ref (r 20), .ref (r 21), .ref (r 22), .ref (r 23), .ref (r 24), .int 0, .int 0, .int 0, .int 0, .int 0, .int 0, .int 0, .int 0, .int 0, .ref (r 25), .ref (r 26), .ref (r 27), .int 0, .int 0, .ref (r 28), .int 0, .ref (r 29), .ref (r 30), .ref (r 31), .ref (r 32), .ref (r 33), .ref (r 34), .ref (r 35), .ref (r 36), .int 0, .int 0, .int 0, .ref (r 37), .ref (r 38)])), (r 5, .inl ((c 5), 2, .inl f5)), (r 35, .inl ((c 35), 21, .inl zf34))] H33 := by rw [ezf34]; exact hP
  have hD : va_D A [(r 0, .inr (8, [.ref (r 1), .ref (r 2), .int 0, .int 0, .int 0, .int (-1), .int 0, .int 0, .int 0, .int 0, .long 0, .ref (r 3), .ref (r 4), .ref (r 5), .ref (r 6), .ref (r 7), .ref (r 8), .ref (r 9), .ref (r 10), .ref (r 11), .ref (r 12), .ref (r 13), .ref (r 14), .ref (r 15), .ref (r 16), .ref (r 17), .ref (r 18), .ref (r 19), .ref (r 20), .ref (r 21), .ref (r 22), .ref (r 23), .ref (r 24), .int 0, .int 0, .int 0, .int 0, .int 0, .int 0, .int 0, .int 0, .int 0, .ref (r 25), .ref (r 26), .ref (r 27), .int 0, .int 0, .ref (r 28), .int 0, .ref (r 29), .ref (r 30), .ref (r 31), .ref (r 32), .ref (r 33), .ref (r 34), .ref (r 35), .ref (r 36), .int 0, .int 0, .int 0, .ref (r 37), .ref (r 38)])), (r 5, .inl ((c 5), 2, .inl f5)), (r 35, .inl ((c 35), 21, .inl zf34))] := by rw [ezf34]; exact hD
  refine lv_iinc (v := 11) (lv' := [(2, .int 11), (0, .ref (r 0)), (1, .int p0)]) hx hb dX9_layRows_20 hl (k := 0) rfl (by decide) (by decide) rfl (fun ls hl => ?_)
  refine lv_goto (tgt := 7) hx hb dX9_layRows_23 (by decide) ?_
  refine lv_iload_n hx hb dX9_layRows_7 rfl (lv_at hl 0 rfl) ?_
  refine lv_bipush (v := 21) hx hb dX9_layRows_8 (by decide) ?_
  refine lv_icmp_ge (tgt := 26) hx hb dX9_layRows_10 (by decide) (fun c_35 => absurd c_35 (by decide)) (fun c_35 => ?_)
  refine lv_aload_n hx hb dX9_layRows_13 rfl (lv_at hl 1 rfl) ?_
  refine va_get (D := (dC, dI)) (ci := 8) (v := .ref (r 35)) (C := RX9) (T := TX9) (N := 62) hx hb hG inX9 hown hK hP 0 rfl rfl 55 (by decide) (hG _ gw1226) (fun _ h9 => h9) rfl dX9_layRows_14 ?_
  refine lv_iload_n hx hb dX9_layRows_17 rfl (lv_at hl 0 rfl) ?_
  refine lv_iconst (v := 0) hx hb dX9_layRows_18 (by decide) ?_
  refine va_iast hx hb hK hP hD hS 2 1 rfl rfl (vin (by decide)) dX9_layRows_19 (fun H36 locs hP hD hS => ?_)
  obtain ⟨zf37, ezf37⟩ : ∃ z : Nat → Int32, z = upd zf34 (11 : Int32).toNatClampNeg 0 := ⟨_, rfl⟩
  have hP : va_P (dC, dI) vwCl [(r 0, .inr (8, [.ref (r 1), .ref (r 2), .int 0, .int 0, .int 0, .int (-1), .int 0, .int 0, .int 0, .int 0, .long 0, .ref (r 3), .ref (r 4), .ref (r 5), .ref (r 6), .ref (r 7), .ref (r 8), .ref (r 9), .ref (r 10), .ref (r 11), .ref (r 12), .ref (r 13), .ref (r 14), .ref (r 15), .ref (r 16), .ref (r 17), .ref (r 18), .ref (r 19), .ref (r 20), .ref (r 21), .ref (r 22), .ref (r 23), .ref (r 24), .int 0, .int 0, .int 0, .int 0, .int 0, .int 0, .int 0, .int 0, .int 0, .ref (r 25), .ref (r 26), .ref (r 27), .int 0, .int 0, .ref (r 28), .int 0, .ref (r 29), .ref (r 30), .ref (r 31), .ref (r 32), .ref (r 33), .ref (r 34), .ref (r 35), .ref (r 36), .int 0, .int 0, .int 0, .ref (r 37), .ref (r 38)])), (r 5, .inl ((c 5), 2, .inl f5)), (r 35, .inl ((c 35), 21, .inl zf37))] H36 := by rw [ezf37]; exact hP
  have hD : va_D A [(r 0, .inr (8, [.ref (r 1), .ref (r 2), .int 0, .int 0, .int 0, .int (-1), .int 0, .int 0, .int 0, .int 0, .long 0, .ref (r 3), .ref (r 4), .ref (r 5), .ref (r 6), .ref (r 7), .ref (r 8), .ref (r 9), .ref (r 10), .ref (r 11), .ref (r 12), .ref (r 13), .ref (r 14), .ref (r 15), .ref (r 16), .ref (r 17), .ref (r 18), .ref (r 19), .ref (r 20), .ref (r 21), .ref (r 22), .ref (r 23), .ref (r 24), .int 0, .int 0, .int 0, .int 0, .int 0, .int 0, .int 0, .int 0, .int 0, .ref (r 25), .ref (r 26), .ref (r 27), .int 0, .int 0, .ref (r 28), .int 0, .ref (r 29), .ref (r 30), .ref (r 31), .ref (r 32), .ref (r 33), .ref (r 34), .ref (r 35), .ref (r 36), .int 0, .int 0, .int 0, .ref (r 37), .ref (r 38)])), (r 5, .inl ((c 5), 2, .inl f5)), (r 35, .inl ((c 35), 21, .inl zf37))] := by rw [ezf37]; exact hD
  refine lv_iinc (v := 12) (lv' := [(2, .int 12), (0, .ref (r 0)), (1, .int p0)]) hx hb dX9_layRows_20 hl (k := 0) rfl (by decide) (by decide) rfl (fun ls hl => ?_)
  refine lv_goto (tgt := 7) hx hb dX9_layRows_23 (by decide) ?_
  refine lv_iload_n hx hb dX9_layRows_7 rfl (lv_at hl 0 rfl) ?_
  refine lv_bipush (v := 21) hx hb dX9_layRows_8 (by decide) ?_
  refine lv_icmp_ge (tgt := 26) hx hb dX9_layRows_10 (by decide) (fun c_38 => absurd c_38 (by decide)) (fun c_38 => ?_)
  refine lv_aload_n hx hb dX9_layRows_13 rfl (lv_at hl 1 rfl) ?_
  refine va_get (D := (dC, dI)) (ci := 8) (v := .ref (r 35)) (C := RX9) (T := TX9) (N := 62) hx hb hG inX9 hown hK hP 0 rfl rfl 55 (by decide) (hG _ gw1226) (fun _ h9 => h9) rfl dX9_layRows_14 ?_
  refine lv_iload_n hx hb dX9_layRows_17 rfl (lv_at hl 0 rfl) ?_
  refine lv_iconst (v := 0) hx hb dX9_layRows_18 (by decide) ?_
  refine va_iast hx hb hK hP hD hS 2 1 rfl rfl (vin (by decide)) dX9_layRows_19 (fun H39 locs hP hD hS => ?_)
  obtain ⟨zf40, ezf40⟩ : ∃ z : Nat → Int32, z = upd zf37 (12 : Int32).toNatClampNeg 0 := ⟨_, rfl⟩
  have hP : va_P (dC, dI) vwCl [(r 0, .inr (8, [.ref (r 1), .ref (r 2), .int 0, .int 0, .int 0, .int (-1), .int 0, .int 0, .int 0, .int 0, .long 0, .ref (r 3), .ref (r 4), .ref (r 5), .ref (r 6), .ref (r 7), .ref (r 8), .ref (r 9), .ref (r 10), .ref (r 11), .ref (r 12), .ref (r 13), .ref (r 14), .ref (r 15), .ref (r 16), .ref (r 17), .ref (r 18), .ref (r 19), .ref (r 20), .ref (r 21), .ref (r 22), .ref (r 23), .ref (r 24), .int 0, .int 0, .int 0, .int 0, .int 0, .int 0, .int 0, .int 0, .int 0, .ref (r 25), .ref (r 26), .ref (r 27), .int 0, .int 0, .ref (r 28), .int 0, .ref (r 29), .ref (r 30), .ref (r 31), .ref (r 32), .ref (r 33), .ref (r 34), .ref (r 35), .ref (r 36), .int 0, .int 0, .int 0, .ref (r 37), .ref (r 38)])), (r 5, .inl ((c 5), 2, .inl f5)), (r 35, .inl ((c 35), 21, .inl zf40))] H39 := by rw [ezf40]; exact hP
  have hD : va_D A [(r 0, .inr (8, [.ref (r 1), .ref (r 2), .int 0, .int 0, .int 0, .int (-1), .int 0, .int 0, .int 0, .int 0, .long 0, .ref (r 3), .ref (r 4), .ref (r 5), .ref (r 6), .ref (r 7), .ref (r 8), .ref (r 9), .ref (r 10), .ref (r 11), .ref (r 12), .ref (r 13), .ref (r 14), .ref (r 15), .ref (r 16), .ref (r 17), .ref (r 18), .ref (r 19), .ref (r 20), .ref (r 21), .ref (r 22), .ref (r 23), .ref (r 24), .int 0, .int 0, .int 0, .int 0, .int 0, .int 0, .int 0, .int 0, .int 0, .ref (r 25), .ref (r 26), .ref (r 27), .int 0, .int 0, .ref (r 28), .int 0, .ref (r 29), .ref (r 30), .ref (r 31), .ref (r 32), .ref (r 33), .ref (r 34), .ref (r 35), .ref (r 36), .int 0, .int 0, .int 0, .ref (r 37), .ref (r 38)])), (r 5, .inl ((c 5), 2, .inl f5)), (r 35, .inl ((c 35), 21, .inl zf40))] := by rw [ezf40]; exact hD
  refine lv_iinc (v := 13) (lv' := [(2, .int 13), (0, .ref (r 0)), (1, .int p0)]) hx hb dX9_layRows_20 hl (k := 0) rfl (by decide) (by decide) rfl (fun ls hl => ?_)
  refine lv_goto (tgt := 7) hx hb dX9_layRows_23 (by decide) ?_
  refine lv_iload_n hx hb dX9_layRows_7 rfl (lv_at hl 0 rfl) ?_
  refine lv_bipush (v := 21) hx hb dX9_layRows_8 (by decide) ?_
  refine lv_icmp_ge (tgt := 26) hx hb dX9_layRows_10 (by decide) (fun c_41 => absurd c_41 (by decide)) (fun c_41 => ?_)
  refine lv_aload_n hx hb dX9_layRows_13 rfl (lv_at hl 1 rfl) ?_
  refine va_get (D := (dC, dI)) (ci := 8) (v := .ref (r 35)) (C := RX9) (T := TX9) (N := 62) hx hb hG inX9 hown hK hP 0 rfl rfl 55 (by decide) (hG _ gw1226) (fun _ h9 => h9) rfl dX9_layRows_14 ?_
  refine lv_iload_n hx hb dX9_layRows_17 rfl (lv_at hl 0 rfl) ?_
  refine lv_iconst (v := 0) hx hb dX9_layRows_18 (by decide) ?_
  refine va_iast hx hb hK hP hD hS 2 1 rfl rfl (vin (by decide)) dX9_layRows_19 (fun H42 locs hP hD hS => ?_)
  obtain ⟨zf43, ezf43⟩ : ∃ z : Nat → Int32, z = upd zf40 (13 : Int32).toNatClampNeg 0 := ⟨_, rfl⟩
  have hP : va_P (dC, dI) vwCl [(r 0, .inr (8, [.ref (r 1), .ref (r 2), .int 0, .int 0, .int 0, .int (-1), .int 0, .int 0, .int 0, .int 0, .long 0, .ref (r 3), .ref (r 4), .ref (r 5), .ref (r 6), .ref (r 7), .ref (r 8), .ref (r 9), .ref (r 10), .ref (r 11), .ref (r 12), .ref (r 13), .ref (r 14), .ref (r 15), .ref (r 16), .ref (r 17), .ref (r 18), .ref (r 19), .ref (r 20), .ref (r 21), .ref (r 22), .ref (r 23), .ref (r 24), .int 0, .int 0, .int 0, .int 0, .int 0, .int 0, .int 0, .int 0, .int 0, .ref (r 25), .ref (r 26), .ref (r 27), .int 0, .int 0, .ref (r 28), .int 0, .ref (r 29), .ref (r 30), .ref (r 31), .ref (r 32), .ref (r 33), .ref (r 34), .ref (r 35), .ref (r 36), .int 0, .int 0, .int 0, .ref (r 37), .ref (r 38)])), (r 5, .inl ((c 5), 2, .inl f5)), (r 35, .inl ((c 35), 21, .inl zf43))] H42 := by rw [ezf43]; exact hP
  have hD : va_D A [(r 0, .inr (8, [.ref (r 1), .ref (r 2), .int 0, .int 0, .int 0, .int (-1), .int 0, .int 0, .int 0, .int 0, .long 0, .ref (r 3), .ref (r 4), .ref (r 5), .ref (r 6), .ref (r 7), .ref (r 8), .ref (r 9), .ref (r 10), .ref (r 11), .ref (r 12), .ref (r 13), .ref (r 14), .ref (r 15), .ref (r 16), .ref (r 17), .ref (r 18), .ref (r 19), .ref (r 20), .ref (r 21), .ref (r 22), .ref (r 23), .ref (r 24), .int 0, .int 0, .int 0, .int 0, .int 0, .int 0, .int 0, .int 0, .int 0, .ref (r 25), .ref (r 26), .ref (r 27), .int 0, .int 0, .ref (r 28), .int 0, .ref (r 29), .ref (r 30), .ref (r 31), .ref (r 32), .ref (r 33), .ref (r 34), .ref (r 35), .ref (r 36), .int 0, .int 0, .int 0, .ref (r 37), .ref (r 38)])), (r 5, .inl ((c 5), 2, .inl f5)), (r 35, .inl ((c 35), 21, .inl zf43))] := by rw [ezf43]; exact hD
  refine lv_iinc (v := 14) (lv' := [(2, .int 14), (0, .ref (r 0)), (1, .int p0)]) hx hb dX9_layRows_20 hl (k := 0) rfl (by decide) (by decide) rfl (fun ls hl => ?_)
  refine lv_goto (tgt := 7) hx hb dX9_layRows_23 (by decide) ?_
  refine lv_iload_n hx hb dX9_layRows_7 rfl (lv_at hl 0 rfl) ?_
  refine lv_bipush (v := 21) hx hb dX9_layRows_8 (by decide) ?_
  refine lv_icmp_ge (tgt := 26) hx hb dX9_layRows_10 (by decide) (fun c_44 => absurd c_44 (by decide)) (fun c_44 => ?_)
  refine lv_aload_n hx hb dX9_layRows_13 rfl (lv_at hl 1 rfl) ?_
  refine va_get (D := (dC, dI)) (ci := 8) (v := .ref (r 35)) (C := RX9) (T := TX9) (N := 62) hx hb hG inX9 hown hK hP 0 rfl rfl 55 (by decide) (hG _ gw1226) (fun _ h9 => h9) rfl dX9_layRows_14 ?_
  refine lv_iload_n hx hb dX9_layRows_17 rfl (lv_at hl 0 rfl) ?_
  refine lv_iconst (v := 0) hx hb dX9_layRows_18 (by decide) ?_
  refine va_iast hx hb hK hP hD hS 2 1 rfl rfl (vin (by decide)) dX9_layRows_19 (fun H45 locs hP hD hS => ?_)
  obtain ⟨zf46, ezf46⟩ : ∃ z : Nat → Int32, z = upd zf43 (14 : Int32).toNatClampNeg 0 := ⟨_, rfl⟩
  have hP : va_P (dC, dI) vwCl [(r 0, .inr (8, [.ref (r 1), .ref (r 2), .int 0, .int 0, .int 0, .int (-1), .int 0, .int 0, .int 0, .int 0, .long 0, .ref (r 3), .ref (r 4), .ref (r 5), .ref (r 6), .ref (r 7), .ref (r 8), .ref (r 9), .ref (r 10), .ref (r 11), .ref (r 12), .ref (r 13), .ref (r 14), .ref (r 15), .ref (r 16), .ref (r 17), .ref (r 18), .ref (r 19), .ref (r 20), .ref (r 21), .ref (r 22), .ref (r 23), .ref (r 24), .int 0, .int 0, .int 0, .int 0, .int 0, .int 0, .int 0, .int 0, .int 0, .ref (r 25), .ref (r 26), .ref (r 27), .int 0, .int 0, .ref (r 28), .int 0, .ref (r 29), .ref (r 30), .ref (r 31), .ref (r 32), .ref (r 33), .ref (r 34), .ref (r 35), .ref (r 36), .int 0, .int 0, .int 0, .ref (r 37), .ref (r 38)])), (r 5, .inl ((c 5), 2, .inl f5)), (r 35, .inl ((c 35), 21, .inl zf46))] H45 := by rw [ezf46]; exact hP
  have hD : va_D A [(r 0, .inr (8, [.ref (r 1), .ref (r 2), .int 0, .int 0, .int 0, .int (-1), .int 0, .int 0, .int 0, .int 0, .long 0, .ref (r 3), .ref (r 4), .ref (r 5), .ref (r 6), .ref (r 7), .ref (r 8), .ref (r 9), .ref (r 10), .ref (r 11), .ref (r 12), .ref (r 13), .ref (r 14), .ref (r 15), .ref (r 16), .ref (r 17), .ref (r 18), .ref (r 19), .ref (r 20), .ref (r 21), .ref (r 22), .ref (r 23), .ref (r 24), .int 0, .int 0, .int 0, .int 0, .int 0, .int 0, .int 0, .int 0, .int 0, .ref (r 25), .ref (r 26), .ref (r 27), .int 0, .int 0, .ref (r 28), .int 0, .ref (r 29), .ref (r 30), .ref (r 31), .ref (r 32), .ref (r 33), .ref (r 34), .ref (r 35), .ref (r 36), .int 0, .int 0, .int 0, .ref (r 37), .ref (r 38)])), (r 5, .inl ((c 5), 2, .inl f5)), (r 35, .inl ((c 35), 21, .inl zf46))] := by rw [ezf46]; exact hD
  refine lv_iinc (v := 15) (lv' := [(2, .int 15), (0, .ref (r 0)), (1, .int p0)]) hx hb dX9_layRows_20 hl (k := 0) rfl (by decide) (by decide) rfl (fun ls hl => ?_)
  refine lv_goto (tgt := 7) hx hb dX9_layRows_23 (by decide) ?_
  refine lv_iload_n hx hb dX9_layRows_7 rfl (lv_at hl 0 rfl) ?_
  refine lv_bipush (v := 21) hx hb dX9_layRows_8 (by decide) ?_
  refine lv_icmp_ge (tgt := 26) hx hb dX9_layRows_10 (by decide) (fun c_47 => absurd c_47 (by decide)) (fun c_47 => ?_)
  refine lv_aload_n hx hb dX9_layRows_13 rfl (lv_at hl 1 rfl) ?_
  refine va_get (D := (dC, dI)) (ci := 8) (v := .ref (r 35)) (C := RX9) (T := TX9) (N := 62) hx hb hG inX9 hown hK hP 0 rfl rfl 55 (by decide) (hG _ gw1226) (fun _ h9 => h9) rfl dX9_layRows_14 ?_
  refine lv_iload_n hx hb dX9_layRows_17 rfl (lv_at hl 0 rfl) ?_
  refine lv_iconst (v := 0) hx hb dX9_layRows_18 (by decide) ?_
  refine va_iast hx hb hK hP hD hS 2 1 rfl rfl (vin (by decide)) dX9_layRows_19 (fun H48 locs hP hD hS => ?_)
  obtain ⟨zf49, ezf49⟩ : ∃ z : Nat → Int32, z = upd zf46 (15 : Int32).toNatClampNeg 0 := ⟨_, rfl⟩
  have hP : va_P (dC, dI) vwCl [(r 0, .inr (8, [.ref (r 1), .ref (r 2), .int 0, .int 0, .int 0, .int (-1), .int 0, .int 0, .int 0, .int 0, .long 0, .ref (r 3), .ref (r 4), .ref (r 5), .ref (r 6), .ref (r 7), .ref (r 8), .ref (r 9), .ref (r 10), .ref (r 11), .ref (r 12), .ref (r 13), .ref (r 14), .ref (r 15), .ref (r 16), .ref (r 17), .ref (r 18), .ref (r 19), .ref (r 20), .ref (r 21), .ref (r 22), .ref (r 23), .ref (r 24), .int 0, .int 0, .int 0, .int 0, .int 0, .int 0, .int 0, .int 0, .int 0, .ref (r 25), .ref (r 26), .ref (r 27), .int 0, .int 0, .ref (r 28), .int 0, .ref (r 29), .ref (r 30), .ref (r 31), .ref (r 32), .ref (r 33), .ref (r 34), .ref (r 35), .ref (r 36), .int 0, .int 0, .int 0, .ref (r 37), .ref (r 38)])), (r 5, .inl ((c 5), 2, .inl f5)), (r 35, .inl ((c 35), 21, .inl zf49))] H48 := by rw [ezf49]; exact hP
  have hD : va_D A [(r 0, .inr (8, [.ref (r 1), .ref (r 2), .int 0, .int 0, .int 0, .int (-1), .int 0, .int 0, .int 0, .int 0, .long 0, .ref (r 3), .ref (r 4), .ref (r 5), .ref (r 6), .ref (r 7), .ref (r 8), .ref (r 9), .ref (r 10), .ref (r 11), .ref (r 12), .ref (r 13), .ref (r 14), .ref (r 15), .ref (r 16), .ref (r 17), .ref (r 18), .ref (r 19), .ref (r 20), .ref (r 21), .ref (r 22), .ref (r 23), .ref (r 24), .int 0, .int 0, .int 0, .int 0, .int 0, .int 0, .int 0, .int 0, .int 0, .ref (r 25), .ref (r 26), .ref (r 27), .int 0, .int 0, .ref (r 28), .int 0, .ref (r 29), .ref (r 30), .ref (r 31), .ref (r 32), .ref (r 33), .ref (r 34), .ref (r 35), .ref (r 36), .int 0, .int 0, .int 0, .ref (r 37), .ref (r 38)])), (r 5, .inl ((c 5), 2, .inl f5)), (r 35, .inl ((c 35), 21, .inl zf49))] := by rw [ezf49]; exact hD
  refine lv_iinc (v := 16) (lv' := [(2, .int 16), (0, .ref (r 0)), (1, .int p0)]) hx hb dX9_layRows_20 hl (k := 0) rfl (by decide) (by decide) rfl (fun ls hl => ?_)
  refine lv_goto (tgt := 7) hx hb dX9_layRows_23 (by decide) ?_
  refine lv_iload_n hx hb dX9_layRows_7 rfl (lv_at hl 0 rfl) ?_
  refine lv_bipush (v := 21) hx hb dX9_layRows_8 (by decide) ?_
  refine lv_icmp_ge (tgt := 26) hx hb dX9_layRows_10 (by decide) (fun c_50 => absurd c_50 (by decide)) (fun c_50 => ?_)
  refine lv_aload_n hx hb dX9_layRows_13 rfl (lv_at hl 1 rfl) ?_
  refine va_get (D := (dC, dI)) (ci := 8) (v := .ref (r 35)) (C := RX9) (T := TX9) (N := 62) hx hb hG inX9 hown hK hP 0 rfl rfl 55 (by decide) (hG _ gw1226) (fun _ h9 => h9) rfl dX9_layRows_14 ?_
  refine lv_iload_n hx hb dX9_layRows_17 rfl (lv_at hl 0 rfl) ?_
  refine lv_iconst (v := 0) hx hb dX9_layRows_18 (by decide) ?_
  refine va_iast hx hb hK hP hD hS 2 1 rfl rfl (vin (by decide)) dX9_layRows_19 (fun H51 locs hP hD hS => ?_)
  obtain ⟨zf52, ezf52⟩ : ∃ z : Nat → Int32, z = upd zf49 (16 : Int32).toNatClampNeg 0 := ⟨_, rfl⟩
  have hP : va_P (dC, dI) vwCl [(r 0, .inr (8, [.ref (r 1), .ref (r 2), .int 0, .int 0, .int 0, .int (-1), .int 0, .int 0, .int 0, .int 0, .long 0, .ref (r 3), .ref (r 4), .ref (r 5), .ref (r 6), .ref (r 7), .ref (r 8), .ref (r 9), .ref (r 10), .ref (r 11), .ref (r 12), .ref (r 13), .ref (r 14), .ref (r 15), .ref (r 16), .ref (r 17), .ref (r 18), .ref (r 19), .ref (r 20), .ref (r 21), .ref (r 22), .ref (r 23), .ref (r 24), .int 0, .int 0, .int 0, .int 0, .int 0, .int 0, .int 0, .int 0, .int 0, .ref (r 25), .ref (r 26), .ref (r 27), .int 0, .int 0, .ref (r 28), .int 0, .ref (r 29), .ref (r 30), .ref (r 31), .ref (r 32), .ref (r 33), .ref (r 34), .ref (r 35), .ref (r 36), .int 0, .int 0, .int 0, .ref (r 37), .ref (r 38)])), (r 5, .inl ((c 5), 2, .inl f5)), (r 35, .inl ((c 35), 21, .inl zf52))] H51 := by rw [ezf52]; exact hP
  have hD : va_D A [(r 0, .inr (8, [.ref (r 1), .ref (r 2), .int 0, .int 0, .int 0, .int (-1), .int 0, .int 0, .int 0, .int 0, .long 0, .ref (r 3), .ref (r 4), .ref (r 5), .ref (r 6), .ref (r 7), .ref (r 8), .ref (r 9), .ref (r 10), .ref (r 11), .ref (r 12), .ref (r 13), .ref (r 14), .ref (r 15), .ref (r 16), .ref (r 17), .ref (r 18), .ref (r 19), .ref (r 20), .ref (r 21), .ref (r 22), .ref (r 23), .ref (r 24), .int 0, .int 0, .int 0, .int 0, .int 0, .int 0, .int 0, .int 0, .int 0, .ref (r 25), .ref (r 26), .ref (r 27), .int 0, .int 0, .ref (r 28), .int 0, .ref (r 29), .ref (r 30), .ref (r 31), .ref (r 32), .ref (r 33), .ref (r 34), .ref (r 35), .ref (r 36), .int 0, .int 0, .int 0, .ref (r 37), .ref (r 38)])), (r 5, .inl ((c 5), 2, .inl f5)), (r 35, .inl ((c 35), 21, .inl zf52))] := by rw [ezf52]; exact hD
  refine lv_iinc (v := 17) (lv' := [(2, .int 17), (0, .ref (r 0)), (1, .int p0)]) hx hb dX9_layRows_20 hl (k := 0) rfl (by decide) (by decide) rfl (fun ls hl => ?_)
  refine lv_goto (tgt := 7) hx hb dX9_layRows_23 (by decide) ?_
  refine lv_iload_n hx hb dX9_layRows_7 rfl (lv_at hl 0 rfl) ?_
  refine lv_bipush (v := 21) hx hb dX9_layRows_8 (by decide) ?_
  refine lv_icmp_ge (tgt := 26) hx hb dX9_layRows_10 (by decide) (fun c_53 => absurd c_53 (by decide)) (fun c_53 => ?_)
  refine lv_aload_n hx hb dX9_layRows_13 rfl (lv_at hl 1 rfl) ?_
  refine va_get (D := (dC, dI)) (ci := 8) (v := .ref (r 35)) (C := RX9) (T := TX9) (N := 62) hx hb hG inX9 hown hK hP 0 rfl rfl 55 (by decide) (hG _ gw1226) (fun _ h9 => h9) rfl dX9_layRows_14 ?_
  refine lv_iload_n hx hb dX9_layRows_17 rfl (lv_at hl 0 rfl) ?_
  refine lv_iconst (v := 0) hx hb dX9_layRows_18 (by decide) ?_
  refine va_iast hx hb hK hP hD hS 2 1 rfl rfl (vin (by decide)) dX9_layRows_19 (fun H54 locs hP hD hS => ?_)
  obtain ⟨zf55, ezf55⟩ : ∃ z : Nat → Int32, z = upd zf52 (17 : Int32).toNatClampNeg 0 := ⟨_, rfl⟩
  have hP : va_P (dC, dI) vwCl [(r 0, .inr (8, [.ref (r 1), .ref (r 2), .int 0, .int 0, .int 0, .int (-1), .int 0, .int 0, .int 0, .int 0, .long 0, .ref (r 3), .ref (r 4), .ref (r 5), .ref (r 6), .ref (r 7), .ref (r 8), .ref (r 9), .ref (r 10), .ref (r 11), .ref (r 12), .ref (r 13), .ref (r 14), .ref (r 15), .ref (r 16), .ref (r 17), .ref (r 18), .ref (r 19), .ref (r 20), .ref (r 21), .ref (r 22), .ref (r 23), .ref (r 24), .int 0, .int 0, .int 0, .int 0, .int 0, .int 0, .int 0, .int 0, .int 0, .ref (r 25), .ref (r 26), .ref (r 27), .int 0, .int 0, .ref (r 28), .int 0, .ref (r 29), .ref (r 30), .ref (r 31), .ref (r 32), .ref (r 33), .ref (r 34), .ref (r 35), .ref (r 36), .int 0, .int 0, .int 0, .ref (r 37), .ref (r 38)])), (r 5, .inl ((c 5), 2, .inl f5)), (r 35, .inl ((c 35), 21, .inl zf55))] H54 := by rw [ezf55]; exact hP
  have hD : va_D A [(r 0, .inr (8, [.ref (r 1), .ref (r 2), .int 0, .int 0, .int 0, .int (-1), .int 0, .int 0, .int 0, .int 0, .long 0, .ref (r 3), .ref (r 4), .ref (r 5), .ref (r 6), .ref (r 7), .ref (r 8), .ref (r 9), .ref (r 10), .ref (r 11), .ref (r 12), .ref (r 13), .ref (r 14), .ref (r 15), .ref (r 16), .ref (r 17), .ref (r 18), .ref (r 19), .ref (r 20), .ref (r 21), .ref (r 22), .ref (r 23), .ref (r 24), .int 0, .int 0, .int 0, .int 0, .int 0, .int 0, .int 0, .int 0, .int 0, .ref (r 25), .ref (r 26), .ref (r 27), .int 0, .int 0, .ref (r 28), .int 0, .ref (r 29), .ref (r 30), .ref (r 31), .ref (r 32), .ref (r 33), .ref (r 34), .ref (r 35), .ref (r 36), .int 0, .int 0, .int 0, .ref (r 37), .ref (r 38)])), (r 5, .inl ((c 5), 2, .inl f5)), (r 35, .inl ((c 35), 21, .inl zf55))] := by rw [ezf55]; exact hD
  refine lv_iinc (v := 18) (lv' := [(2, .int 18), (0, .ref (r 0)), (1, .int p0)]) hx hb dX9_layRows_20 hl (k := 0) rfl (by decide) (by decide) rfl (fun ls hl => ?_)
  refine lv_goto (tgt := 7) hx hb dX9_layRows_23 (by decide) ?_
  refine lv_iload_n hx hb dX9_layRows_7 rfl (lv_at hl 0 rfl) ?_
  refine lv_bipush (v := 21) hx hb dX9_layRows_8 (by decide) ?_
  refine lv_icmp_ge (tgt := 26) hx hb dX9_layRows_10 (by decide) (fun c_56 => absurd c_56 (by decide)) (fun c_56 => ?_)
  refine lv_aload_n hx hb dX9_layRows_13 rfl (lv_at hl 1 rfl) ?_
  refine va_get (D := (dC, dI)) (ci := 8) (v := .ref (r 35)) (C := RX9) (T := TX9) (N := 62) hx hb hG inX9 hown hK hP 0 rfl rfl 55 (by decide) (hG _ gw1226) (fun _ h9 => h9) rfl dX9_layRows_14 ?_
  refine lv_iload_n hx hb dX9_layRows_17 rfl (lv_at hl 0 rfl) ?_
  refine lv_iconst (v := 0) hx hb dX9_layRows_18 (by decide) ?_
  refine va_iast hx hb hK hP hD hS 2 1 rfl rfl (vin (by decide)) dX9_layRows_19 (fun H57 locs hP hD hS => ?_)
  obtain ⟨zf58, ezf58⟩ : ∃ z : Nat → Int32, z = upd zf55 (18 : Int32).toNatClampNeg 0 := ⟨_, rfl⟩
  have hP : va_P (dC, dI) vwCl [(r 0, .inr (8, [.ref (r 1), .ref (r 2), .int 0, .int 0, .int 0, .int (-1), .int 0, .int 0, .int 0, .int 0, .long 0, .ref (r 3), .ref (r 4), .ref (r 5), .ref (r 6), .ref (r 7), .ref (r 8), .ref (r 9), .ref (r 10), .ref (r 11), .ref (r 12), .ref (r 13), .ref (r 14), .ref (r 15), .ref (r 16), .ref (r 17), .ref (r 18), .ref (r 19), .ref (r 20), .ref (r 21), .ref (r 22), .ref (r 23), .ref (r 24), .int 0, .int 0, .int 0, .int 0, .int 0, .int 0, .int 0, .int 0, .int 0, .ref (r 25), .ref (r 26), .ref (r 27), .int 0, .int 0, .ref (r 28), .int 0, .ref (r 29), .ref (r 30), .ref (r 31), .ref (r 32), .ref (r 33), .ref (r 34), .ref (r 35), .ref (r 36), .int 0, .int 0, .int 0, .ref (r 37), .ref (r 38)])), (r 5, .inl ((c 5), 2, .inl f5)), (r 35, .inl ((c 35), 21, .inl zf58))] H57 := by rw [ezf58]; exact hP
  have hD : va_D A [(r 0, .inr (8, [.ref (r 1), .ref (r 2), .int 0, .int 0, .int 0, .int (-1), .int 0, .int 0, .int 0, .int 0, .long 0, .ref (r 3), .ref (r 4), .ref (r 5), .ref (r 6), .ref (r 7), .ref (r 8), .ref (r 9), .ref (r 10), .ref (r 11), .ref (r 12), .ref (r 13), .ref (r 14), .ref (r 15), .ref (r 16), .ref (r 17), .ref (r 18), .ref (r 19), .ref (r 20), .ref (r 21), .ref (r 22), .ref (r 23), .ref (r 24), .int 0, .int 0, .int 0, .int 0, .int 0, .int 0, .int 0, .int 0, .int 0, .ref (r 25), .ref (r 26), .ref (r 27), .int 0, .int 0, .ref (r 28), .int 0, .ref (r 29), .ref (r 30), .ref (r 31), .ref (r 32), .ref (r 33), .ref (r 34), .ref (r 35), .ref (r 36), .int 0, .int 0, .int 0, .ref (r 37), .ref (r 38)])), (r 5, .inl ((c 5), 2, .inl f5)), (r 35, .inl ((c 35), 21, .inl zf58))] := by rw [ezf58]; exact hD
  refine lv_iinc (v := 19) (lv' := [(2, .int 19), (0, .ref (r 0)), (1, .int p0)]) hx hb dX9_layRows_20 hl (k := 0) rfl (by decide) (by decide) rfl (fun ls hl => ?_)
  refine lv_goto (tgt := 7) hx hb dX9_layRows_23 (by decide) ?_
  refine lv_iload_n hx hb dX9_layRows_7 rfl (lv_at hl 0 rfl) ?_
  refine lv_bipush (v := 21) hx hb dX9_layRows_8 (by decide) ?_
  refine lv_icmp_ge (tgt := 26) hx hb dX9_layRows_10 (by decide) (fun c_59 => absurd c_59 (by decide)) (fun c_59 => ?_)
  refine lv_aload_n hx hb dX9_layRows_13 rfl (lv_at hl 1 rfl) ?_
  refine va_get (D := (dC, dI)) (ci := 8) (v := .ref (r 35)) (C := RX9) (T := TX9) (N := 62) hx hb hG inX9 hown hK hP 0 rfl rfl 55 (by decide) (hG _ gw1226) (fun _ h9 => h9) rfl dX9_layRows_14 ?_
  refine lv_iload_n hx hb dX9_layRows_17 rfl (lv_at hl 0 rfl) ?_
  refine lv_iconst (v := 0) hx hb dX9_layRows_18 (by decide) ?_
  refine va_iast hx hb hK hP hD hS 2 1 rfl rfl (vin (by decide)) dX9_layRows_19 (fun H60 locs hP hD hS => ?_)
  obtain ⟨zf61, ezf61⟩ : ∃ z : Nat → Int32, z = upd zf58 (19 : Int32).toNatClampNeg 0 := ⟨_, rfl⟩
  have hP : va_P (dC, dI) vwCl [(r 0, .inr (8, [.ref (r 1), .ref (r 2), .int 0, .int 0, .int 0, .int (-1), .int 0, .int 0, .int 0, .int 0, .long 0, .ref (r 3), .ref (r 4), .ref (r 5), .ref (r 6), .ref (r 7), .ref (r 8), .ref (r 9), .ref (r 10), .ref (r 11), .ref (r 12), .ref (r 13), .ref (r 14), .ref (r 15), .ref (r 16), .ref (r 17), .ref (r 18), .ref (r 19), .ref (r 20), .ref (r 21), .ref (r 22), .ref (r 23), .ref (r 24), .int 0, .int 0, .int 0, .int 0, .int 0, .int 0, .int 0, .int 0, .int 0, .ref (r 25), .ref (r 26), .ref (r 27), .int 0, .int 0, .ref (r 28), .int 0, .ref (r 29), .ref (r 30), .ref (r 31), .ref (r 32), .ref (r 33), .ref (r 34), .ref (r 35), .ref (r 36), .int 0, .int 0, .int 0, .ref (r 37), .ref (r 38)])), (r 5, .inl ((c 5), 2, .inl f5)), (r 35, .inl ((c 35), 21, .inl zf61))] H60 := by rw [ezf61]; exact hP
  have hD : va_D A [(r 0, .inr (8, [.ref (r 1), .ref (r 2), .int 0, .int 0, .int 0, .int (-1), .int 0, .int 0, .int 0, .int 0, .long 0, .ref (r 3), .ref (r 4), .ref (r 5), .ref (r 6), .ref (r 7), .ref (r 8), .ref (r 9), .ref (r 10), .ref (r 11), .ref (r 12), .ref (r 13), .ref (r 14), .ref (r 15), .ref (r 16), .ref (r 17), .ref (r 18), .ref (r 19), .ref (r 20), .ref (r 21), .ref (r 22), .ref (r 23), .ref (r 24), .int 0, .int 0, .int 0, .int 0, .int 0, .int 0, .int 0, .int 0, .int 0, .ref (r 25), .ref (r 26), .ref (r 27), .int 0, .int 0, .ref (r 28), .int 0, .ref (r 29), .ref (r 30), .ref (r 31), .ref (r 32), .ref (r 33), .ref (r 34), .ref (r 35), .ref (r 36), .int 0, .int 0, .int 0, .ref (r 37), .ref (r 38)])), (r 5, .inl ((c 5), 2, .inl f5)), (r 35, .inl ((c 35), 21, .inl zf61))] := by rw [ezf61]; exact hD
  refine lv_iinc (v := 20) (lv' := [(2, .int 20), (0, .ref (r 0)), (1, .int p0)]) hx hb dX9_layRows_20 hl (k := 0) rfl (by decide) (by decide) rfl (fun ls hl => ?_)
  refine lv_goto (tgt := 7) hx hb dX9_layRows_23 (by decide) ?_
  refine lv_iload_n hx hb dX9_layRows_7 rfl (lv_at hl 0 rfl) ?_
  refine lv_bipush (v := 21) hx hb dX9_layRows_8 (by decide) ?_
  refine lv_icmp_ge (tgt := 26) hx hb dX9_layRows_10 (by decide) (fun c_62 => absurd c_62 (by decide)) (fun c_62 => ?_)
  refine lv_aload_n hx hb dX9_layRows_13 rfl (lv_at hl 1 rfl) ?_
  refine va_get (D := (dC, dI)) (ci := 8) (v := .ref (r 35)) (C := RX9) (T := TX9) (N := 62) hx hb hG inX9 hown hK hP 0 rfl rfl 55 (by decide) (hG _ gw1226) (fun _ h9 => h9) rfl dX9_layRows_14 ?_
  refine lv_iload_n hx hb dX9_layRows_17 rfl (lv_at hl 0 rfl) ?_
  refine lv_iconst (v := 0) hx hb dX9_layRows_18 (by decide) ?_
  refine va_iast hx hb hK hP hD hS 2 1 rfl rfl (vin (by decide)) dX9_layRows_19 (fun H63 locs hP hD hS => ?_)
  obtain ⟨zf64, ezf64⟩ : ∃ z : Nat → Int32, z = upd zf61 (20 : Int32).toNatClampNeg 0 := ⟨_, rfl⟩
  have hP : va_P (dC, dI) vwCl [(r 0, .inr (8, [.ref (r 1), .ref (r 2), .int 0, .int 0, .int 0, .int (-1), .int 0, .int 0, .int 0, .int 0, .long 0, .ref (r 3), .ref (r 4), .ref (r 5), .ref (r 6), .ref (r 7), .ref (r 8), .ref (r 9), .ref (r 10), .ref (r 11), .ref (r 12), .ref (r 13), .ref (r 14), .ref (r 15), .ref (r 16), .ref (r 17), .ref (r 18), .ref (r 19), .ref (r 20), .ref (r 21), .ref (r 22), .ref (r 23), .ref (r 24), .int 0, .int 0, .int 0, .int 0, .int 0, .int 0, .int 0, .int 0, .int 0, .ref (r 25), .ref (r 26), .ref (r 27), .int 0, .int 0, .ref (r 28), .int 0, .ref (r 29), .ref (r 30), .ref (r 31), .ref (r 32), .ref (r 33), .ref (r 34), .ref (r 35), .ref (r 36), .int 0, .int 0, .int 0, .ref (r 37), .ref (r 38)])), (r 5, .inl ((c 5), 2, .inl f5)), (r 35, .inl ((c 35), 21, .inl zf64))] H63 := by rw [ezf64]; exact hP
  have hD : va_D A [(r 0, .inr (8, [.ref (r 1), .ref (r 2), .int 0, .int 0, .int 0, .int (-1), .int 0, .int 0, .int 0, .int 0, .long 0, .ref (r 3), .ref (r 4), .ref (r 5), .ref (r 6), .ref (r 7), .ref (r 8), .ref (r 9), .ref (r 10), .ref (r 11), .ref (r 12), .ref (r 13), .ref (r 14), .ref (r 15), .ref (r 16), .ref (r 17), .ref (r 18), .ref (r 19), .ref (r 20), .ref (r 21), .ref (r 22), .ref (r 23), .ref (r 24), .int 0, .int 0, .int 0, .int 0, .int 0, .int 0, .int 0, .int 0, .int 0, .ref (r 25), .ref (r 26), .ref (r 27), .int 0, .int 0, .ref (r 28), .int 0, .ref (r 29), .ref (r 30), .ref (r 31), .ref (r 32), .ref (r 33), .ref (r 34), .ref (r 35), .ref (r 36), .int 0, .int 0, .int 0, .ref (r 37), .ref (r 38)])), (r 5, .inl ((c 5), 2, .inl f5)), (r 35, .inl ((c 35), 21, .inl zf64))] := by rw [ezf64]; exact hD
  refine lv_iinc (v := 21) (lv' := [(2, .int 21), (0, .ref (r 0)), (1, .int p0)]) hx hb dX9_layRows_20 hl (k := 0) rfl (by decide) (by decide) rfl (fun ls hl => ?_)
  refine lv_goto (tgt := 7) hx hb dX9_layRows_23 (by decide) ?_
  refine lv_iload_n hx hb dX9_layRows_7 rfl (lv_at hl 0 rfl) ?_
  refine lv_bipush (v := 21) hx hb dX9_layRows_8 (by decide) ?_
  refine lv_icmp_ge (tgt := 26) hx hb dX9_layRows_10 (by decide) (fun c_65 => ?_) (fun c_65 => absurd (by decide) c_65)
  refine lv_aload_n hx hb dX9_layRows_26 rfl (lv_at hl 1 rfl) ?_
  have hPc := hP.sub (ws' := [(r 0, .inr (8, [.ref (r 1), .ref (r 2), .int 0, .int 0, .int 0, .int (-1), .int 0, .int 0, .int 0, .int 0, .long 0, .ref (r 3), .ref (r 4), .ref (r 5), .ref (r 6), .ref (r 7), .ref (r 8), .ref (r 9), .ref (r 10), .ref (r 11), .ref (r 12), .ref (r 13), .ref (r 14), .ref (r 15), .ref (r 16), .ref (r 17), .ref (r 18), .ref (r 19), .ref (r 20), .ref (r 21), .ref (r 22), .ref (r 23), .ref (r 24), .int 0, .int 0, .int 0, .int 0, .int 0, .int 0, .int 0, .int 0, .int 0, .ref (r 25), .ref (r 26), .ref (r 27), .int 0, .int 0, .ref (r 28), .int 0, .ref (r 29), .ref (r 30), .ref (r 31), .ref (r 32), .ref (r 33), .ref (r 34), .ref (r 35), .ref (r 36), .int 0, .int 0, .int 0, .ref (r 37), .ref (r 38)])), (r 5, .inl ((c 5), 2, .inl f5))]) [0, 1] rfl
  have hKc := hK.sub (tys' := [((c 5), .int)]) [0] rfl
  have hDc := hD.sub (ws' := [(r 0, .inr (8, [.ref (r 1), .ref (r 2), .int 0, .int 0, .int 0, .int (-1), .int 0, .int 0, .int 0, .int 0, .long 0, .ref (r 3), .ref (r 4), .ref (r 5), .ref (r 6), .ref (r 7), .ref (r 8), .ref (r 9), .ref (r 10), .ref (r 11), .ref (r 12), .ref (r 13), .ref (r 14), .ref (r 15), .ref (r 16), .ref (r 17), .ref (r 18), .ref (r 19), .ref (r 20), .ref (r 21), .ref (r 22), .ref (r 23), .ref (r 24), .int 0, .int 0, .int 0, .int 0, .int 0, .int 0, .int 0, .int 0, .int 0, .ref (r 25), .ref (r 26), .ref (r 27), .int 0, .int 0, .ref (r 28), .int 0, .ref (r 29), .ref (r 30), .ref (r 31), .ref (r 32), .ref (r 33), .ref (r 34), .ref (r 35), .ref (r 36), .int 0, .int 0, .int 0, .ref (r 37), .ref (r 38)])), (r 5, .inl ((c 5), 2, .inl f5))]) [0, 1] (by decide) rfl
  have hFc := va_free (wc := [(r 0, .inr (8, [.ref (r 1), .ref (r 2), .int 0, .int 0, .int 0, .int (-1), .int 0, .int 0, .int 0, .int 0, .long 0, .ref (r 3), .ref (r 4), .ref (r 5), .ref (r 6), .ref (r 7), .ref (r 8), .ref (r 9), .ref (r 10), .ref (r 11), .ref (r 12), .ref (r 13), .ref (r 14), .ref (r 15), .ref (r 16), .ref (r 17), .ref (r 18), .ref (r 19), .ref (r 20), .ref (r 21), .ref (r 22), .ref (r 23), .ref (r 24), .int 0, .int 0, .int 0, .int 0, .int 0, .int 0, .int 0, .int 0, .int 0, .ref (r 25), .ref (r 26), .ref (r 27), .int 0, .int 0, .ref (r 28), .int 0, .ref (r 29), .ref (r 30), .ref (r 31), .ref (r 32), .ref (r 33), .ref (r 34), .ref (r 35), .ref (r 36), .int 0, .int 0, .int 0, .ref (r 37), .ref (r 38)])), (r 5, .inl ((c 5), 2, .inl f5))]) hD hS hA [0, 1] rfl
  refine va_calli (va_runV (As := []) (rest := []) ⟨hx, hb, hml, hown, hG⟩ (kX9_homes l dC dI r c f5 H63.size hf5_0) (cwV 0 hG (goodV gw1167 gw1169 gw58 gw138 gw1170) rfl rfl rfl hd_X9_homes ⟨(Nat.le_of_ble_eq_true rfl), (Nat.le_of_ble_eq_true rfl)⟩) ⟨fbW, va_recv hKc hPc (ci := 8) (q0 := 0) rfl rfl, pW_in hPc hKc hDc⟩ rfl rfl hl.1 rfl (lv_room (Nat.le_of_ble_eq_true rfl)) dX9_layRows_27 ⟨(Nat.le_of_ble_eq_true rfl), (Nat.le_of_ble_eq_true rfl)⟩) hS (fun q _ h => hFc q h) hFc (fun r_67 u t H66 locs ht hvm hw hB hz1 hk1 hS => ?_)
  obtain ⟨hP1, hD1⟩ := hB
  rw [ht] at hP1
  obtain ⟨hP, hD⟩ := va_join (wr := [(r 35, .inl ((c 35), 21, .inl zf64))]) (w1 := [(r 0, .inr (8, [.ref (r 1), .ref (r 2), .int 0, .int 0, .int 0, .int (-1), .int 0, .int 0, .int 0, .int 0, .long 0, .ref (r 3), .ref (r 4), .ref (r 5), .ref (r 6), .ref (r 7), .ref (r 8), .ref (r 9), .ref (r 10), .ref (r 11), .ref (r 12), .ref (r 13), .ref (r 14), .ref (r 15), .ref (r 16), .ref (r 17), .ref (r 18), .ref (r 19), .ref (r 20), .ref (r 21), .ref (r 22), .ref (r 23), .ref (r 24), .int 0, .int 0, .int 0, .int 0, .int 0, .int 0, .int 0, .int 0, .int 0, .ref (r 25), .ref (r 26), .ref (r 27), .int 0, .int 0, .ref (r 28), .int 0, .ref (r 29), .ref (r 30), .ref (r 31), .ref (r 32), .ref (r 33), .ref (r 34), .ref (r 35), .ref (r 36), .int 0, .int 0, .int 0, .ref (r 37), .ref (r 38)])), (r 5, .inl ((c 5), 2, .inl f5))]) hP hD [0, 1] [2] rfl rfl (by decide) (by decide) hk1 hFc hP1 hD1
  have hP : va_P (dC, dI) vwCl [(r 35, .inl ((c 35), 21, .inl zf64)), (r 0, .inr (8, [.ref (r 1), .ref (r 2), .int 0, .int 0, .int 0, .int (-1), .int 0, .int 0, .int 0, .int 0, .long 0, .ref (r 3), .ref (r 4), .ref (r 5), .ref (r 6), .ref (r 7), .ref (r 8), .ref (r 9), .ref (r 10), .ref (r 11), .ref (r 12), .ref (r 13), .ref (r 14), .ref (r 15), .ref (r 16), .ref (r 17), .ref (r 18), .ref (r 19), .ref (r 20), .ref (r 21), .ref (r 22), .ref (r 23), .ref (r 24), .int 0, .int 0, .int 0, .int 0, .int 0, .int 0, .int 0, .int 0, .int 0, .ref (r 25), .ref (r 26), .ref (r 27), .int 0, .int 0, .ref (r 28), .int 0, .ref (r 29), .ref (r 30), .ref (r 31), .ref (r 32), .ref (r 33), .ref (r 34), .ref (r 35), .ref (r 36), .int 0, .int 0, .int 0, .ref (r 37), .ref (r 38)])), (r 5, .inl ((c 5), 2, .inl f5))] H66 := hP
  have hD : va_D A [(r 35, .inl ((c 35), 21, .inl zf64)), (r 0, .inr (8, [.ref (r 1), .ref (r 2), .int 0, .int 0, .int 0, .int (-1), .int 0, .int 0, .int 0, .int 0, .long 0, .ref (r 3), .ref (r 4), .ref (r 5), .ref (r 6), .ref (r 7), .ref (r 8), .ref (r 9), .ref (r 10), .ref (r 11), .ref (r 12), .ref (r 13), .ref (r 14), .ref (r 15), .ref (r 16), .ref (r 17), .ref (r 18), .ref (r 19), .ref (r 20), .ref (r 21), .ref (r 22), .ref (r 23), .ref (r 24), .int 0, .int 0, .int 0, .int 0, .int 0, .int 0, .int 0, .int 0, .int 0, .ref (r 25), .ref (r 26), .ref (r 27), .int 0, .int 0, .ref (r 28), .int 0, .ref (r 29), .ref (r 30), .ref (r 31), .ref (r 32), .ref (r 33), .ref (r 34), .ref (r 35), .ref (r 36), .int 0, .int 0, .int 0, .ref (r 37), .ref (r 38)])), (r 5, .inl ((c 5), 2, .inl f5))] := hD
  refine wt_c (v := 0) hw ?_
  refine lv_if_ne (tgt := 34) hx hb dX9_layRows_30 (by decide) (fun c_68 => absurd (by decide) c_68) (fun c_68 => ?_)
  have hP9 := hP.sub (ws' := [(r 0, .inr (8, [.ref (r 1), .ref (r 2), .int 0, .int 0, .int 0, .int (-1), .int 0, .int 0, .int 0, .int 0, .long 0, .ref (r 3), .ref (r 4), .ref (r 5), .ref (r 6), .ref (r 7), .ref (r 8), .ref (r 9), .ref (r 10), .ref (r 11), .ref (r 12), .ref (r 13), .ref (r 14), .ref (r 15), .ref (r 16), .ref (r 17), .ref (r 18), .ref (r 19), .ref (r 20), .ref (r 21), .ref (r 22), .ref (r 23), .ref (r 24), .int 0, .int 0, .int 0, .int 0, .int 0, .int 0, .int 0, .int 0, .int 0, .ref (r 25), .ref (r 26), .ref (r 27), .int 0, .int 0, .ref (r 28), .int 0, .ref (r 29), .ref (r 30), .ref (r 31), .ref (r 32), .ref (r 33), .ref (r 34), .ref (r 35), .ref (r 36), .int 0, .int 0, .int 0, .ref (r 37), .ref (r 38)])), (r 5, .inl ((c 5), 2, .inl f5)), (r 35, .inl ((c 35), 21, .inl zf64))]) [1, 2, 0] rfl
  have hD9 := hD.sub (ws' := [(r 0, .inr (8, [.ref (r 1), .ref (r 2), .int 0, .int 0, .int 0, .int (-1), .int 0, .int 0, .int 0, .int 0, .long 0, .ref (r 3), .ref (r 4), .ref (r 5), .ref (r 6), .ref (r 7), .ref (r 8), .ref (r 9), .ref (r 10), .ref (r 11), .ref (r 12), .ref (r 13), .ref (r 14), .ref (r 15), .ref (r 16), .ref (r 17), .ref (r 18), .ref (r 19), .ref (r 20), .ref (r 21), .ref (r 22), .ref (r 23), .ref (r 24), .int 0, .int 0, .int 0, .int 0, .int 0, .int 0, .int 0, .int 0, .int 0, .ref (r 25), .ref (r 26), .ref (r 27), .int 0, .int 0, .ref (r 28), .int 0, .ref (r 29), .ref (r 30), .ref (r 31), .ref (r 32), .ref (r 33), .ref (r 34), .ref (r 35), .ref (r 36), .int 0, .int 0, .int 0, .ref (r 37), .ref (r 38)])), (r 5, .inl ((c 5), 2, .inl f5)), (r 35, .inl ((c 35), 21, .inl zf64))]) [1, 2, 0] (by decide) rfl
  exact W.vret hx hb hr (fun t ht hW => ⟨⟨(), rfl, trivial, ⟨zf64, by rw [ht]; exact hP9, hD9⟩⟩, hS.F ht⟩) hS.2.2 dX9_layRows_33
set_option maxHeartbeats 4000000 in
set_option maxRecDepth 100000 in
theorem kX9_rows (l : Launch) (dC : Nat → ClassId) (dI : Nat → Nat → Nat) (r : Nat → Nat) (c : Nat → ClassId) (f5 : Nat → Int32) (p0 : Int32) (sz : Nat) (hf5_0 : f5 0 = 0) : Met l yX9_rows (.code yX9_rows cX9_rows 2 (some .int) :: GW) { frames := 6, cells := 0, slots := 0, locals := 223 } (va_Pc [.ref (r 0), .int p0] (pW (dC, dI) [(r 0, .inr (8, [.ref (r 1), .ref (r 2), .int 0, .int 0, .int 0, .int (-1), .int 0, .int 0, .int 0, .int 0, .long 0, .ref (r 3), .ref (r 4), .ref (r 5), .ref (r 6), .ref (r 7), .ref (r 8), .ref (r 9), .ref (r 10), .ref (r 11), .ref (r 12), .ref (r 13), .ref (r 14), .ref (r 15), .ref (r 16), .ref (r 17), .ref (r 18), .ref (r 19), .ref (r 20), .ref (r 21), .ref (r 22), .ref (r 23), .ref (r 24), .int 0, .int 0, .int 0, .int 0, .int 0, .int 0, .int 0, .int 0, .int 0, .ref (r 25), .ref (r 26), .ref (r 27), .int 0, .int 0, .ref (r 28), .int 0, .ref (r 29), .ref (r 30), .ref (r 31), .ref (r 32), .ref (r 33), .ref (r 34), .ref (r 35), .ref (r 36), .int 0, .int 0, .int 0, .ref (r 37), .ref (r 38)])), (r 5, .inl ((c 5), 2, .inl f5)), (r 35, .inl ((c 35), 21, .inl (fun _ => 0)))] [((c 5), .int), ((c 35), .int)] sz)) (va_Qi (fun (r0 : Int32) (_ : Unit) => r0 = 0) (fun _ _ => True) (va_A [(r 0, .inr (8, [.ref (r 1), .ref (r 2), .int 0, .int 0, .int 0, .int (-1), .int 0, .int 0, .int 0, .int 0, .long 0, .ref (r 3), .ref (r 4), .ref (r 5), .ref (r 6), .ref (r 7), .ref (r 8), .ref (r 9), .ref (r 10), .ref (r 11), .ref (r 12), .ref (r 13), .ref (r 14), .ref (r 15), .ref (r 16), .ref (r 17), .ref (r 18), .ref (r 19), .ref (r 20), .ref (r 21), .ref (r 22), .ref (r 23), .ref (r 24), .int 0, .int 0, .int 0, .int 0, .int 0, .int 0, .int 0, .int 0, .int 0, .ref (r 25), .ref (r 26), .ref (r 27), .int 0, .int 0, .ref (r 28), .int 0, .ref (r 29), .ref (r 30), .ref (r 31), .ref (r 32), .ref (r 33), .ref (r 34), .ref (r 35), .ref (r 36), .int 0, .int 0, .int 0, .ref (r 37), .ref (r 38)])), (r 5, .inl ((c 5), 2, .inl f5)), (r 35, .inl ((c 35), 21, .inl (fun _ => 0)))] sz)) 0 0 (va_A [(r 0, .inr (8, [.ref (r 1), .ref (r 2), .int 0, .int 0, .int 0, .int (-1), .int 0, .int 0, .int 0, .int 0, .long 0, .ref (r 3), .ref (r 4), .ref (r 5), .ref (r 6), .ref (r 7), .ref (r 8), .ref (r 9), .ref (r 10), .ref (r 11), .ref (r 12), .ref (r 13), .ref (r 14), .ref (r 15), .ref (r 16), .ref (r 17), .ref (r 18), .ref (r 19), .ref (r 20), .ref (r 21), .ref (r 22), .ref (r 23), .ref (r 24), .int 0, .int 0, .int 0, .int 0, .int 0, .int 0, .int 0, .int 0, .int 0, .ref (r 25), .ref (r 26), .ref (r 27), .int 0, .int 0, .ref (r 28), .int 0, .ref (r 29), .ref (r 30), .ref (r 31), .ref (r 32), .ref (r 33), .ref (r 34), .ref (r 35), .ref (r 36), .int 0, .int 0, .int 0, .ref (r 37), .ref (r 38)])), (r 5, .inl ((c 5), 2, .inl f5)), (r 35, .inl ((c 35), 21, .inl (fun _ => 0)))] sz) := by
  refine Met.ofW (cc := cX9_rows) (maxL := 2) (ret := (some .int)) (by decide) rfl ?_
  intro p e s m args below meth c0 s₁ B hml hv
  obtain ⟨rfl, hsz, hP, hK, hD0⟩ := hv
  have hx := B.exec
  have hb := B.bytes
  have hr := B.returns
  have hts := atoms_spec (ws := .code yX9_rows cX9_rows 2 (some .int) :: GW) B.pre
  have hG : ∀ w ∈ GW, w.before _ s = true := fun w h => hts w (List.mem_cons_of_mem _ h)
  have hown : s.vm.findClass RX9 = some m.cls := findClass_of_methodNamed B.named
  have hlocks := B.notSynchronized
  subst hsz
  have hD := hD0.self (sz := s.heap.size)
  generalize hAe : va_A [(r 0, .inr (8, [.ref (r 1), .ref (r 2), .int 0, .int 0, .int 0, .int (-1), .int 0, .int 0, .int 0, .int 0, .long 0, .ref (r 3), .ref (r 4), .ref (r 5), .ref (r 6), .ref (r 7), .ref (r 8), .ref (r 9), .ref (r 10), .ref (r 11), .ref (r 12), .ref (r 13), .ref (r 14), .ref (r 15), .ref (r 16), .ref (r 17), .ref (r 18), .ref (r 19), .ref (r 20), .ref (r 21), .ref (r 22), .ref (r 23), .ref (r 24), .int 0, .int 0, .int 0, .int 0, .int 0, .int 0, .int 0, .int 0, .int 0, .ref (r 25), .ref (r 26), .ref (r 27), .int 0, .int 0, .ref (r 28), .int 0, .ref (r 29), .ref (r 30), .ref (r 31), .ref (r 32), .ref (r 33), .ref (r 34), .ref (r 35), .ref (r 36), .int 0, .int 0, .int 0, .ref (r 37), .ref (r 38)])), (r 5, .inl ((c 5), 2, .inl f5)), (r 35, .inl ((c 35), 21, .inl (fun _ => 0)))] s.heap.size = A at hD ⊢
  have hA : ∀ q : Nat, s.heap.size ≤ q → A q := fun q h => by rw [← hAe]; exact Or.inr h
  have hS : va_S A s.heap s.heap [] := va_S.rf
  have hP : va_P (dC, dI) vwCl [(r 0, .inr (8, [.ref (r 1), .ref (r 2), .int 0, .int 0, .int 0, .int (-1), .int 0, .int 0, .int 0, .int 0, .long 0, .ref (r 3), .ref (r 4), .ref (r 5), .ref (r 6), .ref (r 7), .ref (r 8), .ref (r 9), .ref (r 10), .ref (r 11), .ref (r 12), .ref (r 13), .ref (r 14), .ref (r 15), .ref (r 16), .ref (r 17), .ref (r 18), .ref (r 19), .ref (r 20), .ref (r 21), .ref (r 22), .ref (r 23), .ref (r 24), .int 0, .int 0, .int 0, .int 0, .int 0, .int 0, .int 0, .int 0, .int 0, .ref (r 25), .ref (r 26), .ref (r 27), .int 0, .int 0, .ref (r 28), .int 0, .ref (r 29), .ref (r 30), .ref (r 31), .ref (r 32), .ref (r 33), .ref (r 34), .ref (r 35), .ref (r 36), .int 0, .int 0, .int 0, .ref (r 37), .ref (r 38)])), (r 5, .inl ((c 5), 2, .inl f5)), (r 35, .inl ((c 35), 21, .inl (fun _ => 0)))] s.heap := hP
  have hl := lv_entry ([.ref (r 0), .int p0]) (n := 2) (Nat.le_of_ble_eq_true rfl)
  rw [lg_entry_eq]
  generalize (lg_sl ([.ref (r 0), .int p0]) ++ List.replicate (2 - (lg_sl ([.ref (r 0), .int p0])).length) Slot.unset).toArray = ls at hl ⊢
  have hl : lv_has ls 2 [(0, .ref (r 0)), (1, .int p0)] := hl
  refine lv_aload_n hx hb dX9_rows_0 rfl (lv_at hl 0 rfl) ?_
  refine lv_iload_n hx hb dX9_rows_1 rfl (lv_at hl 1 rfl) ?_
  have hPc := hP.sub (ws' := [(r 0, .inr (8, [.ref (r 1), .ref (r 2), .int 0, .int 0, .int 0, .int (-1), .int 0, .int 0, .int 0, .int 0, .long 0, .ref (r 3), .ref (r 4), .ref (r 5), .ref (r 6), .ref (r 7), .ref (r 8), .ref (r 9), .ref (r 10), .ref (r 11), .ref (r 12), .ref (r 13), .ref (r 14), .ref (r 15), .ref (r 16), .ref (r 17), .ref (r 18), .ref (r 19), .ref (r 20), .ref (r 21), .ref (r 22), .ref (r 23), .ref (r 24), .int 0, .int 0, .int 0, .int 0, .int 0, .int 0, .int 0, .int 0, .int 0, .ref (r 25), .ref (r 26), .ref (r 27), .int 0, .int 0, .ref (r 28), .int 0, .ref (r 29), .ref (r 30), .ref (r 31), .ref (r 32), .ref (r 33), .ref (r 34), .ref (r 35), .ref (r 36), .int 0, .int 0, .int 0, .ref (r 37), .ref (r 38)])), (r 5, .inl ((c 5), 2, .inl f5)), (r 35, .inl ((c 35), 21, .inl (fun _ => 0)))]) [0, 1, 2] rfl
  have hKc := hK.sub (tys' := [((c 5), .int), ((c 35), .int)]) [0, 1] rfl
  have hDc := hD.sub (ws' := [(r 0, .inr (8, [.ref (r 1), .ref (r 2), .int 0, .int 0, .int 0, .int (-1), .int 0, .int 0, .int 0, .int 0, .long 0, .ref (r 3), .ref (r 4), .ref (r 5), .ref (r 6), .ref (r 7), .ref (r 8), .ref (r 9), .ref (r 10), .ref (r 11), .ref (r 12), .ref (r 13), .ref (r 14), .ref (r 15), .ref (r 16), .ref (r 17), .ref (r 18), .ref (r 19), .ref (r 20), .ref (r 21), .ref (r 22), .ref (r 23), .ref (r 24), .int 0, .int 0, .int 0, .int 0, .int 0, .int 0, .int 0, .int 0, .int 0, .ref (r 25), .ref (r 26), .ref (r 27), .int 0, .int 0, .ref (r 28), .int 0, .ref (r 29), .ref (r 30), .ref (r 31), .ref (r 32), .ref (r 33), .ref (r 34), .ref (r 35), .ref (r 36), .int 0, .int 0, .int 0, .ref (r 37), .ref (r 38)])), (r 5, .inl ((c 5), 2, .inl f5)), (r 35, .inl ((c 35), 21, .inl (fun _ => 0)))]) [0, 1, 2] (by decide) rfl
  have hFc := va_free (wc := [(r 0, .inr (8, [.ref (r 1), .ref (r 2), .int 0, .int 0, .int 0, .int (-1), .int 0, .int 0, .int 0, .int 0, .long 0, .ref (r 3), .ref (r 4), .ref (r 5), .ref (r 6), .ref (r 7), .ref (r 8), .ref (r 9), .ref (r 10), .ref (r 11), .ref (r 12), .ref (r 13), .ref (r 14), .ref (r 15), .ref (r 16), .ref (r 17), .ref (r 18), .ref (r 19), .ref (r 20), .ref (r 21), .ref (r 22), .ref (r 23), .ref (r 24), .int 0, .int 0, .int 0, .int 0, .int 0, .int 0, .int 0, .int 0, .int 0, .ref (r 25), .ref (r 26), .ref (r 27), .int 0, .int 0, .ref (r 28), .int 0, .ref (r 29), .ref (r 30), .ref (r 31), .ref (r 32), .ref (r 33), .ref (r 34), .ref (r 35), .ref (r 36), .int 0, .int 0, .int 0, .ref (r 37), .ref (r 38)])), (r 5, .inl ((c 5), 2, .inl f5)), (r 35, .inl ((c 35), 21, .inl (fun _ => 0)))]) hD hS hA [0, 1, 2] rfl
  refine va_callv (va_runV (As := [.int p0]) (rest := []) ⟨hx, hb, hml, hown, hG⟩ (kX9_layRows l dC dI r c f5 p0 s.heap.size hf5_0) (cwV 1 hG (goodV gw1834 gw1836 gw122 gw138 gw1837) rfl rfl rfl hd_X9_layRows ⟨(Nat.le_of_ble_eq_true rfl), (Nat.le_of_ble_eq_true rfl)⟩) ⟨fbW, va_recv hKc hPc (ci := 8) (q0 := 0) rfl rfl, pW_in hPc hKc hDc⟩ rfl rfl hl.1 rfl (lv_room (Nat.le_of_ble_eq_true rfl)) dX9_rows_2 ⟨(Nat.le_of_ble_eq_true rfl), (Nat.le_of_ble_eq_true rfl)⟩) hS (fun q _ h => hFc q h) hFc (fun u t H1 locs ht hvm hw hB hz1 hk1 hS => ?_)
  obtain ⟨zf3, hP1, hD1⟩ := hB
  rw [ht] at hP1
  obtain ⟨hP, hD⟩ := va_join (wr := []) (w1 := [(r 0, .inr (8, [.ref (r 1), .ref (r 2), .int 0, .int 0, .int 0, .int (-1), .int 0, .int 0, .int 0, .int 0, .long 0, .ref (r 3), .ref (r 4), .ref (r 5), .ref (r 6), .ref (r 7), .ref (r 8), .ref (r 9), .ref (r 10), .ref (r 11), .ref (r 12), .ref (r 13), .ref (r 14), .ref (r 15), .ref (r 16), .ref (r 17), .ref (r 18), .ref (r 19), .ref (r 20), .ref (r 21), .ref (r 22), .ref (r 23), .ref (r 24), .int 0, .int 0, .int 0, .int 0, .int 0, .int 0, .int 0, .int 0, .int 0, .ref (r 25), .ref (r 26), .ref (r 27), .int 0, .int 0, .ref (r 28), .int 0, .ref (r 29), .ref (r 30), .ref (r 31), .ref (r 32), .ref (r 33), .ref (r 34), .ref (r 35), .ref (r 36), .int 0, .int 0, .int 0, .ref (r 37), .ref (r 38)])), (r 5, .inl ((c 5), 2, .inl f5)), (r 35, .inl ((c 35), 21, .inl zf3))]) hP hD [0, 1, 2] [] rfl rfl (by decide) (by decide) hk1 hFc hP1 hD1
  have hP : va_P (dC, dI) vwCl [(r 0, .inr (8, [.ref (r 1), .ref (r 2), .int 0, .int 0, .int 0, .int (-1), .int 0, .int 0, .int 0, .int 0, .long 0, .ref (r 3), .ref (r 4), .ref (r 5), .ref (r 6), .ref (r 7), .ref (r 8), .ref (r 9), .ref (r 10), .ref (r 11), .ref (r 12), .ref (r 13), .ref (r 14), .ref (r 15), .ref (r 16), .ref (r 17), .ref (r 18), .ref (r 19), .ref (r 20), .ref (r 21), .ref (r 22), .ref (r 23), .ref (r 24), .int 0, .int 0, .int 0, .int 0, .int 0, .int 0, .int 0, .int 0, .int 0, .ref (r 25), .ref (r 26), .ref (r 27), .int 0, .int 0, .ref (r 28), .int 0, .ref (r 29), .ref (r 30), .ref (r 31), .ref (r 32), .ref (r 33), .ref (r 34), .ref (r 35), .ref (r 36), .int 0, .int 0, .int 0, .ref (r 37), .ref (r 38)])), (r 5, .inl ((c 5), 2, .inl f5)), (r 35, .inl ((c 35), 21, .inl zf3))] H1 := hP
  have hD : va_D A [(r 0, .inr (8, [.ref (r 1), .ref (r 2), .int 0, .int 0, .int 0, .int (-1), .int 0, .int 0, .int 0, .int 0, .long 0, .ref (r 3), .ref (r 4), .ref (r 5), .ref (r 6), .ref (r 7), .ref (r 8), .ref (r 9), .ref (r 10), .ref (r 11), .ref (r 12), .ref (r 13), .ref (r 14), .ref (r 15), .ref (r 16), .ref (r 17), .ref (r 18), .ref (r 19), .ref (r 20), .ref (r 21), .ref (r 22), .ref (r 23), .ref (r 24), .int 0, .int 0, .int 0, .int 0, .int 0, .int 0, .int 0, .int 0, .int 0, .ref (r 25), .ref (r 26), .ref (r 27), .int 0, .int 0, .ref (r 28), .int 0, .ref (r 29), .ref (r 30), .ref (r 31), .ref (r 32), .ref (r 33), .ref (r 34), .ref (r 35), .ref (r 36), .int 0, .int 0, .int 0, .ref (r 37), .ref (r 38)])), (r 5, .inl ((c 5), 2, .inl f5)), (r 35, .inl ((c 35), 21, .inl zf3))] := hD
  refine lv_aload_n hx hb dX9_rows_5 rfl (lv_at hl 0 rfl) ?_
  refine va_get (D := (dC, dI)) (ci := 8) (v := .int 0) (C := RX9) (T := TX9) (N := 62) hx hb hG inX9 hown hK hP 0 rfl rfl 59 (by decide) (hG _ gw1230) (fun _ h9 => h9) rfl dX9_rows_6 ?_
  exact W.iret (v := 0) hx hb hr (fun t ht hW => ⟨⟨0, (), rfl, rfl, trivial⟩, hS.F ht⟩) hS.2.2 dX9_rows_9
set_option maxHeartbeats 4000000 in
set_option maxRecDepth 100000 in
theorem kX8_sure (l : Launch) (dC : Nat → ClassId) (dI : Nat → Nat → Nat) (r : Nat → Nat) (c : Nat → ClassId) (p0 p1 : Int32) (sz : Nat) : Met l yX8_sure (.code yX8_sure cX8_sure 3 (some .int) :: GW) { frames := 4, cells := 0, slots := 0, locals := 164 } (va_Pc [.ref (r 0), .int p0, .int p1] (pW (dC, dI) [(r 0, .inr (7, [.ref (r 1), .int 0, .ref (r 2), .ref (r 55), .ref (r 57), .ref (r 30), .ref (r 56), .ref (r 36), .ref (r 37), .ref (r 38), .int 0, .ref (r 51), .int 0, .ref (r 52), .ref (r 53), .ref (r 54)])), (r 38, .inr (2, [.int 0, .ref (r 39), .ref (r 40), .ref (r 41), .ref (r 42), .ref (r 43), .ref (r 44), .int 0, .ref (r 45), .ref (r 46), .ref (r 47), .ref (r 48), .ref (r 49), .ref (r 50)])), (r 55, .inr (3, [.int 1, .int 0, .int 0, .int 0, .ref (r 20), .ref (r 21), .ref (r 22), .int 0, .ref (r 23), .ref (r 24), .ref (r 25), .int 0, .ref (r 28), .ref (r 27)]))] [] sz)) (va_Qi (fun (r0 : Int32) (_ : Unit) => r0 = (-1)) (fun _ _ => True) (va_A [(r 0, .inr (7, [.ref (r 1), .int 0, .ref (r 2), .ref (r 55), .ref (r 57), .ref (r 30), .ref (r 56), .ref (r 36), .ref (r 37), .ref (r 38), .int 0, .ref (r 51), .int 0, .ref (r 52), .ref (r 53), .ref (r 54)])), (r 38, .inr (2, [.int 0, .ref (r 39), .ref (r 40), .ref (r 41), .ref (r 42), .ref (r 43), .ref (r 44), .int 0, .ref (r 45), .ref (r 46), .ref (r 47), .ref (r 48), .ref (r 49), .ref (r 50)])), (r 55, .inr (3, [.int 1, .int 0, .int 0, .int 0, .ref (r 20), .ref (r 21), .ref (r 22), .int 0, .ref (r 23), .ref (r 24), .ref (r 25), .int 0, .ref (r 28), .ref (r 27)]))] sz)) 0 0 (va_A [(r 0, .inr (7, [.ref (r 1), .int 0, .ref (r 2), .ref (r 55), .ref (r 57), .ref (r 30), .ref (r 56), .ref (r 36), .ref (r 37), .ref (r 38), .int 0, .ref (r 51), .int 0, .ref (r 52), .ref (r 53), .ref (r 54)])), (r 38, .inr (2, [.int 0, .ref (r 39), .ref (r 40), .ref (r 41), .ref (r 42), .ref (r 43), .ref (r 44), .int 0, .ref (r 45), .ref (r 46), .ref (r 47), .ref (r 48), .ref (r 49), .ref (r 50)])), (r 55, .inr (3, [.int 1, .int 0, .int 0, .int 0, .ref (r 20), .ref (r 21), .ref (r 22), .int 0, .ref (r 23), .ref (r 24), .ref (r 25), .int 0, .ref (r 28), .ref (r 27)]))] sz) := by
  refine Met.ofW (cc := cX8_sure) (maxL := 3) (ret := (some .int)) (by decide) rfl ?_
  intro p e s m args below meth c0 s₁ B hml hv
  obtain ⟨rfl, hsz, hP, hK, hD0⟩ := hv
  have hx := B.exec
  have hb := B.bytes
  have hr := B.returns
  have hts := atoms_spec (ws := .code yX8_sure cX8_sure 3 (some .int) :: GW) B.pre
  have hG : ∀ w ∈ GW, w.before _ s = true := fun w h => hts w (List.mem_cons_of_mem _ h)
  have hown : s.vm.findClass RX8 = some m.cls := findClass_of_methodNamed B.named
  have hlocks := B.notSynchronized
  subst hsz
  have hD := hD0.self (sz := s.heap.size)
  generalize hAe : va_A [(r 0, .inr (7, [.ref (r 1), .int 0, .ref (r 2), .ref (r 55), .ref (r 57), .ref (r 30), .ref (r 56), .ref (r 36), .ref (r 37), .ref (r 38), .int 0, .ref (r 51), .int 0, .ref (r 52), .ref (r 53), .ref (r 54)])), (r 38, .inr (2, [.int 0, .ref (r 39), .ref (r 40), .ref (r 41), .ref (r 42), .ref (r 43), .ref (r 44), .int 0, .ref (r 45), .ref (r 46), .ref (r 47), .ref (r 48), .ref (r 49), .ref (r 50)])), (r 55, .inr (3, [.int 1, .int 0, .int 0, .int 0, .ref (r 20), .ref (r 21), .ref (r 22), .int 0, .ref (r 23), .ref (r 24), .ref (r 25), .int 0, .ref (r 28), .ref (r 27)]))] s.heap.size = A at hD ⊢
  have hA : ∀ q : Nat, s.heap.size ≤ q → A q := fun q h => by rw [← hAe]; exact Or.inr h
  have hS : va_S A s.heap s.heap [] := va_S.rf
  have hP : va_P (dC, dI) vwCl [(r 0, .inr (7, [.ref (r 1), .int 0, .ref (r 2), .ref (r 55), .ref (r 57), .ref (r 30), .ref (r 56), .ref (r 36), .ref (r 37), .ref (r 38), .int 0, .ref (r 51), .int 0, .ref (r 52), .ref (r 53), .ref (r 54)])), (r 38, .inr (2, [.int 0, .ref (r 39), .ref (r 40), .ref (r 41), .ref (r 42), .ref (r 43), .ref (r 44), .int 0, .ref (r 45), .ref (r 46), .ref (r 47), .ref (r 48), .ref (r 49), .ref (r 50)])), (r 55, .inr (3, [.int 1, .int 0, .int 0, .int 0, .ref (r 20), .ref (r 21), .ref (r 22), .int 0, .ref (r 23), .ref (r 24), .ref (r 25), .int 0, .ref (r 28), .ref (r 27)]))] s.heap := hP
  have hl := lv_entry ([.ref (r 0), .int p0, .int p1]) (n := 3) (Nat.le_of_ble_eq_true rfl)
  rw [lg_entry_eq]
  generalize (lg_sl ([.ref (r 0), .int p0, .int p1]) ++ List.replicate (3 - (lg_sl ([.ref (r 0), .int p0, .int p1])).length) Slot.unset).toArray = ls at hl ⊢
  have hl : lv_has ls 3 [(0, .ref (r 0)), (1, .int p0), (2, .int p1)] := hl
  refine lv_iload_n hx hb dX8_sure_0 rfl (lv_at hl 1 rfl) ?_
  refine lv_if_lt (tgt := 24) hx hb dX8_sure_1 (by decide) (fun c_1 => ?_) (fun c_1 => ?_)
  · skip
    refine lv_iconst (v := (-1)) hx hb dX8_sure_24 (by decide) ?_
    exact W.iret (v := (-1)) hx hb hr (fun t ht hW => ⟨⟨(-1), (), rfl, rfl, trivial⟩, hS.F ht⟩) hS.2.2 dX8_sure_25
  · skip
    refine lv_iload_n hx hb dX8_sure_4 rfl (lv_at hl 1 rfl) ?_
    refine lv_iconst (v := 3) hx hb dX8_sure_5 (by decide) ?_
    refine lv_icmp_ge (tgt := 24) hx hb dX8_sure_6 (by decide) (fun c_2 => ?_) (fun c_2 => ?_)
    · skip
      refine lv_iconst (v := (-1)) hx hb dX8_sure_24 (by decide) ?_
      exact W.iret (v := (-1)) hx hb hr (fun t ht hW => ⟨⟨(-1), (), rfl, rfl, trivial⟩, hS.F ht⟩) hS.2.2 dX8_sure_25
    · skip
      refine lv_aload_n hx hb dX8_sure_9 rfl (lv_at hl 0 rfl) ?_
      refine va_get (D := (dC, dI)) (ci := 7) (v := .ref (r 38)) (C := RX8) (T := TX8) (N := 16) hx hb hG inX8 hown hK hP 0 rfl rfl 9 (by decide) (hG _ gw477) (fun _ h9 => h9) rfl dX8_sure_10 ?_
      refine lv_aload_n hx hb dX8_sure_13 rfl (lv_at hl 0 rfl) ?_
      refine va_get (D := (dC, dI)) (ci := 7) (v := .ref (r 55)) (C := RX8) (T := TX8) (N := 16) hx hb hG inX8 hown hK hP 0 rfl rfl 3 (by decide) (hG _ gw471) (fun _ h9 => h9) rfl dX8_sure_14 ?_
      refine lv_iload_n hx hb dX8_sure_17 rfl (lv_at hl 2 rfl) ?_
      have hPc := hP.sub (ws' := [(r 55, .inr (3, [.int 1, .int 0, .int 0, .int 0, .ref (r 20), .ref (r 21), .ref (r 22), .int 0, .ref (r 23), .ref (r 24), .ref (r 25), .int 0, .ref (r 28), .ref (r 27)]))]) [2] rfl
      have hKc := hK.sub (tys' := []) [] rfl
      refine va_calli (va_runV (As := [.ref (r 55), .int p1]) (rest := []) ⟨hx, hb, hml, hown, hG⟩ (kX3_sift l dC dI (r 55) (r 20) (r 21) (r 22) (r 23) (r 24) (r 25) (r 28) (r 27) (r 38) p1 s.heap.size ) (cwV 2 hG (goodV gw1078 gw1079 gw1080 gw136 gw1081) rfl rfl rfl hd_X3_sift ⟨(Nat.le_of_ble_eq_true rfl), (Nat.le_of_ble_eq_true rfl)⟩) ⟨fbR, va_recv hK hP (ci := 2) (q0 := 1) rfl rfl, pR_in hPc hKc⟩ rfl rfl hl.1 rfl (lv_room (Nat.le_of_ble_eq_true rfl)) dX8_sure_18 ⟨(Nat.le_of_ble_eq_true rfl), (Nat.le_of_ble_eq_true rfl)⟩) hS (fun q hq h => absurd hq (Nat.not_lt.mpr h)) (fun q h => hA q (Nat.le_trans hS.1 h)) (fun r_4 u t H3 locs ht hvm hw hB hz1 hk1 hS => ?_)
      have hP := wk hP hk1
      refine wt_c (v := 0) hw ?_
      refine lv_if_ne (tgt := 26) hx hb dX8_sure_21 (by decide) (fun c_5 => absurd (by decide) c_5) (fun c_5 => ?_)
      refine lv_iconst (v := (-1)) hx hb dX8_sure_24 (by decide) ?_
      exact W.iret (v := (-1)) hx hb hr (fun t ht hW => ⟨⟨(-1), (), rfl, rfl, trivial⟩, hS.F ht⟩) hS.2.2 dX8_sure_25
set_option maxHeartbeats 4000000 in
set_option maxRecDepth 100000 in
theorem kX9_isIn_v8 (l : Launch) (dC : Nat → ClassId) (dI : Nat → Nat → Nat) (p0 : Int32) (sz : Nat) : Met l yX9_isIn (.code yX9_isIn cX9_isIn 3 (some .boolean) :: GW) { frames := 2, cells := 0, slots := 0, locals := 100 } (va_Pc [.int p0, .int 0, .int 2] (pR (dC, dI) [] [] sz)) (va_Qi (fun (r0 : Int32) (u : Nat) => (u = 0 ∧ p0 < 0 ∧ r0 = 0) ∨ (u = 1 ∧ ¬ p0 < 0 ∧ 2 < p0 ∧ r0 = 0) ∨ (u = 2 ∧ ¬ p0 < 0 ∧ ¬ 2 < p0 ∧ r0 = 1)) (fun _ _ => True) (fun q => sz ≤ q)) 0 0 (fun q => sz ≤ q) := by
  refine Met.ofW (cc := cX9_isIn) (maxL := 3) (ret := (some .boolean)) (by decide) rfl ?_
  intro p e s m args below meth c0 s₁ B hml hv
  obtain ⟨rfl, hsz, hP, hK⟩ := hv
  have hx := B.exec
  have hb := B.bytes
  have hr := B.returns
  have hts := atoms_spec (ws := .code yX9_isIn cX9_isIn 3 (some .boolean) :: GW) B.pre
  have hG : ∀ w ∈ GW, w.before _ s = true := fun w h => hts w (List.mem_cons_of_mem _ h)
  have hown : s.vm.findClass RX9 = some m.cls := findClass_of_methodNamed B.named
  have hlocks := B.notSynchronized
  subst hsz
  have hS : va_S (fun q => s.heap.size ≤ q) s.heap s.heap [] := va_S.rf
  have hP : va_P (dC, dI) vwCl [] s.heap := hP
  have hl := lv_entry ([.int p0, .int 0, .int 2]) (n := 3) (Nat.le_of_ble_eq_true rfl)
  rw [lg_entry_eq]
  generalize (lg_sl ([.int p0, .int 0, .int 2]) ++ List.replicate (3 - (lg_sl ([.int p0, .int 0, .int 2])).length) Slot.unset).toArray = ls at hl ⊢
  have hl : lv_has ls 3 [(0, .int p0), (1, .int 0), (2, .int 2)] := hl
  refine lv_iload_n hx hb dX9_isIn_0 rfl (lv_at hl 0 rfl) ?_
  refine lv_iload_n hx hb dX9_isIn_1 rfl (lv_at hl 1 rfl) ?_
  refine lv_icmp_lt (tgt := 14) hx hb dX9_isIn_2 (by decide) (fun c_1 => ?_) (fun c_1 => ?_)
  · skip
    refine lv_iconst (v := 0) hx hb dX9_isIn_14 (by decide) ?_
    exact W.zret (v := 0) hx hb hr (by decide) (fun t ht hW => ⟨⟨0, 0, rfl, (Or.inl ⟨rfl, c_1, rfl⟩), trivial⟩, hS.F ht⟩) hS.2.2 dX9_isIn_15
  · skip
    refine lv_iload_n hx hb dX9_isIn_5 rfl (lv_at hl 0 rfl) ?_
    refine lv_iload_n hx hb dX9_isIn_6 rfl (lv_at hl 2 rfl) ?_
    refine lv_icmp_gt (tgt := 14) hx hb dX9_isIn_7 (by decide) (fun c_2 => ?_) (fun c_2 => ?_)
    · skip
      refine lv_iconst (v := 0) hx hb dX9_isIn_14 (by decide) ?_
      exact W.zret (v := 0) hx hb hr (by decide) (fun t ht hW => ⟨⟨0, 1, rfl, (Or.inr (Or.inl ⟨rfl, c_1, c_2, rfl⟩)), trivial⟩, hS.F ht⟩) hS.2.2 dX9_isIn_15
    · skip
      refine lv_iconst (v := 1) hx hb dX9_isIn_10 (by decide) ?_
      refine lv_goto (tgt := 15) hx hb dX9_isIn_11 (by decide) ?_
      exact W.zret (v := 1) hx hb hr (by decide) (fun t ht hW => ⟨⟨1, 2, rfl, (Or.inr (Or.inr ⟨rfl, c_1, c_2, rfl⟩)), trivial⟩, hS.F ht⟩) hS.2.2 dX9_isIn_15
set_option maxHeartbeats 4000000 in
set_option maxRecDepth 100000 in
theorem kX9_sure (l : Launch) (dC : Nat → ClassId) (dI : Nat → Nat → Nat) (r : Nat → Nat) (c : Nat → ClassId) (f5 : Nat → Int32) (p0 p1 : Int32) (sz : Nat) (hf5_0 : f5 0 = 0) : Met l yX9_sure (.code yX9_sure cX9_sure 4 (some .int) :: GW) { frames := 6, cells := 0, slots := 0, locals := 223 } (va_Pc [.ref (r 0), .int p0, .int p1] (pW (dC, dI) [(r 0, .inr (8, [.ref (r 1), .ref (r 2), .int 0, .int 0, .int 0, .int (-1), .int 0, .int 0, .int 0, .int 0, .long 0, .ref (r 3), .ref (r 4), .ref (r 5), .ref (r 6), .ref (r 7), .ref (r 8), .ref (r 9), .ref (r 10), .ref (r 11), .ref (r 12), .ref (r 13), .ref (r 14), .ref (r 15), .ref (r 16), .ref (r 17), .ref (r 18), .ref (r 19), .ref (r 20), .ref (r 21), .ref (r 22), .ref (r 23), .ref (r 24), .int 0, .int 0, .int 0, .int 0, .int 0, .int 0, .int 0, .int 0, .int 0, .ref (r 25), .ref (r 26), .ref (r 27), .int 0, .int 0, .ref (r 28), .int 0, .ref (r 29), .ref (r 30), .ref (r 31), .ref (r 32), .ref (r 33), .ref (r 34), .ref (r 35), .ref (r 36), .int 0, .int 0, .int 0, .ref (r 37), .ref (r 38)])), (r 5, .inl ((c 5), 2, .inl f5)), (r 35, .inl ((c 35), 21, .inl (fun _ => 0)))] [((c 5), .int), ((c 35), .int)] sz)) (va_Qi (fun (r0 : Int32) (_ : Unit) => r0 = (-1)) (fun _ _ => True) (va_A [(r 0, .inr (8, [.ref (r 1), .ref (r 2), .int 0, .int 0, .int 0, .int (-1), .int 0, .int 0, .int 0, .int 0, .long 0, .ref (r 3), .ref (r 4), .ref (r 5), .ref (r 6), .ref (r 7), .ref (r 8), .ref (r 9), .ref (r 10), .ref (r 11), .ref (r 12), .ref (r 13), .ref (r 14), .ref (r 15), .ref (r 16), .ref (r 17), .ref (r 18), .ref (r 19), .ref (r 20), .ref (r 21), .ref (r 22), .ref (r 23), .ref (r 24), .int 0, .int 0, .int 0, .int 0, .int 0, .int 0, .int 0, .int 0, .int 0, .ref (r 25), .ref (r 26), .ref (r 27), .int 0, .int 0, .ref (r 28), .int 0, .ref (r 29), .ref (r 30), .ref (r 31), .ref (r 32), .ref (r 33), .ref (r 34), .ref (r 35), .ref (r 36), .int 0, .int 0, .int 0, .ref (r 37), .ref (r 38)])), (r 5, .inl ((c 5), 2, .inl f5)), (r 35, .inl ((c 35), 21, .inl (fun _ => 0)))] sz)) 0 0 (va_A [(r 0, .inr (8, [.ref (r 1), .ref (r 2), .int 0, .int 0, .int 0, .int (-1), .int 0, .int 0, .int 0, .int 0, .long 0, .ref (r 3), .ref (r 4), .ref (r 5), .ref (r 6), .ref (r 7), .ref (r 8), .ref (r 9), .ref (r 10), .ref (r 11), .ref (r 12), .ref (r 13), .ref (r 14), .ref (r 15), .ref (r 16), .ref (r 17), .ref (r 18), .ref (r 19), .ref (r 20), .ref (r 21), .ref (r 22), .ref (r 23), .ref (r 24), .int 0, .int 0, .int 0, .int 0, .int 0, .int 0, .int 0, .int 0, .int 0, .ref (r 25), .ref (r 26), .ref (r 27), .int 0, .int 0, .ref (r 28), .int 0, .ref (r 29), .ref (r 30), .ref (r 31), .ref (r 32), .ref (r 33), .ref (r 34), .ref (r 35), .ref (r 36), .int 0, .int 0, .int 0, .ref (r 37), .ref (r 38)])), (r 5, .inl ((c 5), 2, .inl f5)), (r 35, .inl ((c 35), 21, .inl (fun _ => 0)))] sz) := by
  refine Met.ofW (cc := cX9_sure) (maxL := 4) (ret := (some .int)) (by decide) rfl ?_
  intro p e s m args below meth c0 s₁ B hml hv
  obtain ⟨rfl, hsz, hP, hK, hD0⟩ := hv
  have hx := B.exec
  have hb := B.bytes
  have hr := B.returns
  have hts := atoms_spec (ws := .code yX9_sure cX9_sure 4 (some .int) :: GW) B.pre
  have hG : ∀ w ∈ GW, w.before _ s = true := fun w h => hts w (List.mem_cons_of_mem _ h)
  have hown : s.vm.findClass RX9 = some m.cls := findClass_of_methodNamed B.named
  have hlocks := B.notSynchronized
  subst hsz
  have hD := hD0.self (sz := s.heap.size)
  generalize hAe : va_A [(r 0, .inr (8, [.ref (r 1), .ref (r 2), .int 0, .int 0, .int 0, .int (-1), .int 0, .int 0, .int 0, .int 0, .long 0, .ref (r 3), .ref (r 4), .ref (r 5), .ref (r 6), .ref (r 7), .ref (r 8), .ref (r 9), .ref (r 10), .ref (r 11), .ref (r 12), .ref (r 13), .ref (r 14), .ref (r 15), .ref (r 16), .ref (r 17), .ref (r 18), .ref (r 19), .ref (r 20), .ref (r 21), .ref (r 22), .ref (r 23), .ref (r 24), .int 0, .int 0, .int 0, .int 0, .int 0, .int 0, .int 0, .int 0, .int 0, .ref (r 25), .ref (r 26), .ref (r 27), .int 0, .int 0, .ref (r 28), .int 0, .ref (r 29), .ref (r 30), .ref (r 31), .ref (r 32), .ref (r 33), .ref (r 34), .ref (r 35), .ref (r 36), .int 0, .int 0, .int 0, .ref (r 37), .ref (r 38)])), (r 5, .inl ((c 5), 2, .inl f5)), (r 35, .inl ((c 35), 21, .inl (fun _ => 0)))] s.heap.size = A at hD ⊢
  have hA : ∀ q : Nat, s.heap.size ≤ q → A q := fun q h => by rw [← hAe]; exact Or.inr h
  have hS : va_S A s.heap s.heap [] := va_S.rf
  have hP : va_P (dC, dI) vwCl [(r 0, .inr (8, [.ref (r 1), .ref (r 2), .int 0, .int 0, .int 0, .int (-1), .int 0, .int 0, .int 0, .int 0, .long 0, .ref (r 3), .ref (r 4), .ref (r 5), .ref (r 6), .ref (r 7), .ref (r 8), .ref (r 9), .ref (r 10), .ref (r 11), .ref (r 12), .ref (r 13), .ref (r 14), .ref (r 15), .ref (r 16), .ref (r 17), .ref (r 18), .ref (r 19), .ref (r 20), .ref (r 21), .ref (r 22), .ref (r 23), .ref (r 24), .int 0, .int 0, .int 0, .int 0, .int 0, .int 0, .int 0, .int 0, .int 0, .ref (r 25), .ref (r 26), .ref (r 27), .int 0, .int 0, .ref (r 28), .int 0, .ref (r 29), .ref (r 30), .ref (r 31), .ref (r 32), .ref (r 33), .ref (r 34), .ref (r 35), .ref (r 36), .int 0, .int 0, .int 0, .ref (r 37), .ref (r 38)])), (r 5, .inl ((c 5), 2, .inl f5)), (r 35, .inl ((c 35), 21, .inl (fun _ => 0)))] s.heap := hP
  have hl := lv_entry ([.ref (r 0), .int p0, .int p1]) (n := 4) (Nat.le_of_ble_eq_true rfl)
  rw [lg_entry_eq]
  generalize (lg_sl ([.ref (r 0), .int p0, .int p1]) ++ List.replicate (4 - (lg_sl ([.ref (r 0), .int p0, .int p1])).length) Slot.unset).toArray = ls at hl ⊢
  have hl : lv_has ls 4 [(0, .ref (r 0)), (1, .int p0), (2, .int p1)] := hl
  refine lv_aload_n hx hb dX9_sure_0 rfl (lv_at hl 0 rfl) ?_
  refine lv_iload_n hx hb dX9_sure_1 rfl (lv_at hl 2 rfl) ?_
  have hPc := hP.sub (ws' := [(r 0, .inr (8, [.ref (r 1), .ref (r 2), .int 0, .int 0, .int 0, .int (-1), .int 0, .int 0, .int 0, .int 0, .long 0, .ref (r 3), .ref (r 4), .ref (r 5), .ref (r 6), .ref (r 7), .ref (r 8), .ref (r 9), .ref (r 10), .ref (r 11), .ref (r 12), .ref (r 13), .ref (r 14), .ref (r 15), .ref (r 16), .ref (r 17), .ref (r 18), .ref (r 19), .ref (r 20), .ref (r 21), .ref (r 22), .ref (r 23), .ref (r 24), .int 0, .int 0, .int 0, .int 0, .int 0, .int 0, .int 0, .int 0, .int 0, .ref (r 25), .ref (r 26), .ref (r 27), .int 0, .int 0, .ref (r 28), .int 0, .ref (r 29), .ref (r 30), .ref (r 31), .ref (r 32), .ref (r 33), .ref (r 34), .ref (r 35), .ref (r 36), .int 0, .int 0, .int 0, .ref (r 37), .ref (r 38)])), (r 5, .inl ((c 5), 2, .inl f5)), (r 35, .inl ((c 35), 21, .inl (fun _ => 0)))]) [0, 1, 2] rfl
  have hKc := hK.sub (tys' := [((c 5), .int), ((c 35), .int)]) [0, 1] rfl
  have hDc := hD.sub (ws' := [(r 0, .inr (8, [.ref (r 1), .ref (r 2), .int 0, .int 0, .int 0, .int (-1), .int 0, .int 0, .int 0, .int 0, .long 0, .ref (r 3), .ref (r 4), .ref (r 5), .ref (r 6), .ref (r 7), .ref (r 8), .ref (r 9), .ref (r 10), .ref (r 11), .ref (r 12), .ref (r 13), .ref (r 14), .ref (r 15), .ref (r 16), .ref (r 17), .ref (r 18), .ref (r 19), .ref (r 20), .ref (r 21), .ref (r 22), .ref (r 23), .ref (r 24), .int 0, .int 0, .int 0, .int 0, .int 0, .int 0, .int 0, .int 0, .int 0, .ref (r 25), .ref (r 26), .ref (r 27), .int 0, .int 0, .ref (r 28), .int 0, .ref (r 29), .ref (r 30), .ref (r 31), .ref (r 32), .ref (r 33), .ref (r 34), .ref (r 35), .ref (r 36), .int 0, .int 0, .int 0, .ref (r 37), .ref (r 38)])), (r 5, .inl ((c 5), 2, .inl f5)), (r 35, .inl ((c 35), 21, .inl (fun _ => 0)))]) [0, 1, 2] (by decide) rfl
  have hFc := va_free (wc := [(r 0, .inr (8, [.ref (r 1), .ref (r 2), .int 0, .int 0, .int 0, .int (-1), .int 0, .int 0, .int 0, .int 0, .long 0, .ref (r 3), .ref (r 4), .ref (r 5), .ref (r 6), .ref (r 7), .ref (r 8), .ref (r 9), .ref (r 10), .ref (r 11), .ref (r 12), .ref (r 13), .ref (r 14), .ref (r 15), .ref (r 16), .ref (r 17), .ref (r 18), .ref (r 19), .ref (r 20), .ref (r 21), .ref (r 22), .ref (r 23), .ref (r 24), .int 0, .int 0, .int 0, .int 0, .int 0, .int 0, .int 0, .int 0, .int 0, .ref (r 25), .ref (r 26), .ref (r 27), .int 0, .int 0, .ref (r 28), .int 0, .ref (r 29), .ref (r 30), .ref (r 31), .ref (r 32), .ref (r 33), .ref (r 34), .ref (r 35), .ref (r 36), .int 0, .int 0, .int 0, .ref (r 37), .ref (r 38)])), (r 5, .inl ((c 5), 2, .inl f5)), (r 35, .inl ((c 35), 21, .inl (fun _ => 0)))]) hD hS hA [0, 1, 2] rfl
  refine va_callv (va_runV (As := [.int p1]) (rest := []) ⟨hx, hb, hml, hown, hG⟩ (kX9_layRows l dC dI r c f5 p1 s.heap.size hf5_0) (cwV 1 hG (goodV gw1834 gw1836 gw122 gw138 gw1837) rfl rfl rfl hd_X9_layRows ⟨(Nat.le_of_ble_eq_true rfl), (Nat.le_of_ble_eq_true rfl)⟩) ⟨fbW, va_recv hKc hPc (ci := 8) (q0 := 0) rfl rfl, pW_in hPc hKc hDc⟩ rfl rfl hl.1 rfl (lv_room (Nat.le_of_ble_eq_true rfl)) dX9_sure_2 ⟨(Nat.le_of_ble_eq_true rfl), (Nat.le_of_ble_eq_true rfl)⟩) hS (fun q _ h => hFc q h) hFc (fun u t H1 locs ht hvm hw hB hz1 hk1 hS => ?_)
  obtain ⟨zf3, hP1, hD1⟩ := hB
  rw [ht] at hP1
  obtain ⟨hP, hD⟩ := va_join (wr := []) (w1 := [(r 0, .inr (8, [.ref (r 1), .ref (r 2), .int 0, .int 0, .int 0, .int (-1), .int 0, .int 0, .int 0, .int 0, .long 0, .ref (r 3), .ref (r 4), .ref (r 5), .ref (r 6), .ref (r 7), .ref (r 8), .ref (r 9), .ref (r 10), .ref (r 11), .ref (r 12), .ref (r 13), .ref (r 14), .ref (r 15), .ref (r 16), .ref (r 17), .ref (r 18), .ref (r 19), .ref (r 20), .ref (r 21), .ref (r 22), .ref (r 23), .ref (r 24), .int 0, .int 0, .int 0, .int 0, .int 0, .int 0, .int 0, .int 0, .int 0, .ref (r 25), .ref (r 26), .ref (r 27), .int 0, .int 0, .ref (r 28), .int 0, .ref (r 29), .ref (r 30), .ref (r 31), .ref (r 32), .ref (r 33), .ref (r 34), .ref (r 35), .ref (r 36), .int 0, .int 0, .int 0, .ref (r 37), .ref (r 38)])), (r 5, .inl ((c 5), 2, .inl f5)), (r 35, .inl ((c 35), 21, .inl zf3))]) hP hD [0, 1, 2] [] rfl rfl (by decide) (by decide) hk1 hFc hP1 hD1
  have hP : va_P (dC, dI) vwCl [(r 0, .inr (8, [.ref (r 1), .ref (r 2), .int 0, .int 0, .int 0, .int (-1), .int 0, .int 0, .int 0, .int 0, .long 0, .ref (r 3), .ref (r 4), .ref (r 5), .ref (r 6), .ref (r 7), .ref (r 8), .ref (r 9), .ref (r 10), .ref (r 11), .ref (r 12), .ref (r 13), .ref (r 14), .ref (r 15), .ref (r 16), .ref (r 17), .ref (r 18), .ref (r 19), .ref (r 20), .ref (r 21), .ref (r 22), .ref (r 23), .ref (r 24), .int 0, .int 0, .int 0, .int 0, .int 0, .int 0, .int 0, .int 0, .int 0, .ref (r 25), .ref (r 26), .ref (r 27), .int 0, .int 0, .ref (r 28), .int 0, .ref (r 29), .ref (r 30), .ref (r 31), .ref (r 32), .ref (r 33), .ref (r 34), .ref (r 35), .ref (r 36), .int 0, .int 0, .int 0, .ref (r 37), .ref (r 38)])), (r 5, .inl ((c 5), 2, .inl f5)), (r 35, .inl ((c 35), 21, .inl zf3))] H1 := hP
  have hD : va_D A [(r 0, .inr (8, [.ref (r 1), .ref (r 2), .int 0, .int 0, .int 0, .int (-1), .int 0, .int 0, .int 0, .int 0, .long 0, .ref (r 3), .ref (r 4), .ref (r 5), .ref (r 6), .ref (r 7), .ref (r 8), .ref (r 9), .ref (r 10), .ref (r 11), .ref (r 12), .ref (r 13), .ref (r 14), .ref (r 15), .ref (r 16), .ref (r 17), .ref (r 18), .ref (r 19), .ref (r 20), .ref (r 21), .ref (r 22), .ref (r 23), .ref (r 24), .int 0, .int 0, .int 0, .int 0, .int 0, .int 0, .int 0, .int 0, .int 0, .ref (r 25), .ref (r 26), .ref (r 27), .int 0, .int 0, .ref (r 28), .int 0, .ref (r 29), .ref (r 30), .ref (r 31), .ref (r 32), .ref (r 33), .ref (r 34), .ref (r 35), .ref (r 36), .int 0, .int 0, .int 0, .ref (r 37), .ref (r 38)])), (r 5, .inl ((c 5), 2, .inl f5)), (r 35, .inl ((c 35), 21, .inl zf3))] := hD
  refine lv_iload_n hx hb dX9_sure_5 rfl (lv_at hl 1 rfl) ?_
  refine lv_iconst (v := 0) hx hb dX9_sure_6 (by decide) ?_
  refine lv_iconst (v := 2) hx hb dX9_sure_7 (by decide) ?_
  have hPc := hP.sub (ws' := []) [] rfl
  have hKc := hK.sub (tys' := []) [] rfl
  refine va_calli (va_runS (As := [.int p0, .int 0, .int 2]) (rest := []) ⟨hx, hb, hml, hown, hG⟩ (kX9_isIn_v8 l dC dI p0 H1.size ) (va_cwS 3 hG (goodS gw1516 gw1517 gw138 gw1518) rfl rfl rfl hd_X9_isIn ⟨(Nat.le_of_ble_eq_true rfl), (Nat.le_of_ble_eq_true rfl)⟩) ⟨fbR, pR_in hPc hKc⟩ rfl rfl hl.1 rfl (lv_room (Nat.le_of_ble_eq_true rfl)) dX9_sure_8 ⟨(Nat.le_of_ble_eq_true rfl), (Nat.le_of_ble_eq_true rfl)⟩) hS (fun q hq h => absurd hq (Nat.not_lt.mpr h)) (fun q h => hA q (Nat.le_trans hS.1 h)) (fun r_5 u t H4 locs ht hvm hw hB hz1 hk1 hS => ?_)
  rcases hw with ⟨rfl, hy6, hw⟩ | ⟨rfl, hy7, hy8, hw⟩ | ⟨rfl, hy9, hy10, hw⟩
  · skip
    have hP := wk hP hk1
    refine wt_c (v := 0) hw ?_
    refine lv_if_eq (tgt := 21) hx hb dX9_sure_11 (by decide) (fun c_11 => ?_) (fun c_11 => absurd (by decide) c_11)
    refine lv_iconst (v := (-1)) hx hb dX9_sure_21 (by decide) ?_
    exact W.iret (v := (-1)) hx hb hr (fun t ht hW => ⟨⟨(-1), (), rfl, rfl, trivial⟩, hS.F ht⟩) hS.2.2 dX9_sure_22
  · skip
    have hP := wk hP hk1
    refine wt_c (v := 0) hw ?_
    refine lv_if_eq (tgt := 21) hx hb dX9_sure_11 (by decide) (fun c_12 => ?_) (fun c_12 => absurd (by decide) c_12)
    refine lv_iconst (v := (-1)) hx hb dX9_sure_21 (by decide) ?_
    exact W.iret (v := (-1)) hx hb hr (fun t ht hW => ⟨⟨(-1), (), rfl, rfl, trivial⟩, hS.F ht⟩) hS.2.2 dX9_sure_22
  · skip
    have hP := wk hP hk1
    refine wt_c (v := 1) hw ?_
    refine lv_if_eq (tgt := 21) hx hb dX9_sure_11 (by decide) (fun c_13 => absurd c_13 (by decide)) (fun c_13 => ?_)
    refine lv_aload_n hx hb dX9_sure_14 rfl (lv_at hl 0 rfl) ?_
    refine va_get (D := (dC, dI)) (ci := 8) (v := .int 0) (C := RX9) (T := TX9) (N := 62) hx hb hG inX9 hown hK hP 0 rfl rfl 59 (by decide) (hG _ gw1230) (fun _ h9 => h9) rfl dX9_sure_15 ?_
    refine lv_if_ne (tgt := 23) hx hb dX9_sure_18 (by decide) (fun c_14 => absurd (by decide) c_14) (fun c_14 => ?_)
    refine lv_iconst (v := (-1)) hx hb dX9_sure_21 (by decide) ?_
    exact W.iret (v := (-1)) hx hb hr (fun t ht hW => ⟨⟨(-1), (), rfl, rfl, trivial⟩, hS.F ht⟩) hS.2.2 dX9_sure_22
set_option maxHeartbeats 4000000 in
set_option maxRecDepth 100000 in
theorem kX8_ask (l : Launch) (dC : Nat → ClassId) (dI : Nat → Nat → Nat) (r : Nat → Nat) (c : Nat → ClassId) (p0 p1 : Int32) (sz : Nat) : Met l yX8_ask (.code yX8_ask cX8_ask 7 (some .int) :: GW) { frames := 2, cells := 0, slots := 0, locals := 100 } (va_Pc [.ref (r 0), .int p0, .int p1] (pW (dC, dI) [(r 0, .inr (7, [.ref (r 1), .int 0, .ref (r 2), .ref (r 55), .ref (r 57), .ref (r 30), .ref (r 56), .ref (r 36), .ref (r 37), .ref (r 38), .int 0, .ref (r 51), .int 0, .ref (r 52), .ref (r 53), .ref (r 54)])), (r 55, .inr (3, [.int 1, .int 0, .int 0, .int 0, .ref (r 20), .ref (r 21), .ref (r 22), .int 0, .ref (r 23), .ref (r 24), .ref (r 25), .int 0, .ref (r 28), .ref (r 27)]))] [] sz)) (va_Qi (fun (r0 : Int32) (_ : Unit) => r0 = (-1)) (fun _ _ => True) (va_A [(r 0, .inr (7, [.ref (r 1), .int 0, .ref (r 2), .ref (r 55), .ref (r 57), .ref (r 30), .ref (r 56), .ref (r 36), .ref (r 37), .ref (r 38), .int 0, .ref (r 51), .int 0, .ref (r 52), .ref (r 53), .ref (r 54)])), (r 55, .inr (3, [.int 1, .int 0, .int 0, .int 0, .ref (r 20), .ref (r 21), .ref (r 22), .int 0, .ref (r 23), .ref (r 24), .ref (r 25), .int 0, .ref (r 28), .ref (r 27)]))] sz)) 0 0 (va_A [(r 0, .inr (7, [.ref (r 1), .int 0, .ref (r 2), .ref (r 55), .ref (r 57), .ref (r 30), .ref (r 56), .ref (r 36), .ref (r 37), .ref (r 38), .int 0, .ref (r 51), .int 0, .ref (r 52), .ref (r 53), .ref (r 54)])), (r 55, .inr (3, [.int 1, .int 0, .int 0, .int 0, .ref (r 20), .ref (r 21), .ref (r 22), .int 0, .ref (r 23), .ref (r 24), .ref (r 25), .int 0, .ref (r 28), .ref (r 27)]))] sz) := by
  refine Met.ofW (cc := cX8_ask) (maxL := 7) (ret := (some .int)) (by decide) rfl ?_
  intro p e s m args below meth c0 s₁ B hml hv
  obtain ⟨rfl, hsz, hP, hK, hD0⟩ := hv
  have hx := B.exec
  have hb := B.bytes
  have hr := B.returns
  have hts := atoms_spec (ws := .code yX8_ask cX8_ask 7 (some .int) :: GW) B.pre
  have hG : ∀ w ∈ GW, w.before _ s = true := fun w h => hts w (List.mem_cons_of_mem _ h)
  have hown : s.vm.findClass RX8 = some m.cls := findClass_of_methodNamed B.named
  have hlocks := B.notSynchronized
  subst hsz
  have hD := hD0.self (sz := s.heap.size)
  generalize hAe : va_A [(r 0, .inr (7, [.ref (r 1), .int 0, .ref (r 2), .ref (r 55), .ref (r 57), .ref (r 30), .ref (r 56), .ref (r 36), .ref (r 37), .ref (r 38), .int 0, .ref (r 51), .int 0, .ref (r 52), .ref (r 53), .ref (r 54)])), (r 55, .inr (3, [.int 1, .int 0, .int 0, .int 0, .ref (r 20), .ref (r 21), .ref (r 22), .int 0, .ref (r 23), .ref (r 24), .ref (r 25), .int 0, .ref (r 28), .ref (r 27)]))] s.heap.size = A at hD ⊢
  have hA : ∀ q : Nat, s.heap.size ≤ q → A q := fun q h => by rw [← hAe]; exact Or.inr h
  have hS : va_S A s.heap s.heap [] := va_S.rf
  have hP : va_P (dC, dI) vwCl [(r 0, .inr (7, [.ref (r 1), .int 0, .ref (r 2), .ref (r 55), .ref (r 57), .ref (r 30), .ref (r 56), .ref (r 36), .ref (r 37), .ref (r 38), .int 0, .ref (r 51), .int 0, .ref (r 52), .ref (r 53), .ref (r 54)])), (r 55, .inr (3, [.int 1, .int 0, .int 0, .int 0, .ref (r 20), .ref (r 21), .ref (r 22), .int 0, .ref (r 23), .ref (r 24), .ref (r 25), .int 0, .ref (r 28), .ref (r 27)]))] s.heap := hP
  have hl := lv_entry ([.ref (r 0), .int p0, .int p1]) (n := 7) (Nat.le_of_ble_eq_true rfl)
  rw [lg_entry_eq]
  generalize (lg_sl ([.ref (r 0), .int p0, .int p1]) ++ List.replicate (7 - (lg_sl ([.ref (r 0), .int p0, .int p1])).length) Slot.unset).toArray = ls at hl ⊢
  have hl : lv_has ls 7 [(0, .ref (r 0)), (1, .int p0), (2, .int p1)] := hl
  refine lv_iload_n hx hb dX8_ask_0 rfl (lv_at hl 1 rfl) ?_
  refine lv_if_lt (tgt := 34) hx hb dX8_ask_1 (by decide) (fun c_1 => ?_) (fun c_1 => ?_)
  · skip
    refine lv_iconst (v := (-1)) hx hb dX8_ask_34 (by decide) ?_
    exact W.iret (v := (-1)) hx hb hr (fun t ht hW => ⟨⟨(-1), (), rfl, rfl, trivial⟩, hS.F ht⟩) hS.2.2 dX8_ask_35
  · skip
    refine lv_iload_n hx hb dX8_ask_4 rfl (lv_at hl 1 rfl) ?_
    refine lv_iconst (v := 1) hx hb dX8_ask_5 (by decide) ?_
    refine lv_icmp_gt (tgt := 34) hx hb dX8_ask_6 (by decide) (fun c_2 => ?_) (fun c_2 => ?_)
    · skip
      refine lv_iconst (v := (-1)) hx hb dX8_ask_34 (by decide) ?_
      exact W.iret (v := (-1)) hx hb hr (fun t ht hW => ⟨⟨(-1), (), rfl, rfl, trivial⟩, hS.F ht⟩) hS.2.2 dX8_ask_35
    · skip
      refine lv_aload_n hx hb dX8_ask_9 rfl (lv_at hl 0 rfl) ?_
      refine va_get (D := (dC, dI)) (ci := 7) (v := .ref (r 55)) (C := RX8) (T := TX8) (N := 16) hx hb hG inX8 hown hK hP 0 rfl rfl 3 (by decide) (hG _ gw471) (fun _ h9 => h9) rfl dX8_ask_10 ?_
      refine va_get (D := (dC, dI)) (ci := 3) (v := .int 0) (C := RX4) (T := TX4) (N := 14) hx hb hG inX4 hown hK hP 1 rfl rfl 3 (by decide) (hG _ gw245) (fun _ h9 => h9) rfl dX8_ask_13 ?_
      refine lv_if_eq (tgt := 34) hx hb dX8_ask_16 (by decide) (fun c_3 => ?_) (fun c_3 => absurd (by decide) c_3)
      refine lv_iconst (v := (-1)) hx hb dX8_ask_34 (by decide) ?_
      exact W.iret (v := (-1)) hx hb hr (fun t ht hW => ⟨⟨(-1), (), rfl, rfl, trivial⟩, hS.F ht⟩) hS.2.2 dX8_ask_35
set_option maxHeartbeats 4000000 in
set_option maxRecDepth 100000 in
theorem kX9_ask (l : Launch) (dC : Nat → ClassId) (dI : Nat → Nat → Nat) (r : Nat → Nat) (c : Nat → ClassId) (f4 : Nat → Int32) (f5 : Nat → Int32) (p0 p1 : Int32) (sz : Nat) (hf4_0 : f4 0 = 0) (hf5_0 : f5 0 = 0) : Met l yX9_ask (.code yX9_ask cX9_ask 7 (some .int) :: GW) { frames := 6, cells := 0, slots := 0, locals := 223 } (va_Pc [.ref (r 0), .int p0, .int p1] (pW (dC, dI) [(r 0, .inr (8, [.ref (r 1), .ref (r 2), .int 0, .int 0, .int 0, .int (-1), .int 0, .int 0, .int 0, .int 0, .long 0, .ref (r 3), .ref (r 4), .ref (r 5), .ref (r 6), .ref (r 7), .ref (r 8), .ref (r 9), .ref (r 10), .ref (r 11), .ref (r 12), .ref (r 13), .ref (r 14), .ref (r 15), .ref (r 16), .ref (r 17), .ref (r 18), .ref (r 19), .ref (r 20), .ref (r 21), .ref (r 22), .ref (r 23), .ref (r 24), .int 0, .int 0, .int 0, .int 0, .int 0, .int 0, .int 0, .int 0, .int 0, .ref (r 25), .ref (r 26), .ref (r 27), .int 0, .int 0, .ref (r 28), .int 0, .ref (r 29), .ref (r 30), .ref (r 31), .ref (r 32), .ref (r 33), .ref (r 34), .ref (r 35), .ref (r 36), .int 0, .int 0, .int 0, .ref (r 37), .ref (r 38)])), (r 4, .inl ((c 4), 2, .inl f4)), (r 5, .inl ((c 5), 2, .inl f5)), (r 35, .inl ((c 35), 21, .inl (fun _ => 0)))] [((c 4), .int), ((c 5), .int), ((c 35), .int)] sz)) (va_Qi (fun (r0 : Int32) (_ : Unit) => r0 = (-1)) (fun _ _ => True) (va_A [(r 0, .inr (8, [.ref (r 1), .ref (r 2), .int 0, .int 0, .int 0, .int (-1), .int 0, .int 0, .int 0, .int 0, .long 0, .ref (r 3), .ref (r 4), .ref (r 5), .ref (r 6), .ref (r 7), .ref (r 8), .ref (r 9), .ref (r 10), .ref (r 11), .ref (r 12), .ref (r 13), .ref (r 14), .ref (r 15), .ref (r 16), .ref (r 17), .ref (r 18), .ref (r 19), .ref (r 20), .ref (r 21), .ref (r 22), .ref (r 23), .ref (r 24), .int 0, .int 0, .int 0, .int 0, .int 0, .int 0, .int 0, .int 0, .int 0, .ref (r 25), .ref (r 26), .ref (r 27), .int 0, .int 0, .ref (r 28), .int 0, .ref (r 29), .ref (r 30), .ref (r 31), .ref (r 32), .ref (r 33), .ref (r 34), .ref (r 35), .ref (r 36), .int 0, .int 0, .int 0, .ref (r 37), .ref (r 38)])), (r 4, .inl ((c 4), 2, .inl f4)), (r 5, .inl ((c 5), 2, .inl f5)), (r 35, .inl ((c 35), 21, .inl (fun _ => 0)))] sz)) 0 0 (va_A [(r 0, .inr (8, [.ref (r 1), .ref (r 2), .int 0, .int 0, .int 0, .int (-1), .int 0, .int 0, .int 0, .int 0, .long 0, .ref (r 3), .ref (r 4), .ref (r 5), .ref (r 6), .ref (r 7), .ref (r 8), .ref (r 9), .ref (r 10), .ref (r 11), .ref (r 12), .ref (r 13), .ref (r 14), .ref (r 15), .ref (r 16), .ref (r 17), .ref (r 18), .ref (r 19), .ref (r 20), .ref (r 21), .ref (r 22), .ref (r 23), .ref (r 24), .int 0, .int 0, .int 0, .int 0, .int 0, .int 0, .int 0, .int 0, .int 0, .ref (r 25), .ref (r 26), .ref (r 27), .int 0, .int 0, .ref (r 28), .int 0, .ref (r 29), .ref (r 30), .ref (r 31), .ref (r 32), .ref (r 33), .ref (r 34), .ref (r 35), .ref (r 36), .int 0, .int 0, .int 0, .ref (r 37), .ref (r 38)])), (r 4, .inl ((c 4), 2, .inl f4)), (r 5, .inl ((c 5), 2, .inl f5)), (r 35, .inl ((c 35), 21, .inl (fun _ => 0)))] sz) := by
  refine Met.ofW (cc := cX9_ask) (maxL := 7) (ret := (some .int)) (by decide) rfl ?_
  intro p e s m args below meth c0 s₁ B hml hv
  obtain ⟨rfl, hsz, hP, hK, hD0⟩ := hv
  have hx := B.exec
  have hb := B.bytes
  have hr := B.returns
  have hts := atoms_spec (ws := .code yX9_ask cX9_ask 7 (some .int) :: GW) B.pre
  have hG : ∀ w ∈ GW, w.before _ s = true := fun w h => hts w (List.mem_cons_of_mem _ h)
  have hown : s.vm.findClass RX9 = some m.cls := findClass_of_methodNamed B.named
  have hlocks := B.notSynchronized
  subst hsz
  have hD := hD0.self (sz := s.heap.size)
  generalize hAe : va_A [(r 0, .inr (8, [.ref (r 1), .ref (r 2), .int 0, .int 0, .int 0, .int (-1), .int 0, .int 0, .int 0, .int 0, .long 0, .ref (r 3), .ref (r 4), .ref (r 5), .ref (r 6), .ref (r 7), .ref (r 8), .ref (r 9), .ref (r 10), .ref (r 11), .ref (r 12), .ref (r 13), .ref (r 14), .ref (r 15), .ref (r 16), .ref (r 17), .ref (r 18), .ref (r 19), .ref (r 20), .ref (r 21), .ref (r 22), .ref (r 23), .ref (r 24), .int 0, .int 0, .int 0, .int 0, .int 0, .int 0, .int 0, .int 0, .int 0, .ref (r 25), .ref (r 26), .ref (r 27), .int 0, .int 0, .ref (r 28), .int 0, .ref (r 29), .ref (r 30), .ref (r 31), .ref (r 32), .ref (r 33), .ref (r 34), .ref (r 35), .ref (r 36), .int 0, .int 0, .int 0, .ref (r 37), .ref (r 38)])), (r 4, .inl ((c 4), 2, .inl f4)), (r 5, .inl ((c 5), 2, .inl f5)), (r 35, .inl ((c 35), 21, .inl (fun _ => 0)))] s.heap.size = A at hD ⊢
  have hA : ∀ q : Nat, s.heap.size ≤ q → A q := fun q h => by rw [← hAe]; exact Or.inr h
  have hS : va_S A s.heap s.heap [] := va_S.rf
  have hP : va_P (dC, dI) vwCl [(r 0, .inr (8, [.ref (r 1), .ref (r 2), .int 0, .int 0, .int 0, .int (-1), .int 0, .int 0, .int 0, .int 0, .long 0, .ref (r 3), .ref (r 4), .ref (r 5), .ref (r 6), .ref (r 7), .ref (r 8), .ref (r 9), .ref (r 10), .ref (r 11), .ref (r 12), .ref (r 13), .ref (r 14), .ref (r 15), .ref (r 16), .ref (r 17), .ref (r 18), .ref (r 19), .ref (r 20), .ref (r 21), .ref (r 22), .ref (r 23), .ref (r 24), .int 0, .int 0, .int 0, .int 0, .int 0, .int 0, .int 0, .int 0, .int 0, .ref (r 25), .ref (r 26), .ref (r 27), .int 0, .int 0, .ref (r 28), .int 0, .ref (r 29), .ref (r 30), .ref (r 31), .ref (r 32), .ref (r 33), .ref (r 34), .ref (r 35), .ref (r 36), .int 0, .int 0, .int 0, .ref (r 37), .ref (r 38)])), (r 4, .inl ((c 4), 2, .inl f4)), (r 5, .inl ((c 5), 2, .inl f5)), (r 35, .inl ((c 35), 21, .inl (fun _ => 0)))] s.heap := hP
  have hl := lv_entry ([.ref (r 0), .int p0, .int p1]) (n := 7) (Nat.le_of_ble_eq_true rfl)
  rw [lg_entry_eq]
  generalize (lg_sl ([.ref (r 0), .int p0, .int p1]) ++ List.replicate (7 - (lg_sl ([.ref (r 0), .int p0, .int p1])).length) Slot.unset).toArray = ls at hl ⊢
  have hl : lv_has ls 7 [(0, .ref (r 0)), (1, .int p0), (2, .int p1)] := hl
  refine lv_aload_n hx hb dX9_ask_0 rfl (lv_at hl 0 rfl) ?_
  refine lv_iload_n hx hb dX9_ask_1 rfl (lv_at hl 2 rfl) ?_
  have hPc := hP.sub (ws' := [(r 0, .inr (8, [.ref (r 1), .ref (r 2), .int 0, .int 0, .int 0, .int (-1), .int 0, .int 0, .int 0, .int 0, .long 0, .ref (r 3), .ref (r 4), .ref (r 5), .ref (r 6), .ref (r 7), .ref (r 8), .ref (r 9), .ref (r 10), .ref (r 11), .ref (r 12), .ref (r 13), .ref (r 14), .ref (r 15), .ref (r 16), .ref (r 17), .ref (r 18), .ref (r 19), .ref (r 20), .ref (r 21), .ref (r 22), .ref (r 23), .ref (r 24), .int 0, .int 0, .int 0, .int 0, .int 0, .int 0, .int 0, .int 0, .int 0, .ref (r 25), .ref (r 26), .ref (r 27), .int 0, .int 0, .ref (r 28), .int 0, .ref (r 29), .ref (r 30), .ref (r 31), .ref (r 32), .ref (r 33), .ref (r 34), .ref (r 35), .ref (r 36), .int 0, .int 0, .int 0, .ref (r 37), .ref (r 38)])), (r 5, .inl ((c 5), 2, .inl f5)), (r 35, .inl ((c 35), 21, .inl (fun _ => 0)))]) [0, 2, 3] rfl
  have hKc := hK.sub (tys' := [((c 5), .int), ((c 35), .int)]) [1, 2] rfl
  have hDc := hD.sub (ws' := [(r 0, .inr (8, [.ref (r 1), .ref (r 2), .int 0, .int 0, .int 0, .int (-1), .int 0, .int 0, .int 0, .int 0, .long 0, .ref (r 3), .ref (r 4), .ref (r 5), .ref (r 6), .ref (r 7), .ref (r 8), .ref (r 9), .ref (r 10), .ref (r 11), .ref (r 12), .ref (r 13), .ref (r 14), .ref (r 15), .ref (r 16), .ref (r 17), .ref (r 18), .ref (r 19), .ref (r 20), .ref (r 21), .ref (r 22), .ref (r 23), .ref (r 24), .int 0, .int 0, .int 0, .int 0, .int 0, .int 0, .int 0, .int 0, .int 0, .ref (r 25), .ref (r 26), .ref (r 27), .int 0, .int 0, .ref (r 28), .int 0, .ref (r 29), .ref (r 30), .ref (r 31), .ref (r 32), .ref (r 33), .ref (r 34), .ref (r 35), .ref (r 36), .int 0, .int 0, .int 0, .ref (r 37), .ref (r 38)])), (r 5, .inl ((c 5), 2, .inl f5)), (r 35, .inl ((c 35), 21, .inl (fun _ => 0)))]) [0, 2, 3] (by decide) rfl
  have hFc := va_free (wc := [(r 0, .inr (8, [.ref (r 1), .ref (r 2), .int 0, .int 0, .int 0, .int (-1), .int 0, .int 0, .int 0, .int 0, .long 0, .ref (r 3), .ref (r 4), .ref (r 5), .ref (r 6), .ref (r 7), .ref (r 8), .ref (r 9), .ref (r 10), .ref (r 11), .ref (r 12), .ref (r 13), .ref (r 14), .ref (r 15), .ref (r 16), .ref (r 17), .ref (r 18), .ref (r 19), .ref (r 20), .ref (r 21), .ref (r 22), .ref (r 23), .ref (r 24), .int 0, .int 0, .int 0, .int 0, .int 0, .int 0, .int 0, .int 0, .int 0, .ref (r 25), .ref (r 26), .ref (r 27), .int 0, .int 0, .ref (r 28), .int 0, .ref (r 29), .ref (r 30), .ref (r 31), .ref (r 32), .ref (r 33), .ref (r 34), .ref (r 35), .ref (r 36), .int 0, .int 0, .int 0, .ref (r 37), .ref (r 38)])), (r 5, .inl ((c 5), 2, .inl f5)), (r 35, .inl ((c 35), 21, .inl (fun _ => 0)))]) hD hS hA [0, 2, 3] rfl
  refine va_callv (va_runV (As := [.int p1]) (rest := []) ⟨hx, hb, hml, hown, hG⟩ (kX9_layRows l dC dI r c f5 p1 s.heap.size hf5_0) (cwV 1 hG (goodV gw1834 gw1836 gw122 gw138 gw1837) rfl rfl rfl hd_X9_layRows ⟨(Nat.le_of_ble_eq_true rfl), (Nat.le_of_ble_eq_true rfl)⟩) ⟨fbW, va_recv hKc hPc (ci := 8) (q0 := 0) rfl rfl, pW_in hPc hKc hDc⟩ rfl rfl hl.1 rfl (lv_room (Nat.le_of_ble_eq_true rfl)) dX9_ask_2 ⟨(Nat.le_of_ble_eq_true rfl), (Nat.le_of_ble_eq_true rfl)⟩) hS (fun q _ h => hFc q h) hFc (fun u t H1 locs ht hvm hw hB hz1 hk1 hS => ?_)
  obtain ⟨zf3, hP1, hD1⟩ := hB
  rw [ht] at hP1
  obtain ⟨hP, hD⟩ := va_join (wr := [(r 4, .inl ((c 4), 2, .inl f4))]) (w1 := [(r 0, .inr (8, [.ref (r 1), .ref (r 2), .int 0, .int 0, .int 0, .int (-1), .int 0, .int 0, .int 0, .int 0, .long 0, .ref (r 3), .ref (r 4), .ref (r 5), .ref (r 6), .ref (r 7), .ref (r 8), .ref (r 9), .ref (r 10), .ref (r 11), .ref (r 12), .ref (r 13), .ref (r 14), .ref (r 15), .ref (r 16), .ref (r 17), .ref (r 18), .ref (r 19), .ref (r 20), .ref (r 21), .ref (r 22), .ref (r 23), .ref (r 24), .int 0, .int 0, .int 0, .int 0, .int 0, .int 0, .int 0, .int 0, .int 0, .ref (r 25), .ref (r 26), .ref (r 27), .int 0, .int 0, .ref (r 28), .int 0, .ref (r 29), .ref (r 30), .ref (r 31), .ref (r 32), .ref (r 33), .ref (r 34), .ref (r 35), .ref (r 36), .int 0, .int 0, .int 0, .ref (r 37), .ref (r 38)])), (r 5, .inl ((c 5), 2, .inl f5)), (r 35, .inl ((c 35), 21, .inl zf3))]) hP hD [0, 2, 3] [1] rfl rfl (by decide) (by decide) hk1 hFc hP1 hD1
  have hP : va_P (dC, dI) vwCl [(r 4, .inl ((c 4), 2, .inl f4)), (r 0, .inr (8, [.ref (r 1), .ref (r 2), .int 0, .int 0, .int 0, .int (-1), .int 0, .int 0, .int 0, .int 0, .long 0, .ref (r 3), .ref (r 4), .ref (r 5), .ref (r 6), .ref (r 7), .ref (r 8), .ref (r 9), .ref (r 10), .ref (r 11), .ref (r 12), .ref (r 13), .ref (r 14), .ref (r 15), .ref (r 16), .ref (r 17), .ref (r 18), .ref (r 19), .ref (r 20), .ref (r 21), .ref (r 22), .ref (r 23), .ref (r 24), .int 0, .int 0, .int 0, .int 0, .int 0, .int 0, .int 0, .int 0, .int 0, .ref (r 25), .ref (r 26), .ref (r 27), .int 0, .int 0, .ref (r 28), .int 0, .ref (r 29), .ref (r 30), .ref (r 31), .ref (r 32), .ref (r 33), .ref (r 34), .ref (r 35), .ref (r 36), .int 0, .int 0, .int 0, .ref (r 37), .ref (r 38)])), (r 5, .inl ((c 5), 2, .inl f5)), (r 35, .inl ((c 35), 21, .inl zf3))] H1 := hP
  have hD : va_D A [(r 4, .inl ((c 4), 2, .inl f4)), (r 0, .inr (8, [.ref (r 1), .ref (r 2), .int 0, .int 0, .int 0, .int (-1), .int 0, .int 0, .int 0, .int 0, .long 0, .ref (r 3), .ref (r 4), .ref (r 5), .ref (r 6), .ref (r 7), .ref (r 8), .ref (r 9), .ref (r 10), .ref (r 11), .ref (r 12), .ref (r 13), .ref (r 14), .ref (r 15), .ref (r 16), .ref (r 17), .ref (r 18), .ref (r 19), .ref (r 20), .ref (r 21), .ref (r 22), .ref (r 23), .ref (r 24), .int 0, .int 0, .int 0, .int 0, .int 0, .int 0, .int 0, .int 0, .int 0, .ref (r 25), .ref (r 26), .ref (r 27), .int 0, .int 0, .ref (r 28), .int 0, .ref (r 29), .ref (r 30), .ref (r 31), .ref (r 32), .ref (r 33), .ref (r 34), .ref (r 35), .ref (r 36), .int 0, .int 0, .int 0, .ref (r 37), .ref (r 38)])), (r 5, .inl ((c 5), 2, .inl f5)), (r 35, .inl ((c 35), 21, .inl zf3))] := hD
  refine lv_iload_n hx hb dX9_ask_5 rfl (lv_at hl 1 rfl) ?_
  refine lv_iconst (v := 0) hx hb dX9_ask_6 (by decide) ?_
  refine lv_iconst (v := 1) hx hb dX9_ask_7 (by decide) ?_
  have hPc := hP.sub (ws' := []) [] rfl
  have hKc := hK.sub (tys' := []) [] rfl
  refine va_calli (va_runS (As := [.int p0, .int 0, .int 1]) (rest := []) ⟨hx, hb, hml, hown, hG⟩ (kX9_isIn_v1 l dC dI p0 H1.size ) (va_cwS 3 hG (goodS gw1516 gw1517 gw138 gw1518) rfl rfl rfl hd_X9_isIn ⟨(Nat.le_of_ble_eq_true rfl), (Nat.le_of_ble_eq_true rfl)⟩) ⟨fbR, pR_in hPc hKc⟩ rfl rfl hl.1 rfl (lv_room (Nat.le_of_ble_eq_true rfl)) dX9_ask_8 ⟨(Nat.le_of_ble_eq_true rfl), (Nat.le_of_ble_eq_true rfl)⟩) hS (fun q hq h => absurd hq (Nat.not_lt.mpr h)) (fun q h => hA q (Nat.le_trans hS.1 h)) (fun r_5 u t H4 locs ht hvm hw hB hz1 hk1 hS => ?_)
  rcases hw with ⟨rfl, hy6, hw⟩ | ⟨rfl, hy7, hy8, hw⟩ | ⟨rfl, hy9, hy10, hw⟩
  · skip
    have hP := wk hP hk1
    refine wt_c (v := 0) hw ?_
    refine lv_if_eq (tgt := 28) hx hb dX9_ask_11 (by decide) (fun c_11 => ?_) (fun c_11 => absurd (by decide) c_11)
    refine lv_iconst (v := (-1)) hx hb dX9_ask_28 (by decide) ?_
    exact W.iret (v := (-1)) hx hb hr (fun t ht hW => ⟨⟨(-1), (), rfl, rfl, trivial⟩, hS.F ht⟩) hS.2.2 dX9_ask_29
  · skip
    have hP := wk hP hk1
    refine wt_c (v := 0) hw ?_
    refine lv_if_eq (tgt := 28) hx hb dX9_ask_11 (by decide) (fun c_12 => ?_) (fun c_12 => absurd (by decide) c_12)
    refine lv_iconst (v := (-1)) hx hb dX9_ask_28 (by decide) ?_
    exact W.iret (v := (-1)) hx hb hr (fun t ht hW => ⟨⟨(-1), (), rfl, rfl, trivial⟩, hS.F ht⟩) hS.2.2 dX9_ask_29
  · skip
    have hP := wk hP hk1
    refine wt_c (v := 1) hw ?_
    refine lv_if_eq (tgt := 28) hx hb dX9_ask_11 (by decide) (fun c_13 => absurd c_13 (by decide)) (fun c_13 => ?_)
    refine lv_aload_n hx hb dX9_ask_14 rfl (lv_at hl 0 rfl) ?_
    have hPc := hP.sub (ws' := [(r 4, .inl ((c 4), 2, .inl f4)), (r 0, .inr (8, [.ref (r 1), .ref (r 2), .int 0, .int 0, .int 0, .int (-1), .int 0, .int 0, .int 0, .int 0, .long 0, .ref (r 3), .ref (r 4), .ref (r 5), .ref (r 6), .ref (r 7), .ref (r 8), .ref (r 9), .ref (r 10), .ref (r 11), .ref (r 12), .ref (r 13), .ref (r 14), .ref (r 15), .ref (r 16), .ref (r 17), .ref (r 18), .ref (r 19), .ref (r 20), .ref (r 21), .ref (r 22), .ref (r 23), .ref (r 24), .int 0, .int 0, .int 0, .int 0, .int 0, .int 0, .int 0, .int 0, .int 0, .ref (r 25), .ref (r 26), .ref (r 27), .int 0, .int 0, .ref (r 28), .int 0, .ref (r 29), .ref (r 30), .ref (r 31), .ref (r 32), .ref (r 33), .ref (r 34), .ref (r 35), .ref (r 36), .int 0, .int 0, .int 0, .ref (r 37), .ref (r 38)]))]) [0, 1] rfl
    have hKc := hK.sub (tys' := [((c 4), .int)]) [0] rfl
    have hDc := hD.sub (ws' := [(r 4, .inl ((c 4), 2, .inl f4)), (r 0, .inr (8, [.ref (r 1), .ref (r 2), .int 0, .int 0, .int 0, .int (-1), .int 0, .int 0, .int 0, .int 0, .long 0, .ref (r 3), .ref (r 4), .ref (r 5), .ref (r 6), .ref (r 7), .ref (r 8), .ref (r 9), .ref (r 10), .ref (r 11), .ref (r 12), .ref (r 13), .ref (r 14), .ref (r 15), .ref (r 16), .ref (r 17), .ref (r 18), .ref (r 19), .ref (r 20), .ref (r 21), .ref (r 22), .ref (r 23), .ref (r 24), .int 0, .int 0, .int 0, .int 0, .int 0, .int 0, .int 0, .int 0, .int 0, .ref (r 25), .ref (r 26), .ref (r 27), .int 0, .int 0, .ref (r 28), .int 0, .ref (r 29), .ref (r 30), .ref (r 31), .ref (r 32), .ref (r 33), .ref (r 34), .ref (r 35), .ref (r 36), .int 0, .int 0, .int 0, .ref (r 37), .ref (r 38)]))]) [0, 1] (by decide) rfl
    have hFc := va_free (wc := [(r 4, .inl ((c 4), 2, .inl f4)), (r 0, .inr (8, [.ref (r 1), .ref (r 2), .int 0, .int 0, .int 0, .int (-1), .int 0, .int 0, .int 0, .int 0, .long 0, .ref (r 3), .ref (r 4), .ref (r 5), .ref (r 6), .ref (r 7), .ref (r 8), .ref (r 9), .ref (r 10), .ref (r 11), .ref (r 12), .ref (r 13), .ref (r 14), .ref (r 15), .ref (r 16), .ref (r 17), .ref (r 18), .ref (r 19), .ref (r 20), .ref (r 21), .ref (r 22), .ref (r 23), .ref (r 24), .int 0, .int 0, .int 0, .int 0, .int 0, .int 0, .int 0, .int 0, .int 0, .ref (r 25), .ref (r 26), .ref (r 27), .int 0, .int 0, .ref (r 28), .int 0, .ref (r 29), .ref (r 30), .ref (r 31), .ref (r 32), .ref (r 33), .ref (r 34), .ref (r 35), .ref (r 36), .int 0, .int 0, .int 0, .ref (r 37), .ref (r 38)]))]) hD hS hA [0, 1] rfl
    refine va_calli (va_runV (As := []) (rest := []) ⟨hx, hb, hml, hown, hG⟩ (kX9_songs_v1 l dC dI r c f4 H4.size hf4_0) (cwV 0 hG (goodV gw1512 gw1514 gw86 gw138 gw1515) rfl rfl rfl hd_X9_songs ⟨(Nat.le_of_ble_eq_true rfl), (Nat.le_of_ble_eq_true rfl)⟩) ⟨fbW, va_recv hKc hPc (ci := 8) (q0 := 1) rfl rfl, pW_in hPc hKc hDc⟩ rfl rfl hl.1 rfl (lv_room (Nat.le_of_ble_eq_true rfl)) dX9_ask_15 ⟨(Nat.le_of_ble_eq_true rfl), (Nat.le_of_ble_eq_true rfl)⟩) hS (fun q _ h => hFc q h) hFc (fun r_15 u t H14 locs ht hvm hw hB hz1 hk1 hS => ?_)
    obtain ⟨hP1, hD1⟩ := hB
    rw [ht] at hP1
    obtain ⟨hP, hD⟩ := va_join (wr := [(r 5, .inl ((c 5), 2, .inl f5)), (r 35, .inl ((c 35), 21, .inl zf3))]) (w1 := [(r 4, .inl ((c 4), 2, .inl f4)), (r 0, .inr (8, [.ref (r 1), .ref (r 2), .int 0, .int 0, .int 0, .int (-1), .int 0, .int 0, .int 0, .int 0, .long 0, .ref (r 3), .ref (r 4), .ref (r 5), .ref (r 6), .ref (r 7), .ref (r 8), .ref (r 9), .ref (r 10), .ref (r 11), .ref (r 12), .ref (r 13), .ref (r 14), .ref (r 15), .ref (r 16), .ref (r 17), .ref (r 18), .ref (r 19), .ref (r 20), .ref (r 21), .ref (r 22), .ref (r 23), .ref (r 24), .int 0, .int 0, .int 0, .int 0, .int 0, .int 0, .int 0, .int 0, .int 0, .ref (r 25), .ref (r 26), .ref (r 27), .int 0, .int 0, .ref (r 28), .int 0, .ref (r 29), .ref (r 30), .ref (r 31), .ref (r 32), .ref (r 33), .ref (r 34), .ref (r 35), .ref (r 36), .int 0, .int 0, .int 0, .ref (r 37), .ref (r 38)]))]) hP hD [0, 1] [2, 3] rfl rfl (by decide) (by decide) hk1 hFc hP1 hD1
    have hP : va_P (dC, dI) vwCl [(r 5, .inl ((c 5), 2, .inl f5)), (r 35, .inl ((c 35), 21, .inl zf3)), (r 4, .inl ((c 4), 2, .inl f4)), (r 0, .inr (8, [.ref (r 1), .ref (r 2), .int 0, .int 0, .int 0, .int (-1), .int 0, .int 0, .int 0, .int 0, .long 0, .ref (r 3), .ref (r 4), .ref (r 5), .ref (r 6), .ref (r 7), .ref (r 8), .ref (r 9), .ref (r 10), .ref (r 11), .ref (r 12), .ref (r 13), .ref (r 14), .ref (r 15), .ref (r 16), .ref (r 17), .ref (r 18), .ref (r 19), .ref (r 20), .ref (r 21), .ref (r 22), .ref (r 23), .ref (r 24), .int 0, .int 0, .int 0, .int 0, .int 0, .int 0, .int 0, .int 0, .int 0, .ref (r 25), .ref (r 26), .ref (r 27), .int 0, .int 0, .ref (r 28), .int 0, .ref (r 29), .ref (r 30), .ref (r 31), .ref (r 32), .ref (r 33), .ref (r 34), .ref (r 35), .ref (r 36), .int 0, .int 0, .int 0, .ref (r 37), .ref (r 38)]))] H14 := hP
    have hD : va_D A [(r 5, .inl ((c 5), 2, .inl f5)), (r 35, .inl ((c 35), 21, .inl zf3)), (r 4, .inl ((c 4), 2, .inl f4)), (r 0, .inr (8, [.ref (r 1), .ref (r 2), .int 0, .int 0, .int 0, .int (-1), .int 0, .int 0, .int 0, .int 0, .long 0, .ref (r 3), .ref (r 4), .ref (r 5), .ref (r 6), .ref (r 7), .ref (r 8), .ref (r 9), .ref (r 10), .ref (r 11), .ref (r 12), .ref (r 13), .ref (r 14), .ref (r 15), .ref (r 16), .ref (r 17), .ref (r 18), .ref (r 19), .ref (r 20), .ref (r 21), .ref (r 22), .ref (r 23), .ref (r 24), .int 0, .int 0, .int 0, .int 0, .int 0, .int 0, .int 0, .int 0, .int 0, .ref (r 25), .ref (r 26), .ref (r 27), .int 0, .int 0, .ref (r 28), .int 0, .ref (r 29), .ref (r 30), .ref (r 31), .ref (r 32), .ref (r 33), .ref (r 34), .ref (r 35), .ref (r 36), .int 0, .int 0, .int 0, .ref (r 37), .ref (r 38)]))] := hD
    refine wt_c (v := 0) hw ?_
    refine lv_if_eq (tgt := 28) hx hb dX9_ask_18 (by decide) (fun c_16 => ?_) (fun c_16 => absurd (by decide) c_16)
    refine lv_iconst (v := (-1)) hx hb dX9_ask_28 (by decide) ?_
    exact W.iret (v := (-1)) hx hb hr (fun t ht hW => ⟨⟨(-1), (), rfl, rfl, trivial⟩, hS.F ht⟩) hS.2.2 dX9_ask_29
set_option maxHeartbeats 4000000 in
set_option maxRecDepth 100000 in
theorem kX7_writeTo_v3 (l : Launch) (dC : Nat → ClassId) (dI : Nat → Nat → Nat) (a0 a2 a3 a4 a5 a6 a1 : Nat) (c1 c2 c3 c4 c5 c6 : ClassId) (f2 : Nat → Int32) (f3 : Nat → Int32) (f4 : Nat → Int32) (f5 : Nat → Int32) (f6 : Nat → Int32) (sz : Nat) : Met l yX7_writeTo (.code yX7_writeTo cX7_writeTo 4 none :: GW) { frames := 2, cells := 0, slots := 0, locals := 100 } (va_Pc [.ref a0, .ref a1, .int 0] (pW (dC, dI) [(a0, .inr (6, [.ref a2, .ref a3, .ref a4, .ref a5, .ref a6, .int 0, .int 0])), (a1, .inl (c1, 78, .inl (fun _ => 0))), (a2, .inl (c2, 5, .inl f2)), (a3, .inl (c3, 5, .inl f3)), (a4, .inl (c4, 5, .inl f4)), (a5, .inl (c5, 5, .inl f5)), (a6, .inl (c6, 4, .inl f6))] [(c1, .int), (c2, .int), (c3, .int), (c4, .int), (c5, .int), (c6, .int)] sz)) (va_Qv (fun _ : Unit => True) (fun (_ : Unit) (t : State) => ∃ (F0 : Nat → Int32), va_P (dC, dI) vwCl [(a0, .inr (6, [.ref a2, .ref a3, .ref a4, .ref a5, .ref a6, .int 0, .int 0])), (a1, .inl (c1, 78, .inl F0)), (a2, .inl (c2, 5, .inl f2)), (a3, .inl (c3, 5, .inl f3)), (a4, .inl (c4, 5, .inl f4)), (a5, .inl (c5, 5, .inl f5)), (a6, .inl (c6, 4, .inl f6))] t.heap ∧ va_D (va_A [(a0, .inr (6, [.ref a2, .ref a3, .ref a4, .ref a5, .ref a6, .int 0, .int 0])), (a1, .inl (c1, 78, .inl (fun _ => 0))), (a2, .inl (c2, 5, .inl f2)), (a3, .inl (c3, 5, .inl f3)), (a4, .inl (c4, 5, .inl f4)), (a5, .inl (c5, 5, .inl f5)), (a6, .inl (c6, 4, .inl f6))] sz) [(a0, .inr (6, [.ref a2, .ref a3, .ref a4, .ref a5, .ref a6, .int 0, .int 0])), (a1, .inl (c1, 78, .inl F0)), (a2, .inl (c2, 5, .inl f2)), (a3, .inl (c3, 5, .inl f3)), (a4, .inl (c4, 5, .inl f4)), (a5, .inl (c5, 5, .inl f5)), (a6, .inl (c6, 4, .inl f6))]) (va_A [(a0, .inr (6, [.ref a2, .ref a3, .ref a4, .ref a5, .ref a6, .int 0, .int 0])), (a1, .inl (c1, 78, .inl (fun _ => 0))), (a2, .inl (c2, 5, .inl f2)), (a3, .inl (c3, 5, .inl f3)), (a4, .inl (c4, 5, .inl f4)), (a5, .inl (c5, 5, .inl f5)), (a6, .inl (c6, 4, .inl f6))] sz)) 0 0 (va_A [(a0, .inr (6, [.ref a2, .ref a3, .ref a4, .ref a5, .ref a6, .int 0, .int 0])), (a1, .inl (c1, 78, .inl (fun _ => 0))), (a2, .inl (c2, 5, .inl f2)), (a3, .inl (c3, 5, .inl f3)), (a4, .inl (c4, 5, .inl f4)), (a5, .inl (c5, 5, .inl f5)), (a6, .inl (c6, 4, .inl f6))] sz) := by
  refine Met.ofW (cc := cX7_writeTo) (maxL := 4) (ret := none) (by decide) rfl ?_
  intro p e s m args below meth c0 s₁ B hml hv
  obtain ⟨rfl, hsz, hP, hK, hD0⟩ := hv
  have hx := B.exec
  have hb := B.bytes
  have hr := B.returns
  have hts := atoms_spec (ws := .code yX7_writeTo cX7_writeTo 4 none :: GW) B.pre
  have hG : ∀ w ∈ GW, w.before _ s = true := fun w h => hts w (List.mem_cons_of_mem _ h)
  have hown : s.vm.findClass RX7 = some m.cls := findClass_of_methodNamed B.named
  have hlocks := B.notSynchronized
  subst hsz
  have hD := hD0.self (sz := s.heap.size)
  generalize hAe : va_A [(a0, .inr (6, [.ref a2, .ref a3, .ref a4, .ref a5, .ref a6, .int 0, .int 0])), (a1, .inl (c1, 78, .inl (fun _ => 0))), (a2, .inl (c2, 5, .inl f2)), (a3, .inl (c3, 5, .inl f3)), (a4, .inl (c4, 5, .inl f4)), (a5, .inl (c5, 5, .inl f5)), (a6, .inl (c6, 4, .inl f6))] s.heap.size = A at hD ⊢
  have hA : ∀ q : Nat, s.heap.size ≤ q → A q := fun q h => by rw [← hAe]; exact Or.inr h
  have hS : va_S A s.heap s.heap [] := va_S.rf
  have hP : va_P (dC, dI) vwCl [(a0, .inr (6, [.ref a2, .ref a3, .ref a4, .ref a5, .ref a6, .int 0, .int 0])), (a1, .inl (c1, 78, .inl (fun _ => 0))), (a2, .inl (c2, 5, .inl f2)), (a3, .inl (c3, 5, .inl f3)), (a4, .inl (c4, 5, .inl f4)), (a5, .inl (c5, 5, .inl f5)), (a6, .inl (c6, 4, .inl f6))] s.heap := hP
  have hl := lv_entry ([.ref a0, .ref a1, .int 0]) (n := 4) (Nat.le_of_ble_eq_true rfl)
  rw [lg_entry_eq]
  generalize (lg_sl ([.ref a0, .ref a1, .int 0]) ++ List.replicate (4 - (lg_sl ([.ref a0, .ref a1, .int 0])).length) Slot.unset).toArray = ls at hl ⊢
  have hl : lv_has ls 4 [(0, .ref a0), (1, .ref a1), (2, .int 0)] := hl
  refine lv_iload_n hx hb dX7_writeTo_0 rfl (lv_at hl 2 rfl) ?_
  refine lv_bipush (v := 26) hx hb dX7_writeTo_1 (by decide) ?_
  refine lv_imul hx hb dX7_writeTo_3 ?_
  refine wt_c (v := 0) (by decide) ?_
  refine lv_istore_n (lv' := [(3, .int 0), (0, .ref a0), (1, .ref a1), (2, .int 0)]) hx hb dX7_writeTo_4 rfl hl (by decide) rfl (fun ls hl => ?_)
  refine lv_iload_n hx hb dX7_writeTo_5 rfl (lv_at hl 0 rfl) ?_
  refine lv_if_lt (tgt := 18) hx hb dX7_writeTo_6 (by decide) (fun c_1 => absurd c_1 (by decide)) (fun c_1 => ?_)
  refine lv_iload_n hx hb dX7_writeTo_9 rfl (lv_at hl 0 rfl) ?_
  refine lv_bipush (v := 26) hx hb dX7_writeTo_10 (by decide) ?_
  refine lv_iadd hx hb dX7_writeTo_12 ?_
  refine wt_c (v := 26) (by decide) ?_
  refine lv_aload_n hx hb dX7_writeTo_13 rfl (lv_at hl 2 rfl) ?_
  refine va_alen (v := 78) hx hb hK hP 1 0 rfl rfl (show Int32.ofNat 78 = 78 by decide) dX7_writeTo_14 ?_
  refine lv_icmp_le (tgt := 19) hx hb dX7_writeTo_15 (by decide) (fun c_2 => ?_) (fun c_2 => absurd (by decide) c_2)
  refine lv_aload_n hx hb dX7_writeTo_19 rfl (lv_at hl 1 rfl) ?_
  refine va_get (D := (dC, dI)) (ci := 6) (v := .ref a2) (C := RX7) (T := TX7) (N := 7) hx hb hG inX7 hown hK hP 0 rfl rfl 0 (by decide) (hG _ gw351) (fun _ h9 => h9) rfl dX7_writeTo_20 ?_
  refine lv_iconst (v := 0) hx hb dX7_writeTo_23 (by decide) ?_
  refine lv_aload_n hx hb dX7_writeTo_24 rfl (lv_at hl 2 rfl) ?_
  refine lv_iload_n hx hb dX7_writeTo_25 rfl (lv_at hl 0 rfl) ?_
  refine lv_iconst (v := 5) hx hb dX7_writeTo_26 (by decide) ?_
  refine va_copyi (ty := .int) hx hb (hml.trans hl.1.symm) hown (hG _ gw465) (hG _ gw467) (hG _ gw466) (hG _ gw137) hK hP hD hS 2 1 1 0 rfl rfl rfl rfl rfl (by decide) (by decide) (by decide) (by decide) (by decide) (fun _ _ => rfl) (Nat.le_of_ble_eq_true rfl) (Nat.le_of_ble_eq_true rfl) dX7_writeTo_27 (fun H3 locs hP hD hS => ?_)
  obtain ⟨zf4, ezf4⟩ : ∃ z : Nat → Int32, z = va_cpy f2 (fun _ => 0) (0 : Int32).toNatClampNeg (0 : Int32).toNatClampNeg (5 : Int32).toNatClampNeg := ⟨_, rfl⟩
  have hP : va_P (dC, dI) vwCl [(a0, .inr (6, [.ref a2, .ref a3, .ref a4, .ref a5, .ref a6, .int 0, .int 0])), (a1, .inl (c1, 78, .inl zf4)), (a2, .inl (c2, 5, .inl f2)), (a3, .inl (c3, 5, .inl f3)), (a4, .inl (c4, 5, .inl f4)), (a5, .inl (c5, 5, .inl f5)), (a6, .inl (c6, 4, .inl f6))] H3 := by rw [ezf4]; exact hP
  have hD : va_D A [(a0, .inr (6, [.ref a2, .ref a3, .ref a4, .ref a5, .ref a6, .int 0, .int 0])), (a1, .inl (c1, 78, .inl zf4)), (a2, .inl (c2, 5, .inl f2)), (a3, .inl (c3, 5, .inl f3)), (a4, .inl (c4, 5, .inl f4)), (a5, .inl (c5, 5, .inl f5)), (a6, .inl (c6, 4, .inl f6))] := by rw [ezf4]; exact hD
  refine lv_aload_n hx hb dX7_writeTo_30 rfl (lv_at hl 1 rfl) ?_
  refine va_get (D := (dC, dI)) (ci := 6) (v := .ref a3) (C := RX7) (T := TX7) (N := 7) hx hb hG inX7 hown hK hP 0 rfl rfl 1 (by decide) (hG _ gw353) (fun _ h9 => h9) rfl dX7_writeTo_31 ?_
  refine lv_iconst (v := 0) hx hb dX7_writeTo_34 (by decide) ?_
  refine lv_aload_n hx hb dX7_writeTo_35 rfl (lv_at hl 2 rfl) ?_
  refine lv_iload_n hx hb dX7_writeTo_36 rfl (lv_at hl 0 rfl) ?_
  refine lv_iconst (v := 5) hx hb dX7_writeTo_37 (by decide) ?_
  refine lv_iadd hx hb dX7_writeTo_38 ?_
  refine wt_c (v := 5) (by decide) ?_
  refine lv_iconst (v := 5) hx hb dX7_writeTo_39 (by decide) ?_
  refine va_copyi (ty := .int) hx hb (hml.trans hl.1.symm) hown (hG _ gw465) (hG _ gw467) (hG _ gw466) (hG _ gw137) hK hP hD hS 3 1 2 0 rfl rfl rfl rfl rfl (by decide) (by decide) (by decide) (by decide) (by decide) (fun _ _ => rfl) (Nat.le_of_ble_eq_true rfl) (Nat.le_of_ble_eq_true rfl) dX7_writeTo_40 (fun H5 locs hP hD hS => ?_)
  obtain ⟨zf6, ezf6⟩ : ∃ z : Nat → Int32, z = va_cpy f3 zf4 (0 : Int32).toNatClampNeg (5 : Int32).toNatClampNeg (5 : Int32).toNatClampNeg := ⟨_, rfl⟩
  have hP : va_P (dC, dI) vwCl [(a0, .inr (6, [.ref a2, .ref a3, .ref a4, .ref a5, .ref a6, .int 0, .int 0])), (a1, .inl (c1, 78, .inl zf6)), (a2, .inl (c2, 5, .inl f2)), (a3, .inl (c3, 5, .inl f3)), (a4, .inl (c4, 5, .inl f4)), (a5, .inl (c5, 5, .inl f5)), (a6, .inl (c6, 4, .inl f6))] H5 := by rw [ezf6]; exact hP
  have hD : va_D A [(a0, .inr (6, [.ref a2, .ref a3, .ref a4, .ref a5, .ref a6, .int 0, .int 0])), (a1, .inl (c1, 78, .inl zf6)), (a2, .inl (c2, 5, .inl f2)), (a3, .inl (c3, 5, .inl f3)), (a4, .inl (c4, 5, .inl f4)), (a5, .inl (c5, 5, .inl f5)), (a6, .inl (c6, 4, .inl f6))] := by rw [ezf6]; exact hD
  refine lv_aload_n hx hb dX7_writeTo_43 rfl (lv_at hl 1 rfl) ?_
  refine va_get (D := (dC, dI)) (ci := 6) (v := .ref a4) (C := RX7) (T := TX7) (N := 7) hx hb hG inX7 hown hK hP 0 rfl rfl 2 (by decide) (hG _ gw355) (fun _ h9 => h9) rfl dX7_writeTo_44 ?_
  refine lv_iconst (v := 0) hx hb dX7_writeTo_47 (by decide) ?_
  refine lv_aload_n hx hb dX7_writeTo_48 rfl (lv_at hl 2 rfl) ?_
  refine lv_iload_n hx hb dX7_writeTo_49 rfl (lv_at hl 0 rfl) ?_
  refine lv_bipush (v := 10) hx hb dX7_writeTo_50 (by decide) ?_
  refine lv_iadd hx hb dX7_writeTo_52 ?_
  refine wt_c (v := 10) (by decide) ?_
  refine lv_iconst (v := 5) hx hb dX7_writeTo_53 (by decide) ?_
  refine va_copyi (ty := .int) hx hb (hml.trans hl.1.symm) hown (hG _ gw465) (hG _ gw467) (hG _ gw466) (hG _ gw137) hK hP hD hS 4 1 3 0 rfl rfl rfl rfl rfl (by decide) (by decide) (by decide) (by decide) (by decide) (fun _ _ => rfl) (Nat.le_of_ble_eq_true rfl) (Nat.le_of_ble_eq_true rfl) dX7_writeTo_54 (fun H7 locs hP hD hS => ?_)
  obtain ⟨zf8, ezf8⟩ : ∃ z : Nat → Int32, z = va_cpy f4 zf6 (0 : Int32).toNatClampNeg (10 : Int32).toNatClampNeg (5 : Int32).toNatClampNeg := ⟨_, rfl⟩
  have hP : va_P (dC, dI) vwCl [(a0, .inr (6, [.ref a2, .ref a3, .ref a4, .ref a5, .ref a6, .int 0, .int 0])), (a1, .inl (c1, 78, .inl zf8)), (a2, .inl (c2, 5, .inl f2)), (a3, .inl (c3, 5, .inl f3)), (a4, .inl (c4, 5, .inl f4)), (a5, .inl (c5, 5, .inl f5)), (a6, .inl (c6, 4, .inl f6))] H7 := by rw [ezf8]; exact hP
  have hD : va_D A [(a0, .inr (6, [.ref a2, .ref a3, .ref a4, .ref a5, .ref a6, .int 0, .int 0])), (a1, .inl (c1, 78, .inl zf8)), (a2, .inl (c2, 5, .inl f2)), (a3, .inl (c3, 5, .inl f3)), (a4, .inl (c4, 5, .inl f4)), (a5, .inl (c5, 5, .inl f5)), (a6, .inl (c6, 4, .inl f6))] := by rw [ezf8]; exact hD
  refine lv_aload_n hx hb dX7_writeTo_57 rfl (lv_at hl 1 rfl) ?_
  refine va_get (D := (dC, dI)) (ci := 6) (v := .ref a5) (C := RX7) (T := TX7) (N := 7) hx hb hG inX7 hown hK hP 0 rfl rfl 3 (by decide) (hG _ gw357) (fun _ h9 => h9) rfl dX7_writeTo_58 ?_
  refine lv_iconst (v := 0) hx hb dX7_writeTo_61 (by decide) ?_
  refine lv_aload_n hx hb dX7_writeTo_62 rfl (lv_at hl 2 rfl) ?_
  refine lv_iload_n hx hb dX7_writeTo_63 rfl (lv_at hl 0 rfl) ?_
  refine lv_bipush (v := 15) hx hb dX7_writeTo_64 (by decide) ?_
  refine lv_iadd hx hb dX7_writeTo_66 ?_
  refine wt_c (v := 15) (by decide) ?_
  refine lv_iconst (v := 5) hx hb dX7_writeTo_67 (by decide) ?_
  refine va_copyi (ty := .int) hx hb (hml.trans hl.1.symm) hown (hG _ gw465) (hG _ gw467) (hG _ gw466) (hG _ gw137) hK hP hD hS 5 1 4 0 rfl rfl rfl rfl rfl (by decide) (by decide) (by decide) (by decide) (by decide) (fun _ _ => rfl) (Nat.le_of_ble_eq_true rfl) (Nat.le_of_ble_eq_true rfl) dX7_writeTo_68 (fun H9 locs hP hD hS => ?_)
  obtain ⟨zf10, ezf10⟩ : ∃ z : Nat → Int32, z = va_cpy f5 zf8 (0 : Int32).toNatClampNeg (15 : Int32).toNatClampNeg (5 : Int32).toNatClampNeg := ⟨_, rfl⟩
  have hP : va_P (dC, dI) vwCl [(a0, .inr (6, [.ref a2, .ref a3, .ref a4, .ref a5, .ref a6, .int 0, .int 0])), (a1, .inl (c1, 78, .inl zf10)), (a2, .inl (c2, 5, .inl f2)), (a3, .inl (c3, 5, .inl f3)), (a4, .inl (c4, 5, .inl f4)), (a5, .inl (c5, 5, .inl f5)), (a6, .inl (c6, 4, .inl f6))] H9 := by rw [ezf10]; exact hP
  have hD : va_D A [(a0, .inr (6, [.ref a2, .ref a3, .ref a4, .ref a5, .ref a6, .int 0, .int 0])), (a1, .inl (c1, 78, .inl zf10)), (a2, .inl (c2, 5, .inl f2)), (a3, .inl (c3, 5, .inl f3)), (a4, .inl (c4, 5, .inl f4)), (a5, .inl (c5, 5, .inl f5)), (a6, .inl (c6, 4, .inl f6))] := by rw [ezf10]; exact hD
  refine lv_aload_n hx hb dX7_writeTo_71 rfl (lv_at hl 1 rfl) ?_
  refine va_get (D := (dC, dI)) (ci := 6) (v := .ref a6) (C := RX7) (T := TX7) (N := 7) hx hb hG inX7 hown hK hP 0 rfl rfl 4 (by decide) (hG _ gw359) (fun _ h9 => h9) rfl dX7_writeTo_72 ?_
  refine lv_iconst (v := 0) hx hb dX7_writeTo_75 (by decide) ?_
  refine lv_aload_n hx hb dX7_writeTo_76 rfl (lv_at hl 2 rfl) ?_
  refine lv_iload_n hx hb dX7_writeTo_77 rfl (lv_at hl 0 rfl) ?_
  refine lv_bipush (v := 20) hx hb dX7_writeTo_78 (by decide) ?_
  refine lv_iadd hx hb dX7_writeTo_80 ?_
  refine wt_c (v := 20) (by decide) ?_
  refine lv_iconst (v := 4) hx hb dX7_writeTo_81 (by decide) ?_
  refine va_copyi (ty := .int) hx hb (hml.trans hl.1.symm) hown (hG _ gw465) (hG _ gw467) (hG _ gw466) (hG _ gw137) hK hP hD hS 6 1 5 0 rfl rfl rfl rfl rfl (by decide) (by decide) (by decide) (by decide) (by decide) (fun _ _ => rfl) (Nat.le_of_ble_eq_true rfl) (Nat.le_of_ble_eq_true rfl) dX7_writeTo_82 (fun H11 locs hP hD hS => ?_)
  obtain ⟨zf12, ezf12⟩ : ∃ z : Nat → Int32, z = va_cpy f6 zf10 (0 : Int32).toNatClampNeg (20 : Int32).toNatClampNeg (4 : Int32).toNatClampNeg := ⟨_, rfl⟩
  have hP : va_P (dC, dI) vwCl [(a0, .inr (6, [.ref a2, .ref a3, .ref a4, .ref a5, .ref a6, .int 0, .int 0])), (a1, .inl (c1, 78, .inl zf12)), (a2, .inl (c2, 5, .inl f2)), (a3, .inl (c3, 5, .inl f3)), (a4, .inl (c4, 5, .inl f4)), (a5, .inl (c5, 5, .inl f5)), (a6, .inl (c6, 4, .inl f6))] H11 := by rw [ezf12]; exact hP
  have hD : va_D A [(a0, .inr (6, [.ref a2, .ref a3, .ref a4, .ref a5, .ref a6, .int 0, .int 0])), (a1, .inl (c1, 78, .inl zf12)), (a2, .inl (c2, 5, .inl f2)), (a3, .inl (c3, 5, .inl f3)), (a4, .inl (c4, 5, .inl f4)), (a5, .inl (c5, 5, .inl f5)), (a6, .inl (c6, 4, .inl f6))] := by rw [ezf12]; exact hD
  refine lv_aload_n hx hb dX7_writeTo_85 rfl (lv_at hl 2 rfl) ?_
  refine lv_iload_n hx hb dX7_writeTo_86 rfl (lv_at hl 0 rfl) ?_
  refine lv_bipush (v := 26) hx hb dX7_writeTo_87 (by decide) ?_
  refine lv_iadd hx hb dX7_writeTo_89 ?_
  refine wt_c (v := 26) (by decide) ?_
  refine lv_iconst (v := 2) hx hb dX7_writeTo_90 (by decide) ?_
  refine lv_isub hx hb dX7_writeTo_91 ?_
  refine wt_c (v := 24) (by decide) ?_
  refine lv_aload_n hx hb dX7_writeTo_92 rfl (lv_at hl 1 rfl) ?_
  refine va_get (D := (dC, dI)) (ci := 6) (v := .int 0) (C := RX7) (T := TX7) (N := 7) hx hb hG inX7 hown hK hP 0 rfl rfl 5 (by decide) (hG _ gw361) (fun _ h9 => h9) rfl dX7_writeTo_93 ?_
  refine va_iast hx hb hK hP hD hS 1 0 rfl rfl (vin (by decide)) dX7_writeTo_96 (fun H13 locs hP hD hS => ?_)
  obtain ⟨zf14, ezf14⟩ : ∃ z : Nat → Int32, z = upd zf12 (24 : Int32).toNatClampNeg 0 := ⟨_, rfl⟩
  have hP : va_P (dC, dI) vwCl [(a0, .inr (6, [.ref a2, .ref a3, .ref a4, .ref a5, .ref a6, .int 0, .int 0])), (a1, .inl (c1, 78, .inl zf14)), (a2, .inl (c2, 5, .inl f2)), (a3, .inl (c3, 5, .inl f3)), (a4, .inl (c4, 5, .inl f4)), (a5, .inl (c5, 5, .inl f5)), (a6, .inl (c6, 4, .inl f6))] H13 := by rw [ezf14]; exact hP
  have hD : va_D A [(a0, .inr (6, [.ref a2, .ref a3, .ref a4, .ref a5, .ref a6, .int 0, .int 0])), (a1, .inl (c1, 78, .inl zf14)), (a2, .inl (c2, 5, .inl f2)), (a3, .inl (c3, 5, .inl f3)), (a4, .inl (c4, 5, .inl f4)), (a5, .inl (c5, 5, .inl f5)), (a6, .inl (c6, 4, .inl f6))] := by rw [ezf14]; exact hD
  refine lv_aload_n hx hb dX7_writeTo_97 rfl (lv_at hl 2 rfl) ?_
  refine lv_iload_n hx hb dX7_writeTo_98 rfl (lv_at hl 0 rfl) ?_
  refine lv_bipush (v := 26) hx hb dX7_writeTo_99 (by decide) ?_
  refine lv_iadd hx hb dX7_writeTo_101 ?_
  refine wt_c (v := 26) (by decide) ?_
  refine lv_iconst (v := 1) hx hb dX7_writeTo_102 (by decide) ?_
  refine lv_isub hx hb dX7_writeTo_103 ?_
  refine wt_c (v := 25) (by decide) ?_
  refine lv_aload_n hx hb dX7_writeTo_104 rfl (lv_at hl 1 rfl) ?_
  refine va_get (D := (dC, dI)) (ci := 6) (v := .int 0) (C := RX7) (T := TX7) (N := 7) hx hb hG inX7 hown hK hP 0 rfl rfl 6 (by decide) (hG _ gw363) (fun _ h9 => h9) rfl dX7_writeTo_105 ?_
  refine va_iast hx hb hK hP hD hS 1 0 rfl rfl (vin (by decide)) dX7_writeTo_108 (fun H15 locs hP hD hS => ?_)
  obtain ⟨zf16, ezf16⟩ : ∃ z : Nat → Int32, z = upd zf14 (25 : Int32).toNatClampNeg 0 := ⟨_, rfl⟩
  have hP : va_P (dC, dI) vwCl [(a0, .inr (6, [.ref a2, .ref a3, .ref a4, .ref a5, .ref a6, .int 0, .int 0])), (a1, .inl (c1, 78, .inl zf16)), (a2, .inl (c2, 5, .inl f2)), (a3, .inl (c3, 5, .inl f3)), (a4, .inl (c4, 5, .inl f4)), (a5, .inl (c5, 5, .inl f5)), (a6, .inl (c6, 4, .inl f6))] H15 := by rw [ezf16]; exact hP
  have hD : va_D A [(a0, .inr (6, [.ref a2, .ref a3, .ref a4, .ref a5, .ref a6, .int 0, .int 0])), (a1, .inl (c1, 78, .inl zf16)), (a2, .inl (c2, 5, .inl f2)), (a3, .inl (c3, 5, .inl f3)), (a4, .inl (c4, 5, .inl f4)), (a5, .inl (c5, 5, .inl f5)), (a6, .inl (c6, 4, .inl f6))] := by rw [ezf16]; exact hD
  have hP9 := hP.sub (ws' := [(a0, .inr (6, [.ref a2, .ref a3, .ref a4, .ref a5, .ref a6, .int 0, .int 0])), (a1, .inl (c1, 78, .inl zf16)), (a2, .inl (c2, 5, .inl f2)), (a3, .inl (c3, 5, .inl f3)), (a4, .inl (c4, 5, .inl f4)), (a5, .inl (c5, 5, .inl f5)), (a6, .inl (c6, 4, .inl f6))]) [0, 1, 2, 3, 4, 5, 6] rfl
  have hD9 := hD.sub (ws' := [(a0, .inr (6, [.ref a2, .ref a3, .ref a4, .ref a5, .ref a6, .int 0, .int 0])), (a1, .inl (c1, 78, .inl zf16)), (a2, .inl (c2, 5, .inl f2)), (a3, .inl (c3, 5, .inl f3)), (a4, .inl (c4, 5, .inl f4)), (a5, .inl (c5, 5, .inl f5)), (a6, .inl (c6, 4, .inl f6))]) [0, 1, 2, 3, 4, 5, 6] (by decide) rfl
  exact W.vret hx hb hr (fun t ht hW => ⟨⟨(), rfl, trivial, ⟨zf16, by rw [ht]; exact hP9, hD9⟩⟩, hS.F ht⟩) hS.2.2 dX7_writeTo_109
