set_option maxHeartbeats 4000000 in
set_option maxRecDepth 100000 in
theorem kX8_sale (l : Launch) (dC : Nat → ClassId) (dI : Nat → Nat → Nat) (r : Nat → Nat) (c : Nat → ClassId) (p0 p1 : Int32) (sz : Nat) : Met l yX8_sale (.code yX8_sale cX8_sale 10 (some .int) :: GW) { frames := 4, cells := 0, slots := 0, locals := 161 } (va_Pc [.ref (r 0), .int p0, .int p1] (pW (dC, dI) [(r 0, .inr (7, [.ref (r 1), .int 0, .ref (r 2), .ref (r 55), .ref (r 57), .ref (r 30), .ref (r 56), .ref (r 36), .ref (r 37), .ref (r 38), .int 0, .ref (r 51), .int 0, .ref (r 52), .ref (r 53), .ref (r 54)])), (r 55, .inr (3, [.int 1, .int 0, .int 0, .int 0, .ref (r 20), .ref (r 21), .ref (r 22), .int 0, .ref (r 23), .ref (r 24), .ref (r 25), .int 0, .ref (r 28), .ref (r 27)]))] [] sz)) (va_Qi (fun (r0 : Int32) (_ : Unit) => r0 = (-1)) (fun _ _ => True) (va_A [(r 0, .inr (7, [.ref (r 1), .int 0, .ref (r 2), .ref (r 55), .ref (r 57), .ref (r 30), .ref (r 56), .ref (r 36), .ref (r 37), .ref (r 38), .int 0, .ref (r 51), .int 0, .ref (r 52), .ref (r 53), .ref (r 54)])), (r 55, .inr (3, [.int 1, .int 0, .int 0, .int 0, .ref (r 20), .ref (r 21), .ref (r 22), .int 0, .ref (r 23), .ref (r 24), .ref (r 25), .int 0, .ref (r 28), .ref (r 27)]))] sz)) 0 0 (va_A [(r 0, .inr (7, [.ref (r 1), .int 0, .ref (r 2), .ref (r 55), .ref (r 57), .ref (r 30), .ref (r 56), .ref (r 36), .ref (r 37), .ref (r 38), .int 0, .ref (r 51), .int 0, .ref (r 52), .ref (r 53), .ref (r 54)])), (r 55, .inr (3, [.int 1, .int 0, .int 0, .int 0, .ref (r 20), .ref (r 21), .ref (r 22), .int 0, .ref (r 23), .ref (r 24), .ref (r 25), .int 0, .ref (r 28), .ref (r 27)]))] sz) := by
  refine Met.ofW (cc := cX8_sale) (maxL := 10) (ret := (some .int)) (by decide) rfl ?_
  intro p e s m args below meth c0 s₁ B hml hv
  obtain ⟨rfl, hsz, hP, hK, hD0⟩ := hv
  have hx := B.exec
  have hb := B.bytes
  have hr := B.returns
  have hts := atoms_spec (ws := .code yX8_sale cX8_sale 10 (some .int) :: GW) B.pre
  have hG : ∀ w ∈ GW, w.before _ s = true := fun w h => hts w (List.mem_cons_of_mem _ h)
  have hown : s.vm.findClass RX8 = some m.cls := findClass_of_methodNamed B.named
  have hlocks := B.notSynchronized
  subst hsz
  have hD := hD0.self (sz := s.heap.size)
  generalize hAe : va_A [(r 0, .inr (7, [.ref (r 1), .int 0, .ref (r 2), .ref (r 55), .ref (r 57), .ref (r 30), .ref (r 56), .ref (r 36), .ref (r 37), .ref (r 38), .int 0, .ref (r 51), .int 0, .ref (r 52), .ref (r 53), .ref (r 54)])), (r 55, .inr (3, [.int 1, .int 0, .int 0, .int 0, .ref (r 20), .ref (r 21), .ref (r 22), .int 0, .ref (r 23), .ref (r 24), .ref (r 25), .int 0, .ref (r 28), .ref (r 27)]))] s.heap.size = A at hD ⊢
  have hA : ∀ q : Nat, s.heap.size ≤ q → A q := fun q h => by rw [← hAe]; exact Or.inr h
  have hS : va_S A s.heap s.heap [] := va_S.rf
  have hP : va_P (dC, dI) vwCl [(r 0, .inr (7, [.ref (r 1), .int 0, .ref (r 2), .ref (r 55), .ref (r 57), .ref (r 30), .ref (r 56), .ref (r 36), .ref (r 37), .ref (r 38), .int 0, .ref (r 51), .int 0, .ref (r 52), .ref (r 53), .ref (r 54)])), (r 55, .inr (3, [.int 1, .int 0, .int 0, .int 0, .ref (r 20), .ref (r 21), .ref (r 22), .int 0, .ref (r 23), .ref (r 24), .ref (r 25), .int 0, .ref (r 28), .ref (r 27)]))] s.heap := hP
  have hl := lv_entry ([.ref (r 0), .int p0, .int p1]) (n := 10) (Nat.le_of_ble_eq_true rfl)
  rw [lg_entry_eq]
  generalize (lg_sl ([.ref (r 0), .int p0, .int p1]) ++ List.replicate (10 - (lg_sl ([.ref (r 0), .int p0, .int p1])).length) Slot.unset).toArray = ls at hl ⊢
  have hl : lv_has ls 10 [(0, .ref (r 0)), (1, .int p0), (2, .int p1)] := hl
  refine lv_aload_n hx hb dX8_sale_0 rfl (lv_at hl 0 rfl) ?_
  refine lv_iload_n hx hb dX8_sale_1 rfl (lv_at hl 1 rfl) ?_
  have hPc := hP.sub (ws' := [(r 0, .inr (7, [.ref (r 1), .int 0, .ref (r 2), .ref (r 55), .ref (r 57), .ref (r 30), .ref (r 56), .ref (r 36), .ref (r 37), .ref (r 38), .int 0, .ref (r 51), .int 0, .ref (r 52), .ref (r 53), .ref (r 54)])), (r 55, .inr (3, [.int 1, .int 0, .int 0, .int 0, .ref (r 20), .ref (r 21), .ref (r 22), .int 0, .ref (r 23), .ref (r 24), .ref (r 25), .int 0, .ref (r 28), .ref (r 27)]))]) [0, 1] rfl
  have hKc := hK.sub (tys' := []) [] rfl
  have hDc := hD.sub (ws' := [(r 0, .inr (7, [.ref (r 1), .int 0, .ref (r 2), .ref (r 55), .ref (r 57), .ref (r 30), .ref (r 56), .ref (r 36), .ref (r 37), .ref (r 38), .int 0, .ref (r 51), .int 0, .ref (r 52), .ref (r 53), .ref (r 54)])), (r 55, .inr (3, [.int 1, .int 0, .int 0, .int 0, .ref (r 20), .ref (r 21), .ref (r 22), .int 0, .ref (r 23), .ref (r 24), .ref (r 25), .int 0, .ref (r 28), .ref (r 27)]))]) [0, 1] (by decide) rfl
  have hFc := va_free (wc := [(r 0, .inr (7, [.ref (r 1), .int 0, .ref (r 2), .ref (r 55), .ref (r 57), .ref (r 30), .ref (r 56), .ref (r 36), .ref (r 37), .ref (r 38), .int 0, .ref (r 51), .int 0, .ref (r 52), .ref (r 53), .ref (r 54)])), (r 55, .inr (3, [.int 1, .int 0, .int 0, .int 0, .ref (r 20), .ref (r 21), .ref (r 22), .int 0, .ref (r 23), .ref (r 24), .ref (r 25), .int 0, .ref (r 28), .ref (r 27)]))]) hD hS hA [0, 1] rfl
  refine va_calli (va_runV (As := [.int p0]) (rest := []) ⟨hx, hb, hml, hown, hG⟩ (kX8_isHouse l dC dI r c p0 s.heap.size ) (cwV 1 hG (goodV gw716 gw718 gw21 gw129 gw719) rfl rfl rfl hd_X8_isHouse ⟨(Nat.le_of_ble_eq_true rfl), (Nat.le_of_ble_eq_true rfl)⟩) ⟨fbW, va_recv hKc hPc (ci := 7) (q0 := 0) rfl rfl, pW_in hPc hKc hDc⟩ rfl rfl hl.1 rfl (lv_room (Nat.le_of_ble_eq_true rfl)) dX8_sale_2 ⟨(Nat.le_of_ble_eq_true rfl), (Nat.le_of_ble_eq_true rfl)⟩) hS (fun q _ h => hFc q h) hFc (fun r_2 u t H1 locs ht hvm hw hB hz1 hk1 hS => ?_)
  obtain ⟨hP1, hD1⟩ := hB
  rw [ht] at hP1
  obtain ⟨hP, hD⟩ := va_join (wr := []) (w1 := [(r 0, .inr (7, [.ref (r 1), .int 0, .ref (r 2), .ref (r 55), .ref (r 57), .ref (r 30), .ref (r 56), .ref (r 36), .ref (r 37), .ref (r 38), .int 0, .ref (r 51), .int 0, .ref (r 52), .ref (r 53), .ref (r 54)])), (r 55, .inr (3, [.int 1, .int 0, .int 0, .int 0, .ref (r 20), .ref (r 21), .ref (r 22), .int 0, .ref (r 23), .ref (r 24), .ref (r 25), .int 0, .ref (r 28), .ref (r 27)]))]) hP hD [0, 1] [] rfl rfl (by decide) (by decide) hk1 hFc hP1 hD1
  have hP : va_P (dC, dI) vwCl [(r 0, .inr (7, [.ref (r 1), .int 0, .ref (r 2), .ref (r 55), .ref (r 57), .ref (r 30), .ref (r 56), .ref (r 36), .ref (r 37), .ref (r 38), .int 0, .ref (r 51), .int 0, .ref (r 52), .ref (r 53), .ref (r 54)])), (r 55, .inr (3, [.int 1, .int 0, .int 0, .int 0, .ref (r 20), .ref (r 21), .ref (r 22), .int 0, .ref (r 23), .ref (r 24), .ref (r 25), .int 0, .ref (r 28), .ref (r 27)]))] H1 := hP
  have hD : va_D A [(r 0, .inr (7, [.ref (r 1), .int 0, .ref (r 2), .ref (r 55), .ref (r 57), .ref (r 30), .ref (r 56), .ref (r 36), .ref (r 37), .ref (r 38), .int 0, .ref (r 51), .int 0, .ref (r 52), .ref (r 53), .ref (r 54)])), (r 55, .inr (3, [.int 1, .int 0, .int 0, .int 0, .ref (r 20), .ref (r 21), .ref (r 22), .int 0, .ref (r 23), .ref (r 24), .ref (r 25), .int 0, .ref (r 28), .ref (r 27)]))] := hD
  refine wt_c (v := 0) hw ?_
  refine lv_if_eq (tgt := 17) hx hb dX8_sale_5 (by decide) (fun c_3 => ?_) (fun c_3 => absurd (by decide) c_3)
  refine lv_iconst (v := (-1)) hx hb dX8_sale_17 (by decide) ?_
  exact W.iret (v := (-1)) hx hb hr (fun t ht hW => ⟨⟨(-1), (), rfl, rfl, trivial⟩, hS.F ht⟩) hS.2.2 dX8_sale_18
set_option maxHeartbeats 4000000 in
set_option maxRecDepth 100000 in
theorem kX9_sale (l : Launch) (dC : Nat → ClassId) (dI : Nat → Nat → Nat) (r : Nat → Nat) (c : Nat → ClassId) (f5 : Nat → Int32) (p0 p1 : Int32) (sz : Nat) (hf5_0 : f5 0 = 0) : Met l yX9_sale (.code yX9_sale cX9_sale 9 (some .int) :: GW) { frames := 6, cells := 0, slots := 0, locals := 223 } (va_Pc [.ref (r 0), .int p0, .int p1] (pW (dC, dI) [(r 0, .inr (8, [.ref (r 1), .ref (r 2), .int 0, .int 0, .int 0, .int (-1), .int 0, .int 0, .int 0, .int 0, .long 0, .ref (r 3), .ref (r 4), .ref (r 5), .ref (r 6), .ref (r 7), .ref (r 8), .ref (r 9), .ref (r 10), .ref (r 11), .ref (r 12), .ref (r 13), .ref (r 14), .ref (r 15), .ref (r 16), .ref (r 17), .ref (r 18), .ref (r 19), .ref (r 20), .ref (r 21), .ref (r 22), .ref (r 23), .ref (r 24), .int 0, .int 0, .int 0, .int 0, .int 0, .int 0, .int 0, .int 0, .int 0, .ref (r 25), .ref (r 26), .ref (r 27), .int 0, .int 0, .ref (r 28), .int 0, .ref (r 29), .ref (r 30), .ref (r 31), .ref (r 32), .ref (r 33), .ref (r 34), .ref (r 35), .ref (r 36), .int 0, .int 0, .int 0, .ref (r 37), .ref (r 38)])), (r 5, .inl ((c 5), 2, .inl f5))] [((c 5), .int)] sz)) (va_Qi (fun (r0 : Int32) (_ : Unit) => r0 = (-1)) (fun _ _ => True) (va_A [(r 0, .inr (8, [.ref (r 1), .ref (r 2), .int 0, .int 0, .int 0, .int (-1), .int 0, .int 0, .int 0, .int 0, .long 0, .ref (r 3), .ref (r 4), .ref (r 5), .ref (r 6), .ref (r 7), .ref (r 8), .ref (r 9), .ref (r 10), .ref (r 11), .ref (r 12), .ref (r 13), .ref (r 14), .ref (r 15), .ref (r 16), .ref (r 17), .ref (r 18), .ref (r 19), .ref (r 20), .ref (r 21), .ref (r 22), .ref (r 23), .ref (r 24), .int 0, .int 0, .int 0, .int 0, .int 0, .int 0, .int 0, .int 0, .int 0, .ref (r 25), .ref (r 26), .ref (r 27), .int 0, .int 0, .ref (r 28), .int 0, .ref (r 29), .ref (r 30), .ref (r 31), .ref (r 32), .ref (r 33), .ref (r 34), .ref (r 35), .ref (r 36), .int 0, .int 0, .int 0, .ref (r 37), .ref (r 38)])), (r 5, .inl ((c 5), 2, .inl f5))] sz)) 0 0 (va_A [(r 0, .inr (8, [.ref (r 1), .ref (r 2), .int 0, .int 0, .int 0, .int (-1), .int 0, .int 0, .int 0, .int 0, .long 0, .ref (r 3), .ref (r 4), .ref (r 5), .ref (r 6), .ref (r 7), .ref (r 8), .ref (r 9), .ref (r 10), .ref (r 11), .ref (r 12), .ref (r 13), .ref (r 14), .ref (r 15), .ref (r 16), .ref (r 17), .ref (r 18), .ref (r 19), .ref (r 20), .ref (r 21), .ref (r 22), .ref (r 23), .ref (r 24), .int 0, .int 0, .int 0, .int 0, .int 0, .int 0, .int 0, .int 0, .int 0, .ref (r 25), .ref (r 26), .ref (r 27), .int 0, .int 0, .ref (r 28), .int 0, .ref (r 29), .ref (r 30), .ref (r 31), .ref (r 32), .ref (r 33), .ref (r 34), .ref (r 35), .ref (r 36), .int 0, .int 0, .int 0, .ref (r 37), .ref (r 38)])), (r 5, .inl ((c 5), 2, .inl f5))] sz) := by
  refine Met.ofW (cc := cX9_sale) (maxL := 9) (ret := (some .int)) (by decide) rfl ?_
  intro p e s m args below meth c0 s₁ B hml hv
  obtain ⟨rfl, hsz, hP, hK, hD0⟩ := hv
  have hx := B.exec
  have hb := B.bytes
  have hr := B.returns
  have hts := atoms_spec (ws := .code yX9_sale cX9_sale 9 (some .int) :: GW) B.pre
  have hG : ∀ w ∈ GW, w.before _ s = true := fun w h => hts w (List.mem_cons_of_mem _ h)
  have hown : s.vm.findClass RX9 = some m.cls := findClass_of_methodNamed B.named
  have hlocks := B.notSynchronized
  subst hsz
  have hD := hD0.self (sz := s.heap.size)
  generalize hAe : va_A [(r 0, .inr (8, [.ref (r 1), .ref (r 2), .int 0, .int 0, .int 0, .int (-1), .int 0, .int 0, .int 0, .int 0, .long 0, .ref (r 3), .ref (r 4), .ref (r 5), .ref (r 6), .ref (r 7), .ref (r 8), .ref (r 9), .ref (r 10), .ref (r 11), .ref (r 12), .ref (r 13), .ref (r 14), .ref (r 15), .ref (r 16), .ref (r 17), .ref (r 18), .ref (r 19), .ref (r 20), .ref (r 21), .ref (r 22), .ref (r 23), .ref (r 24), .int 0, .int 0, .int 0, .int 0, .int 0, .int 0, .int 0, .int 0, .int 0, .ref (r 25), .ref (r 26), .ref (r 27), .int 0, .int 0, .ref (r 28), .int 0, .ref (r 29), .ref (r 30), .ref (r 31), .ref (r 32), .ref (r 33), .ref (r 34), .ref (r 35), .ref (r 36), .int 0, .int 0, .int 0, .ref (r 37), .ref (r 38)])), (r 5, .inl ((c 5), 2, .inl f5))] s.heap.size = A at hD ⊢
  have hA : ∀ q : Nat, s.heap.size ≤ q → A q := fun q h => by rw [← hAe]; exact Or.inr h
  have hS : va_S A s.heap s.heap [] := va_S.rf
  have hP : va_P (dC, dI) vwCl [(r 0, .inr (8, [.ref (r 1), .ref (r 2), .int 0, .int 0, .int 0, .int (-1), .int 0, .int 0, .int 0, .int 0, .long 0, .ref (r 3), .ref (r 4), .ref (r 5), .ref (r 6), .ref (r 7), .ref (r 8), .ref (r 9), .ref (r 10), .ref (r 11), .ref (r 12), .ref (r 13), .ref (r 14), .ref (r 15), .ref (r 16), .ref (r 17), .ref (r 18), .ref (r 19), .ref (r 20), .ref (r 21), .ref (r 22), .ref (r 23), .ref (r 24), .int 0, .int 0, .int 0, .int 0, .int 0, .int 0, .int 0, .int 0, .int 0, .ref (r 25), .ref (r 26), .ref (r 27), .int 0, .int 0, .ref (r 28), .int 0, .ref (r 29), .ref (r 30), .ref (r 31), .ref (r 32), .ref (r 33), .ref (r 34), .ref (r 35), .ref (r 36), .int 0, .int 0, .int 0, .ref (r 37), .ref (r 38)])), (r 5, .inl ((c 5), 2, .inl f5))] s.heap := hP
  have hl := lv_entry ([.ref (r 0), .int p0, .int p1]) (n := 9) (Nat.le_of_ble_eq_true rfl)
  rw [lg_entry_eq]
  generalize (lg_sl ([.ref (r 0), .int p0, .int p1]) ++ List.replicate (9 - (lg_sl ([.ref (r 0), .int p0, .int p1])).length) Slot.unset).toArray = ls at hl ⊢
  have hl : lv_has ls 9 [(0, .ref (r 0)), (1, .int p0), (2, .int p1)] := hl
  refine lv_aload_n hx hb dX9_sale_0 rfl (lv_at hl 0 rfl) ?_
  refine lv_iload_n hx hb dX9_sale_1 rfl (lv_at hl 1 rfl) ?_
  have hPc := hP.sub (ws' := [(r 0, .inr (8, [.ref (r 1), .ref (r 2), .int 0, .int 0, .int 0, .int (-1), .int 0, .int 0, .int 0, .int 0, .long 0, .ref (r 3), .ref (r 4), .ref (r 5), .ref (r 6), .ref (r 7), .ref (r 8), .ref (r 9), .ref (r 10), .ref (r 11), .ref (r 12), .ref (r 13), .ref (r 14), .ref (r 15), .ref (r 16), .ref (r 17), .ref (r 18), .ref (r 19), .ref (r 20), .ref (r 21), .ref (r 22), .ref (r 23), .ref (r 24), .int 0, .int 0, .int 0, .int 0, .int 0, .int 0, .int 0, .int 0, .int 0, .ref (r 25), .ref (r 26), .ref (r 27), .int 0, .int 0, .ref (r 28), .int 0, .ref (r 29), .ref (r 30), .ref (r 31), .ref (r 32), .ref (r 33), .ref (r 34), .ref (r 35), .ref (r 36), .int 0, .int 0, .int 0, .ref (r 37), .ref (r 38)])), (r 5, .inl ((c 5), 2, .inl f5))]) [0, 1] rfl
  have hKc := hK.sub (tys' := [((c 5), .int)]) [0] rfl
  have hDc := hD.sub (ws' := [(r 0, .inr (8, [.ref (r 1), .ref (r 2), .int 0, .int 0, .int 0, .int (-1), .int 0, .int 0, .int 0, .int 0, .long 0, .ref (r 3), .ref (r 4), .ref (r 5), .ref (r 6), .ref (r 7), .ref (r 8), .ref (r 9), .ref (r 10), .ref (r 11), .ref (r 12), .ref (r 13), .ref (r 14), .ref (r 15), .ref (r 16), .ref (r 17), .ref (r 18), .ref (r 19), .ref (r 20), .ref (r 21), .ref (r 22), .ref (r 23), .ref (r 24), .int 0, .int 0, .int 0, .int 0, .int 0, .int 0, .int 0, .int 0, .int 0, .ref (r 25), .ref (r 26), .ref (r 27), .int 0, .int 0, .ref (r 28), .int 0, .ref (r 29), .ref (r 30), .ref (r 31), .ref (r 32), .ref (r 33), .ref (r 34), .ref (r 35), .ref (r 36), .int 0, .int 0, .int 0, .ref (r 37), .ref (r 38)])), (r 5, .inl ((c 5), 2, .inl f5))]) [0, 1] (by decide) rfl
  have hFc := va_free (wc := [(r 0, .inr (8, [.ref (r 1), .ref (r 2), .int 0, .int 0, .int 0, .int (-1), .int 0, .int 0, .int 0, .int 0, .long 0, .ref (r 3), .ref (r 4), .ref (r 5), .ref (r 6), .ref (r 7), .ref (r 8), .ref (r 9), .ref (r 10), .ref (r 11), .ref (r 12), .ref (r 13), .ref (r 14), .ref (r 15), .ref (r 16), .ref (r 17), .ref (r 18), .ref (r 19), .ref (r 20), .ref (r 21), .ref (r 22), .ref (r 23), .ref (r 24), .int 0, .int 0, .int 0, .int 0, .int 0, .int 0, .int 0, .int 0, .int 0, .ref (r 25), .ref (r 26), .ref (r 27), .int 0, .int 0, .ref (r 28), .int 0, .ref (r 29), .ref (r 30), .ref (r 31), .ref (r 32), .ref (r 33), .ref (r 34), .ref (r 35), .ref (r 36), .int 0, .int 0, .int 0, .ref (r 37), .ref (r 38)])), (r 5, .inl ((c 5), 2, .inl f5))]) hD hS hA [0, 1] rfl
  refine va_calli (va_runV (As := [.int p0]) (rest := []) ⟨hx, hb, hml, hown, hG⟩ (kX9_isHouse l dC dI r c f5 p0 s.heap.size hf5_0) (cwV 1 hG (goodV gw1542 gw1544 gw90 gw138 gw1545) rfl rfl rfl hd_X9_isHouse ⟨(Nat.le_of_ble_eq_true rfl), (Nat.le_of_ble_eq_true rfl)⟩) ⟨fbW, va_recv hKc hPc (ci := 8) (q0 := 0) rfl rfl, pW_in hPc hKc hDc⟩ rfl rfl hl.1 rfl (lv_room (Nat.le_of_ble_eq_true rfl)) dX9_sale_2 ⟨(Nat.le_of_ble_eq_true rfl), (Nat.le_of_ble_eq_true rfl)⟩) hS (fun q _ h => hFc q h) hFc (fun r_2 u t H1 locs ht hvm hw hB hz1 hk1 hS => ?_)
  obtain ⟨hP1, hD1⟩ := hB
  rw [ht] at hP1
  obtain ⟨hP, hD⟩ := va_join (wr := []) (w1 := [(r 0, .inr (8, [.ref (r 1), .ref (r 2), .int 0, .int 0, .int 0, .int (-1), .int 0, .int 0, .int 0, .int 0, .long 0, .ref (r 3), .ref (r 4), .ref (r 5), .ref (r 6), .ref (r 7), .ref (r 8), .ref (r 9), .ref (r 10), .ref (r 11), .ref (r 12), .ref (r 13), .ref (r 14), .ref (r 15), .ref (r 16), .ref (r 17), .ref (r 18), .ref (r 19), .ref (r 20), .ref (r 21), .ref (r 22), .ref (r 23), .ref (r 24), .int 0, .int 0, .int 0, .int 0, .int 0, .int 0, .int 0, .int 0, .int 0, .ref (r 25), .ref (r 26), .ref (r 27), .int 0, .int 0, .ref (r 28), .int 0, .ref (r 29), .ref (r 30), .ref (r 31), .ref (r 32), .ref (r 33), .ref (r 34), .ref (r 35), .ref (r 36), .int 0, .int 0, .int 0, .ref (r 37), .ref (r 38)])), (r 5, .inl ((c 5), 2, .inl f5))]) hP hD [0, 1] [] rfl rfl (by decide) (by decide) hk1 hFc hP1 hD1
  have hP : va_P (dC, dI) vwCl [(r 0, .inr (8, [.ref (r 1), .ref (r 2), .int 0, .int 0, .int 0, .int (-1), .int 0, .int 0, .int 0, .int 0, .long 0, .ref (r 3), .ref (r 4), .ref (r 5), .ref (r 6), .ref (r 7), .ref (r 8), .ref (r 9), .ref (r 10), .ref (r 11), .ref (r 12), .ref (r 13), .ref (r 14), .ref (r 15), .ref (r 16), .ref (r 17), .ref (r 18), .ref (r 19), .ref (r 20), .ref (r 21), .ref (r 22), .ref (r 23), .ref (r 24), .int 0, .int 0, .int 0, .int 0, .int 0, .int 0, .int 0, .int 0, .int 0, .ref (r 25), .ref (r 26), .ref (r 27), .int 0, .int 0, .ref (r 28), .int 0, .ref (r 29), .ref (r 30), .ref (r 31), .ref (r 32), .ref (r 33), .ref (r 34), .ref (r 35), .ref (r 36), .int 0, .int 0, .int 0, .ref (r 37), .ref (r 38)])), (r 5, .inl ((c 5), 2, .inl f5))] H1 := hP
  have hD : va_D A [(r 0, .inr (8, [.ref (r 1), .ref (r 2), .int 0, .int 0, .int 0, .int (-1), .int 0, .int 0, .int 0, .int 0, .long 0, .ref (r 3), .ref (r 4), .ref (r 5), .ref (r 6), .ref (r 7), .ref (r 8), .ref (r 9), .ref (r 10), .ref (r 11), .ref (r 12), .ref (r 13), .ref (r 14), .ref (r 15), .ref (r 16), .ref (r 17), .ref (r 18), .ref (r 19), .ref (r 20), .ref (r 21), .ref (r 22), .ref (r 23), .ref (r 24), .int 0, .int 0, .int 0, .int 0, .int 0, .int 0, .int 0, .int 0, .int 0, .ref (r 25), .ref (r 26), .ref (r 27), .int 0, .int 0, .ref (r 28), .int 0, .ref (r 29), .ref (r 30), .ref (r 31), .ref (r 32), .ref (r 33), .ref (r 34), .ref (r 35), .ref (r 36), .int 0, .int 0, .int 0, .ref (r 37), .ref (r 38)])), (r 5, .inl ((c 5), 2, .inl f5))] := hD
  refine wt_c (v := 0) hw ?_
  refine lv_if_eq (tgt := 17) hx hb dX9_sale_5 (by decide) (fun c_3 => ?_) (fun c_3 => absurd (by decide) c_3)
  refine lv_iconst (v := (-1)) hx hb dX9_sale_17 (by decide) ?_
  exact W.iret (v := (-1)) hx hb hr (fun t ht hW => ⟨⟨(-1), (), rfl, rfl, trivial⟩, hS.F ht⟩) hS.2.2 dX9_sale_18
set_option maxHeartbeats 4000000 in
set_option maxRecDepth 100000 in
theorem kX8_swap (l : Launch) (dC : Nat → ClassId) (dI : Nat → Nat → Nat) (r : Nat → Nat) (c : Nat → ClassId) (p0 : Int32) (sz : Nat) : Met l yX8_swap (.code yX8_swap cX8_swap 4 (some .int) :: GW) { frames := 2, cells := 0, slots := 0, locals := 100 } (va_Pc [.ref (r 0), .int p0] (pW (dC, dI) [(r 0, .inr (7, [.ref (r 1), .int 0, .ref (r 2), .ref (r 55), .ref (r 57), .ref (r 30), .ref (r 56), .ref (r 36), .ref (r 37), .ref (r 38), .int 0, .ref (r 51), .int 0, .ref (r 52), .ref (r 53), .ref (r 54)])), (r 55, .inr (3, [.int 1, .int 0, .int 0, .int 0, .ref (r 20), .ref (r 21), .ref (r 22), .int 0, .ref (r 23), .ref (r 24), .ref (r 25), .int 0, .ref (r 28), .ref (r 27)]))] [] sz)) (va_Qi (fun (r0 : Int32) (_ : Unit) => r0 = (-1)) (fun _ _ => True) (va_A [(r 0, .inr (7, [.ref (r 1), .int 0, .ref (r 2), .ref (r 55), .ref (r 57), .ref (r 30), .ref (r 56), .ref (r 36), .ref (r 37), .ref (r 38), .int 0, .ref (r 51), .int 0, .ref (r 52), .ref (r 53), .ref (r 54)])), (r 55, .inr (3, [.int 1, .int 0, .int 0, .int 0, .ref (r 20), .ref (r 21), .ref (r 22), .int 0, .ref (r 23), .ref (r 24), .ref (r 25), .int 0, .ref (r 28), .ref (r 27)]))] sz)) 0 0 (va_A [(r 0, .inr (7, [.ref (r 1), .int 0, .ref (r 2), .ref (r 55), .ref (r 57), .ref (r 30), .ref (r 56), .ref (r 36), .ref (r 37), .ref (r 38), .int 0, .ref (r 51), .int 0, .ref (r 52), .ref (r 53), .ref (r 54)])), (r 55, .inr (3, [.int 1, .int 0, .int 0, .int 0, .ref (r 20), .ref (r 21), .ref (r 22), .int 0, .ref (r 23), .ref (r 24), .ref (r 25), .int 0, .ref (r 28), .ref (r 27)]))] sz) := by
  refine Met.ofW (cc := cX8_swap) (maxL := 4) (ret := (some .int)) (by decide) rfl ?_
  intro p e s m args below meth c0 s₁ B hml hv
  obtain ⟨rfl, hsz, hP, hK, hD0⟩ := hv
  have hx := B.exec
  have hb := B.bytes
  have hr := B.returns
  have hts := atoms_spec (ws := .code yX8_swap cX8_swap 4 (some .int) :: GW) B.pre
  have hG : ∀ w ∈ GW, w.before _ s = true := fun w h => hts w (List.mem_cons_of_mem _ h)
  have hown : s.vm.findClass RX8 = some m.cls := findClass_of_methodNamed B.named
  have hlocks := B.notSynchronized
  subst hsz
  have hD := hD0.self (sz := s.heap.size)
  generalize hAe : va_A [(r 0, .inr (7, [.ref (r 1), .int 0, .ref (r 2), .ref (r 55), .ref (r 57), .ref (r 30), .ref (r 56), .ref (r 36), .ref (r 37), .ref (r 38), .int 0, .ref (r 51), .int 0, .ref (r 52), .ref (r 53), .ref (r 54)])), (r 55, .inr (3, [.int 1, .int 0, .int 0, .int 0, .ref (r 20), .ref (r 21), .ref (r 22), .int 0, .ref (r 23), .ref (r 24), .ref (r 25), .int 0, .ref (r 28), .ref (r 27)]))] s.heap.size = A at hD ⊢
  have hA : ∀ q : Nat, s.heap.size ≤ q → A q := fun q h => by rw [← hAe]; exact Or.inr h
  have hS : va_S A s.heap s.heap [] := va_S.rf
  have hP : va_P (dC, dI) vwCl [(r 0, .inr (7, [.ref (r 1), .int 0, .ref (r 2), .ref (r 55), .ref (r 57), .ref (r 30), .ref (r 56), .ref (r 36), .ref (r 37), .ref (r 38), .int 0, .ref (r 51), .int 0, .ref (r 52), .ref (r 53), .ref (r 54)])), (r 55, .inr (3, [.int 1, .int 0, .int 0, .int 0, .ref (r 20), .ref (r 21), .ref (r 22), .int 0, .ref (r 23), .ref (r 24), .ref (r 25), .int 0, .ref (r 28), .ref (r 27)]))] s.heap := hP
  have hl := lv_entry ([.ref (r 0), .int p0]) (n := 4) (Nat.le_of_ble_eq_true rfl)
  rw [lg_entry_eq]
  generalize (lg_sl ([.ref (r 0), .int p0]) ++ List.replicate (4 - (lg_sl ([.ref (r 0), .int p0])).length) Slot.unset).toArray = ls at hl ⊢
  have hl : lv_has ls 4 [(0, .ref (r 0)), (1, .int p0)] := hl
  refine lv_iload_n hx hb dX8_swap_0 rfl (lv_at hl 1 rfl) ?_
  refine lv_if_lt (tgt := 9) hx hb dX8_swap_1 (by decide) (fun c_1 => ?_) (fun c_1 => ?_)
  · skip
    refine lv_iconst (v := (-1)) hx hb dX8_swap_9 (by decide) ?_
    exact W.iret (v := (-1)) hx hb hr (fun t ht hW => ⟨⟨(-1), (), rfl, rfl, trivial⟩, hS.F ht⟩) hS.2.2 dX8_swap_10
  · skip
    refine lv_iload_n hx hb dX8_swap_4 rfl (lv_at hl 1 rfl) ?_
    refine lv_iconst (v := 1) hx hb dX8_swap_5 (by decide) ?_
    refine lv_icmp_le (tgt := 11) hx hb dX8_swap_6 (by decide) (fun c_2 => ?_) (fun c_2 => ?_)
    · skip
      refine lv_iconst (v := 0) hx hb dX8_swap_11 (by decide) ?_
      refine lv_istore_n (lv' := [(2, .int 0), (0, .ref (r 0)), (1, .int p0)]) hx hb dX8_swap_12 rfl hl (by decide) rfl (fun ls hl => ?_)
      refine lv_iload_n hx hb dX8_swap_13 rfl (lv_at hl 0 rfl) ?_
      refine lv_aload_n hx hb dX8_swap_14 rfl (lv_at hl 1 rfl) ?_
      refine va_get (D := (dC, dI)) (ci := 7) (v := .ref (r 55)) (C := RX8) (T := TX8) (N := 16) hx hb hG inX8 hown hK hP 0 rfl rfl 3 (by decide) (hG _ gw471) (fun _ h9 => h9) rfl dX8_swap_15 ?_
      refine va_get (D := (dC, dI)) (ci := 3) (v := .int 0) (C := RX4) (T := TX4) (N := 14) hx hb hG inX4 hown hK hP 1 rfl rfl 7 (by decide) (hG _ gw258) (fun _ h9 => h9) rfl dX8_swap_18 ?_
      refine lv_icmp_ge (tgt := 70) hx hb dX8_swap_21 (by decide) (fun c_3 => ?_) (fun c_3 => absurd (by decide) c_3)
      refine lv_iconst (v := (-1)) hx hb dX8_swap_70 (by decide) ?_
      exact W.iret (v := (-1)) hx hb hr (fun t ht hW => ⟨⟨(-1), (), rfl, rfl, trivial⟩, hS.F ht⟩) hS.2.2 dX8_swap_71
    · skip
      refine lv_iconst (v := (-1)) hx hb dX8_swap_9 (by decide) ?_
      exact W.iret (v := (-1)) hx hb hr (fun t ht hW => ⟨⟨(-1), (), rfl, rfl, trivial⟩, hS.F ht⟩) hS.2.2 dX8_swap_10
set_option maxHeartbeats 4000000 in
set_option maxRecDepth 100000 in
theorem kX9_isIn_v3 (l : Launch) (dC : Nat → ClassId) (dI : Nat → Nat → Nat) (sz : Nat) : Met l yX9_isIn (.code yX9_isIn cX9_isIn 3 (some .boolean) :: GW) { frames := 2, cells := 0, slots := 0, locals := 100 } (va_Pc [.int 1, .int 0, .int (-1)] (pR (dC, dI) [] [] sz)) (va_Qi (fun (r0 : Int32) (_ : Unit) => r0 = 0) (fun _ _ => True) (fun q => sz ≤ q)) 0 0 (fun q => sz ≤ q) := by
  refine Met.ofW (cc := cX9_isIn) (maxL := 3) (ret := (some .boolean)) (by decide) rfl ?_
  intro p e s m args below meth c0 s₁ B hml hv
  obtain ⟨rfl, hsz, hP, hK⟩ := hv
  have hx := B.exec
  have hb := B.bytes
  have hr := B.returns
  have hts := atoms_spec (ws := .code yX9_isIn cX9_isIn 3 (some .boolean) :: GW) B.pre
  have hG : ∀ w ∈ GW, w.before _ s = true := fun w h => hts w (List.mem_cons_of_mem _ h)
  have hown : s.vm.findClass RX9 = some m.cls := findClass_of_methodNamed B.named
  have hlocks := B.notSynchronized
  subst hsz
  have hS : va_S (fun q => s.heap.size ≤ q) s.heap s.heap [] := va_S.rf
  have hP : va_P (dC, dI) vwCl [] s.heap := hP
  have hl := lv_entry ([.int 1, .int 0, .int (-1)]) (n := 3) (Nat.le_of_ble_eq_true rfl)
  rw [lg_entry_eq]
  generalize (lg_sl ([.int 1, .int 0, .int (-1)]) ++ List.replicate (3 - (lg_sl ([.int 1, .int 0, .int (-1)])).length) Slot.unset).toArray = ls at hl ⊢
  have hl : lv_has ls 3 [(0, .int 1), (1, .int 0), (2, .int (-1))] := hl
  refine lv_iload_n hx hb dX9_isIn_0 rfl (lv_at hl 0 rfl) ?_
  refine lv_iload_n hx hb dX9_isIn_1 rfl (lv_at hl 1 rfl) ?_
  refine lv_icmp_lt (tgt := 14) hx hb dX9_isIn_2 (by decide) (fun c_1 => absurd c_1 (by decide)) (fun c_1 => ?_)
  refine lv_iload_n hx hb dX9_isIn_5 rfl (lv_at hl 0 rfl) ?_
  refine lv_iload_n hx hb dX9_isIn_6 rfl (lv_at hl 2 rfl) ?_
  refine lv_icmp_gt (tgt := 14) hx hb dX9_isIn_7 (by decide) (fun c_2 => ?_) (fun c_2 => absurd (by decide) c_2)
  refine lv_iconst (v := 0) hx hb dX9_isIn_14 (by decide) ?_
  exact W.zret (v := 0) hx hb hr (by decide) (fun t ht hW => ⟨⟨0, (), rfl, rfl, trivial⟩, hS.F ht⟩) hS.2.2 dX9_isIn_15
set_option maxHeartbeats 4000000 in
set_option maxRecDepth 100000 in
theorem kX9_isHouse_v2 (l : Launch) (dC : Nat → ClassId) (dI : Nat → Nat → Nat) (r : Nat → Nat) (c : Nat → ClassId) (f5 : Nat → Int32) (sz : Nat) (hf5_0 : f5 0 = 0) : Met l yX9_isHouse (.code yX9_isHouse cX9_isHouse 2 (some .boolean) :: GW) { frames := 4, cells := 0, slots := 0, locals := 162 } (va_Pc [.ref (r 0), .int 1] (pW (dC, dI) [(r 0, .inr (8, [.ref (r 1), .ref (r 2), .int 0, .int 0, .int 0, .int (-1), .int 0, .int 0, .int 0, .int 0, .long 0, .ref (r 3), .ref (r 4), .ref (r 5), .ref (r 6), .ref (r 7), .ref (r 8), .ref (r 9), .ref (r 10), .ref (r 11), .ref (r 12), .ref (r 13), .ref (r 14), .ref (r 15), .ref (r 16), .ref (r 17), .ref (r 18), .ref (r 19), .ref (r 20), .ref (r 21), .ref (r 22), .ref (r 23), .ref (r 24), .int 0, .int 0, .int 0, .int 0, .int 0, .int 0, .int 0, .int 0, .int 0, .ref (r 25), .ref (r 26), .ref (r 27), .int 0, .int 0, .ref (r 28), .int 0, .ref (r 29), .ref (r 30), .ref (r 31), .ref (r 32), .ref (r 33), .ref (r 34), .ref (r 35), .ref (r 36), .int 0, .int 0, .int 0, .ref (r 37), .ref (r 38)])), (r 5, .inl ((c 5), 2, .inl f5))] [((c 5), .int)] sz)) (va_Qi (fun (r0 : Int32) (_ : Unit) => r0 = 0) (fun (_ : Unit) (t : State) => va_P (dC, dI) vwCl [(r 0, .inr (8, [.ref (r 1), .ref (r 2), .int 0, .int 0, .int 0, .int (-1), .int 0, .int 0, .int 0, .int 0, .long 0, .ref (r 3), .ref (r 4), .ref (r 5), .ref (r 6), .ref (r 7), .ref (r 8), .ref (r 9), .ref (r 10), .ref (r 11), .ref (r 12), .ref (r 13), .ref (r 14), .ref (r 15), .ref (r 16), .ref (r 17), .ref (r 18), .ref (r 19), .ref (r 20), .ref (r 21), .ref (r 22), .ref (r 23), .ref (r 24), .int 0, .int 0, .int 0, .int 0, .int 0, .int 0, .int 0, .int 0, .int 0, .ref (r 25), .ref (r 26), .ref (r 27), .int 0, .int 0, .ref (r 28), .int 0, .ref (r 29), .ref (r 30), .ref (r 31), .ref (r 32), .ref (r 33), .ref (r 34), .ref (r 35), .ref (r 36), .int 0, .int 0, .int 0, .ref (r 37), .ref (r 38)])), (r 5, .inl ((c 5), 2, .inl f5))] t.heap ∧ va_D (va_A [(r 0, .inr (8, [.ref (r 1), .ref (r 2), .int 0, .int 0, .int 0, .int (-1), .int 0, .int 0, .int 0, .int 0, .long 0, .ref (r 3), .ref (r 4), .ref (r 5), .ref (r 6), .ref (r 7), .ref (r 8), .ref (r 9), .ref (r 10), .ref (r 11), .ref (r 12), .ref (r 13), .ref (r 14), .ref (r 15), .ref (r 16), .ref (r 17), .ref (r 18), .ref (r 19), .ref (r 20), .ref (r 21), .ref (r 22), .ref (r 23), .ref (r 24), .int 0, .int 0, .int 0, .int 0, .int 0, .int 0, .int 0, .int 0, .int 0, .ref (r 25), .ref (r 26), .ref (r 27), .int 0, .int 0, .ref (r 28), .int 0, .ref (r 29), .ref (r 30), .ref (r 31), .ref (r 32), .ref (r 33), .ref (r 34), .ref (r 35), .ref (r 36), .int 0, .int 0, .int 0, .ref (r 37), .ref (r 38)])), (r 5, .inl ((c 5), 2, .inl f5))] sz) [(r 0, .inr (8, [.ref (r 1), .ref (r 2), .int 0, .int 0, .int 0, .int (-1), .int 0, .int 0, .int 0, .int 0, .long 0, .ref (r 3), .ref (r 4), .ref (r 5), .ref (r 6), .ref (r 7), .ref (r 8), .ref (r 9), .ref (r 10), .ref (r 11), .ref (r 12), .ref (r 13), .ref (r 14), .ref (r 15), .ref (r 16), .ref (r 17), .ref (r 18), .ref (r 19), .ref (r 20), .ref (r 21), .ref (r 22), .ref (r 23), .ref (r 24), .int 0, .int 0, .int 0, .int 0, .int 0, .int 0, .int 0, .int 0, .int 0, .ref (r 25), .ref (r 26), .ref (r 27), .int 0, .int 0, .ref (r 28), .int 0, .ref (r 29), .ref (r 30), .ref (r 31), .ref (r 32), .ref (r 33), .ref (r 34), .ref (r 35), .ref (r 36), .int 0, .int 0, .int 0, .ref (r 37), .ref (r 38)])), (r 5, .inl ((c 5), 2, .inl f5))]) (va_A [(r 0, .inr (8, [.ref (r 1), .ref (r 2), .int 0, .int 0, .int 0, .int (-1), .int 0, .int 0, .int 0, .int 0, .long 0, .ref (r 3), .ref (r 4), .ref (r 5), .ref (r 6), .ref (r 7), .ref (r 8), .ref (r 9), .ref (r 10), .ref (r 11), .ref (r 12), .ref (r 13), .ref (r 14), .ref (r 15), .ref (r 16), .ref (r 17), .ref (r 18), .ref (r 19), .ref (r 20), .ref (r 21), .ref (r 22), .ref (r 23), .ref (r 24), .int 0, .int 0, .int 0, .int 0, .int 0, .int 0, .int 0, .int 0, .int 0, .ref (r 25), .ref (r 26), .ref (r 27), .int 0, .int 0, .ref (r 28), .int 0, .ref (r 29), .ref (r 30), .ref (r 31), .ref (r 32), .ref (r 33), .ref (r 34), .ref (r 35), .ref (r 36), .int 0, .int 0, .int 0, .ref (r 37), .ref (r 38)])), (r 5, .inl ((c 5), 2, .inl f5))] sz)) 0 0 (va_A [(r 0, .inr (8, [.ref (r 1), .ref (r 2), .int 0, .int 0, .int 0, .int (-1), .int 0, .int 0, .int 0, .int 0, .long 0, .ref (r 3), .ref (r 4), .ref (r 5), .ref (r 6), .ref (r 7), .ref (r 8), .ref (r 9), .ref (r 10), .ref (r 11), .ref (r 12), .ref (r 13), .ref (r 14), .ref (r 15), .ref (r 16), .ref (r 17), .ref (r 18), .ref (r 19), .ref (r 20), .ref (r 21), .ref (r 22), .ref (r 23), .ref (r 24), .int 0, .int 0, .int 0, .int 0, .int 0, .int 0, .int 0, .int 0, .int 0, .ref (r 25), .ref (r 26), .ref (r 27), .int 0, .int 0, .ref (r 28), .int 0, .ref (r 29), .ref (r 30), .ref (r 31), .ref (r 32), .ref (r 33), .ref (r 34), .ref (r 35), .ref (r 36), .int 0, .int 0, .int 0, .ref (r 37), .ref (r 38)])), (r 5, .inl ((c 5), 2, .inl f5))] sz) := by
  refine Met.ofW (cc := cX9_isHouse) (maxL := 2) (ret := (some .boolean)) (by decide) rfl ?_
  intro p e s m args below meth c0 s₁ B hml hv
  obtain ⟨rfl, hsz, hP, hK, hD0⟩ := hv
  have hx := B.exec
  have hb := B.bytes
  have hr := B.returns
  have hts := atoms_spec (ws := .code yX9_isHouse cX9_isHouse 2 (some .boolean) :: GW) B.pre
  have hG : ∀ w ∈ GW, w.before _ s = true := fun w h => hts w (List.mem_cons_of_mem _ h)
  have hown : s.vm.findClass RX9 = some m.cls := findClass_of_methodNamed B.named
  have hlocks := B.notSynchronized
  subst hsz
  have hD := hD0.self (sz := s.heap.size)
  generalize hAe : va_A [(r 0, .inr (8, [.ref (r 1), .ref (r 2), .int 0, .int 0, .int 0, .int (-1), .int 0, .int 0, .int 0, .int 0, .long 0, .ref (r 3), .ref (r 4), .ref (r 5), .ref (r 6), .ref (r 7), .ref (r 8), .ref (r 9), .ref (r 10), .ref (r 11), .ref (r 12), .ref (r 13), .ref (r 14), .ref (r 15), .ref (r 16), .ref (r 17), .ref (r 18), .ref (r 19), .ref (r 20), .ref (r 21), .ref (r 22), .ref (r 23), .ref (r 24), .int 0, .int 0, .int 0, .int 0, .int 0, .int 0, .int 0, .int 0, .int 0, .ref (r 25), .ref (r 26), .ref (r 27), .int 0, .int 0, .ref (r 28), .int 0, .ref (r 29), .ref (r 30), .ref (r 31), .ref (r 32), .ref (r 33), .ref (r 34), .ref (r 35), .ref (r 36), .int 0, .int 0, .int 0, .ref (r 37), .ref (r 38)])), (r 5, .inl ((c 5), 2, .inl f5))] s.heap.size = A at hD ⊢
  have hA : ∀ q : Nat, s.heap.size ≤ q → A q := fun q h => by rw [← hAe]; exact Or.inr h
  have hS : va_S A s.heap s.heap [] := va_S.rf
  have hP : va_P (dC, dI) vwCl [(r 0, .inr (8, [.ref (r 1), .ref (r 2), .int 0, .int 0, .int 0, .int (-1), .int 0, .int 0, .int 0, .int 0, .long 0, .ref (r 3), .ref (r 4), .ref (r 5), .ref (r 6), .ref (r 7), .ref (r 8), .ref (r 9), .ref (r 10), .ref (r 11), .ref (r 12), .ref (r 13), .ref (r 14), .ref (r 15), .ref (r 16), .ref (r 17), .ref (r 18), .ref (r 19), .ref (r 20), .ref (r 21), .ref (r 22), .ref (r 23), .ref (r 24), .int 0, .int 0, .int 0, .int 0, .int 0, .int 0, .int 0, .int 0, .int 0, .ref (r 25), .ref (r 26), .ref (r 27), .int 0, .int 0, .ref (r 28), .int 0, .ref (r 29), .ref (r 30), .ref (r 31), .ref (r 32), .ref (r 33), .ref (r 34), .ref (r 35), .ref (r 36), .int 0, .int 0, .int 0, .ref (r 37), .ref (r 38)])), (r 5, .inl ((c 5), 2, .inl f5))] s.heap := hP
  have hl := lv_entry ([.ref (r 0), .int 1]) (n := 2) (Nat.le_of_ble_eq_true rfl)
  rw [lg_entry_eq]
  generalize (lg_sl ([.ref (r 0), .int 1]) ++ List.replicate (2 - (lg_sl ([.ref (r 0), .int 1])).length) Slot.unset).toArray = ls at hl ⊢
  have hl : lv_has ls 2 [(0, .ref (r 0)), (1, .int 1)] := hl
  refine lv_iload_n hx hb dX9_isHouse_0 rfl (lv_at hl 1 rfl) ?_
  refine lv_iconst (v := 0) hx hb dX9_isHouse_1 (by decide) ?_
  refine lv_aload_n hx hb dX9_isHouse_2 rfl (lv_at hl 0 rfl) ?_
  have hPc := hP.sub (ws' := [(r 0, .inr (8, [.ref (r 1), .ref (r 2), .int 0, .int 0, .int 0, .int (-1), .int 0, .int 0, .int 0, .int 0, .long 0, .ref (r 3), .ref (r 4), .ref (r 5), .ref (r 6), .ref (r 7), .ref (r 8), .ref (r 9), .ref (r 10), .ref (r 11), .ref (r 12), .ref (r 13), .ref (r 14), .ref (r 15), .ref (r 16), .ref (r 17), .ref (r 18), .ref (r 19), .ref (r 20), .ref (r 21), .ref (r 22), .ref (r 23), .ref (r 24), .int 0, .int 0, .int 0, .int 0, .int 0, .int 0, .int 0, .int 0, .int 0, .ref (r 25), .ref (r 26), .ref (r 27), .int 0, .int 0, .ref (r 28), .int 0, .ref (r 29), .ref (r 30), .ref (r 31), .ref (r 32), .ref (r 33), .ref (r 34), .ref (r 35), .ref (r 36), .int 0, .int 0, .int 0, .ref (r 37), .ref (r 38)])), (r 5, .inl ((c 5), 2, .inl f5))]) [0, 1] rfl
  have hKc := hK.sub (tys' := [((c 5), .int)]) [0] rfl
  have hDc := hD.sub (ws' := [(r 0, .inr (8, [.ref (r 1), .ref (r 2), .int 0, .int 0, .int 0, .int (-1), .int 0, .int 0, .int 0, .int 0, .long 0, .ref (r 3), .ref (r 4), .ref (r 5), .ref (r 6), .ref (r 7), .ref (r 8), .ref (r 9), .ref (r 10), .ref (r 11), .ref (r 12), .ref (r 13), .ref (r 14), .ref (r 15), .ref (r 16), .ref (r 17), .ref (r 18), .ref (r 19), .ref (r 20), .ref (r 21), .ref (r 22), .ref (r 23), .ref (r 24), .int 0, .int 0, .int 0, .int 0, .int 0, .int 0, .int 0, .int 0, .int 0, .ref (r 25), .ref (r 26), .ref (r 27), .int 0, .int 0, .ref (r 28), .int 0, .ref (r 29), .ref (r 30), .ref (r 31), .ref (r 32), .ref (r 33), .ref (r 34), .ref (r 35), .ref (r 36), .int 0, .int 0, .int 0, .ref (r 37), .ref (r 38)])), (r 5, .inl ((c 5), 2, .inl f5))]) [0, 1] (by decide) rfl
  have hFc := va_free (wc := [(r 0, .inr (8, [.ref (r 1), .ref (r 2), .int 0, .int 0, .int 0, .int (-1), .int 0, .int 0, .int 0, .int 0, .long 0, .ref (r 3), .ref (r 4), .ref (r 5), .ref (r 6), .ref (r 7), .ref (r 8), .ref (r 9), .ref (r 10), .ref (r 11), .ref (r 12), .ref (r 13), .ref (r 14), .ref (r 15), .ref (r 16), .ref (r 17), .ref (r 18), .ref (r 19), .ref (r 20), .ref (r 21), .ref (r 22), .ref (r 23), .ref (r 24), .int 0, .int 0, .int 0, .int 0, .int 0, .int 0, .int 0, .int 0, .int 0, .ref (r 25), .ref (r 26), .ref (r 27), .int 0, .int 0, .ref (r 28), .int 0, .ref (r 29), .ref (r 30), .ref (r 31), .ref (r 32), .ref (r 33), .ref (r 34), .ref (r 35), .ref (r 36), .int 0, .int 0, .int 0, .ref (r 37), .ref (r 38)])), (r 5, .inl ((c 5), 2, .inl f5))]) hD hS hA [0, 1] rfl
  refine va_calli (va_runV (As := []) (rest := [.int 0, .int 1]) ⟨hx, hb, hml, hown, hG⟩ (kX9_homes l dC dI r c f5 s.heap.size hf5_0) (cwV 0 hG (goodV gw1167 gw1169 gw58 gw138 gw1170) rfl rfl rfl hd_X9_homes ⟨(Nat.le_of_ble_eq_true rfl), (Nat.le_of_ble_eq_true rfl)⟩) ⟨fbW, va_recv hKc hPc (ci := 8) (q0 := 0) rfl rfl, pW_in hPc hKc hDc⟩ rfl rfl hl.1 rfl (lv_room (Nat.le_of_ble_eq_true rfl)) dX9_isHouse_3 ⟨(Nat.le_of_ble_eq_true rfl), (Nat.le_of_ble_eq_true rfl)⟩) hS (fun q _ h => hFc q h) hFc (fun r_2 u t H1 locs ht hvm hw hB hz1 hk1 hS => ?_)
  obtain ⟨hP1, hD1⟩ := hB
  rw [ht] at hP1
  obtain ⟨hP, hD⟩ := va_join (wr := []) (w1 := [(r 0, .inr (8, [.ref (r 1), .ref (r 2), .int 0, .int 0, .int 0, .int (-1), .int 0, .int 0, .int 0, .int 0, .long 0, .ref (r 3), .ref (r 4), .ref (r 5), .ref (r 6), .ref (r 7), .ref (r 8), .ref (r 9), .ref (r 10), .ref (r 11), .ref (r 12), .ref (r 13), .ref (r 14), .ref (r 15), .ref (r 16), .ref (r 17), .ref (r 18), .ref (r 19), .ref (r 20), .ref (r 21), .ref (r 22), .ref (r 23), .ref (r 24), .int 0, .int 0, .int 0, .int 0, .int 0, .int 0, .int 0, .int 0, .int 0, .ref (r 25), .ref (r 26), .ref (r 27), .int 0, .int 0, .ref (r 28), .int 0, .ref (r 29), .ref (r 30), .ref (r 31), .ref (r 32), .ref (r 33), .ref (r 34), .ref (r 35), .ref (r 36), .int 0, .int 0, .int 0, .ref (r 37), .ref (r 38)])), (r 5, .inl ((c 5), 2, .inl f5))]) hP hD [0, 1] [] rfl rfl (by decide) (by decide) hk1 hFc hP1 hD1
  have hP : va_P (dC, dI) vwCl [(r 0, .inr (8, [.ref (r 1), .ref (r 2), .int 0, .int 0, .int 0, .int (-1), .int 0, .int 0, .int 0, .int 0, .long 0, .ref (r 3), .ref (r 4), .ref (r 5), .ref (r 6), .ref (r 7), .ref (r 8), .ref (r 9), .ref (r 10), .ref (r 11), .ref (r 12), .ref (r 13), .ref (r 14), .ref (r 15), .ref (r 16), .ref (r 17), .ref (r 18), .ref (r 19), .ref (r 20), .ref (r 21), .ref (r 22), .ref (r 23), .ref (r 24), .int 0, .int 0, .int 0, .int 0, .int 0, .int 0, .int 0, .int 0, .int 0, .ref (r 25), .ref (r 26), .ref (r 27), .int 0, .int 0, .ref (r 28), .int 0, .ref (r 29), .ref (r 30), .ref (r 31), .ref (r 32), .ref (r 33), .ref (r 34), .ref (r 35), .ref (r 36), .int 0, .int 0, .int 0, .ref (r 37), .ref (r 38)])), (r 5, .inl ((c 5), 2, .inl f5))] H1 := hP
  have hD : va_D A [(r 0, .inr (8, [.ref (r 1), .ref (r 2), .int 0, .int 0, .int 0, .int (-1), .int 0, .int 0, .int 0, .int 0, .long 0, .ref (r 3), .ref (r 4), .ref (r 5), .ref (r 6), .ref (r 7), .ref (r 8), .ref (r 9), .ref (r 10), .ref (r 11), .ref (r 12), .ref (r 13), .ref (r 14), .ref (r 15), .ref (r 16), .ref (r 17), .ref (r 18), .ref (r 19), .ref (r 20), .ref (r 21), .ref (r 22), .ref (r 23), .ref (r 24), .int 0, .int 0, .int 0, .int 0, .int 0, .int 0, .int 0, .int 0, .int 0, .ref (r 25), .ref (r 26), .ref (r 27), .int 0, .int 0, .ref (r 28), .int 0, .ref (r 29), .ref (r 30), .ref (r 31), .ref (r 32), .ref (r 33), .ref (r 34), .ref (r 35), .ref (r 36), .int 0, .int 0, .int 0, .ref (r 37), .ref (r 38)])), (r 5, .inl ((c 5), 2, .inl f5))] := hD
  refine wt_c (v := 0) hw ?_
  refine lv_iconst (v := 1) hx hb dX9_isHouse_6 (by decide) ?_
  refine lv_isub hx hb dX9_isHouse_7 ?_
  refine wt_c (v := (-1)) (by decide) ?_
  have hPc := hP.sub (ws' := []) [] rfl
  have hKc := hK.sub (tys' := []) [] rfl
  refine va_calli (va_runS (As := [.int 1, .int 0, .int (-1)]) (rest := []) ⟨hx, hb, hml, hown, hG⟩ (kX9_isIn_v3 l dC dI  H1.size ) (va_cwS 3 hG (goodS gw1516 gw1517 gw138 gw1518) rfl rfl rfl hd_X9_isIn ⟨(Nat.le_of_ble_eq_true rfl), (Nat.le_of_ble_eq_true rfl)⟩) ⟨fbR, pR_in hPc hKc⟩ rfl rfl hl.1 rfl (lv_room (Nat.le_of_ble_eq_true rfl)) dX9_isHouse_8 ⟨(Nat.le_of_ble_eq_true rfl), (Nat.le_of_ble_eq_true rfl)⟩) hS (fun q hq h => absurd hq (Nat.not_lt.mpr h)) (fun q h => hA q (Nat.le_trans hS.1 h)) (fun r_4 u t H3 locs ht hvm hw hB hz1 hk1 hS => ?_)
  have hP := wk hP hk1
  refine wt_c (v := 0) hw ?_
  have hP9 := hP.sub (ws' := [(r 0, .inr (8, [.ref (r 1), .ref (r 2), .int 0, .int 0, .int 0, .int (-1), .int 0, .int 0, .int 0, .int 0, .long 0, .ref (r 3), .ref (r 4), .ref (r 5), .ref (r 6), .ref (r 7), .ref (r 8), .ref (r 9), .ref (r 10), .ref (r 11), .ref (r 12), .ref (r 13), .ref (r 14), .ref (r 15), .ref (r 16), .ref (r 17), .ref (r 18), .ref (r 19), .ref (r 20), .ref (r 21), .ref (r 22), .ref (r 23), .ref (r 24), .int 0, .int 0, .int 0, .int 0, .int 0, .int 0, .int 0, .int 0, .int 0, .ref (r 25), .ref (r 26), .ref (r 27), .int 0, .int 0, .ref (r 28), .int 0, .ref (r 29), .ref (r 30), .ref (r 31), .ref (r 32), .ref (r 33), .ref (r 34), .ref (r 35), .ref (r 36), .int 0, .int 0, .int 0, .ref (r 37), .ref (r 38)])), (r 5, .inl ((c 5), 2, .inl f5))]) [0, 1] rfl
  have hD9 := hD.sub (ws' := [(r 0, .inr (8, [.ref (r 1), .ref (r 2), .int 0, .int 0, .int 0, .int (-1), .int 0, .int 0, .int 0, .int 0, .long 0, .ref (r 3), .ref (r 4), .ref (r 5), .ref (r 6), .ref (r 7), .ref (r 8), .ref (r 9), .ref (r 10), .ref (r 11), .ref (r 12), .ref (r 13), .ref (r 14), .ref (r 15), .ref (r 16), .ref (r 17), .ref (r 18), .ref (r 19), .ref (r 20), .ref (r 21), .ref (r 22), .ref (r 23), .ref (r 24), .int 0, .int 0, .int 0, .int 0, .int 0, .int 0, .int 0, .int 0, .int 0, .ref (r 25), .ref (r 26), .ref (r 27), .int 0, .int 0, .ref (r 28), .int 0, .ref (r 29), .ref (r 30), .ref (r 31), .ref (r 32), .ref (r 33), .ref (r 34), .ref (r 35), .ref (r 36), .int 0, .int 0, .int 0, .ref (r 37), .ref (r 38)])), (r 5, .inl ((c 5), 2, .inl f5))]) [0, 1] (by decide) rfl
  exact W.zret (v := 0) hx hb hr (by decide) (fun t ht hW => ⟨⟨0, (), rfl, rfl, ⟨by rw [ht]; exact hP9, hD9⟩⟩, hS.F ht⟩) hS.2.2 dX9_isHouse_11
set_option maxHeartbeats 4000000 in
set_option maxRecDepth 100000 in
theorem kX9_isIn_v4 (l : Launch) (dC : Nat → ClassId) (dI : Nat → Nat → Nat) (sz : Nat) : Met l yX9_isIn (.code yX9_isIn cX9_isIn 3 (some .boolean) :: GW) { frames := 2, cells := 0, slots := 0, locals := 100 } (va_Pc [.int 2, .int 0, .int (-1)] (pR (dC, dI) [] [] sz)) (va_Qi (fun (r0 : Int32) (_ : Unit) => r0 = 0) (fun _ _ => True) (fun q => sz ≤ q)) 0 0 (fun q => sz ≤ q) := by
  refine Met.ofW (cc := cX9_isIn) (maxL := 3) (ret := (some .boolean)) (by decide) rfl ?_
  intro p e s m args below meth c0 s₁ B hml hv
  obtain ⟨rfl, hsz, hP, hK⟩ := hv
  have hx := B.exec
  have hb := B.bytes
  have hr := B.returns
  have hts := atoms_spec (ws := .code yX9_isIn cX9_isIn 3 (some .boolean) :: GW) B.pre
  have hG : ∀ w ∈ GW, w.before _ s = true := fun w h => hts w (List.mem_cons_of_mem _ h)
  have hown : s.vm.findClass RX9 = some m.cls := findClass_of_methodNamed B.named
  have hlocks := B.notSynchronized
  subst hsz
  have hS : va_S (fun q => s.heap.size ≤ q) s.heap s.heap [] := va_S.rf
  have hP : va_P (dC, dI) vwCl [] s.heap := hP
  have hl := lv_entry ([.int 2, .int 0, .int (-1)]) (n := 3) (Nat.le_of_ble_eq_true rfl)
  rw [lg_entry_eq]
  generalize (lg_sl ([.int 2, .int 0, .int (-1)]) ++ List.replicate (3 - (lg_sl ([.int 2, .int 0, .int (-1)])).length) Slot.unset).toArray = ls at hl ⊢
  have hl : lv_has ls 3 [(0, .int 2), (1, .int 0), (2, .int (-1))] := hl
  refine lv_iload_n hx hb dX9_isIn_0 rfl (lv_at hl 0 rfl) ?_
  refine lv_iload_n hx hb dX9_isIn_1 rfl (lv_at hl 1 rfl) ?_
  refine lv_icmp_lt (tgt := 14) hx hb dX9_isIn_2 (by decide) (fun c_1 => absurd c_1 (by decide)) (fun c_1 => ?_)
  refine lv_iload_n hx hb dX9_isIn_5 rfl (lv_at hl 0 rfl) ?_
  refine lv_iload_n hx hb dX9_isIn_6 rfl (lv_at hl 2 rfl) ?_
  refine lv_icmp_gt (tgt := 14) hx hb dX9_isIn_7 (by decide) (fun c_2 => ?_) (fun c_2 => absurd (by decide) c_2)
  refine lv_iconst (v := 0) hx hb dX9_isIn_14 (by decide) ?_
  exact W.zret (v := 0) hx hb hr (by decide) (fun t ht hW => ⟨⟨0, (), rfl, rfl, trivial⟩, hS.F ht⟩) hS.2.2 dX9_isIn_15
set_option maxHeartbeats 4000000 in
set_option maxRecDepth 100000 in
theorem kX9_isHouse_v3 (l : Launch) (dC : Nat → ClassId) (dI : Nat → Nat → Nat) (r : Nat → Nat) (c : Nat → ClassId) (f5 : Nat → Int32) (sz : Nat) (hf5_0 : f5 0 = 0) : Met l yX9_isHouse (.code yX9_isHouse cX9_isHouse 2 (some .boolean) :: GW) { frames := 4, cells := 0, slots := 0, locals := 162 } (va_Pc [.ref (r 0), .int 2] (pW (dC, dI) [(r 0, .inr (8, [.ref (r 1), .ref (r 2), .int 0, .int 0, .int 0, .int (-1), .int 0, .int 0, .int 0, .int 0, .long 0, .ref (r 3), .ref (r 4), .ref (r 5), .ref (r 6), .ref (r 7), .ref (r 8), .ref (r 9), .ref (r 10), .ref (r 11), .ref (r 12), .ref (r 13), .ref (r 14), .ref (r 15), .ref (r 16), .ref (r 17), .ref (r 18), .ref (r 19), .ref (r 20), .ref (r 21), .ref (r 22), .ref (r 23), .ref (r 24), .int 0, .int 0, .int 0, .int 0, .int 0, .int 0, .int 0, .int 0, .int 0, .ref (r 25), .ref (r 26), .ref (r 27), .int 0, .int 0, .ref (r 28), .int 0, .ref (r 29), .ref (r 30), .ref (r 31), .ref (r 32), .ref (r 33), .ref (r 34), .ref (r 35), .ref (r 36), .int 0, .int 0, .int 0, .ref (r 37), .ref (r 38)])), (r 5, .inl ((c 5), 2, .inl f5))] [((c 5), .int)] sz)) (va_Qi (fun (r0 : Int32) (_ : Unit) => r0 = 0) (fun (_ : Unit) (t : State) => va_P (dC, dI) vwCl [(r 0, .inr (8, [.ref (r 1), .ref (r 2), .int 0, .int 0, .int 0, .int (-1), .int 0, .int 0, .int 0, .int 0, .long 0, .ref (r 3), .ref (r 4), .ref (r 5), .ref (r 6), .ref (r 7), .ref (r 8), .ref (r 9), .ref (r 10), .ref (r 11), .ref (r 12), .ref (r 13), .ref (r 14), .ref (r 15), .ref (r 16), .ref (r 17), .ref (r 18), .ref (r 19), .ref (r 20), .ref (r 21), .ref (r 22), .ref (r 23), .ref (r 24), .int 0, .int 0, .int 0, .int 0, .int 0, .int 0, .int 0, .int 0, .int 0, .ref (r 25), .ref (r 26), .ref (r 27), .int 0, .int 0, .ref (r 28), .int 0, .ref (r 29), .ref (r 30), .ref (r 31), .ref (r 32), .ref (r 33), .ref (r 34), .ref (r 35), .ref (r 36), .int 0, .int 0, .int 0, .ref (r 37), .ref (r 38)])), (r 5, .inl ((c 5), 2, .inl f5))] t.heap ∧ va_D (va_A [(r 0, .inr (8, [.ref (r 1), .ref (r 2), .int 0, .int 0, .int 0, .int (-1), .int 0, .int 0, .int 0, .int 0, .long 0, .ref (r 3), .ref (r 4), .ref (r 5), .ref (r 6), .ref (r 7), .ref (r 8), .ref (r 9), .ref (r 10), .ref (r 11), .ref (r 12), .ref (r 13), .ref (r 14), .ref (r 15), .ref (r 16), .ref (r 17), .ref (r 18), .ref (r 19), .ref (r 20), .ref (r 21), .ref (r 22), .ref (r 23), .ref (r 24), .int 0, .int 0, .int 0, .int 0, .int 0, .int 0, .int 0, .int 0, .int 0, .ref (r 25), .ref (r 26), .ref (r 27), .int 0, .int 0, .ref (r 28), .int 0, .ref (r 29), .ref (r 30), .ref (r 31), .ref (r 32), .ref (r 33), .ref (r 34), .ref (r 35), .ref (r 36), .int 0, .int 0, .int 0, .ref (r 37), .ref (r 38)])), (r 5, .inl ((c 5), 2, .inl f5))] sz) [(r 0, .inr (8, [.ref (r 1), .ref (r 2), .int 0, .int 0, .int 0, .int (-1), .int 0, .int 0, .int 0, .int 0, .long 0, .ref (r 3), .ref (r 4), .ref (r 5), .ref (r 6), .ref (r 7), .ref (r 8), .ref (r 9), .ref (r 10), .ref (r 11), .ref (r 12), .ref (r 13), .ref (r 14), .ref (r 15), .ref (r 16), .ref (r 17), .ref (r 18), .ref (r 19), .ref (r 20), .ref (r 21), .ref (r 22), .ref (r 23), .ref (r 24), .int 0, .int 0, .int 0, .int 0, .int 0, .int 0, .int 0, .int 0, .int 0, .ref (r 25), .ref (r 26), .ref (r 27), .int 0, .int 0, .ref (r 28), .int 0, .ref (r 29), .ref (r 30), .ref (r 31), .ref (r 32), .ref (r 33), .ref (r 34), .ref (r 35), .ref (r 36), .int 0, .int 0, .int 0, .ref (r 37), .ref (r 38)])), (r 5, .inl ((c 5), 2, .inl f5))]) (va_A [(r 0, .inr (8, [.ref (r 1), .ref (r 2), .int 0, .int 0, .int 0, .int (-1), .int 0, .int 0, .int 0, .int 0, .long 0, .ref (r 3), .ref (r 4), .ref (r 5), .ref (r 6), .ref (r 7), .ref (r 8), .ref (r 9), .ref (r 10), .ref (r 11), .ref (r 12), .ref (r 13), .ref (r 14), .ref (r 15), .ref (r 16), .ref (r 17), .ref (r 18), .ref (r 19), .ref (r 20), .ref (r 21), .ref (r 22), .ref (r 23), .ref (r 24), .int 0, .int 0, .int 0, .int 0, .int 0, .int 0, .int 0, .int 0, .int 0, .ref (r 25), .ref (r 26), .ref (r 27), .int 0, .int 0, .ref (r 28), .int 0, .ref (r 29), .ref (r 30), .ref (r 31), .ref (r 32), .ref (r 33), .ref (r 34), .ref (r 35), .ref (r 36), .int 0, .int 0, .int 0, .ref (r 37), .ref (r 38)])), (r 5, .inl ((c 5), 2, .inl f5))] sz)) 0 0 (va_A [(r 0, .inr (8, [.ref (r 1), .ref (r 2), .int 0, .int 0, .int 0, .int (-1), .int 0, .int 0, .int 0, .int 0, .long 0, .ref (r 3), .ref (r 4), .ref (r 5), .ref (r 6), .ref (r 7), .ref (r 8), .ref (r 9), .ref (r 10), .ref (r 11), .ref (r 12), .ref (r 13), .ref (r 14), .ref (r 15), .ref (r 16), .ref (r 17), .ref (r 18), .ref (r 19), .ref (r 20), .ref (r 21), .ref (r 22), .ref (r 23), .ref (r 24), .int 0, .int 0, .int 0, .int 0, .int 0, .int 0, .int 0, .int 0, .int 0, .ref (r 25), .ref (r 26), .ref (r 27), .int 0, .int 0, .ref (r 28), .int 0, .ref (r 29), .ref (r 30), .ref (r 31), .ref (r 32), .ref (r 33), .ref (r 34), .ref (r 35), .ref (r 36), .int 0, .int 0, .int 0, .ref (r 37), .ref (r 38)])), (r 5, .inl ((c 5), 2, .inl f5))] sz) := by
  refine Met.ofW (cc := cX9_isHouse) (maxL := 2) (ret := (some .boolean)) (by decide) rfl ?_
  intro p e s m args below meth c0 s₁ B hml hv
  obtain ⟨rfl, hsz, hP, hK, hD0⟩ := hv
  have hx := B.exec
  have hb := B.bytes
  have hr := B.returns
  have hts := atoms_spec (ws := .code yX9_isHouse cX9_isHouse 2 (some .boolean) :: GW) B.pre
  have hG : ∀ w ∈ GW, w.before _ s = true := fun w h => hts w (List.mem_cons_of_mem _ h)
  have hown : s.vm.findClass RX9 = some m.cls := findClass_of_methodNamed B.named
  have hlocks := B.notSynchronized
  subst hsz
  have hD := hD0.self (sz := s.heap.size)
  generalize hAe : va_A [(r 0, .inr (8, [.ref (r 1), .ref (r 2), .int 0, .int 0, .int 0, .int (-1), .int 0, .int 0, .int 0, .int 0, .long 0, .ref (r 3), .ref (r 4), .ref (r 5), .ref (r 6), .ref (r 7), .ref (r 8), .ref (r 9), .ref (r 10), .ref (r 11), .ref (r 12), .ref (r 13), .ref (r 14), .ref (r 15), .ref (r 16), .ref (r 17), .ref (r 18), .ref (r 19), .ref (r 20), .ref (r 21), .ref (r 22), .ref (r 23), .ref (r 24), .int 0, .int 0, .int 0, .int 0, .int 0, .int 0, .int 0, .int 0, .int 0, .ref (r 25), .ref (r 26), .ref (r 27), .int 0, .int 0, .ref (r 28), .int 0, .ref (r 29), .ref (r 30), .ref (r 31), .ref (r 32), .ref (r 33), .ref (r 34), .ref (r 35), .ref (r 36), .int 0, .int 0, .int 0, .ref (r 37), .ref (r 38)])), (r 5, .inl ((c 5), 2, .inl f5))] s.heap.size = A at hD ⊢
  have hA : ∀ q : Nat, s.heap.size ≤ q → A q := fun q h => by rw [← hAe]; exact Or.inr h
  have hS : va_S A s.heap s.heap [] := va_S.rf
  have hP : va_P (dC, dI) vwCl [(r 0, .inr (8, [.ref (r 1), .ref (r 2), .int 0, .int 0, .int 0, .int (-1), .int 0, .int 0, .int 0, .int 0, .long 0, .ref (r 3), .ref (r 4), .ref (r 5), .ref (r 6), .ref (r 7), .ref (r 8), .ref (r 9), .ref (r 10), .ref (r 11), .ref (r 12), .ref (r 13), .ref (r 14), .ref (r 15), .ref (r 16), .ref (r 17), .ref (r 18), .ref (r 19), .ref (r 20), .ref (r 21), .ref (r 22), .ref (r 23), .ref (r 24), .int 0, .int 0, .int 0, .int 0, .int 0, .int 0, .int 0, .int 0, .int 0, .ref (r 25), .ref (r 26), .ref (r 27), .int 0, .int 0, .ref (r 28), .int 0, .ref (r 29), .ref (r 30), .ref (r 31), .ref (r 32), .ref (r 33), .ref (r 34), .ref (r 35), .ref (r 36), .int 0, .int 0, .int 0, .ref (r 37), .ref (r 38)])), (r 5, .inl ((c 5), 2, .inl f5))] s.heap := hP
  have hl := lv_entry ([.ref (r 0), .int 2]) (n := 2) (Nat.le_of_ble_eq_true rfl)
  rw [lg_entry_eq]
  generalize (lg_sl ([.ref (r 0), .int 2]) ++ List.replicate (2 - (lg_sl ([.ref (r 0), .int 2])).length) Slot.unset).toArray = ls at hl ⊢
  have hl : lv_has ls 2 [(0, .ref (r 0)), (1, .int 2)] := hl
  refine lv_iload_n hx hb dX9_isHouse_0 rfl (lv_at hl 1 rfl) ?_
  refine lv_iconst (v := 0) hx hb dX9_isHouse_1 (by decide) ?_
  refine lv_aload_n hx hb dX9_isHouse_2 rfl (lv_at hl 0 rfl) ?_
  have hPc := hP.sub (ws' := [(r 0, .inr (8, [.ref (r 1), .ref (r 2), .int 0, .int 0, .int 0, .int (-1), .int 0, .int 0, .int 0, .int 0, .long 0, .ref (r 3), .ref (r 4), .ref (r 5), .ref (r 6), .ref (r 7), .ref (r 8), .ref (r 9), .ref (r 10), .ref (r 11), .ref (r 12), .ref (r 13), .ref (r 14), .ref (r 15), .ref (r 16), .ref (r 17), .ref (r 18), .ref (r 19), .ref (r 20), .ref (r 21), .ref (r 22), .ref (r 23), .ref (r 24), .int 0, .int 0, .int 0, .int 0, .int 0, .int 0, .int 0, .int 0, .int 0, .ref (r 25), .ref (r 26), .ref (r 27), .int 0, .int 0, .ref (r 28), .int 0, .ref (r 29), .ref (r 30), .ref (r 31), .ref (r 32), .ref (r 33), .ref (r 34), .ref (r 35), .ref (r 36), .int 0, .int 0, .int 0, .ref (r 37), .ref (r 38)])), (r 5, .inl ((c 5), 2, .inl f5))]) [0, 1] rfl
  have hKc := hK.sub (tys' := [((c 5), .int)]) [0] rfl
  have hDc := hD.sub (ws' := [(r 0, .inr (8, [.ref (r 1), .ref (r 2), .int 0, .int 0, .int 0, .int (-1), .int 0, .int 0, .int 0, .int 0, .long 0, .ref (r 3), .ref (r 4), .ref (r 5), .ref (r 6), .ref (r 7), .ref (r 8), .ref (r 9), .ref (r 10), .ref (r 11), .ref (r 12), .ref (r 13), .ref (r 14), .ref (r 15), .ref (r 16), .ref (r 17), .ref (r 18), .ref (r 19), .ref (r 20), .ref (r 21), .ref (r 22), .ref (r 23), .ref (r 24), .int 0, .int 0, .int 0, .int 0, .int 0, .int 0, .int 0, .int 0, .int 0, .ref (r 25), .ref (r 26), .ref (r 27), .int 0, .int 0, .ref (r 28), .int 0, .ref (r 29), .ref (r 30), .ref (r 31), .ref (r 32), .ref (r 33), .ref (r 34), .ref (r 35), .ref (r 36), .int 0, .int 0, .int 0, .ref (r 37), .ref (r 38)])), (r 5, .inl ((c 5), 2, .inl f5))]) [0, 1] (by decide) rfl
  have hFc := va_free (wc := [(r 0, .inr (8, [.ref (r 1), .ref (r 2), .int 0, .int 0, .int 0, .int (-1), .int 0, .int 0, .int 0, .int 0, .long 0, .ref (r 3), .ref (r 4), .ref (r 5), .ref (r 6), .ref (r 7), .ref (r 8), .ref (r 9), .ref (r 10), .ref (r 11), .ref (r 12), .ref (r 13), .ref (r 14), .ref (r 15), .ref (r 16), .ref (r 17), .ref (r 18), .ref (r 19), .ref (r 20), .ref (r 21), .ref (r 22), .ref (r 23), .ref (r 24), .int 0, .int 0, .int 0, .int 0, .int 0, .int 0, .int 0, .int 0, .int 0, .ref (r 25), .ref (r 26), .ref (r 27), .int 0, .int 0, .ref (r 28), .int 0, .ref (r 29), .ref (r 30), .ref (r 31), .ref (r 32), .ref (r 33), .ref (r 34), .ref (r 35), .ref (r 36), .int 0, .int 0, .int 0, .ref (r 37), .ref (r 38)])), (r 5, .inl ((c 5), 2, .inl f5))]) hD hS hA [0, 1] rfl
  refine va_calli (va_runV (As := []) (rest := [.int 0, .int 2]) ⟨hx, hb, hml, hown, hG⟩ (kX9_homes l dC dI r c f5 s.heap.size hf5_0) (cwV 0 hG (goodV gw1167 gw1169 gw58 gw138 gw1170) rfl rfl rfl hd_X9_homes ⟨(Nat.le_of_ble_eq_true rfl), (Nat.le_of_ble_eq_true rfl)⟩) ⟨fbW, va_recv hKc hPc (ci := 8) (q0 := 0) rfl rfl, pW_in hPc hKc hDc⟩ rfl rfl hl.1 rfl (lv_room (Nat.le_of_ble_eq_true rfl)) dX9_isHouse_3 ⟨(Nat.le_of_ble_eq_true rfl), (Nat.le_of_ble_eq_true rfl)⟩) hS (fun q _ h => hFc q h) hFc (fun r_2 u t H1 locs ht hvm hw hB hz1 hk1 hS => ?_)
  obtain ⟨hP1, hD1⟩ := hB
  rw [ht] at hP1
  obtain ⟨hP, hD⟩ := va_join (wr := []) (w1 := [(r 0, .inr (8, [.ref (r 1), .ref (r 2), .int 0, .int 0, .int 0, .int (-1), .int 0, .int 0, .int 0, .int 0, .long 0, .ref (r 3), .ref (r 4), .ref (r 5), .ref (r 6), .ref (r 7), .ref (r 8), .ref (r 9), .ref (r 10), .ref (r 11), .ref (r 12), .ref (r 13), .ref (r 14), .ref (r 15), .ref (r 16), .ref (r 17), .ref (r 18), .ref (r 19), .ref (r 20), .ref (r 21), .ref (r 22), .ref (r 23), .ref (r 24), .int 0, .int 0, .int 0, .int 0, .int 0, .int 0, .int 0, .int 0, .int 0, .ref (r 25), .ref (r 26), .ref (r 27), .int 0, .int 0, .ref (r 28), .int 0, .ref (r 29), .ref (r 30), .ref (r 31), .ref (r 32), .ref (r 33), .ref (r 34), .ref (r 35), .ref (r 36), .int 0, .int 0, .int 0, .ref (r 37), .ref (r 38)])), (r 5, .inl ((c 5), 2, .inl f5))]) hP hD [0, 1] [] rfl rfl (by decide) (by decide) hk1 hFc hP1 hD1
  have hP : va_P (dC, dI) vwCl [(r 0, .inr (8, [.ref (r 1), .ref (r 2), .int 0, .int 0, .int 0, .int (-1), .int 0, .int 0, .int 0, .int 0, .long 0, .ref (r 3), .ref (r 4), .ref (r 5), .ref (r 6), .ref (r 7), .ref (r 8), .ref (r 9), .ref (r 10), .ref (r 11), .ref (r 12), .ref (r 13), .ref (r 14), .ref (r 15), .ref (r 16), .ref (r 17), .ref (r 18), .ref (r 19), .ref (r 20), .ref (r 21), .ref (r 22), .ref (r 23), .ref (r 24), .int 0, .int 0, .int 0, .int 0, .int 0, .int 0, .int 0, .int 0, .int 0, .ref (r 25), .ref (r 26), .ref (r 27), .int 0, .int 0, .ref (r 28), .int 0, .ref (r 29), .ref (r 30), .ref (r 31), .ref (r 32), .ref (r 33), .ref (r 34), .ref (r 35), .ref (r 36), .int 0, .int 0, .int 0, .ref (r 37), .ref (r 38)])), (r 5, .inl ((c 5), 2, .inl f5))] H1 := hP
  have hD : va_D A [(r 0, .inr (8, [.ref (r 1), .ref (r 2), .int 0, .int 0, .int 0, .int (-1), .int 0, .int 0, .int 0, .int 0, .long 0, .ref (r 3), .ref (r 4), .ref (r 5), .ref (r 6), .ref (r 7), .ref (r 8), .ref (r 9), .ref (r 10), .ref (r 11), .ref (r 12), .ref (r 13), .ref (r 14), .ref (r 15), .ref (r 16), .ref (r 17), .ref (r 18), .ref (r 19), .ref (r 20), .ref (r 21), .ref (r 22), .ref (r 23), .ref (r 24), .int 0, .int 0, .int 0, .int 0, .int 0, .int 0, .int 0, .int 0, .int 0, .ref (r 25), .ref (r 26), .ref (r 27), .int 0, .int 0, .ref (r 28), .int 0, .ref (r 29), .ref (r 30), .ref (r 31), .ref (r 32), .ref (r 33), .ref (r 34), .ref (r 35), .ref (r 36), .int 0, .int 0, .int 0, .ref (r 37), .ref (r 38)])), (r 5, .inl ((c 5), 2, .inl f5))] := hD
  refine wt_c (v := 0) hw ?_
  refine lv_iconst (v := 1) hx hb dX9_isHouse_6 (by decide) ?_
  refine lv_isub hx hb dX9_isHouse_7 ?_
  refine wt_c (v := (-1)) (by decide) ?_
  have hPc := hP.sub (ws' := []) [] rfl
  have hKc := hK.sub (tys' := []) [] rfl
  refine va_calli (va_runS (As := [.int 2, .int 0, .int (-1)]) (rest := []) ⟨hx, hb, hml, hown, hG⟩ (kX9_isIn_v4 l dC dI  H1.size ) (va_cwS 3 hG (goodS gw1516 gw1517 gw138 gw1518) rfl rfl rfl hd_X9_isIn ⟨(Nat.le_of_ble_eq_true rfl), (Nat.le_of_ble_eq_true rfl)⟩) ⟨fbR, pR_in hPc hKc⟩ rfl rfl hl.1 rfl (lv_room (Nat.le_of_ble_eq_true rfl)) dX9_isHouse_8 ⟨(Nat.le_of_ble_eq_true rfl), (Nat.le_of_ble_eq_true rfl)⟩) hS (fun q hq h => absurd hq (Nat.not_lt.mpr h)) (fun q h => hA q (Nat.le_trans hS.1 h)) (fun r_4 u t H3 locs ht hvm hw hB hz1 hk1 hS => ?_)
  have hP := wk hP hk1
  refine wt_c (v := 0) hw ?_
  have hP9 := hP.sub (ws' := [(r 0, .inr (8, [.ref (r 1), .ref (r 2), .int 0, .int 0, .int 0, .int (-1), .int 0, .int 0, .int 0, .int 0, .long 0, .ref (r 3), .ref (r 4), .ref (r 5), .ref (r 6), .ref (r 7), .ref (r 8), .ref (r 9), .ref (r 10), .ref (r 11), .ref (r 12), .ref (r 13), .ref (r 14), .ref (r 15), .ref (r 16), .ref (r 17), .ref (r 18), .ref (r 19), .ref (r 20), .ref (r 21), .ref (r 22), .ref (r 23), .ref (r 24), .int 0, .int 0, .int 0, .int 0, .int 0, .int 0, .int 0, .int 0, .int 0, .ref (r 25), .ref (r 26), .ref (r 27), .int 0, .int 0, .ref (r 28), .int 0, .ref (r 29), .ref (r 30), .ref (r 31), .ref (r 32), .ref (r 33), .ref (r 34), .ref (r 35), .ref (r 36), .int 0, .int 0, .int 0, .ref (r 37), .ref (r 38)])), (r 5, .inl ((c 5), 2, .inl f5))]) [0, 1] rfl
  have hD9 := hD.sub (ws' := [(r 0, .inr (8, [.ref (r 1), .ref (r 2), .int 0, .int 0, .int 0, .int (-1), .int 0, .int 0, .int 0, .int 0, .long 0, .ref (r 3), .ref (r 4), .ref (r 5), .ref (r 6), .ref (r 7), .ref (r 8), .ref (r 9), .ref (r 10), .ref (r 11), .ref (r 12), .ref (r 13), .ref (r 14), .ref (r 15), .ref (r 16), .ref (r 17), .ref (r 18), .ref (r 19), .ref (r 20), .ref (r 21), .ref (r 22), .ref (r 23), .ref (r 24), .int 0, .int 0, .int 0, .int 0, .int 0, .int 0, .int 0, .int 0, .int 0, .ref (r 25), .ref (r 26), .ref (r 27), .int 0, .int 0, .ref (r 28), .int 0, .ref (r 29), .ref (r 30), .ref (r 31), .ref (r 32), .ref (r 33), .ref (r 34), .ref (r 35), .ref (r 36), .int 0, .int 0, .int 0, .ref (r 37), .ref (r 38)])), (r 5, .inl ((c 5), 2, .inl f5))]) [0, 1] (by decide) rfl
  exact W.zret (v := 0) hx hb hr (by decide) (fun t ht hW => ⟨⟨0, (), rfl, rfl, ⟨by rw [ht]; exact hP9, hD9⟩⟩, hS.F ht⟩) hS.2.2 dX9_isHouse_11
set_option maxHeartbeats 4000000 in
set_option maxRecDepth 100000 in
theorem kX9_isIn_v5 (l : Launch) (dC : Nat → ClassId) (dI : Nat → Nat → Nat) (sz : Nat) : Met l yX9_isIn (.code yX9_isIn cX9_isIn 3 (some .boolean) :: GW) { frames := 2, cells := 0, slots := 0, locals := 100 } (va_Pc [.int 3, .int 0, .int (-1)] (pR (dC, dI) [] [] sz)) (va_Qi (fun (r0 : Int32) (_ : Unit) => r0 = 0) (fun _ _ => True) (fun q => sz ≤ q)) 0 0 (fun q => sz ≤ q) := by
  refine Met.ofW (cc := cX9_isIn) (maxL := 3) (ret := (some .boolean)) (by decide) rfl ?_
  intro p e s m args below meth c0 s₁ B hml hv
  obtain ⟨rfl, hsz, hP, hK⟩ := hv
  have hx := B.exec
  have hb := B.bytes
  have hr := B.returns
  have hts := atoms_spec (ws := .code yX9_isIn cX9_isIn 3 (some .boolean) :: GW) B.pre
  have hG : ∀ w ∈ GW, w.before _ s = true := fun w h => hts w (List.mem_cons_of_mem _ h)
  have hown : s.vm.findClass RX9 = some m.cls := findClass_of_methodNamed B.named
  have hlocks := B.notSynchronized
  subst hsz
  have hS : va_S (fun q => s.heap.size ≤ q) s.heap s.heap [] := va_S.rf
  have hP : va_P (dC, dI) vwCl [] s.heap := hP
  have hl := lv_entry ([.int 3, .int 0, .int (-1)]) (n := 3) (Nat.le_of_ble_eq_true rfl)
  rw [lg_entry_eq]
  generalize (lg_sl ([.int 3, .int 0, .int (-1)]) ++ List.replicate (3 - (lg_sl ([.int 3, .int 0, .int (-1)])).length) Slot.unset).toArray = ls at hl ⊢
  have hl : lv_has ls 3 [(0, .int 3), (1, .int 0), (2, .int (-1))] := hl
  refine lv_iload_n hx hb dX9_isIn_0 rfl (lv_at hl 0 rfl) ?_
  refine lv_iload_n hx hb dX9_isIn_1 rfl (lv_at hl 1 rfl) ?_
  refine lv_icmp_lt (tgt := 14) hx hb dX9_isIn_2 (by decide) (fun c_1 => absurd c_1 (by decide)) (fun c_1 => ?_)
  refine lv_iload_n hx hb dX9_isIn_5 rfl (lv_at hl 0 rfl) ?_
  refine lv_iload_n hx hb dX9_isIn_6 rfl (lv_at hl 2 rfl) ?_
  refine lv_icmp_gt (tgt := 14) hx hb dX9_isIn_7 (by decide) (fun c_2 => ?_) (fun c_2 => absurd (by decide) c_2)
  refine lv_iconst (v := 0) hx hb dX9_isIn_14 (by decide) ?_
  exact W.zret (v := 0) hx hb hr (by decide) (fun t ht hW => ⟨⟨0, (), rfl, rfl, trivial⟩, hS.F ht⟩) hS.2.2 dX9_isIn_15
set_option maxHeartbeats 4000000 in
set_option maxRecDepth 100000 in
theorem kX9_isHouse_v4 (l : Launch) (dC : Nat → ClassId) (dI : Nat → Nat → Nat) (r : Nat → Nat) (c : Nat → ClassId) (f5 : Nat → Int32) (sz : Nat) (hf5_0 : f5 0 = 0) : Met l yX9_isHouse (.code yX9_isHouse cX9_isHouse 2 (some .boolean) :: GW) { frames := 4, cells := 0, slots := 0, locals := 162 } (va_Pc [.ref (r 0), .int 3] (pW (dC, dI) [(r 0, .inr (8, [.ref (r 1), .ref (r 2), .int 0, .int 0, .int 0, .int (-1), .int 0, .int 0, .int 0, .int 0, .long 0, .ref (r 3), .ref (r 4), .ref (r 5), .ref (r 6), .ref (r 7), .ref (r 8), .ref (r 9), .ref (r 10), .ref (r 11), .ref (r 12), .ref (r 13), .ref (r 14), .ref (r 15), .ref (r 16), .ref (r 17), .ref (r 18), .ref (r 19), .ref (r 20), .ref (r 21), .ref (r 22), .ref (r 23), .ref (r 24), .int 0, .int 0, .int 0, .int 0, .int 0, .int 0, .int 0, .int 0, .int 0, .ref (r 25), .ref (r 26), .ref (r 27), .int 0, .int 0, .ref (r 28), .int 0, .ref (r 29), .ref (r 30), .ref (r 31), .ref (r 32), .ref (r 33), .ref (r 34), .ref (r 35), .ref (r 36), .int 0, .int 0, .int 0, .ref (r 37), .ref (r 38)])), (r 5, .inl ((c 5), 2, .inl f5))] [((c 5), .int)] sz)) (va_Qi (fun (r0 : Int32) (_ : Unit) => r0 = 0) (fun (_ : Unit) (t : State) => va_P (dC, dI) vwCl [(r 0, .inr (8, [.ref (r 1), .ref (r 2), .int 0, .int 0, .int 0, .int (-1), .int 0, .int 0, .int 0, .int 0, .long 0, .ref (r 3), .ref (r 4), .ref (r 5), .ref (r 6), .ref (r 7), .ref (r 8), .ref (r 9), .ref (r 10), .ref (r 11), .ref (r 12), .ref (r 13), .ref (r 14), .ref (r 15), .ref (r 16), .ref (r 17), .ref (r 18), .ref (r 19), .ref (r 20), .ref (r 21), .ref (r 22), .ref (r 23), .ref (r 24), .int 0, .int 0, .int 0, .int 0, .int 0, .int 0, .int 0, .int 0, .int 0, .ref (r 25), .ref (r 26), .ref (r 27), .int 0, .int 0, .ref (r 28), .int 0, .ref (r 29), .ref (r 30), .ref (r 31), .ref (r 32), .ref (r 33), .ref (r 34), .ref (r 35), .ref (r 36), .int 0, .int 0, .int 0, .ref (r 37), .ref (r 38)])), (r 5, .inl ((c 5), 2, .inl f5))] t.heap ∧ va_D (va_A [(r 0, .inr (8, [.ref (r 1), .ref (r 2), .int 0, .int 0, .int 0, .int (-1), .int 0, .int 0, .int 0, .int 0, .long 0, .ref (r 3), .ref (r 4), .ref (r 5), .ref (r 6), .ref (r 7), .ref (r 8), .ref (r 9), .ref (r 10), .ref (r 11), .ref (r 12), .ref (r 13), .ref (r 14), .ref (r 15), .ref (r 16), .ref (r 17), .ref (r 18), .ref (r 19), .ref (r 20), .ref (r 21), .ref (r 22), .ref (r 23), .ref (r 24), .int 0, .int 0, .int 0, .int 0, .int 0, .int 0, .int 0, .int 0, .int 0, .ref (r 25), .ref (r 26), .ref (r 27), .int 0, .int 0, .ref (r 28), .int 0, .ref (r 29), .ref (r 30), .ref (r 31), .ref (r 32), .ref (r 33), .ref (r 34), .ref (r 35), .ref (r 36), .int 0, .int 0, .int 0, .ref (r 37), .ref (r 38)])), (r 5, .inl ((c 5), 2, .inl f5))] sz) [(r 0, .inr (8, [.ref (r 1), .ref (r 2), .int 0, .int 0, .int 0, .int (-1), .int 0, .int 0, .int 0, .int 0, .long 0, .ref (r 3), .ref (r 4), .ref (r 5), .ref (r 6), .ref (r 7), .ref (r 8), .ref (r 9), .ref (r 10), .ref (r 11), .ref (r 12), .ref (r 13), .ref (r 14), .ref (r 15), .ref (r 16), .ref (r 17), .ref (r 18), .ref (r 19), .ref (r 20), .ref (r 21), .ref (r 22), .ref (r 23), .ref (r 24), .int 0, .int 0, .int 0, .int 0, .int 0, .int 0, .int 0, .int 0, .int 0, .ref (r 25), .ref (r 26), .ref (r 27), .int 0, .int 0, .ref (r 28), .int 0, .ref (r 29), .ref (r 30), .ref (r 31), .ref (r 32), .ref (r 33), .ref (r 34), .ref (r 35), .ref (r 36), .int 0, .int 0, .int 0, .ref (r 37), .ref (r 38)])), (r 5, .inl ((c 5), 2, .inl f5))]) (va_A [(r 0, .inr (8, [.ref (r 1), .ref (r 2), .int 0, .int 0, .int 0, .int (-1), .int 0, .int 0, .int 0, .int 0, .long 0, .ref (r 3), .ref (r 4), .ref (r 5), .ref (r 6), .ref (r 7), .ref (r 8), .ref (r 9), .ref (r 10), .ref (r 11), .ref (r 12), .ref (r 13), .ref (r 14), .ref (r 15), .ref (r 16), .ref (r 17), .ref (r 18), .ref (r 19), .ref (r 20), .ref (r 21), .ref (r 22), .ref (r 23), .ref (r 24), .int 0, .int 0, .int 0, .int 0, .int 0, .int 0, .int 0, .int 0, .int 0, .ref (r 25), .ref (r 26), .ref (r 27), .int 0, .int 0, .ref (r 28), .int 0, .ref (r 29), .ref (r 30), .ref (r 31), .ref (r 32), .ref (r 33), .ref (r 34), .ref (r 35), .ref (r 36), .int 0, .int 0, .int 0, .ref (r 37), .ref (r 38)])), (r 5, .inl ((c 5), 2, .inl f5))] sz)) 0 0 (va_A [(r 0, .inr (8, [.ref (r 1), .ref (r 2), .int 0, .int 0, .int 0, .int (-1), .int 0, .int 0, .int 0, .int 0, .long 0, .ref (r 3), .ref (r 4), .ref (r 5), .ref (r 6), .ref (r 7), .ref (r 8), .ref (r 9), .ref (r 10), .ref (r 11), .ref (r 12), .ref (r 13), .ref (r 14), .ref (r 15), .ref (r 16), .ref (r 17), .ref (r 18), .ref (r 19), .ref (r 20), .ref (r 21), .ref (r 22), .ref (r 23), .ref (r 24), .int 0, .int 0, .int 0, .int 0, .int 0, .int 0, .int 0, .int 0, .int 0, .ref (r 25), .ref (r 26), .ref (r 27), .int 0, .int 0, .ref (r 28), .int 0, .ref (r 29), .ref (r 30), .ref (r 31), .ref (r 32), .ref (r 33), .ref (r 34), .ref (r 35), .ref (r 36), .int 0, .int 0, .int 0, .ref (r 37), .ref (r 38)])), (r 5, .inl ((c 5), 2, .inl f5))] sz) := by
  refine Met.ofW (cc := cX9_isHouse) (maxL := 2) (ret := (some .boolean)) (by decide) rfl ?_
  intro p e s m args below meth c0 s₁ B hml hv
  obtain ⟨rfl, hsz, hP, hK, hD0⟩ := hv
  have hx := B.exec
  have hb := B.bytes
  have hr := B.returns
  have hts := atoms_spec (ws := .code yX9_isHouse cX9_isHouse 2 (some .boolean) :: GW) B.pre
  have hG : ∀ w ∈ GW, w.before _ s = true := fun w h => hts w (List.mem_cons_of_mem _ h)
  have hown : s.vm.findClass RX9 = some m.cls := findClass_of_methodNamed B.named
  have hlocks := B.notSynchronized
  subst hsz
  have hD := hD0.self (sz := s.heap.size)
  generalize hAe : va_A [(r 0, .inr (8, [.ref (r 1), .ref (r 2), .int 0, .int 0, .int 0, .int (-1), .int 0, .int 0, .int 0, .int 0, .long 0, .ref (r 3), .ref (r 4), .ref (r 5), .ref (r 6), .ref (r 7), .ref (r 8), .ref (r 9), .ref (r 10), .ref (r 11), .ref (r 12), .ref (r 13), .ref (r 14), .ref (r 15), .ref (r 16), .ref (r 17), .ref (r 18), .ref (r 19), .ref (r 20), .ref (r 21), .ref (r 22), .ref (r 23), .ref (r 24), .int 0, .int 0, .int 0, .int 0, .int 0, .int 0, .int 0, .int 0, .int 0, .ref (r 25), .ref (r 26), .ref (r 27), .int 0, .int 0, .ref (r 28), .int 0, .ref (r 29), .ref (r 30), .ref (r 31), .ref (r 32), .ref (r 33), .ref (r 34), .ref (r 35), .ref (r 36), .int 0, .int 0, .int 0, .ref (r 37), .ref (r 38)])), (r 5, .inl ((c 5), 2, .inl f5))] s.heap.size = A at hD ⊢
  have hA : ∀ q : Nat, s.heap.size ≤ q → A q := fun q h => by rw [← hAe]; exact Or.inr h
  have hS : va_S A s.heap s.heap [] := va_S.rf
  have hP : va_P (dC, dI) vwCl [(r 0, .inr (8, [.ref (r 1), .ref (r 2), .int 0, .int 0, .int 0, .int (-1), .int 0, .int 0, .int 0, .int 0, .long 0, .ref (r 3), .ref (r 4), .ref (r 5), .ref (r 6), .ref (r 7), .ref (r 8), .ref (r 9), .ref (r 10), .ref (r 11), .ref (r 12), .ref (r 13), .ref (r 14), .ref (r 15), .ref (r 16), .ref (r 17), .ref (r 18), .ref (r 19), .ref (r 20), .ref (r 21), .ref (r 22), .ref (r 23), .ref (r 24), .int 0, .int 0, .int 0, .int 0, .int 0, .int 0, .int 0, .int 0, .int 0, .ref (r 25), .ref (r 26), .ref (r 27), .int 0, .int 0, .ref (r 28), .int 0, .ref (r 29), .ref (r 30), .ref (r 31), .ref (r 32), .ref (r 33), .ref (r 34), .ref (r 35), .ref (r 36), .int 0, .int 0, .int 0, .ref (r 37), .ref (r 38)])), (r 5, .inl ((c 5), 2, .inl f5))] s.heap := hP
  have hl := lv_entry ([.ref (r 0), .int 3]) (n := 2) (Nat.le_of_ble_eq_true rfl)
  rw [lg_entry_eq]
  generalize (lg_sl ([.ref (r 0), .int 3]) ++ List.replicate (2 - (lg_sl ([.ref (r 0), .int 3])).length) Slot.unset).toArray = ls at hl ⊢
  have hl : lv_has ls 2 [(0, .ref (r 0)), (1, .int 3)] := hl
  refine lv_iload_n hx hb dX9_isHouse_0 rfl (lv_at hl 1 rfl) ?_
  refine lv_iconst (v := 0) hx hb dX9_isHouse_1 (by decide) ?_
  refine lv_aload_n hx hb dX9_isHouse_2 rfl (lv_at hl 0 rfl) ?_
  have hPc := hP.sub (ws' := [(r 0, .inr (8, [.ref (r 1), .ref (r 2), .int 0, .int 0, .int 0, .int (-1), .int 0, .int 0, .int 0, .int 0, .long 0, .ref (r 3), .ref (r 4), .ref (r 5), .ref (r 6), .ref (r 7), .ref (r 8), .ref (r 9), .ref (r 10), .ref (r 11), .ref (r 12), .ref (r 13), .ref (r 14), .ref (r 15), .ref (r 16), .ref (r 17), .ref (r 18), .ref (r 19), .ref (r 20), .ref (r 21), .ref (r 22), .ref (r 23), .ref (r 24), .int 0, .int 0, .int 0, .int 0, .int 0, .int 0, .int 0, .int 0, .int 0, .ref (r 25), .ref (r 26), .ref (r 27), .int 0, .int 0, .ref (r 28), .int 0, .ref (r 29), .ref (r 30), .ref (r 31), .ref (r 32), .ref (r 33), .ref (r 34), .ref (r 35), .ref (r 36), .int 0, .int 0, .int 0, .ref (r 37), .ref (r 38)])), (r 5, .inl ((c 5), 2, .inl f5))]) [0, 1] rfl
  have hKc := hK.sub (tys' := [((c 5), .int)]) [0] rfl
  have hDc := hD.sub (ws' := [(r 0, .inr (8, [.ref (r 1), .ref (r 2), .int 0, .int 0, .int 0, .int (-1), .int 0, .int 0, .int 0, .int 0, .long 0, .ref (r 3), .ref (r 4), .ref (r 5), .ref (r 6), .ref (r 7), .ref (r 8), .ref (r 9), .ref (r 10), .ref (r 11), .ref (r 12), .ref (r 13), .ref (r 14), .ref (r 15), .ref (r 16), .ref (r 17), .ref (r 18), .ref (r 19), .ref (r 20), .ref (r 21), .ref (r 22), .ref (r 23), .ref (r 24), .int 0, .int 0, .int 0, .int 0, .int 0, .int 0, .int 0, .int 0, .int 0, .ref (r 25), .ref (r 26), .ref (r 27), .int 0, .int 0, .ref (r 28), .int 0, .ref (r 29), .ref (r 30), .ref (r 31), .ref (r 32), .ref (r 33), .ref (r 34), .ref (r 35), .ref (r 36), .int 0, .int 0, .int 0, .ref (r 37), .ref (r 38)])), (r 5, .inl ((c 5), 2, .inl f5))]) [0, 1] (by decide) rfl
  have hFc := va_free (wc := [(r 0, .inr (8, [.ref (r 1), .ref (r 2), .int 0, .int 0, .int 0, .int (-1), .int 0, .int 0, .int 0, .int 0, .long 0, .ref (r 3), .ref (r 4), .ref (r 5), .ref (r 6), .ref (r 7), .ref (r 8), .ref (r 9), .ref (r 10), .ref (r 11), .ref (r 12), .ref (r 13), .ref (r 14), .ref (r 15), .ref (r 16), .ref (r 17), .ref (r 18), .ref (r 19), .ref (r 20), .ref (r 21), .ref (r 22), .ref (r 23), .ref (r 24), .int 0, .int 0, .int 0, .int 0, .int 0, .int 0, .int 0, .int 0, .int 0, .ref (r 25), .ref (r 26), .ref (r 27), .int 0, .int 0, .ref (r 28), .int 0, .ref (r 29), .ref (r 30), .ref (r 31), .ref (r 32), .ref (r 33), .ref (r 34), .ref (r 35), .ref (r 36), .int 0, .int 0, .int 0, .ref (r 37), .ref (r 38)])), (r 5, .inl ((c 5), 2, .inl f5))]) hD hS hA [0, 1] rfl
  refine va_calli (va_runV (As := []) (rest := [.int 0, .int 3]) ⟨hx, hb, hml, hown, hG⟩ (kX9_homes l dC dI r c f5 s.heap.size hf5_0) (cwV 0 hG (goodV gw1167 gw1169 gw58 gw138 gw1170) rfl rfl rfl hd_X9_homes ⟨(Nat.le_of_ble_eq_true rfl), (Nat.le_of_ble_eq_true rfl)⟩) ⟨fbW, va_recv hKc hPc (ci := 8) (q0 := 0) rfl rfl, pW_in hPc hKc hDc⟩ rfl rfl hl.1 rfl (lv_room (Nat.le_of_ble_eq_true rfl)) dX9_isHouse_3 ⟨(Nat.le_of_ble_eq_true rfl), (Nat.le_of_ble_eq_true rfl)⟩) hS (fun q _ h => hFc q h) hFc (fun r_2 u t H1 locs ht hvm hw hB hz1 hk1 hS => ?_)
  obtain ⟨hP1, hD1⟩ := hB
  rw [ht] at hP1
  obtain ⟨hP, hD⟩ := va_join (wr := []) (w1 := [(r 0, .inr (8, [.ref (r 1), .ref (r 2), .int 0, .int 0, .int 0, .int (-1), .int 0, .int 0, .int 0, .int 0, .long 0, .ref (r 3), .ref (r 4), .ref (r 5), .ref (r 6), .ref (r 7), .ref (r 8), .ref (r 9), .ref (r 10), .ref (r 11), .ref (r 12), .ref (r 13), .ref (r 14), .ref (r 15), .ref (r 16), .ref (r 17), .ref (r 18), .ref (r 19), .ref (r 20), .ref (r 21), .ref (r 22), .ref (r 23), .ref (r 24), .int 0, .int 0, .int 0, .int 0, .int 0, .int 0, .int 0, .int 0, .int 0, .ref (r 25), .ref (r 26), .ref (r 27), .int 0, .int 0, .ref (r 28), .int 0, .ref (r 29), .ref (r 30), .ref (r 31), .ref (r 32), .ref (r 33), .ref (r 34), .ref (r 35), .ref (r 36), .int 0, .int 0, .int 0, .ref (r 37), .ref (r 38)])), (r 5, .inl ((c 5), 2, .inl f5))]) hP hD [0, 1] [] rfl rfl (by decide) (by decide) hk1 hFc hP1 hD1
  have hP : va_P (dC, dI) vwCl [(r 0, .inr (8, [.ref (r 1), .ref (r 2), .int 0, .int 0, .int 0, .int (-1), .int 0, .int 0, .int 0, .int 0, .long 0, .ref (r 3), .ref (r 4), .ref (r 5), .ref (r 6), .ref (r 7), .ref (r 8), .ref (r 9), .ref (r 10), .ref (r 11), .ref (r 12), .ref (r 13), .ref (r 14), .ref (r 15), .ref (r 16), .ref (r 17), .ref (r 18), .ref (r 19), .ref (r 20), .ref (r 21), .ref (r 22), .ref (r 23), .ref (r 24), .int 0, .int 0, .int 0, .int 0, .int 0, .int 0, .int 0, .int 0, .int 0, .ref (r 25), .ref (r 26), .ref (r 27), .int 0, .int 0, .ref (r 28), .int 0, .ref (r 29), .ref (r 30), .ref (r 31), .ref (r 32), .ref (r 33), .ref (r 34), .ref (r 35), .ref (r 36), .int 0, .int 0, .int 0, .ref (r 37), .ref (r 38)])), (r 5, .inl ((c 5), 2, .inl f5))] H1 := hP
  have hD : va_D A [(r 0, .inr (8, [.ref (r 1), .ref (r 2), .int 0, .int 0, .int 0, .int (-1), .int 0, .int 0, .int 0, .int 0, .long 0, .ref (r 3), .ref (r 4), .ref (r 5), .ref (r 6), .ref (r 7), .ref (r 8), .ref (r 9), .ref (r 10), .ref (r 11), .ref (r 12), .ref (r 13), .ref (r 14), .ref (r 15), .ref (r 16), .ref (r 17), .ref (r 18), .ref (r 19), .ref (r 20), .ref (r 21), .ref (r 22), .ref (r 23), .ref (r 24), .int 0, .int 0, .int 0, .int 0, .int 0, .int 0, .int 0, .int 0, .int 0, .ref (r 25), .ref (r 26), .ref (r 27), .int 0, .int 0, .ref (r 28), .int 0, .ref (r 29), .ref (r 30), .ref (r 31), .ref (r 32), .ref (r 33), .ref (r 34), .ref (r 35), .ref (r 36), .int 0, .int 0, .int 0, .ref (r 37), .ref (r 38)])), (r 5, .inl ((c 5), 2, .inl f5))] := hD
  refine wt_c (v := 0) hw ?_
  refine lv_iconst (v := 1) hx hb dX9_isHouse_6 (by decide) ?_
  refine lv_isub hx hb dX9_isHouse_7 ?_
  refine wt_c (v := (-1)) (by decide) ?_
  have hPc := hP.sub (ws' := []) [] rfl
  have hKc := hK.sub (tys' := []) [] rfl
  refine va_calli (va_runS (As := [.int 3, .int 0, .int (-1)]) (rest := []) ⟨hx, hb, hml, hown, hG⟩ (kX9_isIn_v5 l dC dI  H1.size ) (va_cwS 3 hG (goodS gw1516 gw1517 gw138 gw1518) rfl rfl rfl hd_X9_isIn ⟨(Nat.le_of_ble_eq_true rfl), (Nat.le_of_ble_eq_true rfl)⟩) ⟨fbR, pR_in hPc hKc⟩ rfl rfl hl.1 rfl (lv_room (Nat.le_of_ble_eq_true rfl)) dX9_isHouse_8 ⟨(Nat.le_of_ble_eq_true rfl), (Nat.le_of_ble_eq_true rfl)⟩) hS (fun q hq h => absurd hq (Nat.not_lt.mpr h)) (fun q h => hA q (Nat.le_trans hS.1 h)) (fun r_4 u t H3 locs ht hvm hw hB hz1 hk1 hS => ?_)
  have hP := wk hP hk1
  refine wt_c (v := 0) hw ?_
  have hP9 := hP.sub (ws' := [(r 0, .inr (8, [.ref (r 1), .ref (r 2), .int 0, .int 0, .int 0, .int (-1), .int 0, .int 0, .int 0, .int 0, .long 0, .ref (r 3), .ref (r 4), .ref (r 5), .ref (r 6), .ref (r 7), .ref (r 8), .ref (r 9), .ref (r 10), .ref (r 11), .ref (r 12), .ref (r 13), .ref (r 14), .ref (r 15), .ref (r 16), .ref (r 17), .ref (r 18), .ref (r 19), .ref (r 20), .ref (r 21), .ref (r 22), .ref (r 23), .ref (r 24), .int 0, .int 0, .int 0, .int 0, .int 0, .int 0, .int 0, .int 0, .int 0, .ref (r 25), .ref (r 26), .ref (r 27), .int 0, .int 0, .ref (r 28), .int 0, .ref (r 29), .ref (r 30), .ref (r 31), .ref (r 32), .ref (r 33), .ref (r 34), .ref (r 35), .ref (r 36), .int 0, .int 0, .int 0, .ref (r 37), .ref (r 38)])), (r 5, .inl ((c 5), 2, .inl f5))]) [0, 1] rfl
  have hD9 := hD.sub (ws' := [(r 0, .inr (8, [.ref (r 1), .ref (r 2), .int 0, .int 0, .int 0, .int (-1), .int 0, .int 0, .int 0, .int 0, .long 0, .ref (r 3), .ref (r 4), .ref (r 5), .ref (r 6), .ref (r 7), .ref (r 8), .ref (r 9), .ref (r 10), .ref (r 11), .ref (r 12), .ref (r 13), .ref (r 14), .ref (r 15), .ref (r 16), .ref (r 17), .ref (r 18), .ref (r 19), .ref (r 20), .ref (r 21), .ref (r 22), .ref (r 23), .ref (r 24), .int 0, .int 0, .int 0, .int 0, .int 0, .int 0, .int 0, .int 0, .int 0, .ref (r 25), .ref (r 26), .ref (r 27), .int 0, .int 0, .ref (r 28), .int 0, .ref (r 29), .ref (r 30), .ref (r 31), .ref (r 32), .ref (r 33), .ref (r 34), .ref (r 35), .ref (r 36), .int 0, .int 0, .int 0, .ref (r 37), .ref (r 38)])), (r 5, .inl ((c 5), 2, .inl f5))]) [0, 1] (by decide) rfl
  exact W.zret (v := 0) hx hb hr (by decide) (fun t ht hW => ⟨⟨0, (), rfl, rfl, ⟨by rw [ht]; exact hP9, hD9⟩⟩, hS.F ht⟩) hS.2.2 dX9_isHouse_11
set_option maxHeartbeats 4000000 in
set_option maxRecDepth 100000 in
theorem kX9_swap (l : Launch) (dC : Nat → ClassId) (dI : Nat → Nat → Nat) (r : Nat → Nat) (c : Nat → ClassId) (f5 : Nat → Int32) (p0 : Int32) (sz : Nat) (hf5_0 : f5 0 = 0) : Met l yX9_swap (.code yX9_swap cX9_swap 5 (some .int) :: GW) { frames := 6, cells := 0, slots := 0, locals := 223 } (va_Pc [.ref (r 0), .int p0] (pW (dC, dI) [(r 0, .inr (8, [.ref (r 1), .ref (r 2), .int 0, .int 0, .int 0, .int (-1), .int 0, .int 0, .int 0, .int 0, .long 0, .ref (r 3), .ref (r 4), .ref (r 5), .ref (r 6), .ref (r 7), .ref (r 8), .ref (r 9), .ref (r 10), .ref (r 11), .ref (r 12), .ref (r 13), .ref (r 14), .ref (r 15), .ref (r 16), .ref (r 17), .ref (r 18), .ref (r 19), .ref (r 20), .ref (r 21), .ref (r 22), .ref (r 23), .ref (r 24), .int 0, .int 0, .int 0, .int 0, .int 0, .int 0, .int 0, .int 0, .int 0, .ref (r 25), .ref (r 26), .ref (r 27), .int 0, .int 0, .ref (r 28), .int 0, .ref (r 29), .ref (r 30), .ref (r 31), .ref (r 32), .ref (r 33), .ref (r 34), .ref (r 35), .ref (r 36), .int 0, .int 0, .int 0, .ref (r 37), .ref (r 38)])), (r 5, .inl ((c 5), 2, .inl f5))] [((c 5), .int)] sz)) (va_Qi (fun (r0 : Int32) (_ : Unit) => r0 = (-1)) (fun _ _ => True) (va_A [(r 0, .inr (8, [.ref (r 1), .ref (r 2), .int 0, .int 0, .int 0, .int (-1), .int 0, .int 0, .int 0, .int 0, .long 0, .ref (r 3), .ref (r 4), .ref (r 5), .ref (r 6), .ref (r 7), .ref (r 8), .ref (r 9), .ref (r 10), .ref (r 11), .ref (r 12), .ref (r 13), .ref (r 14), .ref (r 15), .ref (r 16), .ref (r 17), .ref (r 18), .ref (r 19), .ref (r 20), .ref (r 21), .ref (r 22), .ref (r 23), .ref (r 24), .int 0, .int 0, .int 0, .int 0, .int 0, .int 0, .int 0, .int 0, .int 0, .ref (r 25), .ref (r 26), .ref (r 27), .int 0, .int 0, .ref (r 28), .int 0, .ref (r 29), .ref (r 30), .ref (r 31), .ref (r 32), .ref (r 33), .ref (r 34), .ref (r 35), .ref (r 36), .int 0, .int 0, .int 0, .ref (r 37), .ref (r 38)])), (r 5, .inl ((c 5), 2, .inl f5))] sz)) 0 0 (va_A [(r 0, .inr (8, [.ref (r 1), .ref (r 2), .int 0, .int 0, .int 0, .int (-1), .int 0, .int 0, .int 0, .int 0, .long 0, .ref (r 3), .ref (r 4), .ref (r 5), .ref (r 6), .ref (r 7), .ref (r 8), .ref (r 9), .ref (r 10), .ref (r 11), .ref (r 12), .ref (r 13), .ref (r 14), .ref (r 15), .ref (r 16), .ref (r 17), .ref (r 18), .ref (r 19), .ref (r 20), .ref (r 21), .ref (r 22), .ref (r 23), .ref (r 24), .int 0, .int 0, .int 0, .int 0, .int 0, .int 0, .int 0, .int 0, .int 0, .ref (r 25), .ref (r 26), .ref (r 27), .int 0, .int 0, .ref (r 28), .int 0, .ref (r 29), .ref (r 30), .ref (r 31), .ref (r 32), .ref (r 33), .ref (r 34), .ref (r 35), .ref (r 36), .int 0, .int 0, .int 0, .ref (r 37), .ref (r 38)])), (r 5, .inl ((c 5), 2, .inl f5))] sz) := by
  refine Met.ofW (cc := cX9_swap) (maxL := 5) (ret := (some .int)) (by decide) rfl ?_
  intro p e s m args below meth c0 s₁ B hml hv
  obtain ⟨rfl, hsz, hP, hK, hD0⟩ := hv
  have hx := B.exec
  have hb := B.bytes
  have hr := B.returns
  have hts := atoms_spec (ws := .code yX9_swap cX9_swap 5 (some .int) :: GW) B.pre
  have hG : ∀ w ∈ GW, w.before _ s = true := fun w h => hts w (List.mem_cons_of_mem _ h)
  have hown : s.vm.findClass RX9 = some m.cls := findClass_of_methodNamed B.named
  have hlocks := B.notSynchronized
  subst hsz
  have hD := hD0.self (sz := s.heap.size)
  generalize hAe : va_A [(r 0, .inr (8, [.ref (r 1), .ref (r 2), .int 0, .int 0, .int 0, .int (-1), .int 0, .int 0, .int 0, .int 0, .long 0, .ref (r 3), .ref (r 4), .ref (r 5), .ref (r 6), .ref (r 7), .ref (r 8), .ref (r 9), .ref (r 10), .ref (r 11), .ref (r 12), .ref (r 13), .ref (r 14), .ref (r 15), .ref (r 16), .ref (r 17), .ref (r 18), .ref (r 19), .ref (r 20), .ref (r 21), .ref (r 22), .ref (r 23), .ref (r 24), .int 0, .int 0, .int 0, .int 0, .int 0, .int 0, .int 0, .int 0, .int 0, .ref (r 25), .ref (r 26), .ref (r 27), .int 0, .int 0, .ref (r 28), .int 0, .ref (r 29), .ref (r 30), .ref (r 31), .ref (r 32), .ref (r 33), .ref (r 34), .ref (r 35), .ref (r 36), .int 0, .int 0, .int 0, .ref (r 37), .ref (r 38)])), (r 5, .inl ((c 5), 2, .inl f5))] s.heap.size = A at hD ⊢
  have hA : ∀ q : Nat, s.heap.size ≤ q → A q := fun q h => by rw [← hAe]; exact Or.inr h
  have hS : va_S A s.heap s.heap [] := va_S.rf
  have hP : va_P (dC, dI) vwCl [(r 0, .inr (8, [.ref (r 1), .ref (r 2), .int 0, .int 0, .int 0, .int (-1), .int 0, .int 0, .int 0, .int 0, .long 0, .ref (r 3), .ref (r 4), .ref (r 5), .ref (r 6), .ref (r 7), .ref (r 8), .ref (r 9), .ref (r 10), .ref (r 11), .ref (r 12), .ref (r 13), .ref (r 14), .ref (r 15), .ref (r 16), .ref (r 17), .ref (r 18), .ref (r 19), .ref (r 20), .ref (r 21), .ref (r 22), .ref (r 23), .ref (r 24), .int 0, .int 0, .int 0, .int 0, .int 0, .int 0, .int 0, .int 0, .int 0, .ref (r 25), .ref (r 26), .ref (r 27), .int 0, .int 0, .ref (r 28), .int 0, .ref (r 29), .ref (r 30), .ref (r 31), .ref (r 32), .ref (r 33), .ref (r 34), .ref (r 35), .ref (r 36), .int 0, .int 0, .int 0, .ref (r 37), .ref (r 38)])), (r 5, .inl ((c 5), 2, .inl f5))] s.heap := hP
  have hl := lv_entry ([.ref (r 0), .int p0]) (n := 5) (Nat.le_of_ble_eq_true rfl)
  rw [lg_entry_eq]
  generalize (lg_sl ([.ref (r 0), .int p0]) ++ List.replicate (5 - (lg_sl ([.ref (r 0), .int p0])).length) Slot.unset).toArray = ls at hl ⊢
  have hl : lv_has ls 5 [(0, .ref (r 0)), (1, .int p0)] := hl
  refine lv_iload_n hx hb dX9_swap_0 rfl (lv_at hl 1 rfl) ?_
  refine lv_iconst (v := 0) hx hb dX9_swap_1 (by decide) ?_
  refine lv_iconst (v := 1) hx hb dX9_swap_2 (by decide) ?_
  have hPc := hP.sub (ws' := []) [] rfl
  have hKc := hK.sub (tys' := []) [] rfl
  refine va_calli (va_runS (As := [.int p0, .int 0, .int 1]) (rest := []) ⟨hx, hb, hml, hown, hG⟩ (kX9_isIn_v1 l dC dI p0 s.heap.size ) (va_cwS 3 hG (goodS gw1516 gw1517 gw138 gw1518) rfl rfl rfl hd_X9_isIn ⟨(Nat.le_of_ble_eq_true rfl), (Nat.le_of_ble_eq_true rfl)⟩) ⟨fbR, pR_in hPc hKc⟩ rfl rfl hl.1 rfl (lv_room (Nat.le_of_ble_eq_true rfl)) dX9_swap_3 ⟨(Nat.le_of_ble_eq_true rfl), (Nat.le_of_ble_eq_true rfl)⟩) hS (fun q hq h => absurd hq (Nat.not_lt.mpr h)) (fun q h => hA q (Nat.le_trans hS.1 h)) (fun r_2 u t H1 locs ht hvm hw hB hz1 hk1 hS => ?_)
  rcases hw with ⟨rfl, hy3, hw⟩ | ⟨rfl, hy4, hy5, hw⟩ | ⟨rfl, hy6, hy7, hw⟩
  · skip
    have hP := wk hP hk1
    refine wt_c (v := 0) hw ?_
    refine lv_if_ne (tgt := 11) hx hb dX9_swap_6 (by decide) (fun c_8 => absurd (by decide) c_8) (fun c_8 => ?_)
    refine lv_iconst (v := (-1)) hx hb dX9_swap_9 (by decide) ?_
    exact W.iret (v := (-1)) hx hb hr (fun t ht hW => ⟨⟨(-1), (), rfl, rfl, trivial⟩, hS.F ht⟩) hS.2.2 dX9_swap_10
  · skip
    have hP := wk hP hk1
    refine wt_c (v := 0) hw ?_
    refine lv_if_ne (tgt := 11) hx hb dX9_swap_6 (by decide) (fun c_9 => absurd (by decide) c_9) (fun c_9 => ?_)
    refine lv_iconst (v := (-1)) hx hb dX9_swap_9 (by decide) ?_
    exact W.iret (v := (-1)) hx hb hr (fun t ht hW => ⟨⟨(-1), (), rfl, rfl, trivial⟩, hS.F ht⟩) hS.2.2 dX9_swap_10
  · skip
    have hP := wk hP hk1
    refine wt_c (v := 1) hw ?_
    refine lv_if_ne (tgt := 11) hx hb dX9_swap_6 (by decide) (fun c_10 => ?_) (fun c_10 => absurd c_10 (by decide))
    refine lv_iconst (v := 0) hx hb dX9_swap_11 (by decide) ?_
    refine lv_istore_n (lv' := [(2, .int 0), (0, .ref (r 0)), (1, .int p0)]) hx hb dX9_swap_12 rfl hl (by decide) rfl (fun ls hl => ?_)
    refine lv_iload_n hx hb dX9_swap_13 rfl (lv_at hl 0 rfl) ?_
    refine lv_bipush (v := 16) hx hb dX9_swap_14 (by decide) ?_
    refine lv_icmp_ge (tgt := 130) hx hb dX9_swap_16 (by decide) (fun c_11 => absurd c_11 (by decide)) (fun c_11 => ?_)
    refine lv_iload_n hx hb dX9_swap_19 rfl (lv_at hl 0 rfl) ?_
    refine lv_iconst (v := 4) hx hb dX9_swap_20 (by decide) ?_
    refine lv_idiv hx hb dX9_swap_21 (by decide) ?_
    refine wt_c (v := 0) (by decide) ?_
    refine lv_istore_n (lv' := [(3, .int 0), (2, .int 0), (0, .ref (r 0)), (1, .int p0)]) hx hb dX9_swap_22 rfl hl (by decide) rfl (fun ls hl => ?_)
    refine lv_iload_n hx hb dX9_swap_23 rfl (lv_at hl 1 rfl) ?_
    refine lv_iconst (v := 4) hx hb dX9_swap_24 (by decide) ?_
    refine lv_irem hx hb dX9_swap_25 (by decide) ?_
    refine wt_c (v := 0) (by decide) ?_
    refine lv_istore (lv' := [(4, .int 0), (3, .int 0), (2, .int 0), (0, .ref (r 0)), (1, .int p0)]) hx hb dX9_swap_26 hl (by decide) rfl (fun ls hl => ?_)
    refine lv_iload_n hx hb dX9_swap_28 rfl (lv_at hl 1 rfl) ?_
    refine lv_iload hx hb dX9_swap_29 (lv_at hl 0 rfl) ?_
    refine lv_icmp_ge (tgt := 124) hx hb dX9_swap_31 (by decide) (fun c_12 => ?_) (fun c_12 => absurd (by decide) c_12)
    refine lv_iinc (v := 1) (lv' := [(2, .int 1), (4, .int 0), (3, .int 0), (0, .ref (r 0)), (1, .int p0)]) hx hb dX9_swap_124 hl (k := 2) rfl (by decide) (by decide) rfl (fun ls hl => ?_)
    refine lv_goto (tgt := 13) hx hb dX9_swap_127 (by decide) ?_
    refine lv_iload_n hx hb dX9_swap_13 rfl (lv_at hl 0 rfl) ?_
    refine lv_bipush (v := 16) hx hb dX9_swap_14 (by decide) ?_
    refine lv_icmp_ge (tgt := 130) hx hb dX9_swap_16 (by decide) (fun c_13 => absurd c_13 (by decide)) (fun c_13 => ?_)
    refine lv_iload_n hx hb dX9_swap_19 rfl (lv_at hl 0 rfl) ?_
    refine lv_iconst (v := 4) hx hb dX9_swap_20 (by decide) ?_
    refine lv_idiv hx hb dX9_swap_21 (by decide) ?_
    refine wt_c (v := 0) (by decide) ?_
    refine lv_istore_n (lv' := [(3, .int 0), (2, .int 1), (4, .int 0), (0, .ref (r 0)), (1, .int p0)]) hx hb dX9_swap_22 rfl hl (by decide) rfl (fun ls hl => ?_)
    refine lv_iload_n hx hb dX9_swap_23 rfl (lv_at hl 1 rfl) ?_
    refine lv_iconst (v := 4) hx hb dX9_swap_24 (by decide) ?_
    refine lv_irem hx hb dX9_swap_25 (by decide) ?_
    refine wt_c (v := 1) (by decide) ?_
    refine lv_istore (lv' := [(4, .int 1), (3, .int 0), (2, .int 1), (0, .ref (r 0)), (1, .int p0)]) hx hb dX9_swap_26 hl (by decide) rfl (fun ls hl => ?_)
    refine lv_iload_n hx hb dX9_swap_28 rfl (lv_at hl 1 rfl) ?_
    refine lv_iload hx hb dX9_swap_29 (lv_at hl 0 rfl) ?_
    refine lv_icmp_ge (tgt := 124) hx hb dX9_swap_31 (by decide) (fun c_14 => absurd c_14 (by decide)) (fun c_14 => ?_)
    refine lv_aload_n hx hb dX9_swap_34 rfl (lv_at hl 3 rfl) ?_
    refine lv_iload hx hb dX9_swap_35 (lv_at hl 0 rfl) ?_
    have hPc := hP.sub (ws' := [(r 0, .inr (8, [.ref (r 1), .ref (r 2), .int 0, .int 0, .int 0, .int (-1), .int 0, .int 0, .int 0, .int 0, .long 0, .ref (r 3), .ref (r 4), .ref (r 5), .ref (r 6), .ref (r 7), .ref (r 8), .ref (r 9), .ref (r 10), .ref (r 11), .ref (r 12), .ref (r 13), .ref (r 14), .ref (r 15), .ref (r 16), .ref (r 17), .ref (r 18), .ref (r 19), .ref (r 20), .ref (r 21), .ref (r 22), .ref (r 23), .ref (r 24), .int 0, .int 0, .int 0, .int 0, .int 0, .int 0, .int 0, .int 0, .int 0, .ref (r 25), .ref (r 26), .ref (r 27), .int 0, .int 0, .ref (r 28), .int 0, .ref (r 29), .ref (r 30), .ref (r 31), .ref (r 32), .ref (r 33), .ref (r 34), .ref (r 35), .ref (r 36), .int 0, .int 0, .int 0, .ref (r 37), .ref (r 38)])), (r 5, .inl ((c 5), 2, .inl f5))]) [0, 1] rfl
    have hKc := hK.sub (tys' := [((c 5), .int)]) [0] rfl
    have hDc := hD.sub (ws' := [(r 0, .inr (8, [.ref (r 1), .ref (r 2), .int 0, .int 0, .int 0, .int (-1), .int 0, .int 0, .int 0, .int 0, .long 0, .ref (r 3), .ref (r 4), .ref (r 5), .ref (r 6), .ref (r 7), .ref (r 8), .ref (r 9), .ref (r 10), .ref (r 11), .ref (r 12), .ref (r 13), .ref (r 14), .ref (r 15), .ref (r 16), .ref (r 17), .ref (r 18), .ref (r 19), .ref (r 20), .ref (r 21), .ref (r 22), .ref (r 23), .ref (r 24), .int 0, .int 0, .int 0, .int 0, .int 0, .int 0, .int 0, .int 0, .int 0, .ref (r 25), .ref (r 26), .ref (r 27), .int 0, .int 0, .ref (r 28), .int 0, .ref (r 29), .ref (r 30), .ref (r 31), .ref (r 32), .ref (r 33), .ref (r 34), .ref (r 35), .ref (r 36), .int 0, .int 0, .int 0, .ref (r 37), .ref (r 38)])), (r 5, .inl ((c 5), 2, .inl f5))]) [0, 1] (by decide) rfl
    have hFc := va_free (wc := [(r 0, .inr (8, [.ref (r 1), .ref (r 2), .int 0, .int 0, .int 0, .int (-1), .int 0, .int 0, .int 0, .int 0, .long 0, .ref (r 3), .ref (r 4), .ref (r 5), .ref (r 6), .ref (r 7), .ref (r 8), .ref (r 9), .ref (r 10), .ref (r 11), .ref (r 12), .ref (r 13), .ref (r 14), .ref (r 15), .ref (r 16), .ref (r 17), .ref (r 18), .ref (r 19), .ref (r 20), .ref (r 21), .ref (r 22), .ref (r 23), .ref (r 24), .int 0, .int 0, .int 0, .int 0, .int 0, .int 0, .int 0, .int 0, .int 0, .ref (r 25), .ref (r 26), .ref (r 27), .int 0, .int 0, .ref (r 28), .int 0, .ref (r 29), .ref (r 30), .ref (r 31), .ref (r 32), .ref (r 33), .ref (r 34), .ref (r 35), .ref (r 36), .int 0, .int 0, .int 0, .ref (r 37), .ref (r 38)])), (r 5, .inl ((c 5), 2, .inl f5))]) hD hS hA [0, 1] rfl
    refine va_calli (va_runV (As := [.int 1]) (rest := []) ⟨hx, hb, hml, hown, hG⟩ (kX9_isHouse_v2 l dC dI r c f5 H1.size hf5_0) (cwV 1 hG (goodV gw1542 gw1544 gw90 gw138 gw1545) rfl rfl rfl hd_X9_isHouse ⟨(Nat.le_of_ble_eq_true rfl), (Nat.le_of_ble_eq_true rfl)⟩) ⟨fbW, va_recv hKc hPc (ci := 8) (q0 := 0) rfl rfl, pW_in hPc hKc hDc⟩ rfl rfl hl.1 rfl (lv_room (Nat.le_of_ble_eq_true rfl)) dX9_swap_37 ⟨(Nat.le_of_ble_eq_true rfl), (Nat.le_of_ble_eq_true rfl)⟩) hS (fun q _ h => hFc q h) hFc (fun r_16 u t H15 locs ht hvm hw hB hz1 hk1 hS => ?_)
    obtain ⟨hP1, hD1⟩ := hB
    rw [ht] at hP1
    obtain ⟨hP, hD⟩ := va_join (wr := []) (w1 := [(r 0, .inr (8, [.ref (r 1), .ref (r 2), .int 0, .int 0, .int 0, .int (-1), .int 0, .int 0, .int 0, .int 0, .long 0, .ref (r 3), .ref (r 4), .ref (r 5), .ref (r 6), .ref (r 7), .ref (r 8), .ref (r 9), .ref (r 10), .ref (r 11), .ref (r 12), .ref (r 13), .ref (r 14), .ref (r 15), .ref (r 16), .ref (r 17), .ref (r 18), .ref (r 19), .ref (r 20), .ref (r 21), .ref (r 22), .ref (r 23), .ref (r 24), .int 0, .int 0, .int 0, .int 0, .int 0, .int 0, .int 0, .int 0, .int 0, .ref (r 25), .ref (r 26), .ref (r 27), .int 0, .int 0, .ref (r 28), .int 0, .ref (r 29), .ref (r 30), .ref (r 31), .ref (r 32), .ref (r 33), .ref (r 34), .ref (r 35), .ref (r 36), .int 0, .int 0, .int 0, .ref (r 37), .ref (r 38)])), (r 5, .inl ((c 5), 2, .inl f5))]) hP hD [0, 1] [] rfl rfl (by decide) (by decide) hk1 hFc hP1 hD1
    have hP : va_P (dC, dI) vwCl [(r 0, .inr (8, [.ref (r 1), .ref (r 2), .int 0, .int 0, .int 0, .int (-1), .int 0, .int 0, .int 0, .int 0, .long 0, .ref (r 3), .ref (r 4), .ref (r 5), .ref (r 6), .ref (r 7), .ref (r 8), .ref (r 9), .ref (r 10), .ref (r 11), .ref (r 12), .ref (r 13), .ref (r 14), .ref (r 15), .ref (r 16), .ref (r 17), .ref (r 18), .ref (r 19), .ref (r 20), .ref (r 21), .ref (r 22), .ref (r 23), .ref (r 24), .int 0, .int 0, .int 0, .int 0, .int 0, .int 0, .int 0, .int 0, .int 0, .ref (r 25), .ref (r 26), .ref (r 27), .int 0, .int 0, .ref (r 28), .int 0, .ref (r 29), .ref (r 30), .ref (r 31), .ref (r 32), .ref (r 33), .ref (r 34), .ref (r 35), .ref (r 36), .int 0, .int 0, .int 0, .ref (r 37), .ref (r 38)])), (r 5, .inl ((c 5), 2, .inl f5))] H15 := hP
    have hD : va_D A [(r 0, .inr (8, [.ref (r 1), .ref (r 2), .int 0, .int 0, .int 0, .int (-1), .int 0, .int 0, .int 0, .int 0, .long 0, .ref (r 3), .ref (r 4), .ref (r 5), .ref (r 6), .ref (r 7), .ref (r 8), .ref (r 9), .ref (r 10), .ref (r 11), .ref (r 12), .ref (r 13), .ref (r 14), .ref (r 15), .ref (r 16), .ref (r 17), .ref (r 18), .ref (r 19), .ref (r 20), .ref (r 21), .ref (r 22), .ref (r 23), .ref (r 24), .int 0, .int 0, .int 0, .int 0, .int 0, .int 0, .int 0, .int 0, .int 0, .ref (r 25), .ref (r 26), .ref (r 27), .int 0, .int 0, .ref (r 28), .int 0, .ref (r 29), .ref (r 30), .ref (r 31), .ref (r 32), .ref (r 33), .ref (r 34), .ref (r 35), .ref (r 36), .int 0, .int 0, .int 0, .ref (r 37), .ref (r 38)])), (r 5, .inl ((c 5), 2, .inl f5))] := hD
    refine wt_c (v := 0) hw ?_
    refine lv_if_eq (tgt := 124) hx hb dX9_swap_40 (by decide) (fun c_17 => ?_) (fun c_17 => absurd (by decide) c_17)
    refine lv_iinc (v := 2) (lv' := [(2, .int 2), (4, .int 1), (3, .int 0), (0, .ref (r 0)), (1, .int p0)]) hx hb dX9_swap_124 hl (k := 2) rfl (by decide) (by decide) rfl (fun ls hl => ?_)
    refine lv_goto (tgt := 13) hx hb dX9_swap_127 (by decide) ?_
    refine lv_iload_n hx hb dX9_swap_13 rfl (lv_at hl 0 rfl) ?_
    refine lv_bipush (v := 16) hx hb dX9_swap_14 (by decide) ?_
    refine lv_icmp_ge (tgt := 130) hx hb dX9_swap_16 (by decide) (fun c_18 => absurd c_18 (by decide)) (fun c_18 => ?_)
    refine lv_iload_n hx hb dX9_swap_19 rfl (lv_at hl 0 rfl) ?_
    refine lv_iconst (v := 4) hx hb dX9_swap_20 (by decide) ?_
    refine lv_idiv hx hb dX9_swap_21 (by decide) ?_
    refine wt_c (v := 0) (by decide) ?_
    refine lv_istore_n (lv' := [(3, .int 0), (2, .int 2), (4, .int 1), (0, .ref (r 0)), (1, .int p0)]) hx hb dX9_swap_22 rfl hl (by decide) rfl (fun ls hl => ?_)
    refine lv_iload_n hx hb dX9_swap_23 rfl (lv_at hl 1 rfl) ?_
    refine lv_iconst (v := 4) hx hb dX9_swap_24 (by decide) ?_
    refine lv_irem hx hb dX9_swap_25 (by decide) ?_
    refine wt_c (v := 2) (by decide) ?_
    refine lv_istore (lv' := [(4, .int 2), (3, .int 0), (2, .int 2), (0, .ref (r 0)), (1, .int p0)]) hx hb dX9_swap_26 hl (by decide) rfl (fun ls hl => ?_)
    refine lv_iload_n hx hb dX9_swap_28 rfl (lv_at hl 1 rfl) ?_
    refine lv_iload hx hb dX9_swap_29 (lv_at hl 0 rfl) ?_
    refine lv_icmp_ge (tgt := 124) hx hb dX9_swap_31 (by decide) (fun c_19 => absurd c_19 (by decide)) (fun c_19 => ?_)
    refine lv_aload_n hx hb dX9_swap_34 rfl (lv_at hl 3 rfl) ?_
    refine lv_iload hx hb dX9_swap_35 (lv_at hl 0 rfl) ?_
    have hPc := hP.sub (ws' := [(r 0, .inr (8, [.ref (r 1), .ref (r 2), .int 0, .int 0, .int 0, .int (-1), .int 0, .int 0, .int 0, .int 0, .long 0, .ref (r 3), .ref (r 4), .ref (r 5), .ref (r 6), .ref (r 7), .ref (r 8), .ref (r 9), .ref (r 10), .ref (r 11), .ref (r 12), .ref (r 13), .ref (r 14), .ref (r 15), .ref (r 16), .ref (r 17), .ref (r 18), .ref (r 19), .ref (r 20), .ref (r 21), .ref (r 22), .ref (r 23), .ref (r 24), .int 0, .int 0, .int 0, .int 0, .int 0, .int 0, .int 0, .int 0, .int 0, .ref (r 25), .ref (r 26), .ref (r 27), .int 0, .int 0, .ref (r 28), .int 0, .ref (r 29), .ref (r 30), .ref (r 31), .ref (r 32), .ref (r 33), .ref (r 34), .ref (r 35), .ref (r 36), .int 0, .int 0, .int 0, .ref (r 37), .ref (r 38)])), (r 5, .inl ((c 5), 2, .inl f5))]) [0, 1] rfl
    have hKc := hK.sub (tys' := [((c 5), .int)]) [0] rfl
    have hDc := hD.sub (ws' := [(r 0, .inr (8, [.ref (r 1), .ref (r 2), .int 0, .int 0, .int 0, .int (-1), .int 0, .int 0, .int 0, .int 0, .long 0, .ref (r 3), .ref (r 4), .ref (r 5), .ref (r 6), .ref (r 7), .ref (r 8), .ref (r 9), .ref (r 10), .ref (r 11), .ref (r 12), .ref (r 13), .ref (r 14), .ref (r 15), .ref (r 16), .ref (r 17), .ref (r 18), .ref (r 19), .ref (r 20), .ref (r 21), .ref (r 22), .ref (r 23), .ref (r 24), .int 0, .int 0, .int 0, .int 0, .int 0, .int 0, .int 0, .int 0, .int 0, .ref (r 25), .ref (r 26), .ref (r 27), .int 0, .int 0, .ref (r 28), .int 0, .ref (r 29), .ref (r 30), .ref (r 31), .ref (r 32), .ref (r 33), .ref (r 34), .ref (r 35), .ref (r 36), .int 0, .int 0, .int 0, .ref (r 37), .ref (r 38)])), (r 5, .inl ((c 5), 2, .inl f5))]) [0, 1] (by decide) rfl
    have hFc := va_free (wc := [(r 0, .inr (8, [.ref (r 1), .ref (r 2), .int 0, .int 0, .int 0, .int (-1), .int 0, .int 0, .int 0, .int 0, .long 0, .ref (r 3), .ref (r 4), .ref (r 5), .ref (r 6), .ref (r 7), .ref (r 8), .ref (r 9), .ref (r 10), .ref (r 11), .ref (r 12), .ref (r 13), .ref (r 14), .ref (r 15), .ref (r 16), .ref (r 17), .ref (r 18), .ref (r 19), .ref (r 20), .ref (r 21), .ref (r 22), .ref (r 23), .ref (r 24), .int 0, .int 0, .int 0, .int 0, .int 0, .int 0, .int 0, .int 0, .int 0, .ref (r 25), .ref (r 26), .ref (r 27), .int 0, .int 0, .ref (r 28), .int 0, .ref (r 29), .ref (r 30), .ref (r 31), .ref (r 32), .ref (r 33), .ref (r 34), .ref (r 35), .ref (r 36), .int 0, .int 0, .int 0, .ref (r 37), .ref (r 38)])), (r 5, .inl ((c 5), 2, .inl f5))]) hD hS hA [0, 1] rfl
    refine va_calli (va_runV (As := [.int 2]) (rest := []) ⟨hx, hb, hml, hown, hG⟩ (kX9_isHouse_v3 l dC dI r c f5 H15.size hf5_0) (cwV 1 hG (goodV gw1542 gw1544 gw90 gw138 gw1545) rfl rfl rfl hd_X9_isHouse ⟨(Nat.le_of_ble_eq_true rfl), (Nat.le_of_ble_eq_true rfl)⟩) ⟨fbW, va_recv hKc hPc (ci := 8) (q0 := 0) rfl rfl, pW_in hPc hKc hDc⟩ rfl rfl hl.1 rfl (lv_room (Nat.le_of_ble_eq_true rfl)) dX9_swap_37 ⟨(Nat.le_of_ble_eq_true rfl), (Nat.le_of_ble_eq_true rfl)⟩) hS (fun q _ h => hFc q h) hFc (fun r_21 u t H20 locs ht hvm hw hB hz1 hk1 hS => ?_)
    obtain ⟨hP1, hD1⟩ := hB
    rw [ht] at hP1
    obtain ⟨hP, hD⟩ := va_join (wr := []) (w1 := [(r 0, .inr (8, [.ref (r 1), .ref (r 2), .int 0, .int 0, .int 0, .int (-1), .int 0, .int 0, .int 0, .int 0, .long 0, .ref (r 3), .ref (r 4), .ref (r 5), .ref (r 6), .ref (r 7), .ref (r 8), .ref (r 9), .ref (r 10), .ref (r 11), .ref (r 12), .ref (r 13), .ref (r 14), .ref (r 15), .ref (r 16), .ref (r 17), .ref (r 18), .ref (r 19), .ref (r 20), .ref (r 21), .ref (r 22), .ref (r 23), .ref (r 24), .int 0, .int 0, .int 0, .int 0, .int 0, .int 0, .int 0, .int 0, .int 0, .ref (r 25), .ref (r 26), .ref (r 27), .int 0, .int 0, .ref (r 28), .int 0, .ref (r 29), .ref (r 30), .ref (r 31), .ref (r 32), .ref (r 33), .ref (r 34), .ref (r 35), .ref (r 36), .int 0, .int 0, .int 0, .ref (r 37), .ref (r 38)])), (r 5, .inl ((c 5), 2, .inl f5))]) hP hD [0, 1] [] rfl rfl (by decide) (by decide) hk1 hFc hP1 hD1
    have hP : va_P (dC, dI) vwCl [(r 0, .inr (8, [.ref (r 1), .ref (r 2), .int 0, .int 0, .int 0, .int (-1), .int 0, .int 0, .int 0, .int 0, .long 0, .ref (r 3), .ref (r 4), .ref (r 5), .ref (r 6), .ref (r 7), .ref (r 8), .ref (r 9), .ref (r 10), .ref (r 11), .ref (r 12), .ref (r 13), .ref (r 14), .ref (r 15), .ref (r 16), .ref (r 17), .ref (r 18), .ref (r 19), .ref (r 20), .ref (r 21), .ref (r 22), .ref (r 23), .ref (r 24), .int 0, .int 0, .int 0, .int 0, .int 0, .int 0, .int 0, .int 0, .int 0, .ref (r 25), .ref (r 26), .ref (r 27), .int 0, .int 0, .ref (r 28), .int 0, .ref (r 29), .ref (r 30), .ref (r 31), .ref (r 32), .ref (r 33), .ref (r 34), .ref (r 35), .ref (r 36), .int 0, .int 0, .int 0, .ref (r 37), .ref (r 38)])), (r 5, .inl ((c 5), 2, .inl f5))] H20 := hP
    have hD : va_D A [(r 0, .inr (8, [.ref (r 1), .ref (r 2), .int 0, .int 0, .int 0, .int (-1), .int 0, .int 0, .int 0, .int 0, .long 0, .ref (r 3), .ref (r 4), .ref (r 5), .ref (r 6), .ref (r 7), .ref (r 8), .ref (r 9), .ref (r 10), .ref (r 11), .ref (r 12), .ref (r 13), .ref (r 14), .ref (r 15), .ref (r 16), .ref (r 17), .ref (r 18), .ref (r 19), .ref (r 20), .ref (r 21), .ref (r 22), .ref (r 23), .ref (r 24), .int 0, .int 0, .int 0, .int 0, .int 0, .int 0, .int 0, .int 0, .int 0, .ref (r 25), .ref (r 26), .ref (r 27), .int 0, .int 0, .ref (r 28), .int 0, .ref (r 29), .ref (r 30), .ref (r 31), .ref (r 32), .ref (r 33), .ref (r 34), .ref (r 35), .ref (r 36), .int 0, .int 0, .int 0, .ref (r 37), .ref (r 38)])), (r 5, .inl ((c 5), 2, .inl f5))] := hD
    refine wt_c (v := 0) hw ?_
    refine lv_if_eq (tgt := 124) hx hb dX9_swap_40 (by decide) (fun c_22 => ?_) (fun c_22 => absurd (by decide) c_22)
    refine lv_iinc (v := 3) (lv' := [(2, .int 3), (4, .int 2), (3, .int 0), (0, .ref (r 0)), (1, .int p0)]) hx hb dX9_swap_124 hl (k := 2) rfl (by decide) (by decide) rfl (fun ls hl => ?_)
    refine lv_goto (tgt := 13) hx hb dX9_swap_127 (by decide) ?_
    refine lv_iload_n hx hb dX9_swap_13 rfl (lv_at hl 0 rfl) ?_
    refine lv_bipush (v := 16) hx hb dX9_swap_14 (by decide) ?_
    refine lv_icmp_ge (tgt := 130) hx hb dX9_swap_16 (by decide) (fun c_23 => absurd c_23 (by decide)) (fun c_23 => ?_)
    refine lv_iload_n hx hb dX9_swap_19 rfl (lv_at hl 0 rfl) ?_
    refine lv_iconst (v := 4) hx hb dX9_swap_20 (by decide) ?_
    refine lv_idiv hx hb dX9_swap_21 (by decide) ?_
    refine wt_c (v := 0) (by decide) ?_
    refine lv_istore_n (lv' := [(3, .int 0), (2, .int 3), (4, .int 2), (0, .ref (r 0)), (1, .int p0)]) hx hb dX9_swap_22 rfl hl (by decide) rfl (fun ls hl => ?_)
    refine lv_iload_n hx hb dX9_swap_23 rfl (lv_at hl 1 rfl) ?_
    refine lv_iconst (v := 4) hx hb dX9_swap_24 (by decide) ?_
    refine lv_irem hx hb dX9_swap_25 (by decide) ?_
    refine wt_c (v := 3) (by decide) ?_
    refine lv_istore (lv' := [(4, .int 3), (3, .int 0), (2, .int 3), (0, .ref (r 0)), (1, .int p0)]) hx hb dX9_swap_26 hl (by decide) rfl (fun ls hl => ?_)
    refine lv_iload_n hx hb dX9_swap_28 rfl (lv_at hl 1 rfl) ?_
    refine lv_iload hx hb dX9_swap_29 (lv_at hl 0 rfl) ?_
    refine lv_icmp_ge (tgt := 124) hx hb dX9_swap_31 (by decide) (fun c_24 => absurd c_24 (by decide)) (fun c_24 => ?_)
    refine lv_aload_n hx hb dX9_swap_34 rfl (lv_at hl 3 rfl) ?_
    refine lv_iload hx hb dX9_swap_35 (lv_at hl 0 rfl) ?_
    have hPc := hP.sub (ws' := [(r 0, .inr (8, [.ref (r 1), .ref (r 2), .int 0, .int 0, .int 0, .int (-1), .int 0, .int 0, .int 0, .int 0, .long 0, .ref (r 3), .ref (r 4), .ref (r 5), .ref (r 6), .ref (r 7), .ref (r 8), .ref (r 9), .ref (r 10), .ref (r 11), .ref (r 12), .ref (r 13), .ref (r 14), .ref (r 15), .ref (r 16), .ref (r 17), .ref (r 18), .ref (r 19), .ref (r 20), .ref (r 21), .ref (r 22), .ref (r 23), .ref (r 24), .int 0, .int 0, .int 0, .int 0, .int 0, .int 0, .int 0, .int 0, .int 0, .ref (r 25), .ref (r 26), .ref (r 27), .int 0, .int 0, .ref (r 28), .int 0, .ref (r 29), .ref (r 30), .ref (r 31), .ref (r 32), .ref (r 33), .ref (r 34), .ref (r 35), .ref (r 36), .int 0, .int 0, .int 0, .ref (r 37), .ref (r 38)])), (r 5, .inl ((c 5), 2, .inl f5))]) [0, 1] rfl
    have hKc := hK.sub (tys' := [((c 5), .int)]) [0] rfl
    have hDc := hD.sub (ws' := [(r 0, .inr (8, [.ref (r 1), .ref (r 2), .int 0, .int 0, .int 0, .int (-1), .int 0, .int 0, .int 0, .int 0, .long 0, .ref (r 3), .ref (r 4), .ref (r 5), .ref (r 6), .ref (r 7), .ref (r 8), .ref (r 9), .ref (r 10), .ref (r 11), .ref (r 12), .ref (r 13), .ref (r 14), .ref (r 15), .ref (r 16), .ref (r 17), .ref (r 18), .ref (r 19), .ref (r 20), .ref (r 21), .ref (r 22), .ref (r 23), .ref (r 24), .int 0, .int 0, .int 0, .int 0, .int 0, .int 0, .int 0, .int 0, .int 0, .ref (r 25), .ref (r 26), .ref (r 27), .int 0, .int 0, .ref (r 28), .int 0, .ref (r 29), .ref (r 30), .ref (r 31), .ref (r 32), .ref (r 33), .ref (r 34), .ref (r 35), .ref (r 36), .int 0, .int 0, .int 0, .ref (r 37), .ref (r 38)])), (r 5, .inl ((c 5), 2, .inl f5))]) [0, 1] (by decide) rfl
    have hFc := va_free (wc := [(r 0, .inr (8, [.ref (r 1), .ref (r 2), .int 0, .int 0, .int 0, .int (-1), .int 0, .int 0, .int 0, .int 0, .long 0, .ref (r 3), .ref (r 4), .ref (r 5), .ref (r 6), .ref (r 7), .ref (r 8), .ref (r 9), .ref (r 10), .ref (r 11), .ref (r 12), .ref (r 13), .ref (r 14), .ref (r 15), .ref (r 16), .ref (r 17), .ref (r 18), .ref (r 19), .ref (r 20), .ref (r 21), .ref (r 22), .ref (r 23), .ref (r 24), .int 0, .int 0, .int 0, .int 0, .int 0, .int 0, .int 0, .int 0, .int 0, .ref (r 25), .ref (r 26), .ref (r 27), .int 0, .int 0, .ref (r 28), .int 0, .ref (r 29), .ref (r 30), .ref (r 31), .ref (r 32), .ref (r 33), .ref (r 34), .ref (r 35), .ref (r 36), .int 0, .int 0, .int 0, .ref (r 37), .ref (r 38)])), (r 5, .inl ((c 5), 2, .inl f5))]) hD hS hA [0, 1] rfl
    refine va_calli (va_runV (As := [.int 3]) (rest := []) ⟨hx, hb, hml, hown, hG⟩ (kX9_isHouse_v4 l dC dI r c f5 H20.size hf5_0) (cwV 1 hG (goodV gw1542 gw1544 gw90 gw138 gw1545) rfl rfl rfl hd_X9_isHouse ⟨(Nat.le_of_ble_eq_true rfl), (Nat.le_of_ble_eq_true rfl)⟩) ⟨fbW, va_recv hKc hPc (ci := 8) (q0 := 0) rfl rfl, pW_in hPc hKc hDc⟩ rfl rfl hl.1 rfl (lv_room (Nat.le_of_ble_eq_true rfl)) dX9_swap_37 ⟨(Nat.le_of_ble_eq_true rfl), (Nat.le_of_ble_eq_true rfl)⟩) hS (fun q _ h => hFc q h) hFc (fun r_26 u t H25 locs ht hvm hw hB hz1 hk1 hS => ?_)
    obtain ⟨hP1, hD1⟩ := hB
    rw [ht] at hP1
    obtain ⟨hP, hD⟩ := va_join (wr := []) (w1 := [(r 0, .inr (8, [.ref (r 1), .ref (r 2), .int 0, .int 0, .int 0, .int (-1), .int 0, .int 0, .int 0, .int 0, .long 0, .ref (r 3), .ref (r 4), .ref (r 5), .ref (r 6), .ref (r 7), .ref (r 8), .ref (r 9), .ref (r 10), .ref (r 11), .ref (r 12), .ref (r 13), .ref (r 14), .ref (r 15), .ref (r 16), .ref (r 17), .ref (r 18), .ref (r 19), .ref (r 20), .ref (r 21), .ref (r 22), .ref (r 23), .ref (r 24), .int 0, .int 0, .int 0, .int 0, .int 0, .int 0, .int 0, .int 0, .int 0, .ref (r 25), .ref (r 26), .ref (r 27), .int 0, .int 0, .ref (r 28), .int 0, .ref (r 29), .ref (r 30), .ref (r 31), .ref (r 32), .ref (r 33), .ref (r 34), .ref (r 35), .ref (r 36), .int 0, .int 0, .int 0, .ref (r 37), .ref (r 38)])), (r 5, .inl ((c 5), 2, .inl f5))]) hP hD [0, 1] [] rfl rfl (by decide) (by decide) hk1 hFc hP1 hD1
    have hP : va_P (dC, dI) vwCl [(r 0, .inr (8, [.ref (r 1), .ref (r 2), .int 0, .int 0, .int 0, .int (-1), .int 0, .int 0, .int 0, .int 0, .long 0, .ref (r 3), .ref (r 4), .ref (r 5), .ref (r 6), .ref (r 7), .ref (r 8), .ref (r 9), .ref (r 10), .ref (r 11), .ref (r 12), .ref (r 13), .ref (r 14), .ref (r 15), .ref (r 16), .ref (r 17), .ref (r 18), .ref (r 19), .ref (r 20), .ref (r 21), .ref (r 22), .ref (r 23), .ref (r 24), .int 0, .int 0, .int 0, .int 0, .int 0, .int 0, .int 0, .int 0, .int 0, .ref (r 25), .ref (r 26), .ref (r 27), .int 0, .int 0, .ref (r 28), .int 0, .ref (r 29), .ref (r 30), .ref (r 31), .ref (r 32), .ref (r 33), .ref (r 34), .ref (r 35), .ref (r 36), .int 0, .int 0, .int 0, .ref (r 37), .ref (r 38)])), (r 5, .inl ((c 5), 2, .inl f5))] H25 := hP
    have hD : va_D A [(r 0, .inr (8, [.ref (r 1), .ref (r 2), .int 0, .int 0, .int 0, .int (-1), .int 0, .int 0, .int 0, .int 0, .long 0, .ref (r 3), .ref (r 4), .ref (r 5), .ref (r 6), .ref (r 7), .ref (r 8), .ref (r 9), .ref (r 10), .ref (r 11), .ref (r 12), .ref (r 13), .ref (r 14), .ref (r 15), .ref (r 16), .ref (r 17), .ref (r 18), .ref (r 19), .ref (r 20), .ref (r 21), .ref (r 22), .ref (r 23), .ref (r 24), .int 0, .int 0, .int 0, .int 0, .int 0, .int 0, .int 0, .int 0, .int 0, .ref (r 25), .ref (r 26), .ref (r 27), .int 0, .int 0, .ref (r 28), .int 0, .ref (r 29), .ref (r 30), .ref (r 31), .ref (r 32), .ref (r 33), .ref (r 34), .ref (r 35), .ref (r 36), .int 0, .int 0, .int 0, .ref (r 37), .ref (r 38)])), (r 5, .inl ((c 5), 2, .inl f5))] := hD
    refine wt_c (v := 0) hw ?_
    refine lv_if_eq (tgt := 124) hx hb dX9_swap_40 (by decide) (fun c_27 => ?_) (fun c_27 => absurd (by decide) c_27)
    refine lv_iinc (v := 4) (lv' := [(2, .int 4), (4, .int 3), (3, .int 0), (0, .ref (r 0)), (1, .int p0)]) hx hb dX9_swap_124 hl (k := 2) rfl (by decide) (by decide) rfl (fun ls hl => ?_)
    refine lv_goto (tgt := 13) hx hb dX9_swap_127 (by decide) ?_
    refine lv_iload_n hx hb dX9_swap_13 rfl (lv_at hl 0 rfl) ?_
    refine lv_bipush (v := 16) hx hb dX9_swap_14 (by decide) ?_
    refine lv_icmp_ge (tgt := 130) hx hb dX9_swap_16 (by decide) (fun c_28 => absurd c_28 (by decide)) (fun c_28 => ?_)
    refine lv_iload_n hx hb dX9_swap_19 rfl (lv_at hl 0 rfl) ?_
    refine lv_iconst (v := 4) hx hb dX9_swap_20 (by decide) ?_
    refine lv_idiv hx hb dX9_swap_21 (by decide) ?_
    refine wt_c (v := 1) (by decide) ?_
    refine lv_istore_n (lv' := [(3, .int 1), (2, .int 4), (4, .int 3), (0, .ref (r 0)), (1, .int p0)]) hx hb dX9_swap_22 rfl hl (by decide) rfl (fun ls hl => ?_)
    refine lv_iload_n hx hb dX9_swap_23 rfl (lv_at hl 1 rfl) ?_
    refine lv_iconst (v := 4) hx hb dX9_swap_24 (by decide) ?_
    refine lv_irem hx hb dX9_swap_25 (by decide) ?_
    refine wt_c (v := 0) (by decide) ?_
    refine lv_istore (lv' := [(4, .int 0), (3, .int 1), (2, .int 4), (0, .ref (r 0)), (1, .int p0)]) hx hb dX9_swap_26 hl (by decide) rfl (fun ls hl => ?_)
    refine lv_iload_n hx hb dX9_swap_28 rfl (lv_at hl 1 rfl) ?_
    refine lv_iload hx hb dX9_swap_29 (lv_at hl 0 rfl) ?_
    refine lv_icmp_ge (tgt := 124) hx hb dX9_swap_31 (by decide) (fun c_29 => ?_) (fun c_29 => absurd (by decide) c_29)
    refine lv_iinc (v := 5) (lv' := [(2, .int 5), (4, .int 0), (3, .int 1), (0, .ref (r 0)), (1, .int p0)]) hx hb dX9_swap_124 hl (k := 2) rfl (by decide) (by decide) rfl (fun ls hl => ?_)
    refine lv_goto (tgt := 13) hx hb dX9_swap_127 (by decide) ?_
    refine lv_iload_n hx hb dX9_swap_13 rfl (lv_at hl 0 rfl) ?_
    refine lv_bipush (v := 16) hx hb dX9_swap_14 (by decide) ?_
    refine lv_icmp_ge (tgt := 130) hx hb dX9_swap_16 (by decide) (fun c_30 => absurd c_30 (by decide)) (fun c_30 => ?_)
    refine lv_iload_n hx hb dX9_swap_19 rfl (lv_at hl 0 rfl) ?_
    refine lv_iconst (v := 4) hx hb dX9_swap_20 (by decide) ?_
    refine lv_idiv hx hb dX9_swap_21 (by decide) ?_
    refine wt_c (v := 1) (by decide) ?_
    refine lv_istore_n (lv' := [(3, .int 1), (2, .int 5), (4, .int 0), (0, .ref (r 0)), (1, .int p0)]) hx hb dX9_swap_22 rfl hl (by decide) rfl (fun ls hl => ?_)
    refine lv_iload_n hx hb dX9_swap_23 rfl (lv_at hl 1 rfl) ?_
    refine lv_iconst (v := 4) hx hb dX9_swap_24 (by decide) ?_
    refine lv_irem hx hb dX9_swap_25 (by decide) ?_
    refine wt_c (v := 1) (by decide) ?_
    refine lv_istore (lv' := [(4, .int 1), (3, .int 1), (2, .int 5), (0, .ref (r 0)), (1, .int p0)]) hx hb dX9_swap_26 hl (by decide) rfl (fun ls hl => ?_)
    refine lv_iload_n hx hb dX9_swap_28 rfl (lv_at hl 1 rfl) ?_
    refine lv_iload hx hb dX9_swap_29 (lv_at hl 0 rfl) ?_
    refine lv_icmp_ge (tgt := 124) hx hb dX9_swap_31 (by decide) (fun c_31 => ?_) (fun c_31 => absurd (by decide) c_31)
    refine lv_iinc (v := 6) (lv' := [(2, .int 6), (4, .int 1), (3, .int 1), (0, .ref (r 0)), (1, .int p0)]) hx hb dX9_swap_124 hl (k := 2) rfl (by decide) (by decide) rfl (fun ls hl => ?_)
    refine lv_goto (tgt := 13) hx hb dX9_swap_127 (by decide) ?_
    refine lv_iload_n hx hb dX9_swap_13 rfl (lv_at hl 0 rfl) ?_
    refine lv_bipush (v := 16) hx hb dX9_swap_14 (by decide) ?_
    refine lv_icmp_ge (tgt := 130) hx hb dX9_swap_16 (by decide) (fun c_32 => absurd c_32 (by decide)) (fun c_32 => ?_)
    refine lv_iload_n hx hb dX9_swap_19 rfl (lv_at hl 0 rfl) ?_
    refine lv_iconst (v := 4) hx hb dX9_swap_20 (by decide) ?_
    refine lv_idiv hx hb dX9_swap_21 (by decide) ?_
    refine wt_c (v := 1) (by decide) ?_
    refine lv_istore_n (lv' := [(3, .int 1), (2, .int 6), (4, .int 1), (0, .ref (r 0)), (1, .int p0)]) hx hb dX9_swap_22 rfl hl (by decide) rfl (fun ls hl => ?_)
    refine lv_iload_n hx hb dX9_swap_23 rfl (lv_at hl 1 rfl) ?_
    refine lv_iconst (v := 4) hx hb dX9_swap_24 (by decide) ?_
    refine lv_irem hx hb dX9_swap_25 (by decide) ?_
    refine wt_c (v := 2) (by decide) ?_
    refine lv_istore (lv' := [(4, .int 2), (3, .int 1), (2, .int 6), (0, .ref (r 0)), (1, .int p0)]) hx hb dX9_swap_26 hl (by decide) rfl (fun ls hl => ?_)
    refine lv_iload_n hx hb dX9_swap_28 rfl (lv_at hl 1 rfl) ?_
    refine lv_iload hx hb dX9_swap_29 (lv_at hl 0 rfl) ?_
    refine lv_icmp_ge (tgt := 124) hx hb dX9_swap_31 (by decide) (fun c_33 => absurd c_33 (by decide)) (fun c_33 => ?_)
    refine lv_aload_n hx hb dX9_swap_34 rfl (lv_at hl 3 rfl) ?_
    refine lv_iload hx hb dX9_swap_35 (lv_at hl 0 rfl) ?_
    have hPc := hP.sub (ws' := [(r 0, .inr (8, [.ref (r 1), .ref (r 2), .int 0, .int 0, .int 0, .int (-1), .int 0, .int 0, .int 0, .int 0, .long 0, .ref (r 3), .ref (r 4), .ref (r 5), .ref (r 6), .ref (r 7), .ref (r 8), .ref (r 9), .ref (r 10), .ref (r 11), .ref (r 12), .ref (r 13), .ref (r 14), .ref (r 15), .ref (r 16), .ref (r 17), .ref (r 18), .ref (r 19), .ref (r 20), .ref (r 21), .ref (r 22), .ref (r 23), .ref (r 24), .int 0, .int 0, .int 0, .int 0, .int 0, .int 0, .int 0, .int 0, .int 0, .ref (r 25), .ref (r 26), .ref (r 27), .int 0, .int 0, .ref (r 28), .int 0, .ref (r 29), .ref (r 30), .ref (r 31), .ref (r 32), .ref (r 33), .ref (r 34), .ref (r 35), .ref (r 36), .int 0, .int 0, .int 0, .ref (r 37), .ref (r 38)])), (r 5, .inl ((c 5), 2, .inl f5))]) [0, 1] rfl
    have hKc := hK.sub (tys' := [((c 5), .int)]) [0] rfl
    have hDc := hD.sub (ws' := [(r 0, .inr (8, [.ref (r 1), .ref (r 2), .int 0, .int 0, .int 0, .int (-1), .int 0, .int 0, .int 0, .int 0, .long 0, .ref (r 3), .ref (r 4), .ref (r 5), .ref (r 6), .ref (r 7), .ref (r 8), .ref (r 9), .ref (r 10), .ref (r 11), .ref (r 12), .ref (r 13), .ref (r 14), .ref (r 15), .ref (r 16), .ref (r 17), .ref (r 18), .ref (r 19), .ref (r 20), .ref (r 21), .ref (r 22), .ref (r 23), .ref (r 24), .int 0, .int 0, .int 0, .int 0, .int 0, .int 0, .int 0, .int 0, .int 0, .ref (r 25), .ref (r 26), .ref (r 27), .int 0, .int 0, .ref (r 28), .int 0, .ref (r 29), .ref (r 30), .ref (r 31), .ref (r 32), .ref (r 33), .ref (r 34), .ref (r 35), .ref (r 36), .int 0, .int 0, .int 0, .ref (r 37), .ref (r 38)])), (r 5, .inl ((c 5), 2, .inl f5))]) [0, 1] (by decide) rfl
    have hFc := va_free (wc := [(r 0, .inr (8, [.ref (r 1), .ref (r 2), .int 0, .int 0, .int 0, .int (-1), .int 0, .int 0, .int 0, .int 0, .long 0, .ref (r 3), .ref (r 4), .ref (r 5), .ref (r 6), .ref (r 7), .ref (r 8), .ref (r 9), .ref (r 10), .ref (r 11), .ref (r 12), .ref (r 13), .ref (r 14), .ref (r 15), .ref (r 16), .ref (r 17), .ref (r 18), .ref (r 19), .ref (r 20), .ref (r 21), .ref (r 22), .ref (r 23), .ref (r 24), .int 0, .int 0, .int 0, .int 0, .int 0, .int 0, .int 0, .int 0, .int 0, .ref (r 25), .ref (r 26), .ref (r 27), .int 0, .int 0, .ref (r 28), .int 0, .ref (r 29), .ref (r 30), .ref (r 31), .ref (r 32), .ref (r 33), .ref (r 34), .ref (r 35), .ref (r 36), .int 0, .int 0, .int 0, .ref (r 37), .ref (r 38)])), (r 5, .inl ((c 5), 2, .inl f5))]) hD hS hA [0, 1] rfl
    refine va_calli (va_runV (As := [.int 2]) (rest := []) ⟨hx, hb, hml, hown, hG⟩ (kX9_isHouse_v3 l dC dI r c f5 H25.size hf5_0) (cwV 1 hG (goodV gw1542 gw1544 gw90 gw138 gw1545) rfl rfl rfl hd_X9_isHouse ⟨(Nat.le_of_ble_eq_true rfl), (Nat.le_of_ble_eq_true rfl)⟩) ⟨fbW, va_recv hKc hPc (ci := 8) (q0 := 0) rfl rfl, pW_in hPc hKc hDc⟩ rfl rfl hl.1 rfl (lv_room (Nat.le_of_ble_eq_true rfl)) dX9_swap_37 ⟨(Nat.le_of_ble_eq_true rfl), (Nat.le_of_ble_eq_true rfl)⟩) hS (fun q _ h => hFc q h) hFc (fun r_35 u t H34 locs ht hvm hw hB hz1 hk1 hS => ?_)
    obtain ⟨hP1, hD1⟩ := hB
    rw [ht] at hP1
    obtain ⟨hP, hD⟩ := va_join (wr := []) (w1 := [(r 0, .inr (8, [.ref (r 1), .ref (r 2), .int 0, .int 0, .int 0, .int (-1), .int 0, .int 0, .int 0, .int 0, .long 0, .ref (r 3), .ref (r 4), .ref (r 5), .ref (r 6), .ref (r 7), .ref (r 8), .ref (r 9), .ref (r 10), .ref (r 11), .ref (r 12), .ref (r 13), .ref (r 14), .ref (r 15), .ref (r 16), .ref (r 17), .ref (r 18), .ref (r 19), .ref (r 20), .ref (r 21), .ref (r 22), .ref (r 23), .ref (r 24), .int 0, .int 0, .int 0, .int 0, .int 0, .int 0, .int 0, .int 0, .int 0, .ref (r 25), .ref (r 26), .ref (r 27), .int 0, .int 0, .ref (r 28), .int 0, .ref (r 29), .ref (r 30), .ref (r 31), .ref (r 32), .ref (r 33), .ref (r 34), .ref (r 35), .ref (r 36), .int 0, .int 0, .int 0, .ref (r 37), .ref (r 38)])), (r 5, .inl ((c 5), 2, .inl f5))]) hP hD [0, 1] [] rfl rfl (by decide) (by decide) hk1 hFc hP1 hD1
    have hP : va_P (dC, dI) vwCl [(r 0, .inr (8, [.ref (r 1), .ref (r 2), .int 0, .int 0, .int 0, .int (-1), .int 0, .int 0, .int 0, .int 0, .long 0, .ref (r 3), .ref (r 4), .ref (r 5), .ref (r 6), .ref (r 7), .ref (r 8), .ref (r 9), .ref (r 10), .ref (r 11), .ref (r 12), .ref (r 13), .ref (r 14), .ref (r 15), .ref (r 16), .ref (r 17), .ref (r 18), .ref (r 19), .ref (r 20), .ref (r 21), .ref (r 22), .ref (r 23), .ref (r 24), .int 0, .int 0, .int 0, .int 0, .int 0, .int 0, .int 0, .int 0, .int 0, .ref (r 25), .ref (r 26), .ref (r 27), .int 0, .int 0, .ref (r 28), .int 0, .ref (r 29), .ref (r 30), .ref (r 31), .ref (r 32), .ref (r 33), .ref (r 34), .ref (r 35), .ref (r 36), .int 0, .int 0, .int 0, .ref (r 37), .ref (r 38)])), (r 5, .inl ((c 5), 2, .inl f5))] H34 := hP
    have hD : va_D A [(r 0, .inr (8, [.ref (r 1), .ref (r 2), .int 0, .int 0, .int 0, .int (-1), .int 0, .int 0, .int 0, .int 0, .long 0, .ref (r 3), .ref (r 4), .ref (r 5), .ref (r 6), .ref (r 7), .ref (r 8), .ref (r 9), .ref (r 10), .ref (r 11), .ref (r 12), .ref (r 13), .ref (r 14), .ref (r 15), .ref (r 16), .ref (r 17), .ref (r 18), .ref (r 19), .ref (r 20), .ref (r 21), .ref (r 22), .ref (r 23), .ref (r 24), .int 0, .int 0, .int 0, .int 0, .int 0, .int 0, .int 0, .int 0, .int 0, .ref (r 25), .ref (r 26), .ref (r 27), .int 0, .int 0, .ref (r 28), .int 0, .ref (r 29), .ref (r 30), .ref (r 31), .ref (r 32), .ref (r 33), .ref (r 34), .ref (r 35), .ref (r 36), .int 0, .int 0, .int 0, .ref (r 37), .ref (r 38)])), (r 5, .inl ((c 5), 2, .inl f5))] := hD
    refine wt_c (v := 0) hw ?_
    refine lv_if_eq (tgt := 124) hx hb dX9_swap_40 (by decide) (fun c_36 => ?_) (fun c_36 => absurd (by decide) c_36)
    refine lv_iinc (v := 7) (lv' := [(2, .int 7), (4, .int 2), (3, .int 1), (0, .ref (r 0)), (1, .int p0)]) hx hb dX9_swap_124 hl (k := 2) rfl (by decide) (by decide) rfl (fun ls hl => ?_)
    refine lv_goto (tgt := 13) hx hb dX9_swap_127 (by decide) ?_
    refine lv_iload_n hx hb dX9_swap_13 rfl (lv_at hl 0 rfl) ?_
    refine lv_bipush (v := 16) hx hb dX9_swap_14 (by decide) ?_
    refine lv_icmp_ge (tgt := 130) hx hb dX9_swap_16 (by decide) (fun c_37 => absurd c_37 (by decide)) (fun c_37 => ?_)
    refine lv_iload_n hx hb dX9_swap_19 rfl (lv_at hl 0 rfl) ?_
    refine lv_iconst (v := 4) hx hb dX9_swap_20 (by decide) ?_
    refine lv_idiv hx hb dX9_swap_21 (by decide) ?_
    refine wt_c (v := 1) (by decide) ?_
    refine lv_istore_n (lv' := [(3, .int 1), (2, .int 7), (4, .int 2), (0, .ref (r 0)), (1, .int p0)]) hx hb dX9_swap_22 rfl hl (by decide) rfl (fun ls hl => ?_)
    refine lv_iload_n hx hb dX9_swap_23 rfl (lv_at hl 1 rfl) ?_
    refine lv_iconst (v := 4) hx hb dX9_swap_24 (by decide) ?_
    refine lv_irem hx hb dX9_swap_25 (by decide) ?_
    refine wt_c (v := 3) (by decide) ?_
    refine lv_istore (lv' := [(4, .int 3), (3, .int 1), (2, .int 7), (0, .ref (r 0)), (1, .int p0)]) hx hb dX9_swap_26 hl (by decide) rfl (fun ls hl => ?_)
    refine lv_iload_n hx hb dX9_swap_28 rfl (lv_at hl 1 rfl) ?_
    refine lv_iload hx hb dX9_swap_29 (lv_at hl 0 rfl) ?_
    refine lv_icmp_ge (tgt := 124) hx hb dX9_swap_31 (by decide) (fun c_38 => absurd c_38 (by decide)) (fun c_38 => ?_)
    refine lv_aload_n hx hb dX9_swap_34 rfl (lv_at hl 3 rfl) ?_
    refine lv_iload hx hb dX9_swap_35 (lv_at hl 0 rfl) ?_
    have hPc := hP.sub (ws' := [(r 0, .inr (8, [.ref (r 1), .ref (r 2), .int 0, .int 0, .int 0, .int (-1), .int 0, .int 0, .int 0, .int 0, .long 0, .ref (r 3), .ref (r 4), .ref (r 5), .ref (r 6), .ref (r 7), .ref (r 8), .ref (r 9), .ref (r 10), .ref (r 11), .ref (r 12), .ref (r 13), .ref (r 14), .ref (r 15), .ref (r 16), .ref (r 17), .ref (r 18), .ref (r 19), .ref (r 20), .ref (r 21), .ref (r 22), .ref (r 23), .ref (r 24), .int 0, .int 0, .int 0, .int 0, .int 0, .int 0, .int 0, .int 0, .int 0, .ref (r 25), .ref (r 26), .ref (r 27), .int 0, .int 0, .ref (r 28), .int 0, .ref (r 29), .ref (r 30), .ref (r 31), .ref (r 32), .ref (r 33), .ref (r 34), .ref (r 35), .ref (r 36), .int 0, .int 0, .int 0, .ref (r 37), .ref (r 38)])), (r 5, .inl ((c 5), 2, .inl f5))]) [0, 1] rfl
    have hKc := hK.sub (tys' := [((c 5), .int)]) [0] rfl
    have hDc := hD.sub (ws' := [(r 0, .inr (8, [.ref (r 1), .ref (r 2), .int 0, .int 0, .int 0, .int (-1), .int 0, .int 0, .int 0, .int 0, .long 0, .ref (r 3), .ref (r 4), .ref (r 5), .ref (r 6), .ref (r 7), .ref (r 8), .ref (r 9), .ref (r 10), .ref (r 11), .ref (r 12), .ref (r 13), .ref (r 14), .ref (r 15), .ref (r 16), .ref (r 17), .ref (r 18), .ref (r 19), .ref (r 20), .ref (r 21), .ref (r 22), .ref (r 23), .ref (r 24), .int 0, .int 0, .int 0, .int 0, .int 0, .int 0, .int 0, .int 0, .int 0, .ref (r 25), .ref (r 26), .ref (r 27), .int 0, .int 0, .ref (r 28), .int 0, .ref (r 29), .ref (r 30), .ref (r 31), .ref (r 32), .ref (r 33), .ref (r 34), .ref (r 35), .ref (r 36), .int 0, .int 0, .int 0, .ref (r 37), .ref (r 38)])), (r 5, .inl ((c 5), 2, .inl f5))]) [0, 1] (by decide) rfl
    have hFc := va_free (wc := [(r 0, .inr (8, [.ref (r 1), .ref (r 2), .int 0, .int 0, .int 0, .int (-1), .int 0, .int 0, .int 0, .int 0, .long 0, .ref (r 3), .ref (r 4), .ref (r 5), .ref (r 6), .ref (r 7), .ref (r 8), .ref (r 9), .ref (r 10), .ref (r 11), .ref (r 12), .ref (r 13), .ref (r 14), .ref (r 15), .ref (r 16), .ref (r 17), .ref (r 18), .ref (r 19), .ref (r 20), .ref (r 21), .ref (r 22), .ref (r 23), .ref (r 24), .int 0, .int 0, .int 0, .int 0, .int 0, .int 0, .int 0, .int 0, .int 0, .ref (r 25), .ref (r 26), .ref (r 27), .int 0, .int 0, .ref (r 28), .int 0, .ref (r 29), .ref (r 30), .ref (r 31), .ref (r 32), .ref (r 33), .ref (r 34), .ref (r 35), .ref (r 36), .int 0, .int 0, .int 0, .ref (r 37), .ref (r 38)])), (r 5, .inl ((c 5), 2, .inl f5))]) hD hS hA [0, 1] rfl
    refine va_calli (va_runV (As := [.int 3]) (rest := []) ⟨hx, hb, hml, hown, hG⟩ (kX9_isHouse_v4 l dC dI r c f5 H34.size hf5_0) (cwV 1 hG (goodV gw1542 gw1544 gw90 gw138 gw1545) rfl rfl rfl hd_X9_isHouse ⟨(Nat.le_of_ble_eq_true rfl), (Nat.le_of_ble_eq_true rfl)⟩) ⟨fbW, va_recv hKc hPc (ci := 8) (q0 := 0) rfl rfl, pW_in hPc hKc hDc⟩ rfl rfl hl.1 rfl (lv_room (Nat.le_of_ble_eq_true rfl)) dX9_swap_37 ⟨(Nat.le_of_ble_eq_true rfl), (Nat.le_of_ble_eq_true rfl)⟩) hS (fun q _ h => hFc q h) hFc (fun r_40 u t H39 locs ht hvm hw hB hz1 hk1 hS => ?_)
    obtain ⟨hP1, hD1⟩ := hB
    rw [ht] at hP1
    obtain ⟨hP, hD⟩ := va_join (wr := []) (w1 := [(r 0, .inr (8, [.ref (r 1), .ref (r 2), .int 0, .int 0, .int 0, .int (-1), .int 0, .int 0, .int 0, .int 0, .long 0, .ref (r 3), .ref (r 4), .ref (r 5), .ref (r 6), .ref (r 7), .ref (r 8), .ref (r 9), .ref (r 10), .ref (r 11), .ref (r 12), .ref (r 13), .ref (r 14), .ref (r 15), .ref (r 16), .ref (r 17), .ref (r 18), .ref (r 19), .ref (r 20), .ref (r 21), .ref (r 22), .ref (r 23), .ref (r 24), .int 0, .int 0, .int 0, .int 0, .int 0, .int 0, .int 0, .int 0, .int 0, .ref (r 25), .ref (r 26), .ref (r 27), .int 0, .int 0, .ref (r 28), .int 0, .ref (r 29), .ref (r 30), .ref (r 31), .ref (r 32), .ref (r 33), .ref (r 34), .ref (r 35), .ref (r 36), .int 0, .int 0, .int 0, .ref (r 37), .ref (r 38)])), (r 5, .inl ((c 5), 2, .inl f5))]) hP hD [0, 1] [] rfl rfl (by decide) (by decide) hk1 hFc hP1 hD1
    have hP : va_P (dC, dI) vwCl [(r 0, .inr (8, [.ref (r 1), .ref (r 2), .int 0, .int 0, .int 0, .int (-1), .int 0, .int 0, .int 0, .int 0, .long 0, .ref (r 3), .ref (r 4), .ref (r 5), .ref (r 6), .ref (r 7), .ref (r 8), .ref (r 9), .ref (r 10), .ref (r 11), .ref (r 12), .ref (r 13), .ref (r 14), .ref (r 15), .ref (r 16), .ref (r 17), .ref (r 18), .ref (r 19), .ref (r 20), .ref (r 21), .ref (r 22), .ref (r 23), .ref (r 24), .int 0, .int 0, .int 0, .int 0, .int 0, .int 0, .int 0, .int 0, .int 0, .ref (r 25), .ref (r 26), .ref (r 27), .int 0, .int 0, .ref (r 28), .int 0, .ref (r 29), .ref (r 30), .ref (r 31), .ref (r 32), .ref (r 33), .ref (r 34), .ref (r 35), .ref (r 36), .int 0, .int 0, .int 0, .ref (r 37), .ref (r 38)])), (r 5, .inl ((c 5), 2, .inl f5))] H39 := hP
    have hD : va_D A [(r 0, .inr (8, [.ref (r 1), .ref (r 2), .int 0, .int 0, .int 0, .int (-1), .int 0, .int 0, .int 0, .int 0, .long 0, .ref (r 3), .ref (r 4), .ref (r 5), .ref (r 6), .ref (r 7), .ref (r 8), .ref (r 9), .ref (r 10), .ref (r 11), .ref (r 12), .ref (r 13), .ref (r 14), .ref (r 15), .ref (r 16), .ref (r 17), .ref (r 18), .ref (r 19), .ref (r 20), .ref (r 21), .ref (r 22), .ref (r 23), .ref (r 24), .int 0, .int 0, .int 0, .int 0, .int 0, .int 0, .int 0, .int 0, .int 0, .ref (r 25), .ref (r 26), .ref (r 27), .int 0, .int 0, .ref (r 28), .int 0, .ref (r 29), .ref (r 30), .ref (r 31), .ref (r 32), .ref (r 33), .ref (r 34), .ref (r 35), .ref (r 36), .int 0, .int 0, .int 0, .ref (r 37), .ref (r 38)])), (r 5, .inl ((c 5), 2, .inl f5))] := hD
    refine wt_c (v := 0) hw ?_
    refine lv_if_eq (tgt := 124) hx hb dX9_swap_40 (by decide) (fun c_41 => ?_) (fun c_41 => absurd (by decide) c_41)
    refine lv_iinc (v := 8) (lv' := [(2, .int 8), (4, .int 3), (3, .int 1), (0, .ref (r 0)), (1, .int p0)]) hx hb dX9_swap_124 hl (k := 2) rfl (by decide) (by decide) rfl (fun ls hl => ?_)
    refine lv_goto (tgt := 13) hx hb dX9_swap_127 (by decide) ?_
    refine lv_iload_n hx hb dX9_swap_13 rfl (lv_at hl 0 rfl) ?_
    refine lv_bipush (v := 16) hx hb dX9_swap_14 (by decide) ?_
    refine lv_icmp_ge (tgt := 130) hx hb dX9_swap_16 (by decide) (fun c_42 => absurd c_42 (by decide)) (fun c_42 => ?_)
    refine lv_iload_n hx hb dX9_swap_19 rfl (lv_at hl 0 rfl) ?_
    refine lv_iconst (v := 4) hx hb dX9_swap_20 (by decide) ?_
    refine lv_idiv hx hb dX9_swap_21 (by decide) ?_
    refine wt_c (v := 2) (by decide) ?_
    refine lv_istore_n (lv' := [(3, .int 2), (2, .int 8), (4, .int 3), (0, .ref (r 0)), (1, .int p0)]) hx hb dX9_swap_22 rfl hl (by decide) rfl (fun ls hl => ?_)
    refine lv_iload_n hx hb dX9_swap_23 rfl (lv_at hl 1 rfl) ?_
    refine lv_iconst (v := 4) hx hb dX9_swap_24 (by decide) ?_
    refine lv_irem hx hb dX9_swap_25 (by decide) ?_
    refine wt_c (v := 0) (by decide) ?_
    refine lv_istore (lv' := [(4, .int 0), (3, .int 2), (2, .int 8), (0, .ref (r 0)), (1, .int p0)]) hx hb dX9_swap_26 hl (by decide) rfl (fun ls hl => ?_)
    refine lv_iload_n hx hb dX9_swap_28 rfl (lv_at hl 1 rfl) ?_
    refine lv_iload hx hb dX9_swap_29 (lv_at hl 0 rfl) ?_
    refine lv_icmp_ge (tgt := 124) hx hb dX9_swap_31 (by decide) (fun c_43 => ?_) (fun c_43 => absurd (by decide) c_43)
    refine lv_iinc (v := 9) (lv' := [(2, .int 9), (4, .int 0), (3, .int 2), (0, .ref (r 0)), (1, .int p0)]) hx hb dX9_swap_124 hl (k := 2) rfl (by decide) (by decide) rfl (fun ls hl => ?_)
    refine lv_goto (tgt := 13) hx hb dX9_swap_127 (by decide) ?_
    refine lv_iload_n hx hb dX9_swap_13 rfl (lv_at hl 0 rfl) ?_
    refine lv_bipush (v := 16) hx hb dX9_swap_14 (by decide) ?_
    refine lv_icmp_ge (tgt := 130) hx hb dX9_swap_16 (by decide) (fun c_44 => absurd c_44 (by decide)) (fun c_44 => ?_)
    refine lv_iload_n hx hb dX9_swap_19 rfl (lv_at hl 0 rfl) ?_
    refine lv_iconst (v := 4) hx hb dX9_swap_20 (by decide) ?_
    refine lv_idiv hx hb dX9_swap_21 (by decide) ?_
    refine wt_c (v := 2) (by decide) ?_
    refine lv_istore_n (lv' := [(3, .int 2), (2, .int 9), (4, .int 0), (0, .ref (r 0)), (1, .int p0)]) hx hb dX9_swap_22 rfl hl (by decide) rfl (fun ls hl => ?_)
    refine lv_iload_n hx hb dX9_swap_23 rfl (lv_at hl 1 rfl) ?_
    refine lv_iconst (v := 4) hx hb dX9_swap_24 (by decide) ?_
    refine lv_irem hx hb dX9_swap_25 (by decide) ?_
    refine wt_c (v := 1) (by decide) ?_
    refine lv_istore (lv' := [(4, .int 1), (3, .int 2), (2, .int 9), (0, .ref (r 0)), (1, .int p0)]) hx hb dX9_swap_26 hl (by decide) rfl (fun ls hl => ?_)
    refine lv_iload_n hx hb dX9_swap_28 rfl (lv_at hl 1 rfl) ?_
    refine lv_iload hx hb dX9_swap_29 (lv_at hl 0 rfl) ?_
    refine lv_icmp_ge (tgt := 124) hx hb dX9_swap_31 (by decide) (fun c_45 => ?_) (fun c_45 => absurd (by decide) c_45)
    refine lv_iinc (v := 10) (lv' := [(2, .int 10), (4, .int 1), (3, .int 2), (0, .ref (r 0)), (1, .int p0)]) hx hb dX9_swap_124 hl (k := 2) rfl (by decide) (by decide) rfl (fun ls hl => ?_)
    refine lv_goto (tgt := 13) hx hb dX9_swap_127 (by decide) ?_
    refine lv_iload_n hx hb dX9_swap_13 rfl (lv_at hl 0 rfl) ?_
    refine lv_bipush (v := 16) hx hb dX9_swap_14 (by decide) ?_
    refine lv_icmp_ge (tgt := 130) hx hb dX9_swap_16 (by decide) (fun c_46 => absurd c_46 (by decide)) (fun c_46 => ?_)
    refine lv_iload_n hx hb dX9_swap_19 rfl (lv_at hl 0 rfl) ?_
    refine lv_iconst (v := 4) hx hb dX9_swap_20 (by decide) ?_
    refine lv_idiv hx hb dX9_swap_21 (by decide) ?_
    refine wt_c (v := 2) (by decide) ?_
    refine lv_istore_n (lv' := [(3, .int 2), (2, .int 10), (4, .int 1), (0, .ref (r 0)), (1, .int p0)]) hx hb dX9_swap_22 rfl hl (by decide) rfl (fun ls hl => ?_)
    refine lv_iload_n hx hb dX9_swap_23 rfl (lv_at hl 1 rfl) ?_
    refine lv_iconst (v := 4) hx hb dX9_swap_24 (by decide) ?_
    refine lv_irem hx hb dX9_swap_25 (by decide) ?_
    refine wt_c (v := 2) (by decide) ?_
    refine lv_istore (lv' := [(4, .int 2), (3, .int 2), (2, .int 10), (0, .ref (r 0)), (1, .int p0)]) hx hb dX9_swap_26 hl (by decide) rfl (fun ls hl => ?_)
    refine lv_iload_n hx hb dX9_swap_28 rfl (lv_at hl 1 rfl) ?_
    refine lv_iload hx hb dX9_swap_29 (lv_at hl 0 rfl) ?_
    refine lv_icmp_ge (tgt := 124) hx hb dX9_swap_31 (by decide) (fun c_47 => ?_) (fun c_47 => absurd (by decide) c_47)
    refine lv_iinc (v := 11) (lv' := [(2, .int 11), (4, .int 2), (3, .int 2), (0, .ref (r 0)), (1, .int p0)]) hx hb dX9_swap_124 hl (k := 2) rfl (by decide) (by decide) rfl (fun ls hl => ?_)
    refine lv_goto (tgt := 13) hx hb dX9_swap_127 (by decide) ?_
    refine lv_iload_n hx hb dX9_swap_13 rfl (lv_at hl 0 rfl) ?_
    refine lv_bipush (v := 16) hx hb dX9_swap_14 (by decide) ?_
    refine lv_icmp_ge (tgt := 130) hx hb dX9_swap_16 (by decide) (fun c_48 => absurd c_48 (by decide)) (fun c_48 => ?_)
    refine lv_iload_n hx hb dX9_swap_19 rfl (lv_at hl 0 rfl) ?_
    refine lv_iconst (v := 4) hx hb dX9_swap_20 (by decide) ?_
    refine lv_idiv hx hb dX9_swap_21 (by decide) ?_
    refine wt_c (v := 2) (by decide) ?_
    refine lv_istore_n (lv' := [(3, .int 2), (2, .int 11), (4, .int 2), (0, .ref (r 0)), (1, .int p0)]) hx hb dX9_swap_22 rfl hl (by decide) rfl (fun ls hl => ?_)
    refine lv_iload_n hx hb dX9_swap_23 rfl (lv_at hl 1 rfl) ?_
    refine lv_iconst (v := 4) hx hb dX9_swap_24 (by decide) ?_
    refine lv_irem hx hb dX9_swap_25 (by decide) ?_
    refine wt_c (v := 3) (by decide) ?_
    refine lv_istore (lv' := [(4, .int 3), (3, .int 2), (2, .int 11), (0, .ref (r 0)), (1, .int p0)]) hx hb dX9_swap_26 hl (by decide) rfl (fun ls hl => ?_)
    refine lv_iload_n hx hb dX9_swap_28 rfl (lv_at hl 1 rfl) ?_
    refine lv_iload hx hb dX9_swap_29 (lv_at hl 0 rfl) ?_
    refine lv_icmp_ge (tgt := 124) hx hb dX9_swap_31 (by decide) (fun c_49 => absurd c_49 (by decide)) (fun c_49 => ?_)
    refine lv_aload_n hx hb dX9_swap_34 rfl (lv_at hl 3 rfl) ?_
    refine lv_iload hx hb dX9_swap_35 (lv_at hl 0 rfl) ?_
    have hPc := hP.sub (ws' := [(r 0, .inr (8, [.ref (r 1), .ref (r 2), .int 0, .int 0, .int 0, .int (-1), .int 0, .int 0, .int 0, .int 0, .long 0, .ref (r 3), .ref (r 4), .ref (r 5), .ref (r 6), .ref (r 7), .ref (r 8), .ref (r 9), .ref (r 10), .ref (r 11), .ref (r 12), .ref (r 13), .ref (r 14), .ref (r 15), .ref (r 16), .ref (r 17), .ref (r 18), .ref (r 19), .ref (r 20), .ref (r 21), .ref (r 22), .ref (r 23), .ref (r 24), .int 0, .int 0, .int 0, .int 0, .int 0, .int 0, .int 0, .int 0, .int 0, .ref (r 25), .ref (r 26), .ref (r 27), .int 0, .int 0, .ref (r 28), .int 0, .ref (r 29), .ref (r 30), .ref (r 31), .ref (r 32), .ref (r 33), .ref (r 34), .ref (r 35), .ref (r 36), .int 0, .int 0, .int 0, .ref (r 37), .ref (r 38)])), (r 5, .inl ((c 5), 2, .inl f5))]) [0, 1] rfl
    have hKc := hK.sub (tys' := [((c 5), .int)]) [0] rfl
    have hDc := hD.sub (ws' := [(r 0, .inr (8, [.ref (r 1), .ref (r 2), .int 0, .int 0, .int 0, .int (-1), .int 0, .int 0, .int 0, .int 0, .long 0, .ref (r 3), .ref (r 4), .ref (r 5), .ref (r 6), .ref (r 7), .ref (r 8), .ref (r 9), .ref (r 10), .ref (r 11), .ref (r 12), .ref (r 13), .ref (r 14), .ref (r 15), .ref (r 16), .ref (r 17), .ref (r 18), .ref (r 19), .ref (r 20), .ref (r 21), .ref (r 22), .ref (r 23), .ref (r 24), .int 0, .int 0, .int 0, .int 0, .int 0, .int 0, .int 0, .int 0, .int 0, .ref (r 25), .ref (r 26), .ref (r 27), .int 0, .int 0, .ref (r 28), .int 0, .ref (r 29), .ref (r 30), .ref (r 31), .ref (r 32), .ref (r 33), .ref (r 34), .ref (r 35), .ref (r 36), .int 0, .int 0, .int 0, .ref (r 37), .ref (r 38)])), (r 5, .inl ((c 5), 2, .inl f5))]) [0, 1] (by decide) rfl
    have hFc := va_free (wc := [(r 0, .inr (8, [.ref (r 1), .ref (r 2), .int 0, .int 0, .int 0, .int (-1), .int 0, .int 0, .int 0, .int 0, .long 0, .ref (r 3), .ref (r 4), .ref (r 5), .ref (r 6), .ref (r 7), .ref (r 8), .ref (r 9), .ref (r 10), .ref (r 11), .ref (r 12), .ref (r 13), .ref (r 14), .ref (r 15), .ref (r 16), .ref (r 17), .ref (r 18), .ref (r 19), .ref (r 20), .ref (r 21), .ref (r 22), .ref (r 23), .ref (r 24), .int 0, .int 0, .int 0, .int 0, .int 0, .int 0, .int 0, .int 0, .int 0, .ref (r 25), .ref (r 26), .ref (r 27), .int 0, .int 0, .ref (r 28), .int 0, .ref (r 29), .ref (r 30), .ref (r 31), .ref (r 32), .ref (r 33), .ref (r 34), .ref (r 35), .ref (r 36), .int 0, .int 0, .int 0, .ref (r 37), .ref (r 38)])), (r 5, .inl ((c 5), 2, .inl f5))]) hD hS hA [0, 1] rfl
    refine va_calli (va_runV (As := [.int 3]) (rest := []) ⟨hx, hb, hml, hown, hG⟩ (kX9_isHouse_v4 l dC dI r c f5 H39.size hf5_0) (cwV 1 hG (goodV gw1542 gw1544 gw90 gw138 gw1545) rfl rfl rfl hd_X9_isHouse ⟨(Nat.le_of_ble_eq_true rfl), (Nat.le_of_ble_eq_true rfl)⟩) ⟨fbW, va_recv hKc hPc (ci := 8) (q0 := 0) rfl rfl, pW_in hPc hKc hDc⟩ rfl rfl hl.1 rfl (lv_room (Nat.le_of_ble_eq_true rfl)) dX9_swap_37 ⟨(Nat.le_of_ble_eq_true rfl), (Nat.le_of_ble_eq_true rfl)⟩) hS (fun q _ h => hFc q h) hFc (fun r_51 u t H50 locs ht hvm hw hB hz1 hk1 hS => ?_)
    obtain ⟨hP1, hD1⟩ := hB
    rw [ht] at hP1
    obtain ⟨hP, hD⟩ := va_join (wr := []) (w1 := [(r 0, .inr (8, [.ref (r 1), .ref (r 2), .int 0, .int 0, .int 0, .int (-1), .int 0, .int 0, .int 0, .int 0, .long 0, .ref (r 3), .ref (r 4), .ref (r 5), .ref (r 6), .ref (r 7), .ref (r 8), .ref (r 9), .ref (r 10), .ref (r 11), .ref (r 12), .ref (r 13), .ref (r 14), .ref (r 15), .ref (r 16), .ref (r 17), .ref (r 18), .ref (r 19), .ref (r 20), .ref (r 21), .ref (r 22), .ref (r 23), .ref (r 24), .int 0, .int 0, .int 0, .int 0, .int 0, .int 0, .int 0, .int 0, .int 0, .ref (r 25), .ref (r 26), .ref (r 27), .int 0, .int 0, .ref (r 28), .int 0, .ref (r 29), .ref (r 30), .ref (r 31), .ref (r 32), .ref (r 33), .ref (r 34), .ref (r 35), .ref (r 36), .int 0, .int 0, .int 0, .ref (r 37), .ref (r 38)])), (r 5, .inl ((c 5), 2, .inl f5))]) hP hD [0, 1] [] rfl rfl (by decide) (by decide) hk1 hFc hP1 hD1
    have hP : va_P (dC, dI) vwCl [(r 0, .inr (8, [.ref (r 1), .ref (r 2), .int 0, .int 0, .int 0, .int (-1), .int 0, .int 0, .int 0, .int 0, .long 0, .ref (r 3), .ref (r 4), .ref (r 5), .ref (r 6), .ref (r 7), .ref (r 8), .ref (r 9), .ref (r 10), .ref (r 11), .ref (r 12), .ref (r 13), .ref (r 14), .ref (r 15), .ref (r 16), .ref (r 17), .ref (r 18), .ref (r 19), .ref (r 20), .ref (r 21), .ref (r 22), .ref (r 23), .ref (r 24), .int 0, .int 0, .int 0, .int 0, .int 0, .int 0, .int 0, .int 0, .int 0, .ref (r 25), .ref (r 26), .ref (r 27), .int 0, .int 0, .ref (r 28), .int 0, .ref (r 29), .ref (r 30), .ref (r 31), .ref (r 32), .ref (r 33), .ref (r 34), .ref (r 35), .ref (r 36), .int 0, .int 0, .int 0, .ref (r 37), .ref (r 38)])), (r 5, .inl ((c 5), 2, .inl f5))] H50 := hP
    have hD : va_D A [(r 0, .inr (8, [.ref (r 1), .ref (r 2), .int 0, .int 0, .int 0, .int (-1), .int 0, .int 0, .int 0, .int 0, .long 0, .ref (r 3), .ref (r 4), .ref (r 5), .ref (r 6), .ref (r 7), .ref (r 8), .ref (r 9), .ref (r 10), .ref (r 11), .ref (r 12), .ref (r 13), .ref (r 14), .ref (r 15), .ref (r 16), .ref (r 17), .ref (r 18), .ref (r 19), .ref (r 20), .ref (r 21), .ref (r 22), .ref (r 23), .ref (r 24), .int 0, .int 0, .int 0, .int 0, .int 0, .int 0, .int 0, .int 0, .int 0, .ref (r 25), .ref (r 26), .ref (r 27), .int 0, .int 0, .ref (r 28), .int 0, .ref (r 29), .ref (r 30), .ref (r 31), .ref (r 32), .ref (r 33), .ref (r 34), .ref (r 35), .ref (r 36), .int 0, .int 0, .int 0, .ref (r 37), .ref (r 38)])), (r 5, .inl ((c 5), 2, .inl f5))] := hD
    refine wt_c (v := 0) hw ?_
    refine lv_if_eq (tgt := 124) hx hb dX9_swap_40 (by decide) (fun c_52 => ?_) (fun c_52 => absurd (by decide) c_52)
    refine lv_iinc (v := 12) (lv' := [(2, .int 12), (4, .int 3), (3, .int 2), (0, .ref (r 0)), (1, .int p0)]) hx hb dX9_swap_124 hl (k := 2) rfl (by decide) (by decide) rfl (fun ls hl => ?_)
    refine lv_goto (tgt := 13) hx hb dX9_swap_127 (by decide) ?_
    refine lv_iload_n hx hb dX9_swap_13 rfl (lv_at hl 0 rfl) ?_
    refine lv_bipush (v := 16) hx hb dX9_swap_14 (by decide) ?_
    refine lv_icmp_ge (tgt := 130) hx hb dX9_swap_16 (by decide) (fun c_53 => absurd c_53 (by decide)) (fun c_53 => ?_)
    refine lv_iload_n hx hb dX9_swap_19 rfl (lv_at hl 0 rfl) ?_
    refine lv_iconst (v := 4) hx hb dX9_swap_20 (by decide) ?_
    refine lv_idiv hx hb dX9_swap_21 (by decide) ?_
    refine wt_c (v := 3) (by decide) ?_
    refine lv_istore_n (lv' := [(3, .int 3), (2, .int 12), (4, .int 3), (0, .ref (r 0)), (1, .int p0)]) hx hb dX9_swap_22 rfl hl (by decide) rfl (fun ls hl => ?_)
    refine lv_iload_n hx hb dX9_swap_23 rfl (lv_at hl 1 rfl) ?_
    refine lv_iconst (v := 4) hx hb dX9_swap_24 (by decide) ?_
    refine lv_irem hx hb dX9_swap_25 (by decide) ?_
    refine wt_c (v := 0) (by decide) ?_
    refine lv_istore (lv' := [(4, .int 0), (3, .int 3), (2, .int 12), (0, .ref (r 0)), (1, .int p0)]) hx hb dX9_swap_26 hl (by decide) rfl (fun ls hl => ?_)
    refine lv_iload_n hx hb dX9_swap_28 rfl (lv_at hl 1 rfl) ?_
    refine lv_iload hx hb dX9_swap_29 (lv_at hl 0 rfl) ?_
    refine lv_icmp_ge (tgt := 124) hx hb dX9_swap_31 (by decide) (fun c_54 => ?_) (fun c_54 => absurd (by decide) c_54)
    refine lv_iinc (v := 13) (lv' := [(2, .int 13), (4, .int 0), (3, .int 3), (0, .ref (r 0)), (1, .int p0)]) hx hb dX9_swap_124 hl (k := 2) rfl (by decide) (by decide) rfl (fun ls hl => ?_)
    refine lv_goto (tgt := 13) hx hb dX9_swap_127 (by decide) ?_
    refine lv_iload_n hx hb dX9_swap_13 rfl (lv_at hl 0 rfl) ?_
    refine lv_bipush (v := 16) hx hb dX9_swap_14 (by decide) ?_
    refine lv_icmp_ge (tgt := 130) hx hb dX9_swap_16 (by decide) (fun c_55 => absurd c_55 (by decide)) (fun c_55 => ?_)
    refine lv_iload_n hx hb dX9_swap_19 rfl (lv_at hl 0 rfl) ?_
    refine lv_iconst (v := 4) hx hb dX9_swap_20 (by decide) ?_
    refine lv_idiv hx hb dX9_swap_21 (by decide) ?_
    refine wt_c (v := 3) (by decide) ?_
    refine lv_istore_n (lv' := [(3, .int 3), (2, .int 13), (4, .int 0), (0, .ref (r 0)), (1, .int p0)]) hx hb dX9_swap_22 rfl hl (by decide) rfl (fun ls hl => ?_)
    refine lv_iload_n hx hb dX9_swap_23 rfl (lv_at hl 1 rfl) ?_
    refine lv_iconst (v := 4) hx hb dX9_swap_24 (by decide) ?_
    refine lv_irem hx hb dX9_swap_25 (by decide) ?_
    refine wt_c (v := 1) (by decide) ?_
    refine lv_istore (lv' := [(4, .int 1), (3, .int 3), (2, .int 13), (0, .ref (r 0)), (1, .int p0)]) hx hb dX9_swap_26 hl (by decide) rfl (fun ls hl => ?_)
    refine lv_iload_n hx hb dX9_swap_28 rfl (lv_at hl 1 rfl) ?_
    refine lv_iload hx hb dX9_swap_29 (lv_at hl 0 rfl) ?_
    refine lv_icmp_ge (tgt := 124) hx hb dX9_swap_31 (by decide) (fun c_56 => ?_) (fun c_56 => absurd (by decide) c_56)
    refine lv_iinc (v := 14) (lv' := [(2, .int 14), (4, .int 1), (3, .int 3), (0, .ref (r 0)), (1, .int p0)]) hx hb dX9_swap_124 hl (k := 2) rfl (by decide) (by decide) rfl (fun ls hl => ?_)
    refine lv_goto (tgt := 13) hx hb dX9_swap_127 (by decide) ?_
    refine lv_iload_n hx hb dX9_swap_13 rfl (lv_at hl 0 rfl) ?_
    refine lv_bipush (v := 16) hx hb dX9_swap_14 (by decide) ?_
    refine lv_icmp_ge (tgt := 130) hx hb dX9_swap_16 (by decide) (fun c_57 => absurd c_57 (by decide)) (fun c_57 => ?_)
    refine lv_iload_n hx hb dX9_swap_19 rfl (lv_at hl 0 rfl) ?_
    refine lv_iconst (v := 4) hx hb dX9_swap_20 (by decide) ?_
    refine lv_idiv hx hb dX9_swap_21 (by decide) ?_
    refine wt_c (v := 3) (by decide) ?_
    refine lv_istore_n (lv' := [(3, .int 3), (2, .int 14), (4, .int 1), (0, .ref (r 0)), (1, .int p0)]) hx hb dX9_swap_22 rfl hl (by decide) rfl (fun ls hl => ?_)
    refine lv_iload_n hx hb dX9_swap_23 rfl (lv_at hl 1 rfl) ?_
    refine lv_iconst (v := 4) hx hb dX9_swap_24 (by decide) ?_
    refine lv_irem hx hb dX9_swap_25 (by decide) ?_
    refine wt_c (v := 2) (by decide) ?_
    refine lv_istore (lv' := [(4, .int 2), (3, .int 3), (2, .int 14), (0, .ref (r 0)), (1, .int p0)]) hx hb dX9_swap_26 hl (by decide) rfl (fun ls hl => ?_)
    refine lv_iload_n hx hb dX9_swap_28 rfl (lv_at hl 1 rfl) ?_
    refine lv_iload hx hb dX9_swap_29 (lv_at hl 0 rfl) ?_
    refine lv_icmp_ge (tgt := 124) hx hb dX9_swap_31 (by decide) (fun c_58 => ?_) (fun c_58 => absurd (by decide) c_58)
    refine lv_iinc (v := 15) (lv' := [(2, .int 15), (4, .int 2), (3, .int 3), (0, .ref (r 0)), (1, .int p0)]) hx hb dX9_swap_124 hl (k := 2) rfl (by decide) (by decide) rfl (fun ls hl => ?_)
    refine lv_goto (tgt := 13) hx hb dX9_swap_127 (by decide) ?_
    refine lv_iload_n hx hb dX9_swap_13 rfl (lv_at hl 0 rfl) ?_
    refine lv_bipush (v := 16) hx hb dX9_swap_14 (by decide) ?_
    refine lv_icmp_ge (tgt := 130) hx hb dX9_swap_16 (by decide) (fun c_59 => absurd c_59 (by decide)) (fun c_59 => ?_)
    refine lv_iload_n hx hb dX9_swap_19 rfl (lv_at hl 0 rfl) ?_
    refine lv_iconst (v := 4) hx hb dX9_swap_20 (by decide) ?_
    refine lv_idiv hx hb dX9_swap_21 (by decide) ?_
    refine wt_c (v := 3) (by decide) ?_
    refine lv_istore_n (lv' := [(3, .int 3), (2, .int 15), (4, .int 2), (0, .ref (r 0)), (1, .int p0)]) hx hb dX9_swap_22 rfl hl (by decide) rfl (fun ls hl => ?_)
    refine lv_iload_n hx hb dX9_swap_23 rfl (lv_at hl 1 rfl) ?_
    refine lv_iconst (v := 4) hx hb dX9_swap_24 (by decide) ?_
    refine lv_irem hx hb dX9_swap_25 (by decide) ?_
    refine wt_c (v := 3) (by decide) ?_
    refine lv_istore (lv' := [(4, .int 3), (3, .int 3), (2, .int 15), (0, .ref (r 0)), (1, .int p0)]) hx hb dX9_swap_26 hl (by decide) rfl (fun ls hl => ?_)
    refine lv_iload_n hx hb dX9_swap_28 rfl (lv_at hl 1 rfl) ?_
    refine lv_iload hx hb dX9_swap_29 (lv_at hl 0 rfl) ?_
    refine lv_icmp_ge (tgt := 124) hx hb dX9_swap_31 (by decide) (fun c_60 => ?_) (fun c_60 => absurd (by decide) c_60)
    refine lv_iinc (v := 16) (lv' := [(2, .int 16), (4, .int 3), (3, .int 3), (0, .ref (r 0)), (1, .int p0)]) hx hb dX9_swap_124 hl (k := 2) rfl (by decide) (by decide) rfl (fun ls hl => ?_)
    refine lv_goto (tgt := 13) hx hb dX9_swap_127 (by decide) ?_
    refine lv_iload_n hx hb dX9_swap_13 rfl (lv_at hl 0 rfl) ?_
    refine lv_bipush (v := 16) hx hb dX9_swap_14 (by decide) ?_
    refine lv_icmp_ge (tgt := 130) hx hb dX9_swap_16 (by decide) (fun c_61 => ?_) (fun c_61 => absurd (by decide) c_61)
    refine lv_iconst (v := (-1)) hx hb dX9_swap_130 (by decide) ?_
    exact W.iret (v := (-1)) hx hb hr (fun t ht hW => ⟨⟨(-1), (), rfl, rfl, trivial⟩, hS.F ht⟩) hS.2.2 dX9_swap_131
set_option maxHeartbeats 4000000 in
set_option maxRecDepth 100000 in
theorem kX8_idle (l : Launch) (dC : Nat → ClassId) (dI : Nat → Nat → Nat) (r : Nat → Nat) (c : Nat → ClassId) (sz : Nat) : Met l yX8_idle (.code yX8_idle cX8_idle 3 (some .int) :: GW) { frames := 2, cells := 0, slots := 0, locals := 100 } (va_Pc [.ref (r 0)] (pW (dC, dI) [(r 0, .inr (7, [.ref (r 1), .int 0, .ref (r 2), .ref (r 55), .ref (r 57), .ref (r 30), .ref (r 56), .ref (r 36), .ref (r 37), .ref (r 38), .int 0, .ref (r 51), .int 0, .ref (r 52), .ref (r 53), .ref (r 54)])), (r 55, .inr (3, [.int 1, .int 0, .int 0, .int 0, .ref (r 20), .ref (r 21), .ref (r 22), .int 0, .ref (r 23), .ref (r 24), .ref (r 25), .int 0, .ref (r 28), .ref (r 27)]))] [] sz)) (va_Qi (fun (r0 : Int32) (_ : Unit) => r0 = 0) (fun _ _ => True) (va_A [(r 0, .inr (7, [.ref (r 1), .int 0, .ref (r 2), .ref (r 55), .ref (r 57), .ref (r 30), .ref (r 56), .ref (r 36), .ref (r 37), .ref (r 38), .int 0, .ref (r 51), .int 0, .ref (r 52), .ref (r 53), .ref (r 54)])), (r 55, .inr (3, [.int 1, .int 0, .int 0, .int 0, .ref (r 20), .ref (r 21), .ref (r 22), .int 0, .ref (r 23), .ref (r 24), .ref (r 25), .int 0, .ref (r 28), .ref (r 27)]))] sz)) 0 0 (va_A [(r 0, .inr (7, [.ref (r 1), .int 0, .ref (r 2), .ref (r 55), .ref (r 57), .ref (r 30), .ref (r 56), .ref (r 36), .ref (r 37), .ref (r 38), .int 0, .ref (r 51), .int 0, .ref (r 52), .ref (r 53), .ref (r 54)])), (r 55, .inr (3, [.int 1, .int 0, .int 0, .int 0, .ref (r 20), .ref (r 21), .ref (r 22), .int 0, .ref (r 23), .ref (r 24), .ref (r 25), .int 0, .ref (r 28), .ref (r 27)]))] sz) := by
  refine Met.ofW (cc := cX8_idle) (maxL := 3) (ret := (some .int)) (by decide) rfl ?_
  intro p e s m args below meth c0 s₁ B hml hv
  obtain ⟨rfl, hsz, hP, hK, hD0⟩ := hv
  have hx := B.exec
  have hb := B.bytes
  have hr := B.returns
  have hts := atoms_spec (ws := .code yX8_idle cX8_idle 3 (some .int) :: GW) B.pre
  have hG : ∀ w ∈ GW, w.before _ s = true := fun w h => hts w (List.mem_cons_of_mem _ h)
  have hown : s.vm.findClass RX8 = some m.cls := findClass_of_methodNamed B.named
  have hlocks := B.notSynchronized
  subst hsz
  have hD := hD0.self (sz := s.heap.size)
  generalize hAe : va_A [(r 0, .inr (7, [.ref (r 1), .int 0, .ref (r 2), .ref (r 55), .ref (r 57), .ref (r 30), .ref (r 56), .ref (r 36), .ref (r 37), .ref (r 38), .int 0, .ref (r 51), .int 0, .ref (r 52), .ref (r 53), .ref (r 54)])), (r 55, .inr (3, [.int 1, .int 0, .int 0, .int 0, .ref (r 20), .ref (r 21), .ref (r 22), .int 0, .ref (r 23), .ref (r 24), .ref (r 25), .int 0, .ref (r 28), .ref (r 27)]))] s.heap.size = A at hD ⊢
  have hA : ∀ q : Nat, s.heap.size ≤ q → A q := fun q h => by rw [← hAe]; exact Or.inr h
  have hS : va_S A s.heap s.heap [] := va_S.rf
  have hP : va_P (dC, dI) vwCl [(r 0, .inr (7, [.ref (r 1), .int 0, .ref (r 2), .ref (r 55), .ref (r 57), .ref (r 30), .ref (r 56), .ref (r 36), .ref (r 37), .ref (r 38), .int 0, .ref (r 51), .int 0, .ref (r 52), .ref (r 53), .ref (r 54)])), (r 55, .inr (3, [.int 1, .int 0, .int 0, .int 0, .ref (r 20), .ref (r 21), .ref (r 22), .int 0, .ref (r 23), .ref (r 24), .ref (r 25), .int 0, .ref (r 28), .ref (r 27)]))] s.heap := hP
  have hl := lv_entry ([.ref (r 0)]) (n := 3) (Nat.le_of_ble_eq_true rfl)
  rw [lg_entry_eq]
  generalize (lg_sl ([.ref (r 0)]) ++ List.replicate (3 - (lg_sl ([.ref (r 0)])).length) Slot.unset).toArray = ls at hl ⊢
  have hl : lv_has ls 3 [(0, .ref (r 0))] := hl
  refine lv_iconst (v := 0) hx hb dX8_idle_0 (by decide) ?_
  refine lv_istore_n (lv' := [(1, .int 0), (0, .ref (r 0))]) hx hb dX8_idle_1 rfl hl (by decide) rfl (fun ls hl => ?_)
  refine lv_iconst (v := 0) hx hb dX8_idle_2 (by decide) ?_
  refine lv_istore_n (lv' := [(2, .int 0), (1, .int 0), (0, .ref (r 0))]) hx hb dX8_idle_3 rfl hl (by decide) rfl (fun ls hl => ?_)
  refine lv_iload_n hx hb dX8_idle_4 rfl (lv_at hl 0 rfl) ?_
  refine lv_aload_n hx hb dX8_idle_5 rfl (lv_at hl 2 rfl) ?_
  refine va_get (D := (dC, dI)) (ci := 7) (v := .ref (r 55)) (C := RX8) (T := TX8) (N := 16) hx hb hG inX8 hown hK hP 0 rfl rfl 3 (by decide) (hG _ gw471) (fun _ h9 => h9) rfl dX8_idle_6 ?_
  refine va_get (D := (dC, dI)) (ci := 3) (v := .int 0) (C := RX4) (T := TX4) (N := 14) hx hb hG inX4 hown hK hP 1 rfl rfl 7 (by decide) (hG _ gw258) (fun _ h9 => h9) rfl dX8_idle_9 ?_
  refine lv_icmp_ge (tgt := 39) hx hb dX8_idle_12 (by decide) (fun c_1 => ?_) (fun c_1 => absurd (by decide) c_1)
  refine lv_iload_n hx hb dX8_idle_39 rfl (lv_at hl 1 rfl) ?_
  exact W.iret (v := 0) hx hb hr (fun t ht hW => ⟨⟨0, (), rfl, rfl, trivial⟩, hS.F ht⟩) hS.2.2 dX8_idle_40
set_option maxHeartbeats 4000000 in
set_option maxRecDepth 100000 in
theorem kX9_idle (l : Launch) (dC : Nat → ClassId) (dI : Nat → Nat → Nat) (r : Nat → Nat) (c : Nat → ClassId) (f5 : Nat → Int32) (sz : Nat) (hf5_0 : f5 0 = 0) : Met l yX9_idle (.code yX9_idle cX9_idle 3 (some .int) :: GW) { frames := 4, cells := 0, slots := 0, locals := 160 } (va_Pc [.ref (r 0)] (pW (dC, dI) [(r 0, .inr (8, [.ref (r 1), .ref (r 2), .int 0, .int 0, .int 0, .int (-1), .int 0, .int 0, .int 0, .int 0, .long 0, .ref (r 3), .ref (r 4), .ref (r 5), .ref (r 6), .ref (r 7), .ref (r 8), .ref (r 9), .ref (r 10), .ref (r 11), .ref (r 12), .ref (r 13), .ref (r 14), .ref (r 15), .ref (r 16), .ref (r 17), .ref (r 18), .ref (r 19), .ref (r 20), .ref (r 21), .ref (r 22), .ref (r 23), .ref (r 24), .int 0, .int 0, .int 0, .int 0, .int 0, .int 0, .int 0, .int 0, .int 0, .ref (r 25), .ref (r 26), .ref (r 27), .int 0, .int 0, .ref (r 28), .int 0, .ref (r 29), .ref (r 30), .ref (r 31), .ref (r 32), .ref (r 33), .ref (r 34), .ref (r 35), .ref (r 36), .int 0, .int 0, .int 0, .ref (r 37), .ref (r 38)])), (r 5, .inl ((c 5), 2, .inl f5))] [((c 5), .int)] sz)) (va_Qi (fun (r0 : Int32) (_ : Unit) => r0 = 0) (fun _ _ => True) (va_A [(r 0, .inr (8, [.ref (r 1), .ref (r 2), .int 0, .int 0, .int 0, .int (-1), .int 0, .int 0, .int 0, .int 0, .long 0, .ref (r 3), .ref (r 4), .ref (r 5), .ref (r 6), .ref (r 7), .ref (r 8), .ref (r 9), .ref (r 10), .ref (r 11), .ref (r 12), .ref (r 13), .ref (r 14), .ref (r 15), .ref (r 16), .ref (r 17), .ref (r 18), .ref (r 19), .ref (r 20), .ref (r 21), .ref (r 22), .ref (r 23), .ref (r 24), .int 0, .int 0, .int 0, .int 0, .int 0, .int 0, .int 0, .int 0, .int 0, .ref (r 25), .ref (r 26), .ref (r 27), .int 0, .int 0, .ref (r 28), .int 0, .ref (r 29), .ref (r 30), .ref (r 31), .ref (r 32), .ref (r 33), .ref (r 34), .ref (r 35), .ref (r 36), .int 0, .int 0, .int 0, .ref (r 37), .ref (r 38)])), (r 5, .inl ((c 5), 2, .inl f5))] sz)) 0 0 (va_A [(r 0, .inr (8, [.ref (r 1), .ref (r 2), .int 0, .int 0, .int 0, .int (-1), .int 0, .int 0, .int 0, .int 0, .long 0, .ref (r 3), .ref (r 4), .ref (r 5), .ref (r 6), .ref (r 7), .ref (r 8), .ref (r 9), .ref (r 10), .ref (r 11), .ref (r 12), .ref (r 13), .ref (r 14), .ref (r 15), .ref (r 16), .ref (r 17), .ref (r 18), .ref (r 19), .ref (r 20), .ref (r 21), .ref (r 22), .ref (r 23), .ref (r 24), .int 0, .int 0, .int 0, .int 0, .int 0, .int 0, .int 0, .int 0, .int 0, .ref (r 25), .ref (r 26), .ref (r 27), .int 0, .int 0, .ref (r 28), .int 0, .ref (r 29), .ref (r 30), .ref (r 31), .ref (r 32), .ref (r 33), .ref (r 34), .ref (r 35), .ref (r 36), .int 0, .int 0, .int 0, .ref (r 37), .ref (r 38)])), (r 5, .inl ((c 5), 2, .inl f5))] sz) := by
  refine Met.ofW (cc := cX9_idle) (maxL := 3) (ret := (some .int)) (by decide) rfl ?_
  intro p e s m args below meth c0 s₁ B hml hv
  obtain ⟨rfl, hsz, hP, hK, hD0⟩ := hv
  have hx := B.exec
  have hb := B.bytes
  have hr := B.returns
  have hts := atoms_spec (ws := .code yX9_idle cX9_idle 3 (some .int) :: GW) B.pre
  have hG : ∀ w ∈ GW, w.before _ s = true := fun w h => hts w (List.mem_cons_of_mem _ h)
  have hown : s.vm.findClass RX9 = some m.cls := findClass_of_methodNamed B.named
  have hlocks := B.notSynchronized
  subst hsz
  have hD := hD0.self (sz := s.heap.size)
  generalize hAe : va_A [(r 0, .inr (8, [.ref (r 1), .ref (r 2), .int 0, .int 0, .int 0, .int (-1), .int 0, .int 0, .int 0, .int 0, .long 0, .ref (r 3), .ref (r 4), .ref (r 5), .ref (r 6), .ref (r 7), .ref (r 8), .ref (r 9), .ref (r 10), .ref (r 11), .ref (r 12), .ref (r 13), .ref (r 14), .ref (r 15), .ref (r 16), .ref (r 17), .ref (r 18), .ref (r 19), .ref (r 20), .ref (r 21), .ref (r 22), .ref (r 23), .ref (r 24), .int 0, .int 0, .int 0, .int 0, .int 0, .int 0, .int 0, .int 0, .int 0, .ref (r 25), .ref (r 26), .ref (r 27), .int 0, .int 0, .ref (r 28), .int 0, .ref (r 29), .ref (r 30), .ref (r 31), .ref (r 32), .ref (r 33), .ref (r 34), .ref (r 35), .ref (r 36), .int 0, .int 0, .int 0, .ref (r 37), .ref (r 38)])), (r 5, .inl ((c 5), 2, .inl f5))] s.heap.size = A at hD ⊢
  have hA : ∀ q : Nat, s.heap.size ≤ q → A q := fun q h => by rw [← hAe]; exact Or.inr h
  have hS : va_S A s.heap s.heap [] := va_S.rf
  have hP : va_P (dC, dI) vwCl [(r 0, .inr (8, [.ref (r 1), .ref (r 2), .int 0, .int 0, .int 0, .int (-1), .int 0, .int 0, .int 0, .int 0, .long 0, .ref (r 3), .ref (r 4), .ref (r 5), .ref (r 6), .ref (r 7), .ref (r 8), .ref (r 9), .ref (r 10), .ref (r 11), .ref (r 12), .ref (r 13), .ref (r 14), .ref (r 15), .ref (r 16), .ref (r 17), .ref (r 18), .ref (r 19), .ref (r 20), .ref (r 21), .ref (r 22), .ref (r 23), .ref (r 24), .int 0, .int 0, .int 0, .int 0, .int 0, .int 0, .int 0, .int 0, .int 0, .ref (r 25), .ref (r 26), .ref (r 27), .int 0, .int 0, .ref (r 28), .int 0, .ref (r 29), .ref (r 30), .ref (r 31), .ref (r 32), .ref (r 33), .ref (r 34), .ref (r 35), .ref (r 36), .int 0, .int 0, .int 0, .ref (r 37), .ref (r 38)])), (r 5, .inl ((c 5), 2, .inl f5))] s.heap := hP
  have hl := lv_entry ([.ref (r 0)]) (n := 3) (Nat.le_of_ble_eq_true rfl)
  rw [lg_entry_eq]
  generalize (lg_sl ([.ref (r 0)]) ++ List.replicate (3 - (lg_sl ([.ref (r 0)])).length) Slot.unset).toArray = ls at hl ⊢
  have hl : lv_has ls 3 [(0, .ref (r 0))] := hl
  refine lv_iconst (v := 0) hx hb dX9_idle_0 (by decide) ?_
  refine lv_istore_n (lv' := [(1, .int 0), (0, .ref (r 0))]) hx hb dX9_idle_1 rfl hl (by decide) rfl (fun ls hl => ?_)
  refine lv_iconst (v := 0) hx hb dX9_idle_2 (by decide) ?_
  refine lv_istore_n (lv' := [(2, .int 0), (1, .int 0), (0, .ref (r 0))]) hx hb dX9_idle_3 rfl hl (by decide) rfl (fun ls hl => ?_)
  refine lv_iload_n hx hb dX9_idle_4 rfl (lv_at hl 0 rfl) ?_
  refine lv_aload_n hx hb dX9_idle_5 rfl (lv_at hl 2 rfl) ?_
  have hPc := hP.sub (ws' := [(r 0, .inr (8, [.ref (r 1), .ref (r 2), .int 0, .int 0, .int 0, .int (-1), .int 0, .int 0, .int 0, .int 0, .long 0, .ref (r 3), .ref (r 4), .ref (r 5), .ref (r 6), .ref (r 7), .ref (r 8), .ref (r 9), .ref (r 10), .ref (r 11), .ref (r 12), .ref (r 13), .ref (r 14), .ref (r 15), .ref (r 16), .ref (r 17), .ref (r 18), .ref (r 19), .ref (r 20), .ref (r 21), .ref (r 22), .ref (r 23), .ref (r 24), .int 0, .int 0, .int 0, .int 0, .int 0, .int 0, .int 0, .int 0, .int 0, .ref (r 25), .ref (r 26), .ref (r 27), .int 0, .int 0, .ref (r 28), .int 0, .ref (r 29), .ref (r 30), .ref (r 31), .ref (r 32), .ref (r 33), .ref (r 34), .ref (r 35), .ref (r 36), .int 0, .int 0, .int 0, .ref (r 37), .ref (r 38)])), (r 5, .inl ((c 5), 2, .inl f5))]) [0, 1] rfl
  have hKc := hK.sub (tys' := [((c 5), .int)]) [0] rfl
  have hDc := hD.sub (ws' := [(r 0, .inr (8, [.ref (r 1), .ref (r 2), .int 0, .int 0, .int 0, .int (-1), .int 0, .int 0, .int 0, .int 0, .long 0, .ref (r 3), .ref (r 4), .ref (r 5), .ref (r 6), .ref (r 7), .ref (r 8), .ref (r 9), .ref (r 10), .ref (r 11), .ref (r 12), .ref (r 13), .ref (r 14), .ref (r 15), .ref (r 16), .ref (r 17), .ref (r 18), .ref (r 19), .ref (r 20), .ref (r 21), .ref (r 22), .ref (r 23), .ref (r 24), .int 0, .int 0, .int 0, .int 0, .int 0, .int 0, .int 0, .int 0, .int 0, .ref (r 25), .ref (r 26), .ref (r 27), .int 0, .int 0, .ref (r 28), .int 0, .ref (r 29), .ref (r 30), .ref (r 31), .ref (r 32), .ref (r 33), .ref (r 34), .ref (r 35), .ref (r 36), .int 0, .int 0, .int 0, .ref (r 37), .ref (r 38)])), (r 5, .inl ((c 5), 2, .inl f5))]) [0, 1] (by decide) rfl
  have hFc := va_free (wc := [(r 0, .inr (8, [.ref (r 1), .ref (r 2), .int 0, .int 0, .int 0, .int (-1), .int 0, .int 0, .int 0, .int 0, .long 0, .ref (r 3), .ref (r 4), .ref (r 5), .ref (r 6), .ref (r 7), .ref (r 8), .ref (r 9), .ref (r 10), .ref (r 11), .ref (r 12), .ref (r 13), .ref (r 14), .ref (r 15), .ref (r 16), .ref (r 17), .ref (r 18), .ref (r 19), .ref (r 20), .ref (r 21), .ref (r 22), .ref (r 23), .ref (r 24), .int 0, .int 0, .int 0, .int 0, .int 0, .int 0, .int 0, .int 0, .int 0, .ref (r 25), .ref (r 26), .ref (r 27), .int 0, .int 0, .ref (r 28), .int 0, .ref (r 29), .ref (r 30), .ref (r 31), .ref (r 32), .ref (r 33), .ref (r 34), .ref (r 35), .ref (r 36), .int 0, .int 0, .int 0, .ref (r 37), .ref (r 38)])), (r 5, .inl ((c 5), 2, .inl f5))]) hD hS hA [0, 1] rfl
  refine va_calli (va_runV (As := []) (rest := [.int 0]) ⟨hx, hb, hml, hown, hG⟩ (kX9_homes l dC dI r c f5 s.heap.size hf5_0) (cwV 0 hG (goodV gw1167 gw1169 gw58 gw138 gw1170) rfl rfl rfl hd_X9_homes ⟨(Nat.le_of_ble_eq_true rfl), (Nat.le_of_ble_eq_true rfl)⟩) ⟨fbW, va_recv hKc hPc (ci := 8) (q0 := 0) rfl rfl, pW_in hPc hKc hDc⟩ rfl rfl hl.1 rfl (lv_room (Nat.le_of_ble_eq_true rfl)) dX9_idle_6 ⟨(Nat.le_of_ble_eq_true rfl), (Nat.le_of_ble_eq_true rfl)⟩) hS (fun q _ h => hFc q h) hFc (fun r_2 u t H1 locs ht hvm hw hB hz1 hk1 hS => ?_)
  obtain ⟨hP1, hD1⟩ := hB
  rw [ht] at hP1
  obtain ⟨hP, hD⟩ := va_join (wr := []) (w1 := [(r 0, .inr (8, [.ref (r 1), .ref (r 2), .int 0, .int 0, .int 0, .int (-1), .int 0, .int 0, .int 0, .int 0, .long 0, .ref (r 3), .ref (r 4), .ref (r 5), .ref (r 6), .ref (r 7), .ref (r 8), .ref (r 9), .ref (r 10), .ref (r 11), .ref (r 12), .ref (r 13), .ref (r 14), .ref (r 15), .ref (r 16), .ref (r 17), .ref (r 18), .ref (r 19), .ref (r 20), .ref (r 21), .ref (r 22), .ref (r 23), .ref (r 24), .int 0, .int 0, .int 0, .int 0, .int 0, .int 0, .int 0, .int 0, .int 0, .ref (r 25), .ref (r 26), .ref (r 27), .int 0, .int 0, .ref (r 28), .int 0, .ref (r 29), .ref (r 30), .ref (r 31), .ref (r 32), .ref (r 33), .ref (r 34), .ref (r 35), .ref (r 36), .int 0, .int 0, .int 0, .ref (r 37), .ref (r 38)])), (r 5, .inl ((c 5), 2, .inl f5))]) hP hD [0, 1] [] rfl rfl (by decide) (by decide) hk1 hFc hP1 hD1
  have hP : va_P (dC, dI) vwCl [(r 0, .inr (8, [.ref (r 1), .ref (r 2), .int 0, .int 0, .int 0, .int (-1), .int 0, .int 0, .int 0, .int 0, .long 0, .ref (r 3), .ref (r 4), .ref (r 5), .ref (r 6), .ref (r 7), .ref (r 8), .ref (r 9), .ref (r 10), .ref (r 11), .ref (r 12), .ref (r 13), .ref (r 14), .ref (r 15), .ref (r 16), .ref (r 17), .ref (r 18), .ref (r 19), .ref (r 20), .ref (r 21), .ref (r 22), .ref (r 23), .ref (r 24), .int 0, .int 0, .int 0, .int 0, .int 0, .int 0, .int 0, .int 0, .int 0, .ref (r 25), .ref (r 26), .ref (r 27), .int 0, .int 0, .ref (r 28), .int 0, .ref (r 29), .ref (r 30), .ref (r 31), .ref (r 32), .ref (r 33), .ref (r 34), .ref (r 35), .ref (r 36), .int 0, .int 0, .int 0, .ref (r 37), .ref (r 38)])), (r 5, .inl ((c 5), 2, .inl f5))] H1 := hP
  have hD : va_D A [(r 0, .inr (8, [.ref (r 1), .ref (r 2), .int 0, .int 0, .int 0, .int (-1), .int 0, .int 0, .int 0, .int 0, .long 0, .ref (r 3), .ref (r 4), .ref (r 5), .ref (r 6), .ref (r 7), .ref (r 8), .ref (r 9), .ref (r 10), .ref (r 11), .ref (r 12), .ref (r 13), .ref (r 14), .ref (r 15), .ref (r 16), .ref (r 17), .ref (r 18), .ref (r 19), .ref (r 20), .ref (r 21), .ref (r 22), .ref (r 23), .ref (r 24), .int 0, .int 0, .int 0, .int 0, .int 0, .int 0, .int 0, .int 0, .int 0, .ref (r 25), .ref (r 26), .ref (r 27), .int 0, .int 0, .ref (r 28), .int 0, .ref (r 29), .ref (r 30), .ref (r 31), .ref (r 32), .ref (r 33), .ref (r 34), .ref (r 35), .ref (r 36), .int 0, .int 0, .int 0, .ref (r 37), .ref (r 38)])), (r 5, .inl ((c 5), 2, .inl f5))] := hD
  refine wt_c (v := 0) hw ?_
  refine lv_icmp_ge (tgt := 32) hx hb dX9_idle_9 (by decide) (fun c_3 => ?_) (fun c_3 => absurd (by decide) c_3)
  refine lv_iload_n hx hb dX9_idle_32 rfl (lv_at hl 1 rfl) ?_
  exact W.iret (v := 0) hx hb hr (fun t ht hW => ⟨⟨0, (), rfl, rfl, trivial⟩, hS.F ht⟩) hS.2.2 dX9_idle_33
set_option maxHeartbeats 4000000 in
set_option maxRecDepth 100000 in
theorem kX8_fashion (l : Launch) (dC : Nat → ClassId) (dI : Nat → Nat → Nat) (r : Nat → Nat) (c : Nat → ClassId) (sz : Nat) : Met l yX8_fashion (.code yX8_fashion cX8_fashion 6 (some .int) :: GW) { frames := 2, cells := 0, slots := 0, locals := 100 } (va_Pc [.ref (r 0)] (pW (dC, dI) [(r 0, .inr (7, [.ref (r 1), .int 0, .ref (r 2), .ref (r 55), .ref (r 57), .ref (r 30), .ref (r 56), .ref (r 36), .ref (r 37), .ref (r 38), .int 0, .ref (r 51), .int 0, .ref (r 52), .ref (r 53), .ref (r 54)])), (r 55, .inr (3, [.int 1, .int 0, .int 0, .int 0, .ref (r 20), .ref (r 21), .ref (r 22), .int 0, .ref (r 23), .ref (r 24), .ref (r 25), .int 0, .ref (r 28), .ref (r 27)]))] [] sz)) (va_Qi (fun (r0 : Int32) (_ : Unit) => r0 = (-1)) (fun _ _ => True) (va_A [(r 0, .inr (7, [.ref (r 1), .int 0, .ref (r 2), .ref (r 55), .ref (r 57), .ref (r 30), .ref (r 56), .ref (r 36), .ref (r 37), .ref (r 38), .int 0, .ref (r 51), .int 0, .ref (r 52), .ref (r 53), .ref (r 54)])), (r 55, .inr (3, [.int 1, .int 0, .int 0, .int 0, .ref (r 20), .ref (r 21), .ref (r 22), .int 0, .ref (r 23), .ref (r 24), .ref (r 25), .int 0, .ref (r 28), .ref (r 27)]))] sz)) 0 0 (va_A [(r 0, .inr (7, [.ref (r 1), .int 0, .ref (r 2), .ref (r 55), .ref (r 57), .ref (r 30), .ref (r 56), .ref (r 36), .ref (r 37), .ref (r 38), .int 0, .ref (r 51), .int 0, .ref (r 52), .ref (r 53), .ref (r 54)])), (r 55, .inr (3, [.int 1, .int 0, .int 0, .int 0, .ref (r 20), .ref (r 21), .ref (r 22), .int 0, .ref (r 23), .ref (r 24), .ref (r 25), .int 0, .ref (r 28), .ref (r 27)]))] sz) := by
  refine Met.ofW (cc := cX8_fashion) (maxL := 6) (ret := (some .int)) (by decide) rfl ?_
  intro p e s m args below meth c0 s₁ B hml hv
  obtain ⟨rfl, hsz, hP, hK, hD0⟩ := hv
  have hx := B.exec
  have hb := B.bytes
  have hr := B.returns
  have hts := atoms_spec (ws := .code yX8_fashion cX8_fashion 6 (some .int) :: GW) B.pre
  have hG : ∀ w ∈ GW, w.before _ s = true := fun w h => hts w (List.mem_cons_of_mem _ h)
  have hown : s.vm.findClass RX8 = some m.cls := findClass_of_methodNamed B.named
  have hlocks := B.notSynchronized
  subst hsz
  have hD := hD0.self (sz := s.heap.size)
  generalize hAe : va_A [(r 0, .inr (7, [.ref (r 1), .int 0, .ref (r 2), .ref (r 55), .ref (r 57), .ref (r 30), .ref (r 56), .ref (r 36), .ref (r 37), .ref (r 38), .int 0, .ref (r 51), .int 0, .ref (r 52), .ref (r 53), .ref (r 54)])), (r 55, .inr (3, [.int 1, .int 0, .int 0, .int 0, .ref (r 20), .ref (r 21), .ref (r 22), .int 0, .ref (r 23), .ref (r 24), .ref (r 25), .int 0, .ref (r 28), .ref (r 27)]))] s.heap.size = A at hD ⊢
  have hA : ∀ q : Nat, s.heap.size ≤ q → A q := fun q h => by rw [← hAe]; exact Or.inr h
  have hS : va_S A s.heap s.heap [] := va_S.rf
  have hP : va_P (dC, dI) vwCl [(r 0, .inr (7, [.ref (r 1), .int 0, .ref (r 2), .ref (r 55), .ref (r 57), .ref (r 30), .ref (r 56), .ref (r 36), .ref (r 37), .ref (r 38), .int 0, .ref (r 51), .int 0, .ref (r 52), .ref (r 53), .ref (r 54)])), (r 55, .inr (3, [.int 1, .int 0, .int 0, .int 0, .ref (r 20), .ref (r 21), .ref (r 22), .int 0, .ref (r 23), .ref (r 24), .ref (r 25), .int 0, .ref (r 28), .ref (r 27)]))] s.heap := hP
  have hl := lv_entry ([.ref (r 0)]) (n := 6) (Nat.le_of_ble_eq_true rfl)
  rw [lg_entry_eq]
  generalize (lg_sl ([.ref (r 0)]) ++ List.replicate (6 - (lg_sl ([.ref (r 0)])).length) Slot.unset).toArray = ls at hl ⊢
  have hl : lv_has ls 6 [(0, .ref (r 0))] := hl
  refine lv_iconst (v := (-1)) hx hb dX8_fashion_0 (by decide) ?_
  refine lv_istore_n (lv' := [(1, .int (-1)), (0, .ref (r 0))]) hx hb dX8_fashion_1 rfl hl (by decide) rfl (fun ls hl => ?_)
  refine lv_iconst (v := 0) hx hb dX8_fashion_2 (by decide) ?_
  refine lv_istore_n (lv' := [(2, .int 0), (1, .int (-1)), (0, .ref (r 0))]) hx hb dX8_fashion_3 rfl hl (by decide) rfl (fun ls hl => ?_)
  refine lv_iconst (v := 0) hx hb dX8_fashion_4 (by decide) ?_
  refine lv_istore_n (lv' := [(3, .int 0), (2, .int 0), (1, .int (-1)), (0, .ref (r 0))]) hx hb dX8_fashion_5 rfl hl (by decide) rfl (fun ls hl => ?_)
  refine lv_iload_n hx hb dX8_fashion_6 rfl (lv_at hl 0 rfl) ?_
  refine lv_bipush (v := 7) hx hb dX8_fashion_7 (by decide) ?_
  refine lv_icmp_ge (tgt := 69) hx hb dX8_fashion_9 (by decide) (fun c_1 => absurd c_1 (by decide)) (fun c_1 => ?_)
  refine lv_iconst (v := 0) hx hb dX8_fashion_12 (by decide) ?_
  refine lv_istore (lv' := [(4, .int 0), (3, .int 0), (2, .int 0), (1, .int (-1)), (0, .ref (r 0))]) hx hb dX8_fashion_13 hl (by decide) rfl (fun ls hl => ?_)
  refine lv_iconst (v := 0) hx hb dX8_fashion_15 (by decide) ?_
  refine lv_istore (lv' := [(5, .int 0), (4, .int 0), (3, .int 0), (2, .int 0), (1, .int (-1)), (0, .ref (r 0))]) hx hb dX8_fashion_16 hl (by decide) rfl (fun ls hl => ?_)
  refine lv_iload hx hb dX8_fashion_18 (lv_at hl 0 rfl) ?_
  refine lv_aload_n hx hb dX8_fashion_20 rfl (lv_at hl 5 rfl) ?_
  refine va_get (D := (dC, dI)) (ci := 7) (v := .ref (r 55)) (C := RX8) (T := TX8) (N := 16) hx hb hG inX8 hown hK hP 0 rfl rfl 3 (by decide) (hG _ gw471) (fun _ h9 => h9) rfl dX8_fashion_21 ?_
  refine va_get (D := (dC, dI)) (ci := 3) (v := .int 0) (C := RX4) (T := TX4) (N := 14) hx hb hG inX4 hown hK hP 1 rfl rfl 7 (by decide) (hG _ gw258) (fun _ h9 => h9) rfl dX8_fashion_24 ?_
  refine lv_icmp_ge (tgt := 52) hx hb dX8_fashion_27 (by decide) (fun c_2 => ?_) (fun c_2 => absurd (by decide) c_2)
  refine lv_iload hx hb dX8_fashion_52 (lv_at hl 1 rfl) ?_
  refine lv_iload_n hx hb dX8_fashion_54 rfl (lv_at hl 3 rfl) ?_
  refine lv_icmp_le (tgt := 63) hx hb dX8_fashion_55 (by decide) (fun c_3 => ?_) (fun c_3 => absurd (by decide) c_3)
  refine lv_iinc (v := 1) (lv' := [(3, .int 1), (5, .int 0), (4, .int 0), (2, .int 0), (1, .int (-1)), (0, .ref (r 0))]) hx hb dX8_fashion_63 hl (k := 2) rfl (by decide) (by decide) rfl (fun ls hl => ?_)
  refine lv_goto (tgt := 6) hx hb dX8_fashion_66 (by decide) ?_
  refine lv_iload_n hx hb dX8_fashion_6 rfl (lv_at hl 0 rfl) ?_
  refine lv_bipush (v := 7) hx hb dX8_fashion_7 (by decide) ?_
  refine lv_icmp_ge (tgt := 69) hx hb dX8_fashion_9 (by decide) (fun c_4 => absurd c_4 (by decide)) (fun c_4 => ?_)
  refine lv_iconst (v := 0) hx hb dX8_fashion_12 (by decide) ?_
  refine lv_istore (lv' := [(4, .int 0), (3, .int 1), (5, .int 0), (2, .int 0), (1, .int (-1)), (0, .ref (r 0))]) hx hb dX8_fashion_13 hl (by decide) rfl (fun ls hl => ?_)
  refine lv_iconst (v := 0) hx hb dX8_fashion_15 (by decide) ?_
  refine lv_istore (lv' := [(5, .int 0), (4, .int 0), (3, .int 1), (2, .int 0), (1, .int (-1)), (0, .ref (r 0))]) hx hb dX8_fashion_16 hl (by decide) rfl (fun ls hl => ?_)
  refine lv_iload hx hb dX8_fashion_18 (lv_at hl 0 rfl) ?_
  refine lv_aload_n hx hb dX8_fashion_20 rfl (lv_at hl 5 rfl) ?_
  refine va_get (D := (dC, dI)) (ci := 7) (v := .ref (r 55)) (C := RX8) (T := TX8) (N := 16) hx hb hG inX8 hown hK hP 0 rfl rfl 3 (by decide) (hG _ gw471) (fun _ h9 => h9) rfl dX8_fashion_21 ?_
  refine va_get (D := (dC, dI)) (ci := 3) (v := .int 0) (C := RX4) (T := TX4) (N := 14) hx hb hG inX4 hown hK hP 1 rfl rfl 7 (by decide) (hG _ gw258) (fun _ h9 => h9) rfl dX8_fashion_24 ?_
  refine lv_icmp_ge (tgt := 52) hx hb dX8_fashion_27 (by decide) (fun c_5 => ?_) (fun c_5 => absurd (by decide) c_5)
  refine lv_iload hx hb dX8_fashion_52 (lv_at hl 1 rfl) ?_
  refine lv_iload_n hx hb dX8_fashion_54 rfl (lv_at hl 3 rfl) ?_
  refine lv_icmp_le (tgt := 63) hx hb dX8_fashion_55 (by decide) (fun c_6 => ?_) (fun c_6 => absurd (by decide) c_6)
  refine lv_iinc (v := 2) (lv' := [(3, .int 2), (5, .int 0), (4, .int 0), (2, .int 0), (1, .int (-1)), (0, .ref (r 0))]) hx hb dX8_fashion_63 hl (k := 2) rfl (by decide) (by decide) rfl (fun ls hl => ?_)
  refine lv_goto (tgt := 6) hx hb dX8_fashion_66 (by decide) ?_
  refine lv_iload_n hx hb dX8_fashion_6 rfl (lv_at hl 0 rfl) ?_
  refine lv_bipush (v := 7) hx hb dX8_fashion_7 (by decide) ?_
  refine lv_icmp_ge (tgt := 69) hx hb dX8_fashion_9 (by decide) (fun c_7 => absurd c_7 (by decide)) (fun c_7 => ?_)
  refine lv_iconst (v := 0) hx hb dX8_fashion_12 (by decide) ?_
  refine lv_istore (lv' := [(4, .int 0), (3, .int 2), (5, .int 0), (2, .int 0), (1, .int (-1)), (0, .ref (r 0))]) hx hb dX8_fashion_13 hl (by decide) rfl (fun ls hl => ?_)
  refine lv_iconst (v := 0) hx hb dX8_fashion_15 (by decide) ?_
  refine lv_istore (lv' := [(5, .int 0), (4, .int 0), (3, .int 2), (2, .int 0), (1, .int (-1)), (0, .ref (r 0))]) hx hb dX8_fashion_16 hl (by decide) rfl (fun ls hl => ?_)
  refine lv_iload hx hb dX8_fashion_18 (lv_at hl 0 rfl) ?_
  refine lv_aload_n hx hb dX8_fashion_20 rfl (lv_at hl 5 rfl) ?_
  refine va_get (D := (dC, dI)) (ci := 7) (v := .ref (r 55)) (C := RX8) (T := TX8) (N := 16) hx hb hG inX8 hown hK hP 0 rfl rfl 3 (by decide) (hG _ gw471) (fun _ h9 => h9) rfl dX8_fashion_21 ?_
  refine va_get (D := (dC, dI)) (ci := 3) (v := .int 0) (C := RX4) (T := TX4) (N := 14) hx hb hG inX4 hown hK hP 1 rfl rfl 7 (by decide) (hG _ gw258) (fun _ h9 => h9) rfl dX8_fashion_24 ?_
  refine lv_icmp_ge (tgt := 52) hx hb dX8_fashion_27 (by decide) (fun c_8 => ?_) (fun c_8 => absurd (by decide) c_8)
  refine lv_iload hx hb dX8_fashion_52 (lv_at hl 1 rfl) ?_
  refine lv_iload_n hx hb dX8_fashion_54 rfl (lv_at hl 3 rfl) ?_
  refine lv_icmp_le (tgt := 63) hx hb dX8_fashion_55 (by decide) (fun c_9 => ?_) (fun c_9 => absurd (by decide) c_9)
  refine lv_iinc (v := 3) (lv' := [(3, .int 3), (5, .int 0), (4, .int 0), (2, .int 0), (1, .int (-1)), (0, .ref (r 0))]) hx hb dX8_fashion_63 hl (k := 2) rfl (by decide) (by decide) rfl (fun ls hl => ?_)
  refine lv_goto (tgt := 6) hx hb dX8_fashion_66 (by decide) ?_
  refine lv_iload_n hx hb dX8_fashion_6 rfl (lv_at hl 0 rfl) ?_
  refine lv_bipush (v := 7) hx hb dX8_fashion_7 (by decide) ?_
  refine lv_icmp_ge (tgt := 69) hx hb dX8_fashion_9 (by decide) (fun c_10 => absurd c_10 (by decide)) (fun c_10 => ?_)
  refine lv_iconst (v := 0) hx hb dX8_fashion_12 (by decide) ?_
  refine lv_istore (lv' := [(4, .int 0), (3, .int 3), (5, .int 0), (2, .int 0), (1, .int (-1)), (0, .ref (r 0))]) hx hb dX8_fashion_13 hl (by decide) rfl (fun ls hl => ?_)
  refine lv_iconst (v := 0) hx hb dX8_fashion_15 (by decide) ?_
  refine lv_istore (lv' := [(5, .int 0), (4, .int 0), (3, .int 3), (2, .int 0), (1, .int (-1)), (0, .ref (r 0))]) hx hb dX8_fashion_16 hl (by decide) rfl (fun ls hl => ?_)
  refine lv_iload hx hb dX8_fashion_18 (lv_at hl 0 rfl) ?_
  refine lv_aload_n hx hb dX8_fashion_20 rfl (lv_at hl 5 rfl) ?_
  refine va_get (D := (dC, dI)) (ci := 7) (v := .ref (r 55)) (C := RX8) (T := TX8) (N := 16) hx hb hG inX8 hown hK hP 0 rfl rfl 3 (by decide) (hG _ gw471) (fun _ h9 => h9) rfl dX8_fashion_21 ?_
  refine va_get (D := (dC, dI)) (ci := 3) (v := .int 0) (C := RX4) (T := TX4) (N := 14) hx hb hG inX4 hown hK hP 1 rfl rfl 7 (by decide) (hG _ gw258) (fun _ h9 => h9) rfl dX8_fashion_24 ?_
  refine lv_icmp_ge (tgt := 52) hx hb dX8_fashion_27 (by decide) (fun c_11 => ?_) (fun c_11 => absurd (by decide) c_11)
  refine lv_iload hx hb dX8_fashion_52 (lv_at hl 1 rfl) ?_
  refine lv_iload_n hx hb dX8_fashion_54 rfl (lv_at hl 3 rfl) ?_
  refine lv_icmp_le (tgt := 63) hx hb dX8_fashion_55 (by decide) (fun c_12 => ?_) (fun c_12 => absurd (by decide) c_12)
  refine lv_iinc (v := 4) (lv' := [(3, .int 4), (5, .int 0), (4, .int 0), (2, .int 0), (1, .int (-1)), (0, .ref (r 0))]) hx hb dX8_fashion_63 hl (k := 2) rfl (by decide) (by decide) rfl (fun ls hl => ?_)
  refine lv_goto (tgt := 6) hx hb dX8_fashion_66 (by decide) ?_
  refine lv_iload_n hx hb dX8_fashion_6 rfl (lv_at hl 0 rfl) ?_
  refine lv_bipush (v := 7) hx hb dX8_fashion_7 (by decide) ?_
  refine lv_icmp_ge (tgt := 69) hx hb dX8_fashion_9 (by decide) (fun c_13 => absurd c_13 (by decide)) (fun c_13 => ?_)
  refine lv_iconst (v := 0) hx hb dX8_fashion_12 (by decide) ?_
  refine lv_istore (lv' := [(4, .int 0), (3, .int 4), (5, .int 0), (2, .int 0), (1, .int (-1)), (0, .ref (r 0))]) hx hb dX8_fashion_13 hl (by decide) rfl (fun ls hl => ?_)
  refine lv_iconst (v := 0) hx hb dX8_fashion_15 (by decide) ?_
  refine lv_istore (lv' := [(5, .int 0), (4, .int 0), (3, .int 4), (2, .int 0), (1, .int (-1)), (0, .ref (r 0))]) hx hb dX8_fashion_16 hl (by decide) rfl (fun ls hl => ?_)
  refine lv_iload hx hb dX8_fashion_18 (lv_at hl 0 rfl) ?_
  refine lv_aload_n hx hb dX8_fashion_20 rfl (lv_at hl 5 rfl) ?_
  refine va_get (D := (dC, dI)) (ci := 7) (v := .ref (r 55)) (C := RX8) (T := TX8) (N := 16) hx hb hG inX8 hown hK hP 0 rfl rfl 3 (by decide) (hG _ gw471) (fun _ h9 => h9) rfl dX8_fashion_21 ?_
  refine va_get (D := (dC, dI)) (ci := 3) (v := .int 0) (C := RX4) (T := TX4) (N := 14) hx hb hG inX4 hown hK hP 1 rfl rfl 7 (by decide) (hG _ gw258) (fun _ h9 => h9) rfl dX8_fashion_24 ?_
  refine lv_icmp_ge (tgt := 52) hx hb dX8_fashion_27 (by decide) (fun c_14 => ?_) (fun c_14 => absurd (by decide) c_14)
  refine lv_iload hx hb dX8_fashion_52 (lv_at hl 1 rfl) ?_
  refine lv_iload_n hx hb dX8_fashion_54 rfl (lv_at hl 3 rfl) ?_
  refine lv_icmp_le (tgt := 63) hx hb dX8_fashion_55 (by decide) (fun c_15 => ?_) (fun c_15 => absurd (by decide) c_15)
  refine lv_iinc (v := 5) (lv' := [(3, .int 5), (5, .int 0), (4, .int 0), (2, .int 0), (1, .int (-1)), (0, .ref (r 0))]) hx hb dX8_fashion_63 hl (k := 2) rfl (by decide) (by decide) rfl (fun ls hl => ?_)
  refine lv_goto (tgt := 6) hx hb dX8_fashion_66 (by decide) ?_
  refine lv_iload_n hx hb dX8_fashion_6 rfl (lv_at hl 0 rfl) ?_
  refine lv_bipush (v := 7) hx hb dX8_fashion_7 (by decide) ?_
  refine lv_icmp_ge (tgt := 69) hx hb dX8_fashion_9 (by decide) (fun c_16 => absurd c_16 (by decide)) (fun c_16 => ?_)
  refine lv_iconst (v := 0) hx hb dX8_fashion_12 (by decide) ?_
  refine lv_istore (lv' := [(4, .int 0), (3, .int 5), (5, .int 0), (2, .int 0), (1, .int (-1)), (0, .ref (r 0))]) hx hb dX8_fashion_13 hl (by decide) rfl (fun ls hl => ?_)
  refine lv_iconst (v := 0) hx hb dX8_fashion_15 (by decide) ?_
  refine lv_istore (lv' := [(5, .int 0), (4, .int 0), (3, .int 5), (2, .int 0), (1, .int (-1)), (0, .ref (r 0))]) hx hb dX8_fashion_16 hl (by decide) rfl (fun ls hl => ?_)
  refine lv_iload hx hb dX8_fashion_18 (lv_at hl 0 rfl) ?_
  refine lv_aload_n hx hb dX8_fashion_20 rfl (lv_at hl 5 rfl) ?_
  refine va_get (D := (dC, dI)) (ci := 7) (v := .ref (r 55)) (C := RX8) (T := TX8) (N := 16) hx hb hG inX8 hown hK hP 0 rfl rfl 3 (by decide) (hG _ gw471) (fun _ h9 => h9) rfl dX8_fashion_21 ?_
  refine va_get (D := (dC, dI)) (ci := 3) (v := .int 0) (C := RX4) (T := TX4) (N := 14) hx hb hG inX4 hown hK hP 1 rfl rfl 7 (by decide) (hG _ gw258) (fun _ h9 => h9) rfl dX8_fashion_24 ?_
  refine lv_icmp_ge (tgt := 52) hx hb dX8_fashion_27 (by decide) (fun c_17 => ?_) (fun c_17 => absurd (by decide) c_17)
  refine lv_iload hx hb dX8_fashion_52 (lv_at hl 1 rfl) ?_
  refine lv_iload_n hx hb dX8_fashion_54 rfl (lv_at hl 3 rfl) ?_
  refine lv_icmp_le (tgt := 63) hx hb dX8_fashion_55 (by decide) (fun c_18 => ?_) (fun c_18 => absurd (by decide) c_18)
  refine lv_iinc (v := 6) (lv' := [(3, .int 6), (5, .int 0), (4, .int 0), (2, .int 0), (1, .int (-1)), (0, .ref (r 0))]) hx hb dX8_fashion_63 hl (k := 2) rfl (by decide) (by decide) rfl (fun ls hl => ?_)
  refine lv_goto (tgt := 6) hx hb dX8_fashion_66 (by decide) ?_
  refine lv_iload_n hx hb dX8_fashion_6 rfl (lv_at hl 0 rfl) ?_
  refine lv_bipush (v := 7) hx hb dX8_fashion_7 (by decide) ?_
  refine lv_icmp_ge (tgt := 69) hx hb dX8_fashion_9 (by decide) (fun c_19 => absurd c_19 (by decide)) (fun c_19 => ?_)
  refine lv_iconst (v := 0) hx hb dX8_fashion_12 (by decide) ?_
  refine lv_istore (lv' := [(4, .int 0), (3, .int 6), (5, .int 0), (2, .int 0), (1, .int (-1)), (0, .ref (r 0))]) hx hb dX8_fashion_13 hl (by decide) rfl (fun ls hl => ?_)
  refine lv_iconst (v := 0) hx hb dX8_fashion_15 (by decide) ?_
  refine lv_istore (lv' := [(5, .int 0), (4, .int 0), (3, .int 6), (2, .int 0), (1, .int (-1)), (0, .ref (r 0))]) hx hb dX8_fashion_16 hl (by decide) rfl (fun ls hl => ?_)
  refine lv_iload hx hb dX8_fashion_18 (lv_at hl 0 rfl) ?_
  refine lv_aload_n hx hb dX8_fashion_20 rfl (lv_at hl 5 rfl) ?_
  refine va_get (D := (dC, dI)) (ci := 7) (v := .ref (r 55)) (C := RX8) (T := TX8) (N := 16) hx hb hG inX8 hown hK hP 0 rfl rfl 3 (by decide) (hG _ gw471) (fun _ h9 => h9) rfl dX8_fashion_21 ?_
  refine va_get (D := (dC, dI)) (ci := 3) (v := .int 0) (C := RX4) (T := TX4) (N := 14) hx hb hG inX4 hown hK hP 1 rfl rfl 7 (by decide) (hG _ gw258) (fun _ h9 => h9) rfl dX8_fashion_24 ?_
  refine lv_icmp_ge (tgt := 52) hx hb dX8_fashion_27 (by decide) (fun c_20 => ?_) (fun c_20 => absurd (by decide) c_20)
  refine lv_iload hx hb dX8_fashion_52 (lv_at hl 1 rfl) ?_
  refine lv_iload_n hx hb dX8_fashion_54 rfl (lv_at hl 3 rfl) ?_
  refine lv_icmp_le (tgt := 63) hx hb dX8_fashion_55 (by decide) (fun c_21 => ?_) (fun c_21 => absurd (by decide) c_21)
  refine lv_iinc (v := 7) (lv' := [(3, .int 7), (5, .int 0), (4, .int 0), (2, .int 0), (1, .int (-1)), (0, .ref (r 0))]) hx hb dX8_fashion_63 hl (k := 2) rfl (by decide) (by decide) rfl (fun ls hl => ?_)
  refine lv_goto (tgt := 6) hx hb dX8_fashion_66 (by decide) ?_
  refine lv_iload_n hx hb dX8_fashion_6 rfl (lv_at hl 0 rfl) ?_
  refine lv_bipush (v := 7) hx hb dX8_fashion_7 (by decide) ?_
  refine lv_icmp_ge (tgt := 69) hx hb dX8_fashion_9 (by decide) (fun c_22 => ?_) (fun c_22 => absurd (by decide) c_22)
  refine lv_iload_n hx hb dX8_fashion_69 rfl (lv_at hl 4 rfl) ?_
  exact W.iret (v := (-1)) hx hb hr (fun t ht hW => ⟨⟨(-1), (), rfl, rfl, trivial⟩, hS.F ht⟩) hS.2.2 dX8_fashion_70
set_option maxHeartbeats 4000000 in
set_option maxRecDepth 100000 in
theorem kX9_fashion (l : Launch) (dC : Nat → ClassId) (dI : Nat → Nat → Nat) (r : Nat → Nat) (c : Nat → ClassId) (f5 : Nat → Int32) (sz : Nat) (hf5_0 : f5 0 = 0) : Met l yX9_fashion (.code yX9_fashion cX9_fashion 6 (some .int) :: GW) { frames := 4, cells := 0, slots := 0, locals := 160 } (va_Pc [.ref (r 0)] (pW (dC, dI) [(r 0, .inr (8, [.ref (r 1), .ref (r 2), .int 0, .int 0, .int 0, .int (-1), .int 0, .int 0, .int 0, .int 0, .long 0, .ref (r 3), .ref (r 4), .ref (r 5), .ref (r 6), .ref (r 7), .ref (r 8), .ref (r 9), .ref (r 10), .ref (r 11), .ref (r 12), .ref (r 13), .ref (r 14), .ref (r 15), .ref (r 16), .ref (r 17), .ref (r 18), .ref (r 19), .ref (r 20), .ref (r 21), .ref (r 22), .ref (r 23), .ref (r 24), .int 0, .int 0, .int 0, .int 0, .int 0, .int 0, .int 0, .int 0, .int 0, .ref (r 25), .ref (r 26), .ref (r 27), .int 0, .int 0, .ref (r 28), .int 0, .ref (r 29), .ref (r 30), .ref (r 31), .ref (r 32), .ref (r 33), .ref (r 34), .ref (r 35), .ref (r 36), .int 0, .int 0, .int 0, .ref (r 37), .ref (r 38)])), (r 5, .inl ((c 5), 2, .inl f5))] [((c 5), .int)] sz)) (va_Qi (fun (r0 : Int32) (_ : Unit) => r0 = (-1)) (fun _ _ => True) (va_A [(r 0, .inr (8, [.ref (r 1), .ref (r 2), .int 0, .int 0, .int 0, .int (-1), .int 0, .int 0, .int 0, .int 0, .long 0, .ref (r 3), .ref (r 4), .ref (r 5), .ref (r 6), .ref (r 7), .ref (r 8), .ref (r 9), .ref (r 10), .ref (r 11), .ref (r 12), .ref (r 13), .ref (r 14), .ref (r 15), .ref (r 16), .ref (r 17), .ref (r 18), .ref (r 19), .ref (r 20), .ref (r 21), .ref (r 22), .ref (r 23), .ref (r 24), .int 0, .int 0, .int 0, .int 0, .int 0, .int 0, .int 0, .int 0, .int 0, .ref (r 25), .ref (r 26), .ref (r 27), .int 0, .int 0, .ref (r 28), .int 0, .ref (r 29), .ref (r 30), .ref (r 31), .ref (r 32), .ref (r 33), .ref (r 34), .ref (r 35), .ref (r 36), .int 0, .int 0, .int 0, .ref (r 37), .ref (r 38)])), (r 5, .inl ((c 5), 2, .inl f5))] sz)) 0 0 (va_A [(r 0, .inr (8, [.ref (r 1), .ref (r 2), .int 0, .int 0, .int 0, .int (-1), .int 0, .int 0, .int 0, .int 0, .long 0, .ref (r 3), .ref (r 4), .ref (r 5), .ref (r 6), .ref (r 7), .ref (r 8), .ref (r 9), .ref (r 10), .ref (r 11), .ref (r 12), .ref (r 13), .ref (r 14), .ref (r 15), .ref (r 16), .ref (r 17), .ref (r 18), .ref (r 19), .ref (r 20), .ref (r 21), .ref (r 22), .ref (r 23), .ref (r 24), .int 0, .int 0, .int 0, .int 0, .int 0, .int 0, .int 0, .int 0, .int 0, .ref (r 25), .ref (r 26), .ref (r 27), .int 0, .int 0, .ref (r 28), .int 0, .ref (r 29), .ref (r 30), .ref (r 31), .ref (r 32), .ref (r 33), .ref (r 34), .ref (r 35), .ref (r 36), .int 0, .int 0, .int 0, .ref (r 37), .ref (r 38)])), (r 5, .inl ((c 5), 2, .inl f5))] sz) := by
  refine Met.ofW (cc := cX9_fashion) (maxL := 6) (ret := (some .int)) (by decide) rfl ?_
  intro p e s m args below meth c0 s₁ B hml hv
  obtain ⟨rfl, hsz, hP, hK, hD0⟩ := hv
  have hx := B.exec
  have hb := B.bytes
  have hr := B.returns
  have hts := atoms_spec (ws := .code yX9_fashion cX9_fashion 6 (some .int) :: GW) B.pre
  have hG : ∀ w ∈ GW, w.before _ s = true := fun w h => hts w (List.mem_cons_of_mem _ h)
  have hown : s.vm.findClass RX9 = some m.cls := findClass_of_methodNamed B.named
  have hlocks := B.notSynchronized
  subst hsz
  have hD := hD0.self (sz := s.heap.size)
  generalize hAe : va_A [(r 0, .inr (8, [.ref (r 1), .ref (r 2), .int 0, .int 0, .int 0, .int (-1), .int 0, .int 0, .int 0, .int 0, .long 0, .ref (r 3), .ref (r 4), .ref (r 5), .ref (r 6), .ref (r 7), .ref (r 8), .ref (r 9), .ref (r 10), .ref (r 11), .ref (r 12), .ref (r 13), .ref (r 14), .ref (r 15), .ref (r 16), .ref (r 17), .ref (r 18), .ref (r 19), .ref (r 20), .ref (r 21), .ref (r 22), .ref (r 23), .ref (r 24), .int 0, .int 0, .int 0, .int 0, .int 0, .int 0, .int 0, .int 0, .int 0, .ref (r 25), .ref (r 26), .ref (r 27), .int 0, .int 0, .ref (r 28), .int 0, .ref (r 29), .ref (r 30), .ref (r 31), .ref (r 32), .ref (r 33), .ref (r 34), .ref (r 35), .ref (r 36), .int 0, .int 0, .int 0, .ref (r 37), .ref (r 38)])), (r 5, .inl ((c 5), 2, .inl f5))] s.heap.size = A at hD ⊢
  have hA : ∀ q : Nat, s.heap.size ≤ q → A q := fun q h => by rw [← hAe]; exact Or.inr h
  have hS : va_S A s.heap s.heap [] := va_S.rf
  have hP : va_P (dC, dI) vwCl [(r 0, .inr (8, [.ref (r 1), .ref (r 2), .int 0, .int 0, .int 0, .int (-1), .int 0, .int 0, .int 0, .int 0, .long 0, .ref (r 3), .ref (r 4), .ref (r 5), .ref (r 6), .ref (r 7), .ref (r 8), .ref (r 9), .ref (r 10), .ref (r 11), .ref (r 12), .ref (r 13), .ref (r 14), .ref (r 15), .ref (r 16), .ref (r 17), .ref (r 18), .ref (r 19), .ref (r 20), .ref (r 21), .ref (r 22), .ref (r 23), .ref (r 24), .int 0, .int 0, .int 0, .int 0, .int 0, .int 0, .int 0, .int 0, .int 0, .ref (r 25), .ref (r 26), .ref (r 27), .int 0, .int 0, .ref (r 28), .int 0, .ref (r 29), .ref (r 30), .ref (r 31), .ref (r 32), .ref (r 33), .ref (r 34), .ref (r 35), .ref (r 36), .int 0, .int 0, .int 0, .ref (r 37), .ref (r 38)])), (r 5, .inl ((c 5), 2, .inl f5))] s.heap := hP
  have hl := lv_entry ([.ref (r 0)]) (n := 6) (Nat.le_of_ble_eq_true rfl)
  rw [lg_entry_eq]
  generalize (lg_sl ([.ref (r 0)]) ++ List.replicate (6 - (lg_sl ([.ref (r 0)])).length) Slot.unset).toArray = ls at hl ⊢
  have hl : lv_has ls 6 [(0, .ref (r 0))] := hl
  refine lv_iconst (v := (-1)) hx hb dX9_fashion_0 (by decide) ?_
  refine lv_istore_n (lv' := [(1, .int (-1)), (0, .ref (r 0))]) hx hb dX9_fashion_1 rfl hl (by decide) rfl (fun ls hl => ?_)
  refine lv_iconst (v := 0) hx hb dX9_fashion_2 (by decide) ?_
  refine lv_istore_n (lv' := [(2, .int 0), (1, .int (-1)), (0, .ref (r 0))]) hx hb dX9_fashion_3 rfl hl (by decide) rfl (fun ls hl => ?_)
  refine lv_iconst (v := 0) hx hb dX9_fashion_4 (by decide) ?_
  refine lv_istore_n (lv' := [(3, .int 0), (2, .int 0), (1, .int (-1)), (0, .ref (r 0))]) hx hb dX9_fashion_5 rfl hl (by decide) rfl (fun ls hl => ?_)
  refine lv_iload_n hx hb dX9_fashion_6 rfl (lv_at hl 0 rfl) ?_
  refine lv_bipush (v := 7) hx hb dX9_fashion_7 (by decide) ?_
  refine lv_icmp_ge (tgt := 96) hx hb dX9_fashion_9 (by decide) (fun c_1 => absurd c_1 (by decide)) (fun c_1 => ?_)
  refine lv_iconst (v := 0) hx hb dX9_fashion_12 (by decide) ?_
  refine lv_istore (lv' := [(4, .int 0), (3, .int 0), (2, .int 0), (1, .int (-1)), (0, .ref (r 0))]) hx hb dX9_fashion_13 hl (by decide) rfl (fun ls hl => ?_)
  refine lv_iconst (v := 0) hx hb dX9_fashion_15 (by decide) ?_
  refine lv_istore (lv' := [(5, .int 0), (4, .int 0), (3, .int 0), (2, .int 0), (1, .int (-1)), (0, .ref (r 0))]) hx hb dX9_fashion_16 hl (by decide) rfl (fun ls hl => ?_)
  refine lv_iload hx hb dX9_fashion_18 (lv_at hl 0 rfl) ?_
  refine lv_aload_n hx hb dX9_fashion_20 rfl (lv_at hl 5 rfl) ?_
  have hPc := hP.sub (ws' := [(r 0, .inr (8, [.ref (r 1), .ref (r 2), .int 0, .int 0, .int 0, .int (-1), .int 0, .int 0, .int 0, .int 0, .long 0, .ref (r 3), .ref (r 4), .ref (r 5), .ref (r 6), .ref (r 7), .ref (r 8), .ref (r 9), .ref (r 10), .ref (r 11), .ref (r 12), .ref (r 13), .ref (r 14), .ref (r 15), .ref (r 16), .ref (r 17), .ref (r 18), .ref (r 19), .ref (r 20), .ref (r 21), .ref (r 22), .ref (r 23), .ref (r 24), .int 0, .int 0, .int 0, .int 0, .int 0, .int 0, .int 0, .int 0, .int 0, .ref (r 25), .ref (r 26), .ref (r 27), .int 0, .int 0, .ref (r 28), .int 0, .ref (r 29), .ref (r 30), .ref (r 31), .ref (r 32), .ref (r 33), .ref (r 34), .ref (r 35), .ref (r 36), .int 0, .int 0, .int 0, .ref (r 37), .ref (r 38)])), (r 5, .inl ((c 5), 2, .inl f5))]) [0, 1] rfl
  have hKc := hK.sub (tys' := [((c 5), .int)]) [0] rfl
  have hDc := hD.sub (ws' := [(r 0, .inr (8, [.ref (r 1), .ref (r 2), .int 0, .int 0, .int 0, .int (-1), .int 0, .int 0, .int 0, .int 0, .long 0, .ref (r 3), .ref (r 4), .ref (r 5), .ref (r 6), .ref (r 7), .ref (r 8), .ref (r 9), .ref (r 10), .ref (r 11), .ref (r 12), .ref (r 13), .ref (r 14), .ref (r 15), .ref (r 16), .ref (r 17), .ref (r 18), .ref (r 19), .ref (r 20), .ref (r 21), .ref (r 22), .ref (r 23), .ref (r 24), .int 0, .int 0, .int 0, .int 0, .int 0, .int 0, .int 0, .int 0, .int 0, .ref (r 25), .ref (r 26), .ref (r 27), .int 0, .int 0, .ref (r 28), .int 0, .ref (r 29), .ref (r 30), .ref (r 31), .ref (r 32), .ref (r 33), .ref (r 34), .ref (r 35), .ref (r 36), .int 0, .int 0, .int 0, .ref (r 37), .ref (r 38)])), (r 5, .inl ((c 5), 2, .inl f5))]) [0, 1] (by decide) rfl
  have hFc := va_free (wc := [(r 0, .inr (8, [.ref (r 1), .ref (r 2), .int 0, .int 0, .int 0, .int (-1), .int 0, .int 0, .int 0, .int 0, .long 0, .ref (r 3), .ref (r 4), .ref (r 5), .ref (r 6), .ref (r 7), .ref (r 8), .ref (r 9), .ref (r 10), .ref (r 11), .ref (r 12), .ref (r 13), .ref (r 14), .ref (r 15), .ref (r 16), .ref (r 17), .ref (r 18), .ref (r 19), .ref (r 20), .ref (r 21), .ref (r 22), .ref (r 23), .ref (r 24), .int 0, .int 0, .int 0, .int 0, .int 0, .int 0, .int 0, .int 0, .int 0, .ref (r 25), .ref (r 26), .ref (r 27), .int 0, .int 0, .ref (r 28), .int 0, .ref (r 29), .ref (r 30), .ref (r 31), .ref (r 32), .ref (r 33), .ref (r 34), .ref (r 35), .ref (r 36), .int 0, .int 0, .int 0, .ref (r 37), .ref (r 38)])), (r 5, .inl ((c 5), 2, .inl f5))]) hD hS hA [0, 1] rfl
  refine va_calli (va_runV (As := []) (rest := [.int 0]) ⟨hx, hb, hml, hown, hG⟩ (kX9_homes l dC dI r c f5 s.heap.size hf5_0) (cwV 0 hG (goodV gw1167 gw1169 gw58 gw138 gw1170) rfl rfl rfl hd_X9_homes ⟨(Nat.le_of_ble_eq_true rfl), (Nat.le_of_ble_eq_true rfl)⟩) ⟨fbW, va_recv hKc hPc (ci := 8) (q0 := 0) rfl rfl, pW_in hPc hKc hDc⟩ rfl rfl hl.1 rfl (lv_room (Nat.le_of_ble_eq_true rfl)) dX9_fashion_21 ⟨(Nat.le_of_ble_eq_true rfl), (Nat.le_of_ble_eq_true rfl)⟩) hS (fun q _ h => hFc q h) hFc (fun r_3 u t H2 locs ht hvm hw hB hz1 hk1 hS => ?_)
  obtain ⟨hP1, hD1⟩ := hB
  rw [ht] at hP1
  obtain ⟨hP, hD⟩ := va_join (wr := []) (w1 := [(r 0, .inr (8, [.ref (r 1), .ref (r 2), .int 0, .int 0, .int 0, .int (-1), .int 0, .int 0, .int 0, .int 0, .long 0, .ref (r 3), .ref (r 4), .ref (r 5), .ref (r 6), .ref (r 7), .ref (r 8), .ref (r 9), .ref (r 10), .ref (r 11), .ref (r 12), .ref (r 13), .ref (r 14), .ref (r 15), .ref (r 16), .ref (r 17), .ref (r 18), .ref (r 19), .ref (r 20), .ref (r 21), .ref (r 22), .ref (r 23), .ref (r 24), .int 0, .int 0, .int 0, .int 0, .int 0, .int 0, .int 0, .int 0, .int 0, .ref (r 25), .ref (r 26), .ref (r 27), .int 0, .int 0, .ref (r 28), .int 0, .ref (r 29), .ref (r 30), .ref (r 31), .ref (r 32), .ref (r 33), .ref (r 34), .ref (r 35), .ref (r 36), .int 0, .int 0, .int 0, .ref (r 37), .ref (r 38)])), (r 5, .inl ((c 5), 2, .inl f5))]) hP hD [0, 1] [] rfl rfl (by decide) (by decide) hk1 hFc hP1 hD1
  have hP : va_P (dC, dI) vwCl [(r 0, .inr (8, [.ref (r 1), .ref (r 2), .int 0, .int 0, .int 0, .int (-1), .int 0, .int 0, .int 0, .int 0, .long 0, .ref (r 3), .ref (r 4), .ref (r 5), .ref (r 6), .ref (r 7), .ref (r 8), .ref (r 9), .ref (r 10), .ref (r 11), .ref (r 12), .ref (r 13), .ref (r 14), .ref (r 15), .ref (r 16), .ref (r 17), .ref (r 18), .ref (r 19), .ref (r 20), .ref (r 21), .ref (r 22), .ref (r 23), .ref (r 24), .int 0, .int 0, .int 0, .int 0, .int 0, .int 0, .int 0, .int 0, .int 0, .ref (r 25), .ref (r 26), .ref (r 27), .int 0, .int 0, .ref (r 28), .int 0, .ref (r 29), .ref (r 30), .ref (r 31), .ref (r 32), .ref (r 33), .ref (r 34), .ref (r 35), .ref (r 36), .int 0, .int 0, .int 0, .ref (r 37), .ref (r 38)])), (r 5, .inl ((c 5), 2, .inl f5))] H2 := hP
  have hD : va_D A [(r 0, .inr (8, [.ref (r 1), .ref (r 2), .int 0, .int 0, .int 0, .int (-1), .int 0, .int 0, .int 0, .int 0, .long 0, .ref (r 3), .ref (r 4), .ref (r 5), .ref (r 6), .ref (r 7), .ref (r 8), .ref (r 9), .ref (r 10), .ref (r 11), .ref (r 12), .ref (r 13), .ref (r 14), .ref (r 15), .ref (r 16), .ref (r 17), .ref (r 18), .ref (r 19), .ref (r 20), .ref (r 21), .ref (r 22), .ref (r 23), .ref (r 24), .int 0, .int 0, .int 0, .int 0, .int 0, .int 0, .int 0, .int 0, .int 0, .ref (r 25), .ref (r 26), .ref (r 27), .int 0, .int 0, .ref (r 28), .int 0, .ref (r 29), .ref (r 30), .ref (r 31), .ref (r 32), .ref (r 33), .ref (r 34), .ref (r 35), .ref (r 36), .int 0, .int 0, .int 0, .ref (r 37), .ref (r 38)])), (r 5, .inl ((c 5), 2, .inl f5))] := hD
  refine wt_c (v := 0) hw ?_
  refine lv_icmp_ge (tgt := 76) hx hb dX9_fashion_24 (by decide) (fun c_4 => ?_) (fun c_4 => absurd (by decide) c_4)
  refine lv_iload hx hb dX9_fashion_76 (lv_at hl 1 rfl) ?_
  refine lv_iload_n hx hb dX9_fashion_78 rfl (lv_at hl 3 rfl) ?_
  refine lv_icmp_gt (tgt := 85) hx hb dX9_fashion_79 (by decide) (fun c_5 => absurd c_5 (by decide)) (fun c_5 => ?_)
  refine lv_goto (tgt := 90) hx hb dX9_fashion_82 (by decide) ?_
  refine lv_iinc (v := 1) (lv' := [(3, .int 1), (5, .int 0), (4, .int 0), (2, .int 0), (1, .int (-1)), (0, .ref (r 0))]) hx hb dX9_fashion_90 hl (k := 2) rfl (by decide) (by decide) rfl (fun ls hl => ?_)
  refine lv_goto (tgt := 6) hx hb dX9_fashion_93 (by decide) ?_
  refine lv_iload_n hx hb dX9_fashion_6 rfl (lv_at hl 0 rfl) ?_
  refine lv_bipush (v := 7) hx hb dX9_fashion_7 (by decide) ?_
  refine lv_icmp_ge (tgt := 96) hx hb dX9_fashion_9 (by decide) (fun c_6 => absurd c_6 (by decide)) (fun c_6 => ?_)
  refine lv_iconst (v := 0) hx hb dX9_fashion_12 (by decide) ?_
  refine lv_istore (lv' := [(4, .int 0), (3, .int 1), (5, .int 0), (2, .int 0), (1, .int (-1)), (0, .ref (r 0))]) hx hb dX9_fashion_13 hl (by decide) rfl (fun ls hl => ?_)
  refine lv_iconst (v := 0) hx hb dX9_fashion_15 (by decide) ?_
  refine lv_istore (lv' := [(5, .int 0), (4, .int 0), (3, .int 1), (2, .int 0), (1, .int (-1)), (0, .ref (r 0))]) hx hb dX9_fashion_16 hl (by decide) rfl (fun ls hl => ?_)
  refine lv_iload hx hb dX9_fashion_18 (lv_at hl 0 rfl) ?_
  refine lv_aload_n hx hb dX9_fashion_20 rfl (lv_at hl 5 rfl) ?_
  have hPc := hP.sub (ws' := [(r 0, .inr (8, [.ref (r 1), .ref (r 2), .int 0, .int 0, .int 0, .int (-1), .int 0, .int 0, .int 0, .int 0, .long 0, .ref (r 3), .ref (r 4), .ref (r 5), .ref (r 6), .ref (r 7), .ref (r 8), .ref (r 9), .ref (r 10), .ref (r 11), .ref (r 12), .ref (r 13), .ref (r 14), .ref (r 15), .ref (r 16), .ref (r 17), .ref (r 18), .ref (r 19), .ref (r 20), .ref (r 21), .ref (r 22), .ref (r 23), .ref (r 24), .int 0, .int 0, .int 0, .int 0, .int 0, .int 0, .int 0, .int 0, .int 0, .ref (r 25), .ref (r 26), .ref (r 27), .int 0, .int 0, .ref (r 28), .int 0, .ref (r 29), .ref (r 30), .ref (r 31), .ref (r 32), .ref (r 33), .ref (r 34), .ref (r 35), .ref (r 36), .int 0, .int 0, .int 0, .ref (r 37), .ref (r 38)])), (r 5, .inl ((c 5), 2, .inl f5))]) [0, 1] rfl
  have hKc := hK.sub (tys' := [((c 5), .int)]) [0] rfl
  have hDc := hD.sub (ws' := [(r 0, .inr (8, [.ref (r 1), .ref (r 2), .int 0, .int 0, .int 0, .int (-1), .int 0, .int 0, .int 0, .int 0, .long 0, .ref (r 3), .ref (r 4), .ref (r 5), .ref (r 6), .ref (r 7), .ref (r 8), .ref (r 9), .ref (r 10), .ref (r 11), .ref (r 12), .ref (r 13), .ref (r 14), .ref (r 15), .ref (r 16), .ref (r 17), .ref (r 18), .ref (r 19), .ref (r 20), .ref (r 21), .ref (r 22), .ref (r 23), .ref (r 24), .int 0, .int 0, .int 0, .int 0, .int 0, .int 0, .int 0, .int 0, .int 0, .ref (r 25), .ref (r 26), .ref (r 27), .int 0, .int 0, .ref (r 28), .int 0, .ref (r 29), .ref (r 30), .ref (r 31), .ref (r 32), .ref (r 33), .ref (r 34), .ref (r 35), .ref (r 36), .int 0, .int 0, .int 0, .ref (r 37), .ref (r 38)])), (r 5, .inl ((c 5), 2, .inl f5))]) [0, 1] (by decide) rfl
  have hFc := va_free (wc := [(r 0, .inr (8, [.ref (r 1), .ref (r 2), .int 0, .int 0, .int 0, .int (-1), .int 0, .int 0, .int 0, .int 0, .long 0, .ref (r 3), .ref (r 4), .ref (r 5), .ref (r 6), .ref (r 7), .ref (r 8), .ref (r 9), .ref (r 10), .ref (r 11), .ref (r 12), .ref (r 13), .ref (r 14), .ref (r 15), .ref (r 16), .ref (r 17), .ref (r 18), .ref (r 19), .ref (r 20), .ref (r 21), .ref (r 22), .ref (r 23), .ref (r 24), .int 0, .int 0, .int 0, .int 0, .int 0, .int 0, .int 0, .int 0, .int 0, .ref (r 25), .ref (r 26), .ref (r 27), .int 0, .int 0, .ref (r 28), .int 0, .ref (r 29), .ref (r 30), .ref (r 31), .ref (r 32), .ref (r 33), .ref (r 34), .ref (r 35), .ref (r 36), .int 0, .int 0, .int 0, .ref (r 37), .ref (r 38)])), (r 5, .inl ((c 5), 2, .inl f5))]) hD hS hA [0, 1] rfl
  refine va_calli (va_runV (As := []) (rest := [.int 0]) ⟨hx, hb, hml, hown, hG⟩ (kX9_homes l dC dI r c f5 H2.size hf5_0) (cwV 0 hG (goodV gw1167 gw1169 gw58 gw138 gw1170) rfl rfl rfl hd_X9_homes ⟨(Nat.le_of_ble_eq_true rfl), (Nat.le_of_ble_eq_true rfl)⟩) ⟨fbW, va_recv hKc hPc (ci := 8) (q0 := 0) rfl rfl, pW_in hPc hKc hDc⟩ rfl rfl hl.1 rfl (lv_room (Nat.le_of_ble_eq_true rfl)) dX9_fashion_21 ⟨(Nat.le_of_ble_eq_true rfl), (Nat.le_of_ble_eq_true rfl)⟩) hS (fun q _ h => hFc q h) hFc (fun r_8 u t H7 locs ht hvm hw hB hz1 hk1 hS => ?_)
  obtain ⟨hP1, hD1⟩ := hB
  rw [ht] at hP1
  obtain ⟨hP, hD⟩ := va_join (wr := []) (w1 := [(r 0, .inr (8, [.ref (r 1), .ref (r 2), .int 0, .int 0, .int 0, .int (-1), .int 0, .int 0, .int 0, .int 0, .long 0, .ref (r 3), .ref (r 4), .ref (r 5), .ref (r 6), .ref (r 7), .ref (r 8), .ref (r 9), .ref (r 10), .ref (r 11), .ref (r 12), .ref (r 13), .ref (r 14), .ref (r 15), .ref (r 16), .ref (r 17), .ref (r 18), .ref (r 19), .ref (r 20), .ref (r 21), .ref (r 22), .ref (r 23), .ref (r 24), .int 0, .int 0, .int 0, .int 0, .int 0, .int 0, .int 0, .int 0, .int 0, .ref (r 25), .ref (r 26), .ref (r 27), .int 0, .int 0, .ref (r 28), .int 0, .ref (r 29), .ref (r 30), .ref (r 31), .ref (r 32), .ref (r 33), .ref (r 34), .ref (r 35), .ref (r 36), .int 0, .int 0, .int 0, .ref (r 37), .ref (r 38)])), (r 5, .inl ((c 5), 2, .inl f5))]) hP hD [0, 1] [] rfl rfl (by decide) (by decide) hk1 hFc hP1 hD1
  have hP : va_P (dC, dI) vwCl [(r 0, .inr (8, [.ref (r 1), .ref (r 2), .int 0, .int 0, .int 0, .int (-1), .int 0, .int 0, .int 0, .int 0, .long 0, .ref (r 3), .ref (r 4), .ref (r 5), .ref (r 6), .ref (r 7), .ref (r 8), .ref (r 9), .ref (r 10), .ref (r 11), .ref (r 12), .ref (r 13), .ref (r 14), .ref (r 15), .ref (r 16), .ref (r 17), .ref (r 18), .ref (r 19), .ref (r 20), .ref (r 21), .ref (r 22), .ref (r 23), .ref (r 24), .int 0, .int 0, .int 0, .int 0, .int 0, .int 0, .int 0, .int 0, .int 0, .ref (r 25), .ref (r 26), .ref (r 27), .int 0, .int 0, .ref (r 28), .int 0, .ref (r 29), .ref (r 30), .ref (r 31), .ref (r 32), .ref (r 33), .ref (r 34), .ref (r 35), .ref (r 36), .int 0, .int 0, .int 0, .ref (r 37), .ref (r 38)])), (r 5, .inl ((c 5), 2, .inl f5))] H7 := hP
  have hD : va_D A [(r 0, .inr (8, [.ref (r 1), .ref (r 2), .int 0, .int 0, .int 0, .int (-1), .int 0, .int 0, .int 0, .int 0, .long 0, .ref (r 3), .ref (r 4), .ref (r 5), .ref (r 6), .ref (r 7), .ref (r 8), .ref (r 9), .ref (r 10), .ref (r 11), .ref (r 12), .ref (r 13), .ref (r 14), .ref (r 15), .ref (r 16), .ref (r 17), .ref (r 18), .ref (r 19), .ref (r 20), .ref (r 21), .ref (r 22), .ref (r 23), .ref (r 24), .int 0, .int 0, .int 0, .int 0, .int 0, .int 0, .int 0, .int 0, .int 0, .ref (r 25), .ref (r 26), .ref (r 27), .int 0, .int 0, .ref (r 28), .int 0, .ref (r 29), .ref (r 30), .ref (r 31), .ref (r 32), .ref (r 33), .ref (r 34), .ref (r 35), .ref (r 36), .int 0, .int 0, .int 0, .ref (r 37), .ref (r 38)])), (r 5, .inl ((c 5), 2, .inl f5))] := hD
  refine wt_c (v := 0) hw ?_
  refine lv_icmp_ge (tgt := 76) hx hb dX9_fashion_24 (by decide) (fun c_9 => ?_) (fun c_9 => absurd (by decide) c_9)
  refine lv_iload hx hb dX9_fashion_76 (lv_at hl 1 rfl) ?_
  refine lv_iload_n hx hb dX9_fashion_78 rfl (lv_at hl 3 rfl) ?_
  refine lv_icmp_gt (tgt := 85) hx hb dX9_fashion_79 (by decide) (fun c_10 => absurd c_10 (by decide)) (fun c_10 => ?_)
  refine lv_goto (tgt := 90) hx hb dX9_fashion_82 (by decide) ?_
  refine lv_iinc (v := 2) (lv' := [(3, .int 2), (5, .int 0), (4, .int 0), (2, .int 0), (1, .int (-1)), (0, .ref (r 0))]) hx hb dX9_fashion_90 hl (k := 2) rfl (by decide) (by decide) rfl (fun ls hl => ?_)
  refine lv_goto (tgt := 6) hx hb dX9_fashion_93 (by decide) ?_
  refine lv_iload_n hx hb dX9_fashion_6 rfl (lv_at hl 0 rfl) ?_
  refine lv_bipush (v := 7) hx hb dX9_fashion_7 (by decide) ?_
  refine lv_icmp_ge (tgt := 96) hx hb dX9_fashion_9 (by decide) (fun c_11 => absurd c_11 (by decide)) (fun c_11 => ?_)
  refine lv_iconst (v := 0) hx hb dX9_fashion_12 (by decide) ?_
  refine lv_istore (lv' := [(4, .int 0), (3, .int 2), (5, .int 0), (2, .int 0), (1, .int (-1)), (0, .ref (r 0))]) hx hb dX9_fashion_13 hl (by decide) rfl (fun ls hl => ?_)
  refine lv_iconst (v := 0) hx hb dX9_fashion_15 (by decide) ?_
  refine lv_istore (lv' := [(5, .int 0), (4, .int 0), (3, .int 2), (2, .int 0), (1, .int (-1)), (0, .ref (r 0))]) hx hb dX9_fashion_16 hl (by decide) rfl (fun ls hl => ?_)
  refine lv_iload hx hb dX9_fashion_18 (lv_at hl 0 rfl) ?_
  refine lv_aload_n hx hb dX9_fashion_20 rfl (lv_at hl 5 rfl) ?_
  have hPc := hP.sub (ws' := [(r 0, .inr (8, [.ref (r 1), .ref (r 2), .int 0, .int 0, .int 0, .int (-1), .int 0, .int 0, .int 0, .int 0, .long 0, .ref (r 3), .ref (r 4), .ref (r 5), .ref (r 6), .ref (r 7), .ref (r 8), .ref (r 9), .ref (r 10), .ref (r 11), .ref (r 12), .ref (r 13), .ref (r 14), .ref (r 15), .ref (r 16), .ref (r 17), .ref (r 18), .ref (r 19), .ref (r 20), .ref (r 21), .ref (r 22), .ref (r 23), .ref (r 24), .int 0, .int 0, .int 0, .int 0, .int 0, .int 0, .int 0, .int 0, .int 0, .ref (r 25), .ref (r 26), .ref (r 27), .int 0, .int 0, .ref (r 28), .int 0, .ref (r 29), .ref (r 30), .ref (r 31), .ref (r 32), .ref (r 33), .ref (r 34), .ref (r 35), .ref (r 36), .int 0, .int 0, .int 0, .ref (r 37), .ref (r 38)])), (r 5, .inl ((c 5), 2, .inl f5))]) [0, 1] rfl
  have hKc := hK.sub (tys' := [((c 5), .int)]) [0] rfl
  have hDc := hD.sub (ws' := [(r 0, .inr (8, [.ref (r 1), .ref (r 2), .int 0, .int 0, .int 0, .int (-1), .int 0, .int 0, .int 0, .int 0, .long 0, .ref (r 3), .ref (r 4), .ref (r 5), .ref (r 6), .ref (r 7), .ref (r 8), .ref (r 9), .ref (r 10), .ref (r 11), .ref (r 12), .ref (r 13), .ref (r 14), .ref (r 15), .ref (r 16), .ref (r 17), .ref (r 18), .ref (r 19), .ref (r 20), .ref (r 21), .ref (r 22), .ref (r 23), .ref (r 24), .int 0, .int 0, .int 0, .int 0, .int 0, .int 0, .int 0, .int 0, .int 0, .ref (r 25), .ref (r 26), .ref (r 27), .int 0, .int 0, .ref (r 28), .int 0, .ref (r 29), .ref (r 30), .ref (r 31), .ref (r 32), .ref (r 33), .ref (r 34), .ref (r 35), .ref (r 36), .int 0, .int 0, .int 0, .ref (r 37), .ref (r 38)])), (r 5, .inl ((c 5), 2, .inl f5))]) [0, 1] (by decide) rfl
  have hFc := va_free (wc := [(r 0, .inr (8, [.ref (r 1), .ref (r 2), .int 0, .int 0, .int 0, .int (-1), .int 0, .int 0, .int 0, .int 0, .long 0, .ref (r 3), .ref (r 4), .ref (r 5), .ref (r 6), .ref (r 7), .ref (r 8), .ref (r 9), .ref (r 10), .ref (r 11), .ref (r 12), .ref (r 13), .ref (r 14), .ref (r 15), .ref (r 16), .ref (r 17), .ref (r 18), .ref (r 19), .ref (r 20), .ref (r 21), .ref (r 22), .ref (r 23), .ref (r 24), .int 0, .int 0, .int 0, .int 0, .int 0, .int 0, .int 0, .int 0, .int 0, .ref (r 25), .ref (r 26), .ref (r 27), .int 0, .int 0, .ref (r 28), .int 0, .ref (r 29), .ref (r 30), .ref (r 31), .ref (r 32), .ref (r 33), .ref (r 34), .ref (r 35), .ref (r 36), .int 0, .int 0, .int 0, .ref (r 37), .ref (r 38)])), (r 5, .inl ((c 5), 2, .inl f5))]) hD hS hA [0, 1] rfl
  refine va_calli (va_runV (As := []) (rest := [.int 0]) ⟨hx, hb, hml, hown, hG⟩ (kX9_homes l dC dI r c f5 H7.size hf5_0) (cwV 0 hG (goodV gw1167 gw1169 gw58 gw138 gw1170) rfl rfl rfl hd_X9_homes ⟨(Nat.le_of_ble_eq_true rfl), (Nat.le_of_ble_eq_true rfl)⟩) ⟨fbW, va_recv hKc hPc (ci := 8) (q0 := 0) rfl rfl, pW_in hPc hKc hDc⟩ rfl rfl hl.1 rfl (lv_room (Nat.le_of_ble_eq_true rfl)) dX9_fashion_21 ⟨(Nat.le_of_ble_eq_true rfl), (Nat.le_of_ble_eq_true rfl)⟩) hS (fun q _ h => hFc q h) hFc (fun r_13 u t H12 locs ht hvm hw hB hz1 hk1 hS => ?_)
  obtain ⟨hP1, hD1⟩ := hB
  rw [ht] at hP1
  obtain ⟨hP, hD⟩ := va_join (wr := []) (w1 := [(r 0, .inr (8, [.ref (r 1), .ref (r 2), .int 0, .int 0, .int 0, .int (-1), .int 0, .int 0, .int 0, .int 0, .long 0, .ref (r 3), .ref (r 4), .ref (r 5), .ref (r 6), .ref (r 7), .ref (r 8), .ref (r 9), .ref (r 10), .ref (r 11), .ref (r 12), .ref (r 13), .ref (r 14), .ref (r 15), .ref (r 16), .ref (r 17), .ref (r 18), .ref (r 19), .ref (r 20), .ref (r 21), .ref (r 22), .ref (r 23), .ref (r 24), .int 0, .int 0, .int 0, .int 0, .int 0, .int 0, .int 0, .int 0, .int 0, .ref (r 25), .ref (r 26), .ref (r 27), .int 0, .int 0, .ref (r 28), .int 0, .ref (r 29), .ref (r 30), .ref (r 31), .ref (r 32), .ref (r 33), .ref (r 34), .ref (r 35), .ref (r 36), .int 0, .int 0, .int 0, .ref (r 37), .ref (r 38)])), (r 5, .inl ((c 5), 2, .inl f5))]) hP hD [0, 1] [] rfl rfl (by decide) (by decide) hk1 hFc hP1 hD1
  have hP : va_P (dC, dI) vwCl [(r 0, .inr (8, [.ref (r 1), .ref (r 2), .int 0, .int 0, .int 0, .int (-1), .int 0, .int 0, .int 0, .int 0, .long 0, .ref (r 3), .ref (r 4), .ref (r 5), .ref (r 6), .ref (r 7), .ref (r 8), .ref (r 9), .ref (r 10), .ref (r 11), .ref (r 12), .ref (r 13), .ref (r 14), .ref (r 15), .ref (r 16), .ref (r 17), .ref (r 18), .ref (r 19), .ref (r 20), .ref (r 21), .ref (r 22), .ref (r 23), .ref (r 24), .int 0, .int 0, .int 0, .int 0, .int 0, .int 0, .int 0, .int 0, .int 0, .ref (r 25), .ref (r 26), .ref (r 27), .int 0, .int 0, .ref (r 28), .int 0, .ref (r 29), .ref (r 30), .ref (r 31), .ref (r 32), .ref (r 33), .ref (r 34), .ref (r 35), .ref (r 36), .int 0, .int 0, .int 0, .ref (r 37), .ref (r 38)])), (r 5, .inl ((c 5), 2, .inl f5))] H12 := hP
  have hD : va_D A [(r 0, .inr (8, [.ref (r 1), .ref (r 2), .int 0, .int 0, .int 0, .int (-1), .int 0, .int 0, .int 0, .int 0, .long 0, .ref (r 3), .ref (r 4), .ref (r 5), .ref (r 6), .ref (r 7), .ref (r 8), .ref (r 9), .ref (r 10), .ref (r 11), .ref (r 12), .ref (r 13), .ref (r 14), .ref (r 15), .ref (r 16), .ref (r 17), .ref (r 18), .ref (r 19), .ref (r 20), .ref (r 21), .ref (r 22), .ref (r 23), .ref (r 24), .int 0, .int 0, .int 0, .int 0, .int 0, .int 0, .int 0, .int 0, .int 0, .ref (r 25), .ref (r 26), .ref (r 27), .int 0, .int 0, .ref (r 28), .int 0, .ref (r 29), .ref (r 30), .ref (r 31), .ref (r 32), .ref (r 33), .ref (r 34), .ref (r 35), .ref (r 36), .int 0, .int 0, .int 0, .ref (r 37), .ref (r 38)])), (r 5, .inl ((c 5), 2, .inl f5))] := hD
  refine wt_c (v := 0) hw ?_
  refine lv_icmp_ge (tgt := 76) hx hb dX9_fashion_24 (by decide) (fun c_14 => ?_) (fun c_14 => absurd (by decide) c_14)
  refine lv_iload hx hb dX9_fashion_76 (lv_at hl 1 rfl) ?_
  refine lv_iload_n hx hb dX9_fashion_78 rfl (lv_at hl 3 rfl) ?_
  refine lv_icmp_gt (tgt := 85) hx hb dX9_fashion_79 (by decide) (fun c_15 => absurd c_15 (by decide)) (fun c_15 => ?_)
  refine lv_goto (tgt := 90) hx hb dX9_fashion_82 (by decide) ?_
  refine lv_iinc (v := 3) (lv' := [(3, .int 3), (5, .int 0), (4, .int 0), (2, .int 0), (1, .int (-1)), (0, .ref (r 0))]) hx hb dX9_fashion_90 hl (k := 2) rfl (by decide) (by decide) rfl (fun ls hl => ?_)
  refine lv_goto (tgt := 6) hx hb dX9_fashion_93 (by decide) ?_
  refine lv_iload_n hx hb dX9_fashion_6 rfl (lv_at hl 0 rfl) ?_
  refine lv_bipush (v := 7) hx hb dX9_fashion_7 (by decide) ?_
  refine lv_icmp_ge (tgt := 96) hx hb dX9_fashion_9 (by decide) (fun c_16 => absurd c_16 (by decide)) (fun c_16 => ?_)
  refine lv_iconst (v := 0) hx hb dX9_fashion_12 (by decide) ?_
  refine lv_istore (lv' := [(4, .int 0), (3, .int 3), (5, .int 0), (2, .int 0), (1, .int (-1)), (0, .ref (r 0))]) hx hb dX9_fashion_13 hl (by decide) rfl (fun ls hl => ?_)
  refine lv_iconst (v := 0) hx hb dX9_fashion_15 (by decide) ?_
  refine lv_istore (lv' := [(5, .int 0), (4, .int 0), (3, .int 3), (2, .int 0), (1, .int (-1)), (0, .ref (r 0))]) hx hb dX9_fashion_16 hl (by decide) rfl (fun ls hl => ?_)
  refine lv_iload hx hb dX9_fashion_18 (lv_at hl 0 rfl) ?_
  refine lv_aload_n hx hb dX9_fashion_20 rfl (lv_at hl 5 rfl) ?_
  have hPc := hP.sub (ws' := [(r 0, .inr (8, [.ref (r 1), .ref (r 2), .int 0, .int 0, .int 0, .int (-1), .int 0, .int 0, .int 0, .int 0, .long 0, .ref (r 3), .ref (r 4), .ref (r 5), .ref (r 6), .ref (r 7), .ref (r 8), .ref (r 9), .ref (r 10), .ref (r 11), .ref (r 12), .ref (r 13), .ref (r 14), .ref (r 15), .ref (r 16), .ref (r 17), .ref (r 18), .ref (r 19), .ref (r 20), .ref (r 21), .ref (r 22), .ref (r 23), .ref (r 24), .int 0, .int 0, .int 0, .int 0, .int 0, .int 0, .int 0, .int 0, .int 0, .ref (r 25), .ref (r 26), .ref (r 27), .int 0, .int 0, .ref (r 28), .int 0, .ref (r 29), .ref (r 30), .ref (r 31), .ref (r 32), .ref (r 33), .ref (r 34), .ref (r 35), .ref (r 36), .int 0, .int 0, .int 0, .ref (r 37), .ref (r 38)])), (r 5, .inl ((c 5), 2, .inl f5))]) [0, 1] rfl
  have hKc := hK.sub (tys' := [((c 5), .int)]) [0] rfl
  have hDc := hD.sub (ws' := [(r 0, .inr (8, [.ref (r 1), .ref (r 2), .int 0, .int 0, .int 0, .int (-1), .int 0, .int 0, .int 0, .int 0, .long 0, .ref (r 3), .ref (r 4), .ref (r 5), .ref (r 6), .ref (r 7), .ref (r 8), .ref (r 9), .ref (r 10), .ref (r 11), .ref (r 12), .ref (r 13), .ref (r 14), .ref (r 15), .ref (r 16), .ref (r 17), .ref (r 18), .ref (r 19), .ref (r 20), .ref (r 21), .ref (r 22), .ref (r 23), .ref (r 24), .int 0, .int 0, .int 0, .int 0, .int 0, .int 0, .int 0, .int 0, .int 0, .ref (r 25), .ref (r 26), .ref (r 27), .int 0, .int 0, .ref (r 28), .int 0, .ref (r 29), .ref (r 30), .ref (r 31), .ref (r 32), .ref (r 33), .ref (r 34), .ref (r 35), .ref (r 36), .int 0, .int 0, .int 0, .ref (r 37), .ref (r 38)])), (r 5, .inl ((c 5), 2, .inl f5))]) [0, 1] (by decide) rfl
  have hFc := va_free (wc := [(r 0, .inr (8, [.ref (r 1), .ref (r 2), .int 0, .int 0, .int 0, .int (-1), .int 0, .int 0, .int 0, .int 0, .long 0, .ref (r 3), .ref (r 4), .ref (r 5), .ref (r 6), .ref (r 7), .ref (r 8), .ref (r 9), .ref (r 10), .ref (r 11), .ref (r 12), .ref (r 13), .ref (r 14), .ref (r 15), .ref (r 16), .ref (r 17), .ref (r 18), .ref (r 19), .ref (r 20), .ref (r 21), .ref (r 22), .ref (r 23), .ref (r 24), .int 0, .int 0, .int 0, .int 0, .int 0, .int 0, .int 0, .int 0, .int 0, .ref (r 25), .ref (r 26), .ref (r 27), .int 0, .int 0, .ref (r 28), .int 0, .ref (r 29), .ref (r 30), .ref (r 31), .ref (r 32), .ref (r 33), .ref (r 34), .ref (r 35), .ref (r 36), .int 0, .int 0, .int 0, .ref (r 37), .ref (r 38)])), (r 5, .inl ((c 5), 2, .inl f5))]) hD hS hA [0, 1] rfl
  refine va_calli (va_runV (As := []) (rest := [.int 0]) ⟨hx, hb, hml, hown, hG⟩ (kX9_homes l dC dI r c f5 H12.size hf5_0) (cwV 0 hG (goodV gw1167 gw1169 gw58 gw138 gw1170) rfl rfl rfl hd_X9_homes ⟨(Nat.le_of_ble_eq_true rfl), (Nat.le_of_ble_eq_true rfl)⟩) ⟨fbW, va_recv hKc hPc (ci := 8) (q0 := 0) rfl rfl, pW_in hPc hKc hDc⟩ rfl rfl hl.1 rfl (lv_room (Nat.le_of_ble_eq_true rfl)) dX9_fashion_21 ⟨(Nat.le_of_ble_eq_true rfl), (Nat.le_of_ble_eq_true rfl)⟩) hS (fun q _ h => hFc q h) hFc (fun r_18 u t H17 locs ht hvm hw hB hz1 hk1 hS => ?_)
  obtain ⟨hP1, hD1⟩ := hB
  rw [ht] at hP1
  obtain ⟨hP, hD⟩ := va_join (wr := []) (w1 := [(r 0, .inr (8, [.ref (r 1), .ref (r 2), .int 0, .int 0, .int 0, .int (-1), .int 0, .int 0, .int 0, .int 0, .long 0, .ref (r 3), .ref (r 4), .ref (r 5), .ref (r 6), .ref (r 7), .ref (r 8), .ref (r 9), .ref (r 10), .ref (r 11), .ref (r 12), .ref (r 13), .ref (r 14), .ref (r 15), .ref (r 16), .ref (r 17), .ref (r 18), .ref (r 19), .ref (r 20), .ref (r 21), .ref (r 22), .ref (r 23), .ref (r 24), .int 0, .int 0, .int 0, .int 0, .int 0, .int 0, .int 0, .int 0, .int 0, .ref (r 25), .ref (r 26), .ref (r 27), .int 0, .int 0, .ref (r 28), .int 0, .ref (r 29), .ref (r 30), .ref (r 31), .ref (r 32), .ref (r 33), .ref (r 34), .ref (r 35), .ref (r 36), .int 0, .int 0, .int 0, .ref (r 37), .ref (r 38)])), (r 5, .inl ((c 5), 2, .inl f5))]) hP hD [0, 1] [] rfl rfl (by decide) (by decide) hk1 hFc hP1 hD1
  have hP : va_P (dC, dI) vwCl [(r 0, .inr (8, [.ref (r 1), .ref (r 2), .int 0, .int 0, .int 0, .int (-1), .int 0, .int 0, .int 0, .int 0, .long 0, .ref (r 3), .ref (r 4), .ref (r 5), .ref (r 6), .ref (r 7), .ref (r 8), .ref (r 9), .ref (r 10), .ref (r 11), .ref (r 12), .ref (r 13), .ref (r 14), .ref (r 15), .ref (r 16), .ref (r 17), .ref (r 18), .ref (r 19), .ref (r 20), .ref (r 21), .ref (r 22), .ref (r 23), .ref (r 24), .int 0, .int 0, .int 0, .int 0, .int 0, .int 0, .int 0, .int 0, .int 0, .ref (r 25), .ref (r 26), .ref (r 27), .int 0, .int 0, .ref (r 28), .int 0, .ref (r 29), .ref (r 30), .ref (r 31), .ref (r 32), .ref (r 33), .ref (r 34), .ref (r 35), .ref (r 36), .int 0, .int 0, .int 0, .ref (r 37), .ref (r 38)])), (r 5, .inl ((c 5), 2, .inl f5))] H17 := hP
  have hD : va_D A [(r 0, .inr (8, [.ref (r 1), .ref (r 2), .int 0, .int 0, .int 0, .int (-1), .int 0, .int 0, .int 0, .int 0, .long 0, .ref (r 3), .ref (r 4), .ref (r 5), .ref (r 6), .ref (r 7), .ref (r 8), .ref (r 9), .ref (r 10), .ref (r 11), .ref (r 12), .ref (r 13), .ref (r 14), .ref (r 15), .ref (r 16), .ref (r 17), .ref (r 18), .ref (r 19), .ref (r 20), .ref (r 21), .ref (r 22), .ref (r 23), .ref (r 24), .int 0, .int 0, .int 0, .int 0, .int 0, .int 0, .int 0, .int 0, .int 0, .ref (r 25), .ref (r 26), .ref (r 27), .int 0, .int 0, .ref (r 28), .int 0, .ref (r 29), .ref (r 30), .ref (r 31), .ref (r 32), .ref (r 33), .ref (r 34), .ref (r 35), .ref (r 36), .int 0, .int 0, .int 0, .ref (r 37), .ref (r 38)])), (r 5, .inl ((c 5), 2, .inl f5))] := hD
  refine wt_c (v := 0) hw ?_
  refine lv_icmp_ge (tgt := 76) hx hb dX9_fashion_24 (by decide) (fun c_19 => ?_) (fun c_19 => absurd (by decide) c_19)
  refine lv_iload hx hb dX9_fashion_76 (lv_at hl 1 rfl) ?_
  refine lv_iload_n hx hb dX9_fashion_78 rfl (lv_at hl 3 rfl) ?_
  refine lv_icmp_gt (tgt := 85) hx hb dX9_fashion_79 (by decide) (fun c_20 => absurd c_20 (by decide)) (fun c_20 => ?_)
  refine lv_goto (tgt := 90) hx hb dX9_fashion_82 (by decide) ?_
  refine lv_iinc (v := 4) (lv' := [(3, .int 4), (5, .int 0), (4, .int 0), (2, .int 0), (1, .int (-1)), (0, .ref (r 0))]) hx hb dX9_fashion_90 hl (k := 2) rfl (by decide) (by decide) rfl (fun ls hl => ?_)
  refine lv_goto (tgt := 6) hx hb dX9_fashion_93 (by decide) ?_
  refine lv_iload_n hx hb dX9_fashion_6 rfl (lv_at hl 0 rfl) ?_
  refine lv_bipush (v := 7) hx hb dX9_fashion_7 (by decide) ?_
  refine lv_icmp_ge (tgt := 96) hx hb dX9_fashion_9 (by decide) (fun c_21 => absurd c_21 (by decide)) (fun c_21 => ?_)
  refine lv_iconst (v := 0) hx hb dX9_fashion_12 (by decide) ?_
  refine lv_istore (lv' := [(4, .int 0), (3, .int 4), (5, .int 0), (2, .int 0), (1, .int (-1)), (0, .ref (r 0))]) hx hb dX9_fashion_13 hl (by decide) rfl (fun ls hl => ?_)
  refine lv_iconst (v := 0) hx hb dX9_fashion_15 (by decide) ?_
  refine lv_istore (lv' := [(5, .int 0), (4, .int 0), (3, .int 4), (2, .int 0), (1, .int (-1)), (0, .ref (r 0))]) hx hb dX9_fashion_16 hl (by decide) rfl (fun ls hl => ?_)
  refine lv_iload hx hb dX9_fashion_18 (lv_at hl 0 rfl) ?_
  refine lv_aload_n hx hb dX9_fashion_20 rfl (lv_at hl 5 rfl) ?_
  have hPc := hP.sub (ws' := [(r 0, .inr (8, [.ref (r 1), .ref (r 2), .int 0, .int 0, .int 0, .int (-1), .int 0, .int 0, .int 0, .int 0, .long 0, .ref (r 3), .ref (r 4), .ref (r 5), .ref (r 6), .ref (r 7), .ref (r 8), .ref (r 9), .ref (r 10), .ref (r 11), .ref (r 12), .ref (r 13), .ref (r 14), .ref (r 15), .ref (r 16), .ref (r 17), .ref (r 18), .ref (r 19), .ref (r 20), .ref (r 21), .ref (r 22), .ref (r 23), .ref (r 24), .int 0, .int 0, .int 0, .int 0, .int 0, .int 0, .int 0, .int 0, .int 0, .ref (r 25), .ref (r 26), .ref (r 27), .int 0, .int 0, .ref (r 28), .int 0, .ref (r 29), .ref (r 30), .ref (r 31), .ref (r 32), .ref (r 33), .ref (r 34), .ref (r 35), .ref (r 36), .int 0, .int 0, .int 0, .ref (r 37), .ref (r 38)])), (r 5, .inl ((c 5), 2, .inl f5))]) [0, 1] rfl
  have hKc := hK.sub (tys' := [((c 5), .int)]) [0] rfl
  have hDc := hD.sub (ws' := [(r 0, .inr (8, [.ref (r 1), .ref (r 2), .int 0, .int 0, .int 0, .int (-1), .int 0, .int 0, .int 0, .int 0, .long 0, .ref (r 3), .ref (r 4), .ref (r 5), .ref (r 6), .ref (r 7), .ref (r 8), .ref (r 9), .ref (r 10), .ref (r 11), .ref (r 12), .ref (r 13), .ref (r 14), .ref (r 15), .ref (r 16), .ref (r 17), .ref (r 18), .ref (r 19), .ref (r 20), .ref (r 21), .ref (r 22), .ref (r 23), .ref (r 24), .int 0, .int 0, .int 0, .int 0, .int 0, .int 0, .int 0, .int 0, .int 0, .ref (r 25), .ref (r 26), .ref (r 27), .int 0, .int 0, .ref (r 28), .int 0, .ref (r 29), .ref (r 30), .ref (r 31), .ref (r 32), .ref (r 33), .ref (r 34), .ref (r 35), .ref (r 36), .int 0, .int 0, .int 0, .ref (r 37), .ref (r 38)])), (r 5, .inl ((c 5), 2, .inl f5))]) [0, 1] (by decide) rfl
  have hFc := va_free (wc := [(r 0, .inr (8, [.ref (r 1), .ref (r 2), .int 0, .int 0, .int 0, .int (-1), .int 0, .int 0, .int 0, .int 0, .long 0, .ref (r 3), .ref (r 4), .ref (r 5), .ref (r 6), .ref (r 7), .ref (r 8), .ref (r 9), .ref (r 10), .ref (r 11), .ref (r 12), .ref (r 13), .ref (r 14), .ref (r 15), .ref (r 16), .ref (r 17), .ref (r 18), .ref (r 19), .ref (r 20), .ref (r 21), .ref (r 22), .ref (r 23), .ref (r 24), .int 0, .int 0, .int 0, .int 0, .int 0, .int 0, .int 0, .int 0, .int 0, .ref (r 25), .ref (r 26), .ref (r 27), .int 0, .int 0, .ref (r 28), .int 0, .ref (r 29), .ref (r 30), .ref (r 31), .ref (r 32), .ref (r 33), .ref (r 34), .ref (r 35), .ref (r 36), .int 0, .int 0, .int 0, .ref (r 37), .ref (r 38)])), (r 5, .inl ((c 5), 2, .inl f5))]) hD hS hA [0, 1] rfl
  refine va_calli (va_runV (As := []) (rest := [.int 0]) ⟨hx, hb, hml, hown, hG⟩ (kX9_homes l dC dI r c f5 H17.size hf5_0) (cwV 0 hG (goodV gw1167 gw1169 gw58 gw138 gw1170) rfl rfl rfl hd_X9_homes ⟨(Nat.le_of_ble_eq_true rfl), (Nat.le_of_ble_eq_true rfl)⟩) ⟨fbW, va_recv hKc hPc (ci := 8) (q0 := 0) rfl rfl, pW_in hPc hKc hDc⟩ rfl rfl hl.1 rfl (lv_room (Nat.le_of_ble_eq_true rfl)) dX9_fashion_21 ⟨(Nat.le_of_ble_eq_true rfl), (Nat.le_of_ble_eq_true rfl)⟩) hS (fun q _ h => hFc q h) hFc (fun r_23 u t H22 locs ht hvm hw hB hz1 hk1 hS => ?_)
  obtain ⟨hP1, hD1⟩ := hB
  rw [ht] at hP1
  obtain ⟨hP, hD⟩ := va_join (wr := []) (w1 := [(r 0, .inr (8, [.ref (r 1), .ref (r 2), .int 0, .int 0, .int 0, .int (-1), .int 0, .int 0, .int 0, .int 0, .long 0, .ref (r 3), .ref (r 4), .ref (r 5), .ref (r 6), .ref (r 7), .ref (r 8), .ref (r 9), .ref (r 10), .ref (r 11), .ref (r 12), .ref (r 13), .ref (r 14), .ref (r 15), .ref (r 16), .ref (r 17), .ref (r 18), .ref (r 19), .ref (r 20), .ref (r 21), .ref (r 22), .ref (r 23), .ref (r 24), .int 0, .int 0, .int 0, .int 0, .int 0, .int 0, .int 0, .int 0, .int 0, .ref (r 25), .ref (r 26), .ref (r 27), .int 0, .int 0, .ref (r 28), .int 0, .ref (r 29), .ref (r 30), .ref (r 31), .ref (r 32), .ref (r 33), .ref (r 34), .ref (r 35), .ref (r 36), .int 0, .int 0, .int 0, .ref (r 37), .ref (r 38)])), (r 5, .inl ((c 5), 2, .inl f5))]) hP hD [0, 1] [] rfl rfl (by decide) (by decide) hk1 hFc hP1 hD1
  have hP : va_P (dC, dI) vwCl [(r 0, .inr (8, [.ref (r 1), .ref (r 2), .int 0, .int 0, .int 0, .int (-1), .int 0, .int 0, .int 0, .int 0, .long 0, .ref (r 3), .ref (r 4), .ref (r 5), .ref (r 6), .ref (r 7), .ref (r 8), .ref (r 9), .ref (r 10), .ref (r 11), .ref (r 12), .ref (r 13), .ref (r 14), .ref (r 15), .ref (r 16), .ref (r 17), .ref (r 18), .ref (r 19), .ref (r 20), .ref (r 21), .ref (r 22), .ref (r 23), .ref (r 24), .int 0, .int 0, .int 0, .int 0, .int 0, .int 0, .int 0, .int 0, .int 0, .ref (r 25), .ref (r 26), .ref (r 27), .int 0, .int 0, .ref (r 28), .int 0, .ref (r 29), .ref (r 30), .ref (r 31), .ref (r 32), .ref (r 33), .ref (r 34), .ref (r 35), .ref (r 36), .int 0, .int 0, .int 0, .ref (r 37), .ref (r 38)])), (r 5, .inl ((c 5), 2, .inl f5))] H22 := hP
  have hD : va_D A [(r 0, .inr (8, [.ref (r 1), .ref (r 2), .int 0, .int 0, .int 0, .int (-1), .int 0, .int 0, .int 0, .int 0, .long 0, .ref (r 3), .ref (r 4), .ref (r 5), .ref (r 6), .ref (r 7), .ref (r 8), .ref (r 9), .ref (r 10), .ref (r 11), .ref (r 12), .ref (r 13), .ref (r 14), .ref (r 15), .ref (r 16), .ref (r 17), .ref (r 18), .ref (r 19), .ref (r 20), .ref (r 21), .ref (r 22), .ref (r 23), .ref (r 24), .int 0, .int 0, .int 0, .int 0, .int 0, .int 0, .int 0, .int 0, .int 0, .ref (r 25), .ref (r 26), .ref (r 27), .int 0, .int 0, .ref (r 28), .int 0, .ref (r 29), .ref (r 30), .ref (r 31), .ref (r 32), .ref (r 33), .ref (r 34), .ref (r 35), .ref (r 36), .int 0, .int 0, .int 0, .ref (r 37), .ref (r 38)])), (r 5, .inl ((c 5), 2, .inl f5))] := hD
  refine wt_c (v := 0) hw ?_
  refine lv_icmp_ge (tgt := 76) hx hb dX9_fashion_24 (by decide) (fun c_24 => ?_) (fun c_24 => absurd (by decide) c_24)
  refine lv_iload hx hb dX9_fashion_76 (lv_at hl 1 rfl) ?_
  refine lv_iload_n hx hb dX9_fashion_78 rfl (lv_at hl 3 rfl) ?_
  refine lv_icmp_gt (tgt := 85) hx hb dX9_fashion_79 (by decide) (fun c_25 => absurd c_25 (by decide)) (fun c_25 => ?_)
  refine lv_goto (tgt := 90) hx hb dX9_fashion_82 (by decide) ?_
  refine lv_iinc (v := 5) (lv' := [(3, .int 5), (5, .int 0), (4, .int 0), (2, .int 0), (1, .int (-1)), (0, .ref (r 0))]) hx hb dX9_fashion_90 hl (k := 2) rfl (by decide) (by decide) rfl (fun ls hl => ?_)
  refine lv_goto (tgt := 6) hx hb dX9_fashion_93 (by decide) ?_
  refine lv_iload_n hx hb dX9_fashion_6 rfl (lv_at hl 0 rfl) ?_
  refine lv_bipush (v := 7) hx hb dX9_fashion_7 (by decide) ?_
  refine lv_icmp_ge (tgt := 96) hx hb dX9_fashion_9 (by decide) (fun c_26 => absurd c_26 (by decide)) (fun c_26 => ?_)
  refine lv_iconst (v := 0) hx hb dX9_fashion_12 (by decide) ?_
  refine lv_istore (lv' := [(4, .int 0), (3, .int 5), (5, .int 0), (2, .int 0), (1, .int (-1)), (0, .ref (r 0))]) hx hb dX9_fashion_13 hl (by decide) rfl (fun ls hl => ?_)
  refine lv_iconst (v := 0) hx hb dX9_fashion_15 (by decide) ?_
  refine lv_istore (lv' := [(5, .int 0), (4, .int 0), (3, .int 5), (2, .int 0), (1, .int (-1)), (0, .ref (r 0))]) hx hb dX9_fashion_16 hl (by decide) rfl (fun ls hl => ?_)
  refine lv_iload hx hb dX9_fashion_18 (lv_at hl 0 rfl) ?_
  refine lv_aload_n hx hb dX9_fashion_20 rfl (lv_at hl 5 rfl) ?_
  have hPc := hP.sub (ws' := [(r 0, .inr (8, [.ref (r 1), .ref (r 2), .int 0, .int 0, .int 0, .int (-1), .int 0, .int 0, .int 0, .int 0, .long 0, .ref (r 3), .ref (r 4), .ref (r 5), .ref (r 6), .ref (r 7), .ref (r 8), .ref (r 9), .ref (r 10), .ref (r 11), .ref (r 12), .ref (r 13), .ref (r 14), .ref (r 15), .ref (r 16), .ref (r 17), .ref (r 18), .ref (r 19), .ref (r 20), .ref (r 21), .ref (r 22), .ref (r 23), .ref (r 24), .int 0, .int 0, .int 0, .int 0, .int 0, .int 0, .int 0, .int 0, .int 0, .ref (r 25), .ref (r 26), .ref (r 27), .int 0, .int 0, .ref (r 28), .int 0, .ref (r 29), .ref (r 30), .ref (r 31), .ref (r 32), .ref (r 33), .ref (r 34), .ref (r 35), .ref (r 36), .int 0, .int 0, .int 0, .ref (r 37), .ref (r 38)])), (r 5, .inl ((c 5), 2, .inl f5))]) [0, 1] rfl
  have hKc := hK.sub (tys' := [((c 5), .int)]) [0] rfl
  have hDc := hD.sub (ws' := [(r 0, .inr (8, [.ref (r 1), .ref (r 2), .int 0, .int 0, .int 0, .int (-1), .int 0, .int 0, .int 0, .int 0, .long 0, .ref (r 3), .ref (r 4), .ref (r 5), .ref (r 6), .ref (r 7), .ref (r 8), .ref (r 9), .ref (r 10), .ref (r 11), .ref (r 12), .ref (r 13), .ref (r 14), .ref (r 15), .ref (r 16), .ref (r 17), .ref (r 18), .ref (r 19), .ref (r 20), .ref (r 21), .ref (r 22), .ref (r 23), .ref (r 24), .int 0, .int 0, .int 0, .int 0, .int 0, .int 0, .int 0, .int 0, .int 0, .ref (r 25), .ref (r 26), .ref (r 27), .int 0, .int 0, .ref (r 28), .int 0, .ref (r 29), .ref (r 30), .ref (r 31), .ref (r 32), .ref (r 33), .ref (r 34), .ref (r 35), .ref (r 36), .int 0, .int 0, .int 0, .ref (r 37), .ref (r 38)])), (r 5, .inl ((c 5), 2, .inl f5))]) [0, 1] (by decide) rfl
  have hFc := va_free (wc := [(r 0, .inr (8, [.ref (r 1), .ref (r 2), .int 0, .int 0, .int 0, .int (-1), .int 0, .int 0, .int 0, .int 0, .long 0, .ref (r 3), .ref (r 4), .ref (r 5), .ref (r 6), .ref (r 7), .ref (r 8), .ref (r 9), .ref (r 10), .ref (r 11), .ref (r 12), .ref (r 13), .ref (r 14), .ref (r 15), .ref (r 16), .ref (r 17), .ref (r 18), .ref (r 19), .ref (r 20), .ref (r 21), .ref (r 22), .ref (r 23), .ref (r 24), .int 0, .int 0, .int 0, .int 0, .int 0, .int 0, .int 0, .int 0, .int 0, .ref (r 25), .ref (r 26), .ref (r 27), .int 0, .int 0, .ref (r 28), .int 0, .ref (r 29), .ref (r 30), .ref (r 31), .ref (r 32), .ref (r 33), .ref (r 34), .ref (r 35), .ref (r 36), .int 0, .int 0, .int 0, .ref (r 37), .ref (r 38)])), (r 5, .inl ((c 5), 2, .inl f5))]) hD hS hA [0, 1] rfl
  refine va_calli (va_runV (As := []) (rest := [.int 0]) ⟨hx, hb, hml, hown, hG⟩ (kX9_homes l dC dI r c f5 H22.size hf5_0) (cwV 0 hG (goodV gw1167 gw1169 gw58 gw138 gw1170) rfl rfl rfl hd_X9_homes ⟨(Nat.le_of_ble_eq_true rfl), (Nat.le_of_ble_eq_true rfl)⟩) ⟨fbW, va_recv hKc hPc (ci := 8) (q0 := 0) rfl rfl, pW_in hPc hKc hDc⟩ rfl rfl hl.1 rfl (lv_room (Nat.le_of_ble_eq_true rfl)) dX9_fashion_21 ⟨(Nat.le_of_ble_eq_true rfl), (Nat.le_of_ble_eq_true rfl)⟩) hS (fun q _ h => hFc q h) hFc (fun r_28 u t H27 locs ht hvm hw hB hz1 hk1 hS => ?_)
  obtain ⟨hP1, hD1⟩ := hB
  rw [ht] at hP1
  obtain ⟨hP, hD⟩ := va_join (wr := []) (w1 := [(r 0, .inr (8, [.ref (r 1), .ref (r 2), .int 0, .int 0, .int 0, .int (-1), .int 0, .int 0, .int 0, .int 0, .long 0, .ref (r 3), .ref (r 4), .ref (r 5), .ref (r 6), .ref (r 7), .ref (r 8), .ref (r 9), .ref (r 10), .ref (r 11), .ref (r 12), .ref (r 13), .ref (r 14), .ref (r 15), .ref (r 16), .ref (r 17), .ref (r 18), .ref (r 19), .ref (r 20), .ref (r 21), .ref (r 22), .ref (r 23), .ref (r 24), .int 0, .int 0, .int 0, .int 0, .int 0, .int 0, .int 0, .int 0, .int 0, .ref (r 25), .ref (r 26), .ref (r 27), .int 0, .int 0, .ref (r 28), .int 0, .ref (r 29), .ref (r 30), .ref (r 31), .ref (r 32), .ref (r 33), .ref (r 34), .ref (r 35), .ref (r 36), .int 0, .int 0, .int 0, .ref (r 37), .ref (r 38)])), (r 5, .inl ((c 5), 2, .inl f5))]) hP hD [0, 1] [] rfl rfl (by decide) (by decide) hk1 hFc hP1 hD1
  have hP : va_P (dC, dI) vwCl [(r 0, .inr (8, [.ref (r 1), .ref (r 2), .int 0, .int 0, .int 0, .int (-1), .int 0, .int 0, .int 0, .int 0, .long 0, .ref (r 3), .ref (r 4), .ref (r 5), .ref (r 6), .ref (r 7), .ref (r 8), .ref (r 9), .ref (r 10), .ref (r 11), .ref (r 12), .ref (r 13), .ref (r 14), .ref (r 15), .ref (r 16), .ref (r 17), .ref (r 18), .ref (r 19), .ref (r 20), .ref (r 21), .ref (r 22), .ref (r 23), .ref (r 24), .int 0, .int 0, .int 0, .int 0, .int 0, .int 0, .int 0, .int 0, .int 0, .ref (r 25), .ref (r 26), .ref (r 27), .int 0, .int 0, .ref (r 28), .int 0, .ref (r 29), .ref (r 30), .ref (r 31), .ref (r 32), .ref (r 33), .ref (r 34), .ref (r 35), .ref (r 36), .int 0, .int 0, .int 0, .ref (r 37), .ref (r 38)])), (r 5, .inl ((c 5), 2, .inl f5))] H27 := hP
  have hD : va_D A [(r 0, .inr (8, [.ref (r 1), .ref (r 2), .int 0, .int 0, .int 0, .int (-1), .int 0, .int 0, .int 0, .int 0, .long 0, .ref (r 3), .ref (r 4), .ref (r 5), .ref (r 6), .ref (r 7), .ref (r 8), .ref (r 9), .ref (r 10), .ref (r 11), .ref (r 12), .ref (r 13), .ref (r 14), .ref (r 15), .ref (r 16), .ref (r 17), .ref (r 18), .ref (r 19), .ref (r 20), .ref (r 21), .ref (r 22), .ref (r 23), .ref (r 24), .int 0, .int 0, .int 0, .int 0, .int 0, .int 0, .int 0, .int 0, .int 0, .ref (r 25), .ref (r 26), .ref (r 27), .int 0, .int 0, .ref (r 28), .int 0, .ref (r 29), .ref (r 30), .ref (r 31), .ref (r 32), .ref (r 33), .ref (r 34), .ref (r 35), .ref (r 36), .int 0, .int 0, .int 0, .ref (r 37), .ref (r 38)])), (r 5, .inl ((c 5), 2, .inl f5))] := hD
  refine wt_c (v := 0) hw ?_
  refine lv_icmp_ge (tgt := 76) hx hb dX9_fashion_24 (by decide) (fun c_29 => ?_) (fun c_29 => absurd (by decide) c_29)
  refine lv_iload hx hb dX9_fashion_76 (lv_at hl 1 rfl) ?_
  refine lv_iload_n hx hb dX9_fashion_78 rfl (lv_at hl 3 rfl) ?_
  refine lv_icmp_gt (tgt := 85) hx hb dX9_fashion_79 (by decide) (fun c_30 => absurd c_30 (by decide)) (fun c_30 => ?_)
  refine lv_goto (tgt := 90) hx hb dX9_fashion_82 (by decide) ?_
  refine lv_iinc (v := 6) (lv' := [(3, .int 6), (5, .int 0), (4, .int 0), (2, .int 0), (1, .int (-1)), (0, .ref (r 0))]) hx hb dX9_fashion_90 hl (k := 2) rfl (by decide) (by decide) rfl (fun ls hl => ?_)
  refine lv_goto (tgt := 6) hx hb dX9_fashion_93 (by decide) ?_
  refine lv_iload_n hx hb dX9_fashion_6 rfl (lv_at hl 0 rfl) ?_
  refine lv_bipush (v := 7) hx hb dX9_fashion_7 (by decide) ?_
  refine lv_icmp_ge (tgt := 96) hx hb dX9_fashion_9 (by decide) (fun c_31 => absurd c_31 (by decide)) (fun c_31 => ?_)
  refine lv_iconst (v := 0) hx hb dX9_fashion_12 (by decide) ?_
  refine lv_istore (lv' := [(4, .int 0), (3, .int 6), (5, .int 0), (2, .int 0), (1, .int (-1)), (0, .ref (r 0))]) hx hb dX9_fashion_13 hl (by decide) rfl (fun ls hl => ?_)
  refine lv_iconst (v := 0) hx hb dX9_fashion_15 (by decide) ?_
  refine lv_istore (lv' := [(5, .int 0), (4, .int 0), (3, .int 6), (2, .int 0), (1, .int (-1)), (0, .ref (r 0))]) hx hb dX9_fashion_16 hl (by decide) rfl (fun ls hl => ?_)
  refine lv_iload hx hb dX9_fashion_18 (lv_at hl 0 rfl) ?_
  refine lv_aload_n hx hb dX9_fashion_20 rfl (lv_at hl 5 rfl) ?_
  have hPc := hP.sub (ws' := [(r 0, .inr (8, [.ref (r 1), .ref (r 2), .int 0, .int 0, .int 0, .int (-1), .int 0, .int 0, .int 0, .int 0, .long 0, .ref (r 3), .ref (r 4), .ref (r 5), .ref (r 6), .ref (r 7), .ref (r 8), .ref (r 9), .ref (r 10), .ref (r 11), .ref (r 12), .ref (r 13), .ref (r 14), .ref (r 15), .ref (r 16), .ref (r 17), .ref (r 18), .ref (r 19), .ref (r 20), .ref (r 21), .ref (r 22), .ref (r 23), .ref (r 24), .int 0, .int 0, .int 0, .int 0, .int 0, .int 0, .int 0, .int 0, .int 0, .ref (r 25), .ref (r 26), .ref (r 27), .int 0, .int 0, .ref (r 28), .int 0, .ref (r 29), .ref (r 30), .ref (r 31), .ref (r 32), .ref (r 33), .ref (r 34), .ref (r 35), .ref (r 36), .int 0, .int 0, .int 0, .ref (r 37), .ref (r 38)])), (r 5, .inl ((c 5), 2, .inl f5))]) [0, 1] rfl
  have hKc := hK.sub (tys' := [((c 5), .int)]) [0] rfl
  have hDc := hD.sub (ws' := [(r 0, .inr (8, [.ref (r 1), .ref (r 2), .int 0, .int 0, .int 0, .int (-1), .int 0, .int 0, .int 0, .int 0, .long 0, .ref (r 3), .ref (r 4), .ref (r 5), .ref (r 6), .ref (r 7), .ref (r 8), .ref (r 9), .ref (r 10), .ref (r 11), .ref (r 12), .ref (r 13), .ref (r 14), .ref (r 15), .ref (r 16), .ref (r 17), .ref (r 18), .ref (r 19), .ref (r 20), .ref (r 21), .ref (r 22), .ref (r 23), .ref (r 24), .int 0, .int 0, .int 0, .int 0, .int 0, .int 0, .int 0, .int 0, .int 0, .ref (r 25), .ref (r 26), .ref (r 27), .int 0, .int 0, .ref (r 28), .int 0, .ref (r 29), .ref (r 30), .ref (r 31), .ref (r 32), .ref (r 33), .ref (r 34), .ref (r 35), .ref (r 36), .int 0, .int 0, .int 0, .ref (r 37), .ref (r 38)])), (r 5, .inl ((c 5), 2, .inl f5))]) [0, 1] (by decide) rfl
  have hFc := va_free (wc := [(r 0, .inr (8, [.ref (r 1), .ref (r 2), .int 0, .int 0, .int 0, .int (-1), .int 0, .int 0, .int 0, .int 0, .long 0, .ref (r 3), .ref (r 4), .ref (r 5), .ref (r 6), .ref (r 7), .ref (r 8), .ref (r 9), .ref (r 10), .ref (r 11), .ref (r 12), .ref (r 13), .ref (r 14), .ref (r 15), .ref (r 16), .ref (r 17), .ref (r 18), .ref (r 19), .ref (r 20), .ref (r 21), .ref (r 22), .ref (r 23), .ref (r 24), .int 0, .int 0, .int 0, .int 0, .int 0, .int 0, .int 0, .int 0, .int 0, .ref (r 25), .ref (r 26), .ref (r 27), .int 0, .int 0, .ref (r 28), .int 0, .ref (r 29), .ref (r 30), .ref (r 31), .ref (r 32), .ref (r 33), .ref (r 34), .ref (r 35), .ref (r 36), .int 0, .int 0, .int 0, .ref (r 37), .ref (r 38)])), (r 5, .inl ((c 5), 2, .inl f5))]) hD hS hA [0, 1] rfl
  refine va_calli (va_runV (As := []) (rest := [.int 0]) ⟨hx, hb, hml, hown, hG⟩ (kX9_homes l dC dI r c f5 H27.size hf5_0) (cwV 0 hG (goodV gw1167 gw1169 gw58 gw138 gw1170) rfl rfl rfl hd_X9_homes ⟨(Nat.le_of_ble_eq_true rfl), (Nat.le_of_ble_eq_true rfl)⟩) ⟨fbW, va_recv hKc hPc (ci := 8) (q0 := 0) rfl rfl, pW_in hPc hKc hDc⟩ rfl rfl hl.1 rfl (lv_room (Nat.le_of_ble_eq_true rfl)) dX9_fashion_21 ⟨(Nat.le_of_ble_eq_true rfl), (Nat.le_of_ble_eq_true rfl)⟩) hS (fun q _ h => hFc q h) hFc (fun r_33 u t H32 locs ht hvm hw hB hz1 hk1 hS => ?_)
  obtain ⟨hP1, hD1⟩ := hB
  rw [ht] at hP1
  obtain ⟨hP, hD⟩ := va_join (wr := []) (w1 := [(r 0, .inr (8, [.ref (r 1), .ref (r 2), .int 0, .int 0, .int 0, .int (-1), .int 0, .int 0, .int 0, .int 0, .long 0, .ref (r 3), .ref (r 4), .ref (r 5), .ref (r 6), .ref (r 7), .ref (r 8), .ref (r 9), .ref (r 10), .ref (r 11), .ref (r 12), .ref (r 13), .ref (r 14), .ref (r 15), .ref (r 16), .ref (r 17), .ref (r 18), .ref (r 19), .ref (r 20), .ref (r 21), .ref (r 22), .ref (r 23), .ref (r 24), .int 0, .int 0, .int 0, .int 0, .int 0, .int 0, .int 0, .int 0, .int 0, .ref (r 25), .ref (r 26), .ref (r 27), .int 0, .int 0, .ref (r 28), .int 0, .ref (r 29), .ref (r 30), .ref (r 31), .ref (r 32), .ref (r 33), .ref (r 34), .ref (r 35), .ref (r 36), .int 0, .int 0, .int 0, .ref (r 37), .ref (r 38)])), (r 5, .inl ((c 5), 2, .inl f5))]) hP hD [0, 1] [] rfl rfl (by decide) (by decide) hk1 hFc hP1 hD1
  have hP : va_P (dC, dI) vwCl [(r 0, .inr (8, [.ref (r 1), .ref (r 2), .int 0, .int 0, .int 0, .int (-1), .int 0, .int 0, .int 0, .int 0, .long 0, .ref (r 3), .ref (r 4), .ref (r 5), .ref (r 6), .ref (r 7), .ref (r 8), .ref (r 9), .ref (r 10), .ref (r 11), .ref (r 12), .ref (r 13), .ref (r 14), .ref (r 15), .ref (r 16), .ref (r 17), .ref (r 18), .ref (r 19), .ref (r 20), .ref (r 21), .ref (r 22), .ref (r 23), .ref (r 24), .int 0, .int 0, .int 0, .int 0, .int 0, .int 0, .int 0, .int 0, .int 0, .ref (r 25), .ref (r 26), .ref (r 27), .int 0, .int 0, .ref (r 28), .int 0, .ref (r 29), .ref (r 30), .ref (r 31), .ref (r 32), .ref (r 33), .ref (r 34), .ref (r 35), .ref (r 36), .int 0, .int 0, .int 0, .ref (r 37), .ref (r 38)])), (r 5, .inl ((c 5), 2, .inl f5))] H32 := hP
  have hD : va_D A [(r 0, .inr (8, [.ref (r 1), .ref (r 2), .int 0, .int 0, .int 0, .int (-1), .int 0, .int 0, .int 0, .int 0, .long 0, .ref (r 3), .ref (r 4), .ref (r 5), .ref (r 6), .ref (r 7), .ref (r 8), .ref (r 9), .ref (r 10), .ref (r 11), .ref (r 12), .ref (r 13), .ref (r 14), .ref (r 15), .ref (r 16), .ref (r 17), .ref (r 18), .ref (r 19), .ref (r 20), .ref (r 21), .ref (r 22), .ref (r 23), .ref (r 24), .int 0, .int 0, .int 0, .int 0, .int 0, .int 0, .int 0, .int 0, .int 0, .ref (r 25), .ref (r 26), .ref (r 27), .int 0, .int 0, .ref (r 28), .int 0, .ref (r 29), .ref (r 30), .ref (r 31), .ref (r 32), .ref (r 33), .ref (r 34), .ref (r 35), .ref (r 36), .int 0, .int 0, .int 0, .ref (r 37), .ref (r 38)])), (r 5, .inl ((c 5), 2, .inl f5))] := hD
  refine wt_c (v := 0) hw ?_
  refine lv_icmp_ge (tgt := 76) hx hb dX9_fashion_24 (by decide) (fun c_34 => ?_) (fun c_34 => absurd (by decide) c_34)
  refine lv_iload hx hb dX9_fashion_76 (lv_at hl 1 rfl) ?_
  refine lv_iload_n hx hb dX9_fashion_78 rfl (lv_at hl 3 rfl) ?_
  refine lv_icmp_gt (tgt := 85) hx hb dX9_fashion_79 (by decide) (fun c_35 => absurd c_35 (by decide)) (fun c_35 => ?_)
  refine lv_goto (tgt := 90) hx hb dX9_fashion_82 (by decide) ?_
  refine lv_iinc (v := 7) (lv' := [(3, .int 7), (5, .int 0), (4, .int 0), (2, .int 0), (1, .int (-1)), (0, .ref (r 0))]) hx hb dX9_fashion_90 hl (k := 2) rfl (by decide) (by decide) rfl (fun ls hl => ?_)
  refine lv_goto (tgt := 6) hx hb dX9_fashion_93 (by decide) ?_
  refine lv_iload_n hx hb dX9_fashion_6 rfl (lv_at hl 0 rfl) ?_
  refine lv_bipush (v := 7) hx hb dX9_fashion_7 (by decide) ?_
  refine lv_icmp_ge (tgt := 96) hx hb dX9_fashion_9 (by decide) (fun c_36 => ?_) (fun c_36 => absurd (by decide) c_36)
  refine lv_iload_n hx hb dX9_fashion_96 rfl (lv_at hl 4 rfl) ?_
  exact W.iret (v := (-1)) hx hb hr (fun t ht hW => ⟨⟨(-1), (), rfl, rfl, trivial⟩, hS.F ht⟩) hS.2.2 dX9_fashion_97
set_option maxHeartbeats 4000000 in
set_option maxRecDepth 100000 in
theorem kX8_due (l : Launch) (dC : Nat → ClassId) (dI : Nat → Nat → Nat) (r : Nat → Nat) (c : Nat → ClassId) (p0 : Int32) (sz : Nat) : Met l yX8_due (.code yX8_due cX8_due 2 (some .int) :: GW) { frames := 4, cells := 0, slots := 0, locals := 161 } (va_Pc [.ref (r 0), .int p0] (pW (dC, dI) [(r 0, .inr (7, [.ref (r 1), .int 0, .ref (r 2), .ref (r 55), .ref (r 57), .ref (r 30), .ref (r 56), .ref (r 36), .ref (r 37), .ref (r 38), .int 0, .ref (r 51), .int 0, .ref (r 52), .ref (r 53), .ref (r 54)])), (r 55, .inr (3, [.int 1, .int 0, .int 0, .int 0, .ref (r 20), .ref (r 21), .ref (r 22), .int 0, .ref (r 23), .ref (r 24), .ref (r 25), .int 0, .ref (r 28), .ref (r 27)]))] [] sz)) (va_Qi (fun (r0 : Int32) (_ : Unit) => r0 = (-1)) (fun _ _ => True) (va_A [(r 0, .inr (7, [.ref (r 1), .int 0, .ref (r 2), .ref (r 55), .ref (r 57), .ref (r 30), .ref (r 56), .ref (r 36), .ref (r 37), .ref (r 38), .int 0, .ref (r 51), .int 0, .ref (r 52), .ref (r 53), .ref (r 54)])), (r 55, .inr (3, [.int 1, .int 0, .int 0, .int 0, .ref (r 20), .ref (r 21), .ref (r 22), .int 0, .ref (r 23), .ref (r 24), .ref (r 25), .int 0, .ref (r 28), .ref (r 27)]))] sz)) 0 0 (va_A [(r 0, .inr (7, [.ref (r 1), .int 0, .ref (r 2), .ref (r 55), .ref (r 57), .ref (r 30), .ref (r 56), .ref (r 36), .ref (r 37), .ref (r 38), .int 0, .ref (r 51), .int 0, .ref (r 52), .ref (r 53), .ref (r 54)])), (r 55, .inr (3, [.int 1, .int 0, .int 0, .int 0, .ref (r 20), .ref (r 21), .ref (r 22), .int 0, .ref (r 23), .ref (r 24), .ref (r 25), .int 0, .ref (r 28), .ref (r 27)]))] sz) := by
  refine Met.ofW (cc := cX8_due) (maxL := 2) (ret := (some .int)) (by decide) rfl ?_
  intro p e s m args below meth c0 s₁ B hml hv
  obtain ⟨rfl, hsz, hP, hK, hD0⟩ := hv
  have hx := B.exec
  have hb := B.bytes
  have hr := B.returns
  have hts := atoms_spec (ws := .code yX8_due cX8_due 2 (some .int) :: GW) B.pre
  have hG : ∀ w ∈ GW, w.before _ s = true := fun w h => hts w (List.mem_cons_of_mem _ h)
  have hown : s.vm.findClass RX8 = some m.cls := findClass_of_methodNamed B.named
  have hlocks := B.notSynchronized
  subst hsz
  have hD := hD0.self (sz := s.heap.size)
  generalize hAe : va_A [(r 0, .inr (7, [.ref (r 1), .int 0, .ref (r 2), .ref (r 55), .ref (r 57), .ref (r 30), .ref (r 56), .ref (r 36), .ref (r 37), .ref (r 38), .int 0, .ref (r 51), .int 0, .ref (r 52), .ref (r 53), .ref (r 54)])), (r 55, .inr (3, [.int 1, .int 0, .int 0, .int 0, .ref (r 20), .ref (r 21), .ref (r 22), .int 0, .ref (r 23), .ref (r 24), .ref (r 25), .int 0, .ref (r 28), .ref (r 27)]))] s.heap.size = A at hD ⊢
  have hA : ∀ q : Nat, s.heap.size ≤ q → A q := fun q h => by rw [← hAe]; exact Or.inr h
  have hS : va_S A s.heap s.heap [] := va_S.rf
  have hP : va_P (dC, dI) vwCl [(r 0, .inr (7, [.ref (r 1), .int 0, .ref (r 2), .ref (r 55), .ref (r 57), .ref (r 30), .ref (r 56), .ref (r 36), .ref (r 37), .ref (r 38), .int 0, .ref (r 51), .int 0, .ref (r 52), .ref (r 53), .ref (r 54)])), (r 55, .inr (3, [.int 1, .int 0, .int 0, .int 0, .ref (r 20), .ref (r 21), .ref (r 22), .int 0, .ref (r 23), .ref (r 24), .ref (r 25), .int 0, .ref (r 28), .ref (r 27)]))] s.heap := hP
  have hl := lv_entry ([.ref (r 0), .int p0]) (n := 2) (Nat.le_of_ble_eq_true rfl)
  rw [lg_entry_eq]
  generalize (lg_sl ([.ref (r 0), .int p0]) ++ List.replicate (2 - (lg_sl ([.ref (r 0), .int p0])).length) Slot.unset).toArray = ls at hl ⊢
  have hl : lv_has ls 2 [(0, .ref (r 0)), (1, .int p0)] := hl
  refine lv_aload_n hx hb dX8_due_0 rfl (lv_at hl 0 rfl) ?_
  refine lv_iload_n hx hb dX8_due_1 rfl (lv_at hl 1 rfl) ?_
  have hPc := hP.sub (ws' := [(r 0, .inr (7, [.ref (r 1), .int 0, .ref (r 2), .ref (r 55), .ref (r 57), .ref (r 30), .ref (r 56), .ref (r 36), .ref (r 37), .ref (r 38), .int 0, .ref (r 51), .int 0, .ref (r 52), .ref (r 53), .ref (r 54)])), (r 55, .inr (3, [.int 1, .int 0, .int 0, .int 0, .ref (r 20), .ref (r 21), .ref (r 22), .int 0, .ref (r 23), .ref (r 24), .ref (r 25), .int 0, .ref (r 28), .ref (r 27)]))]) [0, 1] rfl
  have hKc := hK.sub (tys' := []) [] rfl
  have hDc := hD.sub (ws' := [(r 0, .inr (7, [.ref (r 1), .int 0, .ref (r 2), .ref (r 55), .ref (r 57), .ref (r 30), .ref (r 56), .ref (r 36), .ref (r 37), .ref (r 38), .int 0, .ref (r 51), .int 0, .ref (r 52), .ref (r 53), .ref (r 54)])), (r 55, .inr (3, [.int 1, .int 0, .int 0, .int 0, .ref (r 20), .ref (r 21), .ref (r 22), .int 0, .ref (r 23), .ref (r 24), .ref (r 25), .int 0, .ref (r 28), .ref (r 27)]))]) [0, 1] (by decide) rfl
  have hFc := va_free (wc := [(r 0, .inr (7, [.ref (r 1), .int 0, .ref (r 2), .ref (r 55), .ref (r 57), .ref (r 30), .ref (r 56), .ref (r 36), .ref (r 37), .ref (r 38), .int 0, .ref (r 51), .int 0, .ref (r 52), .ref (r 53), .ref (r 54)])), (r 55, .inr (3, [.int 1, .int 0, .int 0, .int 0, .ref (r 20), .ref (r 21), .ref (r 22), .int 0, .ref (r 23), .ref (r 24), .ref (r 25), .int 0, .ref (r 28), .ref (r 27)]))]) hD hS hA [0, 1] rfl
  refine va_calli (va_runV (As := [.int p0]) (rest := []) ⟨hx, hb, hml, hown, hG⟩ (kX8_isTune l dC dI r c p0 s.heap.size ) (cwV 1 hG (goodV gw695 gw697 gw20 gw129 gw698) rfl rfl rfl hd_X8_isTune ⟨(Nat.le_of_ble_eq_true rfl), (Nat.le_of_ble_eq_true rfl)⟩) ⟨fbW, va_recv hKc hPc (ci := 7) (q0 := 0) rfl rfl, pW_in hPc hKc hDc⟩ rfl rfl hl.1 rfl (lv_room (Nat.le_of_ble_eq_true rfl)) dX8_due_2 ⟨(Nat.le_of_ble_eq_true rfl), (Nat.le_of_ble_eq_true rfl)⟩) hS (fun q _ h => hFc q h) hFc (fun r_2 u t H1 locs ht hvm hw hB hz1 hk1 hS => ?_)
  obtain ⟨hP1, hD1⟩ := hB
  rw [ht] at hP1
  obtain ⟨hP, hD⟩ := va_join (wr := []) (w1 := [(r 0, .inr (7, [.ref (r 1), .int 0, .ref (r 2), .ref (r 55), .ref (r 57), .ref (r 30), .ref (r 56), .ref (r 36), .ref (r 37), .ref (r 38), .int 0, .ref (r 51), .int 0, .ref (r 52), .ref (r 53), .ref (r 54)])), (r 55, .inr (3, [.int 1, .int 0, .int 0, .int 0, .ref (r 20), .ref (r 21), .ref (r 22), .int 0, .ref (r 23), .ref (r 24), .ref (r 25), .int 0, .ref (r 28), .ref (r 27)]))]) hP hD [0, 1] [] rfl rfl (by decide) (by decide) hk1 hFc hP1 hD1
  have hP : va_P (dC, dI) vwCl [(r 0, .inr (7, [.ref (r 1), .int 0, .ref (r 2), .ref (r 55), .ref (r 57), .ref (r 30), .ref (r 56), .ref (r 36), .ref (r 37), .ref (r 38), .int 0, .ref (r 51), .int 0, .ref (r 52), .ref (r 53), .ref (r 54)])), (r 55, .inr (3, [.int 1, .int 0, .int 0, .int 0, .ref (r 20), .ref (r 21), .ref (r 22), .int 0, .ref (r 23), .ref (r 24), .ref (r 25), .int 0, .ref (r 28), .ref (r 27)]))] H1 := hP
  have hD : va_D A [(r 0, .inr (7, [.ref (r 1), .int 0, .ref (r 2), .ref (r 55), .ref (r 57), .ref (r 30), .ref (r 56), .ref (r 36), .ref (r 37), .ref (r 38), .int 0, .ref (r 51), .int 0, .ref (r 52), .ref (r 53), .ref (r 54)])), (r 55, .inr (3, [.int 1, .int 0, .int 0, .int 0, .ref (r 20), .ref (r 21), .ref (r 22), .int 0, .ref (r 23), .ref (r 24), .ref (r 25), .int 0, .ref (r 28), .ref (r 27)]))] := hD
  refine wt_c (v := 0) hw ?_
  refine lv_if_eq (tgt := 19) hx hb dX8_due_5 (by decide) (fun c_3 => ?_) (fun c_3 => absurd (by decide) c_3)
  refine lv_iconst (v := (-1)) hx hb dX8_due_19 (by decide) ?_
  exact W.iret (v := (-1)) hx hb hr (fun t ht hW => ⟨⟨(-1), (), rfl, rfl, trivial⟩, hS.F ht⟩) hS.2.2 dX8_due_20
set_option maxHeartbeats 4000000 in
set_option maxRecDepth 100000 in
theorem kX9_due (l : Launch) (dC : Nat → ClassId) (dI : Nat → Nat → Nat) (r : Nat → Nat) (c : Nat → ClassId) (f4 : Nat → Int32) (p0 : Int32) (sz : Nat) (hf4_0 : f4 0 = 0) : Met l yX9_due (.code yX9_due cX9_due 2 (some .int) :: GW) { frames := 6, cells := 0, slots := 0, locals := 223 } (va_Pc [.ref (r 0), .int p0] (pW (dC, dI) [(r 0, .inr (8, [.ref (r 1), .ref (r 2), .int 0, .int 0, .int 0, .int (-1), .int 0, .int 0, .int 0, .int 0, .long 0, .ref (r 3), .ref (r 4), .ref (r 5), .ref (r 6), .ref (r 7), .ref (r 8), .ref (r 9), .ref (r 10), .ref (r 11), .ref (r 12), .ref (r 13), .ref (r 14), .ref (r 15), .ref (r 16), .ref (r 17), .ref (r 18), .ref (r 19), .ref (r 20), .ref (r 21), .ref (r 22), .ref (r 23), .ref (r 24), .int 0, .int 0, .int 0, .int 0, .int 0, .int 0, .int 0, .int 0, .int 0, .ref (r 25), .ref (r 26), .ref (r 27), .int 0, .int 0, .ref (r 28), .int 0, .ref (r 29), .ref (r 30), .ref (r 31), .ref (r 32), .ref (r 33), .ref (r 34), .ref (r 35), .ref (r 36), .int 0, .int 0, .int 0, .ref (r 37), .ref (r 38)])), (r 4, .inl ((c 4), 2, .inl f4))] [((c 4), .int)] sz)) (va_Qi (fun (r0 : Int32) (_ : Unit) => r0 = (-1)) (fun _ _ => True) (va_A [(r 0, .inr (8, [.ref (r 1), .ref (r 2), .int 0, .int 0, .int 0, .int (-1), .int 0, .int 0, .int 0, .int 0, .long 0, .ref (r 3), .ref (r 4), .ref (r 5), .ref (r 6), .ref (r 7), .ref (r 8), .ref (r 9), .ref (r 10), .ref (r 11), .ref (r 12), .ref (r 13), .ref (r 14), .ref (r 15), .ref (r 16), .ref (r 17), .ref (r 18), .ref (r 19), .ref (r 20), .ref (r 21), .ref (r 22), .ref (r 23), .ref (r 24), .int 0, .int 0, .int 0, .int 0, .int 0, .int 0, .int 0, .int 0, .int 0, .ref (r 25), .ref (r 26), .ref (r 27), .int 0, .int 0, .ref (r 28), .int 0, .ref (r 29), .ref (r 30), .ref (r 31), .ref (r 32), .ref (r 33), .ref (r 34), .ref (r 35), .ref (r 36), .int 0, .int 0, .int 0, .ref (r 37), .ref (r 38)])), (r 4, .inl ((c 4), 2, .inl f4))] sz)) 0 0 (va_A [(r 0, .inr (8, [.ref (r 1), .ref (r 2), .int 0, .int 0, .int 0, .int (-1), .int 0, .int 0, .int 0, .int 0, .long 0, .ref (r 3), .ref (r 4), .ref (r 5), .ref (r 6), .ref (r 7), .ref (r 8), .ref (r 9), .ref (r 10), .ref (r 11), .ref (r 12), .ref (r 13), .ref (r 14), .ref (r 15), .ref (r 16), .ref (r 17), .ref (r 18), .ref (r 19), .ref (r 20), .ref (r 21), .ref (r 22), .ref (r 23), .ref (r 24), .int 0, .int 0, .int 0, .int 0, .int 0, .int 0, .int 0, .int 0, .int 0, .ref (r 25), .ref (r 26), .ref (r 27), .int 0, .int 0, .ref (r 28), .int 0, .ref (r 29), .ref (r 30), .ref (r 31), .ref (r 32), .ref (r 33), .ref (r 34), .ref (r 35), .ref (r 36), .int 0, .int 0, .int 0, .ref (r 37), .ref (r 38)])), (r 4, .inl ((c 4), 2, .inl f4))] sz) := by
  refine Met.ofW (cc := cX9_due) (maxL := 2) (ret := (some .int)) (by decide) rfl ?_
  intro p e s m args below meth c0 s₁ B hml hv
  obtain ⟨rfl, hsz, hP, hK, hD0⟩ := hv
  have hx := B.exec
  have hb := B.bytes
  have hr := B.returns
  have hts := atoms_spec (ws := .code yX9_due cX9_due 2 (some .int) :: GW) B.pre
  have hG : ∀ w ∈ GW, w.before _ s = true := fun w h => hts w (List.mem_cons_of_mem _ h)
  have hown : s.vm.findClass RX9 = some m.cls := findClass_of_methodNamed B.named
  have hlocks := B.notSynchronized
  subst hsz
  have hD := hD0.self (sz := s.heap.size)
  generalize hAe : va_A [(r 0, .inr (8, [.ref (r 1), .ref (r 2), .int 0, .int 0, .int 0, .int (-1), .int 0, .int 0, .int 0, .int 0, .long 0, .ref (r 3), .ref (r 4), .ref (r 5), .ref (r 6), .ref (r 7), .ref (r 8), .ref (r 9), .ref (r 10), .ref (r 11), .ref (r 12), .ref (r 13), .ref (r 14), .ref (r 15), .ref (r 16), .ref (r 17), .ref (r 18), .ref (r 19), .ref (r 20), .ref (r 21), .ref (r 22), .ref (r 23), .ref (r 24), .int 0, .int 0, .int 0, .int 0, .int 0, .int 0, .int 0, .int 0, .int 0, .ref (r 25), .ref (r 26), .ref (r 27), .int 0, .int 0, .ref (r 28), .int 0, .ref (r 29), .ref (r 30), .ref (r 31), .ref (r 32), .ref (r 33), .ref (r 34), .ref (r 35), .ref (r 36), .int 0, .int 0, .int 0, .ref (r 37), .ref (r 38)])), (r 4, .inl ((c 4), 2, .inl f4))] s.heap.size = A at hD ⊢
  have hA : ∀ q : Nat, s.heap.size ≤ q → A q := fun q h => by rw [← hAe]; exact Or.inr h
  have hS : va_S A s.heap s.heap [] := va_S.rf
  have hP : va_P (dC, dI) vwCl [(r 0, .inr (8, [.ref (r 1), .ref (r 2), .int 0, .int 0, .int 0, .int (-1), .int 0, .int 0, .int 0, .int 0, .long 0, .ref (r 3), .ref (r 4), .ref (r 5), .ref (r 6), .ref (r 7), .ref (r 8), .ref (r 9), .ref (r 10), .ref (r 11), .ref (r 12), .ref (r 13), .ref (r 14), .ref (r 15), .ref (r 16), .ref (r 17), .ref (r 18), .ref (r 19), .ref (r 20), .ref (r 21), .ref (r 22), .ref (r 23), .ref (r 24), .int 0, .int 0, .int 0, .int 0, .int 0, .int 0, .int 0, .int 0, .int 0, .ref (r 25), .ref (r 26), .ref (r 27), .int 0, .int 0, .ref (r 28), .int 0, .ref (r 29), .ref (r 30), .ref (r 31), .ref (r 32), .ref (r 33), .ref (r 34), .ref (r 35), .ref (r 36), .int 0, .int 0, .int 0, .ref (r 37), .ref (r 38)])), (r 4, .inl ((c 4), 2, .inl f4))] s.heap := hP
  have hl := lv_entry ([.ref (r 0), .int p0]) (n := 2) (Nat.le_of_ble_eq_true rfl)
  rw [lg_entry_eq]
  generalize (lg_sl ([.ref (r 0), .int p0]) ++ List.replicate (2 - (lg_sl ([.ref (r 0), .int p0])).length) Slot.unset).toArray = ls at hl ⊢
  have hl : lv_has ls 2 [(0, .ref (r 0)), (1, .int p0)] := hl
  refine lv_aload_n hx hb dX9_due_0 rfl (lv_at hl 0 rfl) ?_
  refine lv_iload_n hx hb dX9_due_1 rfl (lv_at hl 1 rfl) ?_
  have hPc := hP.sub (ws' := [(r 0, .inr (8, [.ref (r 1), .ref (r 2), .int 0, .int 0, .int 0, .int (-1), .int 0, .int 0, .int 0, .int 0, .long 0, .ref (r 3), .ref (r 4), .ref (r 5), .ref (r 6), .ref (r 7), .ref (r 8), .ref (r 9), .ref (r 10), .ref (r 11), .ref (r 12), .ref (r 13), .ref (r 14), .ref (r 15), .ref (r 16), .ref (r 17), .ref (r 18), .ref (r 19), .ref (r 20), .ref (r 21), .ref (r 22), .ref (r 23), .ref (r 24), .int 0, .int 0, .int 0, .int 0, .int 0, .int 0, .int 0, .int 0, .int 0, .ref (r 25), .ref (r 26), .ref (r 27), .int 0, .int 0, .ref (r 28), .int 0, .ref (r 29), .ref (r 30), .ref (r 31), .ref (r 32), .ref (r 33), .ref (r 34), .ref (r 35), .ref (r 36), .int 0, .int 0, .int 0, .ref (r 37), .ref (r 38)])), (r 4, .inl ((c 4), 2, .inl f4))]) [0, 1] rfl
  have hKc := hK.sub (tys' := [((c 4), .int)]) [0] rfl
  have hDc := hD.sub (ws' := [(r 0, .inr (8, [.ref (r 1), .ref (r 2), .int 0, .int 0, .int 0, .int (-1), .int 0, .int 0, .int 0, .int 0, .long 0, .ref (r 3), .ref (r 4), .ref (r 5), .ref (r 6), .ref (r 7), .ref (r 8), .ref (r 9), .ref (r 10), .ref (r 11), .ref (r 12), .ref (r 13), .ref (r 14), .ref (r 15), .ref (r 16), .ref (r 17), .ref (r 18), .ref (r 19), .ref (r 20), .ref (r 21), .ref (r 22), .ref (r 23), .ref (r 24), .int 0, .int 0, .int 0, .int 0, .int 0, .int 0, .int 0, .int 0, .int 0, .ref (r 25), .ref (r 26), .ref (r 27), .int 0, .int 0, .ref (r 28), .int 0, .ref (r 29), .ref (r 30), .ref (r 31), .ref (r 32), .ref (r 33), .ref (r 34), .ref (r 35), .ref (r 36), .int 0, .int 0, .int 0, .ref (r 37), .ref (r 38)])), (r 4, .inl ((c 4), 2, .inl f4))]) [0, 1] (by decide) rfl
  have hFc := va_free (wc := [(r 0, .inr (8, [.ref (r 1), .ref (r 2), .int 0, .int 0, .int 0, .int (-1), .int 0, .int 0, .int 0, .int 0, .long 0, .ref (r 3), .ref (r 4), .ref (r 5), .ref (r 6), .ref (r 7), .ref (r 8), .ref (r 9), .ref (r 10), .ref (r 11), .ref (r 12), .ref (r 13), .ref (r 14), .ref (r 15), .ref (r 16), .ref (r 17), .ref (r 18), .ref (r 19), .ref (r 20), .ref (r 21), .ref (r 22), .ref (r 23), .ref (r 24), .int 0, .int 0, .int 0, .int 0, .int 0, .int 0, .int 0, .int 0, .int 0, .ref (r 25), .ref (r 26), .ref (r 27), .int 0, .int 0, .ref (r 28), .int 0, .ref (r 29), .ref (r 30), .ref (r 31), .ref (r 32), .ref (r 33), .ref (r 34), .ref (r 35), .ref (r 36), .int 0, .int 0, .int 0, .ref (r 37), .ref (r 38)])), (r 4, .inl ((c 4), 2, .inl f4))]) hD hS hA [0, 1] rfl
  refine va_calli (va_runV (As := [.int p0]) (rest := []) ⟨hx, hb, hml, hown, hG⟩ (kX9_isTune l dC dI r c f4 p0 s.heap.size hf4_0) (cwV 1 hG (goodV gw1508 gw1510 gw85 gw138 gw1511) rfl rfl rfl hd_X9_isTune ⟨(Nat.le_of_ble_eq_true rfl), (Nat.le_of_ble_eq_true rfl)⟩) ⟨fbW, va_recv hKc hPc (ci := 8) (q0 := 0) rfl rfl, pW_in hPc hKc hDc⟩ rfl rfl hl.1 rfl (lv_room (Nat.le_of_ble_eq_true rfl)) dX9_due_2 ⟨(Nat.le_of_ble_eq_true rfl), (Nat.le_of_ble_eq_true rfl)⟩) hS (fun q _ h => hFc q h) hFc (fun r_2 u t H1 locs ht hvm hw hB hz1 hk1 hS => ?_)
  obtain ⟨hP1, hD1⟩ := hB
  rw [ht] at hP1
  obtain ⟨hP, hD⟩ := va_join (wr := []) (w1 := [(r 0, .inr (8, [.ref (r 1), .ref (r 2), .int 0, .int 0, .int 0, .int (-1), .int 0, .int 0, .int 0, .int 0, .long 0, .ref (r 3), .ref (r 4), .ref (r 5), .ref (r 6), .ref (r 7), .ref (r 8), .ref (r 9), .ref (r 10), .ref (r 11), .ref (r 12), .ref (r 13), .ref (r 14), .ref (r 15), .ref (r 16), .ref (r 17), .ref (r 18), .ref (r 19), .ref (r 20), .ref (r 21), .ref (r 22), .ref (r 23), .ref (r 24), .int 0, .int 0, .int 0, .int 0, .int 0, .int 0, .int 0, .int 0, .int 0, .ref (r 25), .ref (r 26), .ref (r 27), .int 0, .int 0, .ref (r 28), .int 0, .ref (r 29), .ref (r 30), .ref (r 31), .ref (r 32), .ref (r 33), .ref (r 34), .ref (r 35), .ref (r 36), .int 0, .int 0, .int 0, .ref (r 37), .ref (r 38)])), (r 4, .inl ((c 4), 2, .inl f4))]) hP hD [0, 1] [] rfl rfl (by decide) (by decide) hk1 hFc hP1 hD1
  have hP : va_P (dC, dI) vwCl [(r 0, .inr (8, [.ref (r 1), .ref (r 2), .int 0, .int 0, .int 0, .int (-1), .int 0, .int 0, .int 0, .int 0, .long 0, .ref (r 3), .ref (r 4), .ref (r 5), .ref (r 6), .ref (r 7), .ref (r 8), .ref (r 9), .ref (r 10), .ref (r 11), .ref (r 12), .ref (r 13), .ref (r 14), .ref (r 15), .ref (r 16), .ref (r 17), .ref (r 18), .ref (r 19), .ref (r 20), .ref (r 21), .ref (r 22), .ref (r 23), .ref (r 24), .int 0, .int 0, .int 0, .int 0, .int 0, .int 0, .int 0, .int 0, .int 0, .ref (r 25), .ref (r 26), .ref (r 27), .int 0, .int 0, .ref (r 28), .int 0, .ref (r 29), .ref (r 30), .ref (r 31), .ref (r 32), .ref (r 33), .ref (r 34), .ref (r 35), .ref (r 36), .int 0, .int 0, .int 0, .ref (r 37), .ref (r 38)])), (r 4, .inl ((c 4), 2, .inl f4))] H1 := hP
  have hD : va_D A [(r 0, .inr (8, [.ref (r 1), .ref (r 2), .int 0, .int 0, .int 0, .int (-1), .int 0, .int 0, .int 0, .int 0, .long 0, .ref (r 3), .ref (r 4), .ref (r 5), .ref (r 6), .ref (r 7), .ref (r 8), .ref (r 9), .ref (r 10), .ref (r 11), .ref (r 12), .ref (r 13), .ref (r 14), .ref (r 15), .ref (r 16), .ref (r 17), .ref (r 18), .ref (r 19), .ref (r 20), .ref (r 21), .ref (r 22), .ref (r 23), .ref (r 24), .int 0, .int 0, .int 0, .int 0, .int 0, .int 0, .int 0, .int 0, .int 0, .ref (r 25), .ref (r 26), .ref (r 27), .int 0, .int 0, .ref (r 28), .int 0, .ref (r 29), .ref (r 30), .ref (r 31), .ref (r 32), .ref (r 33), .ref (r 34), .ref (r 35), .ref (r 36), .int 0, .int 0, .int 0, .ref (r 37), .ref (r 38)])), (r 4, .inl ((c 4), 2, .inl f4))] := hD
  refine wt_c (v := 0) hw ?_
  refine lv_if_eq (tgt := 44) hx hb dX9_due_5 (by decide) (fun c_3 => ?_) (fun c_3 => absurd (by decide) c_3)
  refine lv_iconst (v := (-1)) hx hb dX9_due_44 (by decide) ?_
  exact W.iret (v := (-1)) hx hb hr (fun t ht hW => ⟨⟨(-1), (), rfl, rfl, trivial⟩, hS.F ht⟩) hS.2.2 dX9_due_45
