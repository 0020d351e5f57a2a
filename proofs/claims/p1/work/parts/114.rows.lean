set_option maxHeartbeats 4000000 in
set_option maxRecDepth 100000 in
theorem kX8_along (l : Launch) (dC : Nat → ClassId) (dI : Nat → Nat → Nat) (r : Nat → Nat) (c : Nat → ClassId) (p0 p1 : Int32) (sz : Nat) : Met l yX8_along (.code yX8_along cX8_along 6 (some .int) :: GW) { frames := 4, cells := 0, slots := 0, locals := 160 } (va_Pc [.ref (r 0), .int p0, .int p1] (pW (dC, dI) [(r 0, .inr (7, [.ref (r 1), .int 0, .ref (r 2), .ref (r 55), .ref (r 57), .ref (r 30), .ref (r 56), .ref (r 36), .ref (r 37), .ref (r 38), .int 0, .ref (r 51), .int 0, .ref (r 52), .ref (r 53), .ref (r 54)])), (r 55, .inr (3, [.int 1, .int 0, .int 0, .int 0, .ref (r 20), .ref (r 21), .ref (r 22), .int 0, .ref (r 23), .ref (r 24), .ref (r 25), .int 0, .ref (r 28), .ref (r 27)]))] [] sz)) (va_Qi (fun (r0 : Int32) (u : Nat) => (u = 0 ∧ p0 < 0 ∧ r0 = (-1)) ∨ (u = 1 ∧ ¬ p0 < 0 ∧ 99 < p0 ∧ r0 = (-1)) ∨ (u = 2 ∧ ¬ p0 < 0 ∧ ¬ 99 < p0 ∧ p1 < 0 ∧ r0 = (-1)) ∨ (u = 3 ∧ ¬ p0 < 0 ∧ ¬ 99 < p0 ∧ ¬ p1 < 0 ∧ 99 < p1 ∧ r0 = (-1)) ∨ (u = 4 ∧ ¬ p0 < 0 ∧ ¬ 99 < p0 ∧ ¬ p1 < 0 ∧ ¬ 99 < p1 ∧ r0 = 0)) (fun _ _ => True) (va_A [(r 0, .inr (7, [.ref (r 1), .int 0, .ref (r 2), .ref (r 55), .ref (r 57), .ref (r 30), .ref (r 56), .ref (r 36), .ref (r 37), .ref (r 38), .int 0, .ref (r 51), .int 0, .ref (r 52), .ref (r 53), .ref (r 54)])), (r 55, .inr (3, [.int 1, .int 0, .int 0, .int 0, .ref (r 20), .ref (r 21), .ref (r 22), .int 0, .ref (r 23), .ref (r 24), .ref (r 25), .int 0, .ref (r 28), .ref (r 27)]))] sz)) 0 0 (va_A [(r 0, .inr (7, [.ref (r 1), .int 0, .ref (r 2), .ref (r 55), .ref (r 57), .ref (r 30), .ref (r 56), .ref (r 36), .ref (r 37), .ref (r 38), .int 0, .ref (r 51), .int 0, .ref (r 52), .ref (r 53), .ref (r 54)])), (r 55, .inr (3, [.int 1, .int 0, .int 0, .int 0, .ref (r 20), .ref (r 21), .ref (r 22), .int 0, .ref (r 23), .ref (r 24), .ref (r 25), .int 0, .ref (r 28), .ref (r 27)]))] sz) := by
  refine Met.ofW (cc := cX8_along) (maxL := 6) (ret := (some .int)) (by decide) rfl ?_
  intro p e s m args below meth c0 s₁ B hml hv
  obtain ⟨rfl, hsz, hP, hK, hD0⟩ := hv
  have hx := B.exec
  have hb := B.bytes
  have hr := B.returns
  have hts := atoms_spec (ws := .code yX8_along cX8_along 6 (some .int) :: GW) B.pre
  have hG : ∀ w ∈ GW, w.before _ s = true := fun w h => hts w (List.mem_cons_of_mem _ h)
  have hown : s.vm.findClass RX8 = some m.cls := findClass_of_methodNamed B.named
  have hlocks := B.notSynchronized
  subst hsz
  have hD := hD0.self (sz := s.heap.size)
  generalize hAe : va_A [(r 0, .inr (7, [.ref (r 1), .int 0, .ref (r 2), .ref (r 55), .ref (r 57), .ref (r 30), .ref (r 56), .ref (r 36), .ref (r 37), .ref (r 38), .int 0, .ref (r 51), .int 0, .ref (r 52), .ref (r 53), .ref (r 54)])), (r 55, .inr (3, [.int 1, .int 0, .int 0, .int 0, .ref (r 20), .ref (r 21), .ref (r 22), .int 0, .ref (r 23), .ref (r 24), .ref (r 25), .int 0, .ref (r 28), .ref (r 27)]))] s.heap.size = A at hD ⊢
  have hA : ∀ q : Nat, s.heap.size ≤ q → A q := fun q h => by rw [← hAe]; exact Or.inr h
  have hS : va_S A s.heap s.heap [] := va_S.rf
  have hP : va_P (dC, dI) vwCl [(r 0, .inr (7, [.ref (r 1), .int 0, .ref (r 2), .ref (r 55), .ref (r 57), .ref (r 30), .ref (r 56), .ref (r 36), .ref (r 37), .ref (r 38), .int 0, .ref (r 51), .int 0, .ref (r 52), .ref (r 53), .ref (r 54)])), (r 55, .inr (3, [.int 1, .int 0, .int 0, .int 0, .ref (r 20), .ref (r 21), .ref (r 22), .int 0, .ref (r 23), .ref (r 24), .ref (r 25), .int 0, .ref (r 28), .ref (r 27)]))] s.heap := hP
  have hl := lv_entry ([.ref (r 0), .int p0, .int p1]) (n := 6) (Nat.le_of_ble_eq_true rfl)
  rw [lg_entry_eq]
  generalize (lg_sl ([.ref (r 0), .int p0, .int p1]) ++ List.replicate (6 - (lg_sl ([.ref (r 0), .int p0, .int p1])).length) Slot.unset).toArray = ls at hl ⊢
  have hl : lv_has ls 6 [(0, .ref (r 0)), (1, .int p0), (2, .int p1)] := hl
  refine lv_iload_n hx hb dX8_along_0 rfl (lv_at hl 1 rfl) ?_
  have hPc := hP.sub (ws' := []) [] rfl
  have hKc := hK.sub (tys' := []) [] rfl
  refine va_calli (va_runS (As := [.int p0]) (rest := []) ⟨hx, hb, hml, hown, hG⟩ (kX8_isPlace l dC dI p0 s.heap.size ) (va_cwS 1 hG (goodS gw926 gw927 gw129 gw928) rfl rfl rfl hd_X8_isPlace ⟨(Nat.le_of_ble_eq_true rfl), (Nat.le_of_ble_eq_true rfl)⟩) ⟨fbR, pR_in hPc hKc⟩ rfl rfl hl.1 rfl (lv_room (Nat.le_of_ble_eq_true rfl)) dX8_along_1 ⟨(Nat.le_of_ble_eq_true rfl), (Nat.le_of_ble_eq_true rfl)⟩) hS (fun q hq h => absurd hq (Nat.not_lt.mpr h)) (fun q h => hA q (Nat.le_trans hS.1 h)) (fun r_2 u t H1 locs ht hvm hw hB hz1 hk1 hS => ?_)
  rcases hw with ⟨rfl, hy3, hw⟩ | ⟨rfl, hy4, hy5, hw⟩ | ⟨rfl, hy6, hy7, hw⟩
  · skip
    have hP := wk hP hk1
    refine wt_c (v := 0) hw ?_
    refine lv_if_eq (tgt := 14) hx hb dX8_along_4 (by decide) (fun c_8 => ?_) (fun c_8 => absurd (by decide) c_8)
    refine lv_iconst (v := (-1)) hx hb dX8_along_14 (by decide) ?_
    exact W.iret (v := (-1)) hx hb hr (fun t ht hW => ⟨⟨(-1), 0, rfl, (Or.inl ⟨rfl, hy3, rfl⟩), trivial⟩, hS.F ht⟩) hS.2.2 dX8_along_15
  · skip
    have hP := wk hP hk1
    refine wt_c (v := 0) hw ?_
    refine lv_if_eq (tgt := 14) hx hb dX8_along_4 (by decide) (fun c_9 => ?_) (fun c_9 => absurd (by decide) c_9)
    refine lv_iconst (v := (-1)) hx hb dX8_along_14 (by decide) ?_
    exact W.iret (v := (-1)) hx hb hr (fun t ht hW => ⟨⟨(-1), 1, rfl, (Or.inr (Or.inl ⟨rfl, hy4, hy5, rfl⟩)), trivial⟩, hS.F ht⟩) hS.2.2 dX8_along_15
  · skip
    have hP := wk hP hk1
    refine wt_c (v := 1) hw ?_
    refine lv_if_eq (tgt := 14) hx hb dX8_along_4 (by decide) (fun c_10 => absurd c_10 (by decide)) (fun c_10 => ?_)
    refine lv_iload_n hx hb dX8_along_7 rfl (lv_at hl 2 rfl) ?_
    have hPc := hP.sub (ws' := []) [] rfl
    have hKc := hK.sub (tys' := []) [] rfl
    refine va_calli (va_runS (As := [.int p1]) (rest := []) ⟨hx, hb, hml, hown, hG⟩ (kX8_isPlace l dC dI p1 H1.size ) (va_cwS 1 hG (goodS gw926 gw927 gw129 gw928) rfl rfl rfl hd_X8_isPlace ⟨(Nat.le_of_ble_eq_true rfl), (Nat.le_of_ble_eq_true rfl)⟩) ⟨fbR, pR_in hPc hKc⟩ rfl rfl hl.1 rfl (lv_room (Nat.le_of_ble_eq_true rfl)) dX8_along_8 ⟨(Nat.le_of_ble_eq_true rfl), (Nat.le_of_ble_eq_true rfl)⟩) hS (fun q hq h => absurd hq (Nat.not_lt.mpr h)) (fun q h => hA q (Nat.le_trans hS.1 h)) (fun r_12 u t H11 locs ht hvm hw hB hz1 hk1 hS => ?_)
    rcases hw with ⟨rfl, hy13, hw⟩ | ⟨rfl, hy14, hy15, hw⟩ | ⟨rfl, hy16, hy17, hw⟩
    · skip
      have hP := wk hP hk1
      refine wt_c (v := 0) hw ?_
      refine lv_if_ne (tgt := 16) hx hb dX8_along_11 (by decide) (fun c_18 => absurd (by decide) c_18) (fun c_18 => ?_)
      refine lv_iconst (v := (-1)) hx hb dX8_along_14 (by decide) ?_
      exact W.iret (v := (-1)) hx hb hr (fun t ht hW => ⟨⟨(-1), 2, rfl, (Or.inr (Or.inr (Or.inl ⟨rfl, hy6, hy7, hy13, rfl⟩))), trivial⟩, hS.F ht⟩) hS.2.2 dX8_along_15
    · skip
      have hP := wk hP hk1
      refine wt_c (v := 0) hw ?_
      refine lv_if_ne (tgt := 16) hx hb dX8_along_11 (by decide) (fun c_19 => absurd (by decide) c_19) (fun c_19 => ?_)
      refine lv_iconst (v := (-1)) hx hb dX8_along_14 (by decide) ?_
      exact W.iret (v := (-1)) hx hb hr (fun t ht hW => ⟨⟨(-1), 3, rfl, (Or.inr (Or.inr (Or.inr (Or.inl ⟨rfl, hy6, hy7, hy14, hy15, rfl⟩)))), trivial⟩, hS.F ht⟩) hS.2.2 dX8_along_15
    · skip
      have hP := wk hP hk1
      refine wt_c (v := 1) hw ?_
      refine lv_if_ne (tgt := 16) hx hb dX8_along_11 (by decide) (fun c_20 => ?_) (fun c_20 => absurd c_20 (by decide))
      refine lv_iconst (v := 0) hx hb dX8_along_16 (by decide) ?_
      refine lv_istore_n (lv' := [(3, .int 0), (0, .ref (r 0)), (1, .int p0), (2, .int p1)]) hx hb dX8_along_17 rfl hl (by decide) rfl (fun ls hl => ?_)
      refine lv_iconst (v := 0) hx hb dX8_along_18 (by decide) ?_
      refine lv_istore (lv' := [(4, .int 0), (3, .int 0), (0, .ref (r 0)), (1, .int p0), (2, .int p1)]) hx hb dX8_along_19 hl (by decide) rfl (fun ls hl => ?_)
      refine lv_iload hx hb dX8_along_21 (lv_at hl 0 rfl) ?_
      refine lv_aload_n hx hb dX8_along_23 rfl (lv_at hl 2 rfl) ?_
      refine va_get (D := (dC, dI)) (ci := 7) (v := .ref (r 55)) (C := RX8) (T := TX8) (N := 16) hx hb hG inX8 hown hK hP 0 rfl rfl 3 (by decide) (hG _ gw471) (fun _ h9 => h9) rfl dX8_along_24 ?_
      refine va_get (D := (dC, dI)) (ci := 3) (v := .int 0) (C := RX4) (T := TX4) (N := 14) hx hb hG inX4 hown hK hP 1 rfl rfl 7 (by decide) (hG _ gw258) (fun _ h9 => h9) rfl dX8_along_27 ?_
      refine lv_icmp_ge (tgt := 78) hx hb dX8_along_30 (by decide) (fun c_21 => ?_) (fun c_21 => absurd (by decide) c_21)
      refine lv_iload_n hx hb dX8_along_78 rfl (lv_at hl 1 rfl) ?_
      exact W.iret (v := 0) hx hb hr (fun t ht hW => ⟨⟨0, 4, rfl, (Or.inr (Or.inr (Or.inr (Or.inr ⟨rfl, hy6, hy7, hy16, hy17, rfl⟩)))), trivial⟩, hS.F ht⟩) hS.2.2 dX8_along_79
set_option maxHeartbeats 4000000 in
set_option maxRecDepth 100000 in
theorem kX9_along (l : Launch) (dC : Nat → ClassId) (dI : Nat → Nat → Nat) (r : Nat → Nat) (c : Nat → ClassId) (f5 : Nat → Int32) (p0 p1 : Int32) (sz : Nat) (hf5_0 : f5 0 = 0) : Met l yX9_along (.code yX9_along cX9_along 5 (some .int) :: GW) { frames := 4, cells := 0, slots := 0, locals := 162 } (va_Pc [.ref (r 0), .int p0, .int p1] (pW (dC, dI) [(r 0, .inr (8, [.ref (r 1), .ref (r 2), .int 0, .int 0, .int 0, .int (-1), .int 0, .int 0, .int 0, .int 0, .long 0, .ref (r 3), .ref (r 4), .ref (r 5), .ref (r 6), .ref (r 7), .ref (r 8), .ref (r 9), .ref (r 10), .ref (r 11), .ref (r 12), .ref (r 13), .ref (r 14), .ref (r 15), .ref (r 16), .ref (r 17), .ref (r 18), .ref (r 19), .ref (r 20), .ref (r 21), .ref (r 22), .ref (r 23), .ref (r 24), .int 0, .int 0, .int 0, .int 0, .int 0, .int 0, .int 0, .int 0, .int 0, .ref (r 25), .ref (r 26), .ref (r 27), .int 0, .int 0, .ref (r 28), .int 0, .ref (r 29), .ref (r 30), .ref (r 31), .ref (r 32), .ref (r 33), .ref (r 34), .ref (r 35), .ref (r 36), .int 0, .int 0, .int 0, .ref (r 37), .ref (r 38)])), (r 5, .inl ((c 5), 2, .inl f5))] [((c 5), .int)] sz)) (va_Qi (fun (r0 : Int32) (u : Nat) => (u = 0 ∧ p0 < 0 ∧ r0 = (-1)) ∨ (u = 1 ∧ ¬ p0 < 0 ∧ 99 < p0 ∧ r0 = (-1)) ∨ (u = 2 ∧ ¬ p0 < 0 ∧ ¬ 99 < p0 ∧ p1 < 0 ∧ r0 = (-1)) ∨ (u = 3 ∧ ¬ p0 < 0 ∧ ¬ 99 < p0 ∧ ¬ p1 < 0 ∧ 99 < p1 ∧ r0 = (-1)) ∨ (u = 4 ∧ ¬ p0 < 0 ∧ ¬ 99 < p0 ∧ ¬ p1 < 0 ∧ ¬ 99 < p1 ∧ r0 = 0)) (fun _ _ => True) (va_A [(r 0, .inr (8, [.ref (r 1), .ref (r 2), .int 0, .int 0, .int 0, .int (-1), .int 0, .int 0, .int 0, .int 0, .long 0, .ref (r 3), .ref (r 4), .ref (r 5), .ref (r 6), .ref (r 7), .ref (r 8), .ref (r 9), .ref (r 10), .ref (r 11), .ref (r 12), .ref (r 13), .ref (r 14), .ref (r 15), .ref (r 16), .ref (r 17), .ref (r 18), .ref (r 19), .ref (r 20), .ref (r 21), .ref (r 22), .ref (r 23), .ref (r 24), .int 0, .int 0, .int 0, .int 0, .int 0, .int 0, .int 0, .int 0, .int 0, .ref (r 25), .ref (r 26), .ref (r 27), .int 0, .int 0, .ref (r 28), .int 0, .ref (r 29), .ref (r 30), .ref (r 31), .ref (r 32), .ref (r 33), .ref (r 34), .ref (r 35), .ref (r 36), .int 0, .int 0, .int 0, .ref (r 37), .ref (r 38)])), (r 5, .inl ((c 5), 2, .inl f5))] sz)) 0 0 (va_A [(r 0, .inr (8, [.ref (r 1), .ref (r 2), .int 0, .int 0, .int 0, .int (-1), .int 0, .int 0, .int 0, .int 0, .long 0, .ref (r 3), .ref (r 4), .ref (r 5), .ref (r 6), .ref (r 7), .ref (r 8), .ref (r 9), .ref (r 10), .ref (r 11), .ref (r 12), .ref (r 13), .ref (r 14), .ref (r 15), .ref (r 16), .ref (r 17), .ref (r 18), .ref (r 19), .ref (r 20), .ref (r 21), .ref (r 22), .ref (r 23), .ref (r 24), .int 0, .int 0, .int 0, .int 0, .int 0, .int 0, .int 0, .int 0, .int 0, .ref (r 25), .ref (r 26), .ref (r 27), .int 0, .int 0, .ref (r 28), .int 0, .ref (r 29), .ref (r 30), .ref (r 31), .ref (r 32), .ref (r 33), .ref (r 34), .ref (r 35), .ref (r 36), .int 0, .int 0, .int 0, .ref (r 37), .ref (r 38)])), (r 5, .inl ((c 5), 2, .inl f5))] sz) := by
  refine Met.ofW (cc := cX9_along) (maxL := 5) (ret := (some .int)) (by decide) rfl ?_
  intro p e s m args below meth c0 s₁ B hml hv
  obtain ⟨rfl, hsz, hP, hK, hD0⟩ := hv
  have hx := B.exec
  have hb := B.bytes
  have hr := B.returns
  have hts := atoms_spec (ws := .code yX9_along cX9_along 5 (some .int) :: GW) B.pre
  have hG : ∀ w ∈ GW, w.before _ s = true := fun w h => hts w (List.mem_cons_of_mem _ h)
  have hown : s.vm.findClass RX9 = some m.cls := findClass_of_methodNamed B.named
  have hlocks := B.notSynchronized
  subst hsz
  have hD := hD0.self (sz := s.heap.size)
  generalize hAe : va_A [(r 0, .inr (8, [.ref (r 1), .ref (r 2), .int 0, .int 0, .int 0, .int (-1), .int 0, .int 0, .int 0, .int 0, .long 0, .ref (r 3), .ref (r 4), .ref (r 5), .ref (r 6), .ref (r 7), .ref (r 8), .ref (r 9), .ref (r 10), .ref (r 11), .ref (r 12), .ref (r 13), .ref (r 14), .ref (r 15), .ref (r 16), .ref (r 17), .ref (r 18), .ref (r 19), .ref (r 20), .ref (r 21), .ref (r 22), .ref (r 23), .ref (r 24), .int 0, .int 0, .int 0, .int 0, .int 0, .int 0, .int 0, .int 0, .int 0, .ref (r 25), .ref (r 26), .ref (r 27), .int 0, .int 0, .ref (r 28), .int 0, .ref (r 29), .ref (r 30), .ref (r 31), .ref (r 32), .ref (r 33), .ref (r 34), .ref (r 35), .ref (r 36), .int 0, .int 0, .int 0, .ref (r 37), .ref (r 38)])), (r 5, .inl ((c 5), 2, .inl f5))] s.heap.size = A at hD ⊢
  have hA : ∀ q : Nat, s.heap.size ≤ q → A q := fun q h => by rw [← hAe]; exact Or.inr h
  have hS : va_S A s.heap s.heap [] := va_S.rf
  have hP : va_P (dC, dI) vwCl [(r 0, .inr (8, [.ref (r 1), .ref (r 2), .int 0, .int 0, .int 0, .int (-1), .int 0, .int 0, .int 0, .int 0, .long 0, .ref (r 3), .ref (r 4), .ref (r 5), .ref (r 6), .ref (r 7), .ref (r 8), .ref (r 9), .ref (r 10), .ref (r 11), .ref (r 12), .ref (r 13), .ref (r 14), .ref (r 15), .ref (r 16), .ref (r 17), .ref (r 18), .ref (r 19), .ref (r 20), .ref (r 21), .ref (r 22), .ref (r 23), .ref (r 24), .int 0, .int 0, .int 0, .int 0, .int 0, .int 0, .int 0, .int 0, .int 0, .ref (r 25), .ref (r 26), .ref (r 27), .int 0, .int 0, .ref (r 28), .int 0, .ref (r 29), .ref (r 30), .ref (r 31), .ref (r 32), .ref (r 33), .ref (r 34), .ref (r 35), .ref (r 36), .int 0, .int 0, .int 0, .ref (r 37), .ref (r 38)])), (r 5, .inl ((c 5), 2, .inl f5))] s.heap := hP
  have hl := lv_entry ([.ref (r 0), .int p0, .int p1]) (n := 5) (Nat.le_of_ble_eq_true rfl)
  rw [lg_entry_eq]
  generalize (lg_sl ([.ref (r 0), .int p0, .int p1]) ++ List.replicate (5 - (lg_sl ([.ref (r 0), .int p0, .int p1])).length) Slot.unset).toArray = ls at hl ⊢
  have hl : lv_has ls 5 [(0, .ref (r 0)), (1, .int p0), (2, .int p1)] := hl
  refine lv_iload_n hx hb dX9_along_0 rfl (lv_at hl 1 rfl) ?_
  refine lv_iconst (v := 0) hx hb dX9_along_1 (by decide) ?_
  refine lv_bipush (v := 99) hx hb dX9_along_2 (by decide) ?_
  have hPc := hP.sub (ws' := []) [] rfl
  have hKc := hK.sub (tys' := []) [] rfl
  refine va_calli (va_runS (As := [.int p0, .int 0, .int 99]) (rest := []) ⟨hx, hb, hml, hown, hG⟩ (kX9_isIn_v2 l dC dI p0 s.heap.size ) (va_cwS 3 hG (goodS gw1516 gw1517 gw138 gw1518) rfl rfl rfl hd_X9_isIn ⟨(Nat.le_of_ble_eq_true rfl), (Nat.le_of_ble_eq_true rfl)⟩) ⟨fbR, pR_in hPc hKc⟩ rfl rfl hl.1 rfl (lv_room (Nat.le_of_ble_eq_true rfl)) dX9_along_4 ⟨(Nat.le_of_ble_eq_true rfl), (Nat.le_of_ble_eq_true rfl)⟩) hS (fun q hq h => absurd hq (Nat.not_lt.mpr h)) (fun q h => hA q (Nat.le_trans hS.1 h)) (fun r_2 u t H1 locs ht hvm hw hB hz1 hk1 hS => ?_)
  rcases hw with ⟨rfl, hy3, hw⟩ | ⟨rfl, hy4, hy5, hw⟩ | ⟨rfl, hy6, hy7, hw⟩
  · skip
    have hP := wk hP hk1
    refine wt_c (v := 0) hw ?_
    refine lv_if_eq (tgt := 20) hx hb dX9_along_7 (by decide) (fun c_8 => ?_) (fun c_8 => absurd (by decide) c_8)
    refine lv_iconst (v := (-1)) hx hb dX9_along_20 (by decide) ?_
    exact W.iret (v := (-1)) hx hb hr (fun t ht hW => ⟨⟨(-1), 0, rfl, (Or.inl ⟨rfl, hy3, rfl⟩), trivial⟩, hS.F ht⟩) hS.2.2 dX9_along_21
  · skip
    have hP := wk hP hk1
    refine wt_c (v := 0) hw ?_
    refine lv_if_eq (tgt := 20) hx hb dX9_along_7 (by decide) (fun c_9 => ?_) (fun c_9 => absurd (by decide) c_9)
    refine lv_iconst (v := (-1)) hx hb dX9_along_20 (by decide) ?_
    exact W.iret (v := (-1)) hx hb hr (fun t ht hW => ⟨⟨(-1), 1, rfl, (Or.inr (Or.inl ⟨rfl, hy4, hy5, rfl⟩)), trivial⟩, hS.F ht⟩) hS.2.2 dX9_along_21
  · skip
    have hP := wk hP hk1
    refine wt_c (v := 1) hw ?_
    refine lv_if_eq (tgt := 20) hx hb dX9_along_7 (by decide) (fun c_10 => absurd c_10 (by decide)) (fun c_10 => ?_)
    refine lv_iload_n hx hb dX9_along_10 rfl (lv_at hl 2 rfl) ?_
    refine lv_iconst (v := 0) hx hb dX9_along_11 (by decide) ?_
    refine lv_bipush (v := 99) hx hb dX9_along_12 (by decide) ?_
    have hPc := hP.sub (ws' := []) [] rfl
    have hKc := hK.sub (tys' := []) [] rfl
    refine va_calli (va_runS (As := [.int p1, .int 0, .int 99]) (rest := []) ⟨hx, hb, hml, hown, hG⟩ (kX9_isIn_v2 l dC dI p1 H1.size ) (va_cwS 3 hG (goodS gw1516 gw1517 gw138 gw1518) rfl rfl rfl hd_X9_isIn ⟨(Nat.le_of_ble_eq_true rfl), (Nat.le_of_ble_eq_true rfl)⟩) ⟨fbR, pR_in hPc hKc⟩ rfl rfl hl.1 rfl (lv_room (Nat.le_of_ble_eq_true rfl)) dX9_along_14 ⟨(Nat.le_of_ble_eq_true rfl), (Nat.le_of_ble_eq_true rfl)⟩) hS (fun q hq h => absurd hq (Nat.not_lt.mpr h)) (fun q h => hA q (Nat.le_trans hS.1 h)) (fun r_12 u t H11 locs ht hvm hw hB hz1 hk1 hS => ?_)
    rcases hw with ⟨rfl, hy13, hw⟩ | ⟨rfl, hy14, hy15, hw⟩ | ⟨rfl, hy16, hy17, hw⟩
    · skip
      have hP := wk hP hk1
      refine wt_c (v := 0) hw ?_
      refine lv_if_ne (tgt := 22) hx hb dX9_along_17 (by decide) (fun c_18 => absurd (by decide) c_18) (fun c_18 => ?_)
      refine lv_iconst (v := (-1)) hx hb dX9_along_20 (by decide) ?_
      exact W.iret (v := (-1)) hx hb hr (fun t ht hW => ⟨⟨(-1), 2, rfl, (Or.inr (Or.inr (Or.inl ⟨rfl, hy6, hy7, hy13, rfl⟩))), trivial⟩, hS.F ht⟩) hS.2.2 dX9_along_21
    · skip
      have hP := wk hP hk1
      refine wt_c (v := 0) hw ?_
      refine lv_if_ne (tgt := 22) hx hb dX9_along_17 (by decide) (fun c_19 => absurd (by decide) c_19) (fun c_19 => ?_)
      refine lv_iconst (v := (-1)) hx hb dX9_along_20 (by decide) ?_
      exact W.iret (v := (-1)) hx hb hr (fun t ht hW => ⟨⟨(-1), 3, rfl, (Or.inr (Or.inr (Or.inr (Or.inl ⟨rfl, hy6, hy7, hy14, hy15, rfl⟩)))), trivial⟩, hS.F ht⟩) hS.2.2 dX9_along_21
    · skip
      have hP := wk hP hk1
      refine wt_c (v := 1) hw ?_
      refine lv_if_ne (tgt := 22) hx hb dX9_along_17 (by decide) (fun c_20 => ?_) (fun c_20 => absurd c_20 (by decide))
      refine lv_iconst (v := 0) hx hb dX9_along_22 (by decide) ?_
      refine lv_istore_n (lv' := [(3, .int 0), (0, .ref (r 0)), (1, .int p0), (2, .int p1)]) hx hb dX9_along_23 rfl hl (by decide) rfl (fun ls hl => ?_)
      refine lv_iconst (v := 0) hx hb dX9_along_24 (by decide) ?_
      refine lv_istore (lv' := [(4, .int 0), (3, .int 0), (0, .ref (r 0)), (1, .int p0), (2, .int p1)]) hx hb dX9_along_25 hl (by decide) rfl (fun ls hl => ?_)
      refine lv_iload hx hb dX9_along_27 (lv_at hl 0 rfl) ?_
      refine lv_aload_n hx hb dX9_along_29 rfl (lv_at hl 2 rfl) ?_
      have hPc := hP.sub (ws' := [(r 0, .inr (8, [.ref (r 1), .ref (r 2), .int 0, .int 0, .int 0, .int (-1), .int 0, .int 0, .int 0, .int 0, .long 0, .ref (r 3), .ref (r 4), .ref (r 5), .ref (r 6), .ref (r 7), .ref (r 8), .ref (r 9), .ref (r 10), .ref (r 11), .ref (r 12), .ref (r 13), .ref (r 14), .ref (r 15), .ref (r 16), .ref (r 17), .ref (r 18), .ref (r 19), .ref (r 20), .ref (r 21), .ref (r 22), .ref (r 23), .ref (r 24), .int 0, .int 0, .int 0, .int 0, .int 0, .int 0, .int 0, .int 0, .int 0, .ref (r 25), .ref (r 26), .ref (r 27), .int 0, .int 0, .ref (r 28), .int 0, .ref (r 29), .ref (r 30), .ref (r 31), .ref (r 32), .ref (r 33), .ref (r 34), .ref (r 35), .ref (r 36), .int 0, .int 0, .int 0, .ref (r 37), .ref (r 38)])), (r 5, .inl ((c 5), 2, .inl f5))]) [0, 1] rfl
      have hKc := hK.sub (tys' := [((c 5), .int)]) [0] rfl
      have hDc := hD.sub (ws' := [(r 0, .inr (8, [.ref (r 1), .ref (r 2), .int 0, .int 0, .int 0, .int (-1), .int 0, .int 0, .int 0, .int 0, .long 0, .ref (r 3), .ref (r 4), .ref (r 5), .ref (r 6), .ref (r 7), .ref (r 8), .ref (r 9), .ref (r 10), .ref (r 11), .ref (r 12), .ref (r 13), .ref (r 14), .ref (r 15), .ref (r 16), .ref (r 17), .ref (r 18), .ref (r 19), .ref (r 20), .ref (r 21), .ref (r 22), .ref (r 23), .ref (r 24), .int 0, .int 0, .int 0, .int 0, .int 0, .int 0, .int 0, .int 0, .int 0, .ref (r 25), .ref (r 26), .ref (r 27), .int 0, .int 0, .ref (r 28), .int 0, .ref (r 29), .ref (r 30), .ref (r 31), .ref (r 32), .ref (r 33), .ref (r 34), .ref (r 35), .ref (r 36), .int 0, .int 0, .int 0, .ref (r 37), .ref (r 38)])), (r 5, .inl ((c 5), 2, .inl f5))]) [0, 1] (by decide) rfl
      have hFc := va_free (wc := [(r 0, .inr (8, [.ref (r 1), .ref (r 2), .int 0, .int 0, .int 0, .int (-1), .int 0, .int 0, .int 0, .int 0, .long 0, .ref (r 3), .ref (r 4), .ref (r 5), .ref (r 6), .ref (r 7), .ref (r 8), .ref (r 9), .ref (r 10), .ref (r 11), .ref (r 12), .ref (r 13), .ref (r 14), .ref (r 15), .ref (r 16), .ref (r 17), .ref (r 18), .ref (r 19), .ref (r 20), .ref (r 21), .ref (r 22), .ref (r 23), .ref (r 24), .int 0, .int 0, .int 0, .int 0, .int 0, .int 0, .int 0, .int 0, .int 0, .ref (r 25), .ref (r 26), .ref (r 27), .int 0, .int 0, .ref (r 28), .int 0, .ref (r 29), .ref (r 30), .ref (r 31), .ref (r 32), .ref (r 33), .ref (r 34), .ref (r 35), .ref (r 36), .int 0, .int 0, .int 0, .ref (r 37), .ref (r 38)])), (r 5, .inl ((c 5), 2, .inl f5))]) hD hS hA [0, 1] rfl
      refine va_calli (va_runV (As := []) (rest := [.int 0]) ⟨hx, hb, hml, hown, hG⟩ (kX9_homes l dC dI r c f5 H11.size hf5_0) (cwV 0 hG (goodV gw1167 gw1169 gw58 gw138 gw1170) rfl rfl rfl hd_X9_homes ⟨(Nat.le_of_ble_eq_true rfl), (Nat.le_of_ble_eq_true rfl)⟩) ⟨fbW, va_recv hKc hPc (ci := 8) (q0 := 0) rfl rfl, pW_in hPc hKc hDc⟩ rfl rfl hl.1 rfl (lv_room (Nat.le_of_ble_eq_true rfl)) dX9_along_30 ⟨(Nat.le_of_ble_eq_true rfl), (Nat.le_of_ble_eq_true rfl)⟩) hS (fun q _ h => hFc q h) hFc (fun r_22 u t H21 locs ht hvm hw hB hz1 hk1 hS => ?_)
      obtain ⟨hP1, hD1⟩ := hB
      rw [ht] at hP1
      obtain ⟨hP, hD⟩ := va_join (wr := []) (w1 := [(r 0, .inr (8, [.ref (r 1), .ref (r 2), .int 0, .int 0, .int 0, .int (-1), .int 0, .int 0, .int 0, .int 0, .long 0, .ref (r 3), .ref (r 4), .ref (r 5), .ref (r 6), .ref (r 7), .ref (r 8), .ref (r 9), .ref (r 10), .ref (r 11), .ref (r 12), .ref (r 13), .ref (r 14), .ref (r 15), .ref (r 16), .ref (r 17), .ref (r 18), .ref (r 19), .ref (r 20), .ref (r 21), .ref (r 22), .ref (r 23), .ref (r 24), .int 0, .int 0, .int 0, .int 0, .int 0, .int 0, .int 0, .int 0, .int 0, .ref (r 25), .ref (r 26), .ref (r 27), .int 0, .int 0, .ref (r 28), .int 0, .ref (r 29), .ref (r 30), .ref (r 31), .ref (r 32), .ref (r 33), .ref (r 34), .ref (r 35), .ref (r 36), .int 0, .int 0, .int 0, .ref (r 37), .ref (r 38)])), (r 5, .inl ((c 5), 2, .inl f5))]) hP hD [0, 1] [] rfl rfl (by decide) (by decide) hk1 hFc hP1 hD1
      have hP : va_P (dC, dI) vwCl [(r 0, .inr (8, [.ref (r 1), .ref (r 2), .int 0, .int 0, .int 0, .int (-1), .int 0, .int 0, .int 0, .int 0, .long 0, .ref (r 3), .ref (r 4), .ref (r 5), .ref (r 6), .ref (r 7), .ref (r 8), .ref (r 9), .ref (r 10), .ref (r 11), .ref (r 12), .ref (r 13), .ref (r 14), .ref (r 15), .ref (r 16), .ref (r 17), .ref (r 18), .ref (r 19), .ref (r 20), .ref (r 21), .ref (r 22), .ref (r 23), .ref (r 24), .int 0, .int 0, .int 0, .int 0, .int 0, .int 0, .int 0, .int 0, .int 0, .ref (r 25), .ref (r 26), .ref (r 27), .int 0, .int 0, .ref (r 28), .int 0, .ref (r 29), .ref (r 30), .ref (r 31), .ref (r 32), .ref (r 33), .ref (r 34), .ref (r 35), .ref (r 36), .int 0, .int 0, .int 0, .ref (r 37), .ref (r 38)])), (r 5, .inl ((c 5), 2, .inl f5))] H21 := hP
      have hD : va_D A [(r 0, .inr (8, [.ref (r 1), .ref (r 2), .int 0, .int 0, .int 0, .int (-1), .int 0, .int 0, .int 0, .int 0, .long 0, .ref (r 3), .ref (r 4), .ref (r 5), .ref (r 6), .ref (r 7), .ref (r 8), .ref (r 9), .ref (r 10), .ref (r 11), .ref (r 12), .ref (r 13), .ref (r 14), .ref (r 15), .ref (r 16), .ref (r 17), .ref (r 18), .ref (r 19), .ref (r 20), .ref (r 21), .ref (r 22), .ref (r 23), .ref (r 24), .int 0, .int 0, .int 0, .int 0, .int 0, .int 0, .int 0, .int 0, .int 0, .ref (r 25), .ref (r 26), .ref (r 27), .int 0, .int 0, .ref (r 28), .int 0, .ref (r 29), .ref (r 30), .ref (r 31), .ref (r 32), .ref (r 33), .ref (r 34), .ref (r 35), .ref (r 36), .int 0, .int 0, .int 0, .ref (r 37), .ref (r 38)])), (r 5, .inl ((c 5), 2, .inl f5))] := hD
      refine wt_c (v := 0) hw ?_
      refine lv_icmp_ge (tgt := 77) hx hb dX9_along_33 (by decide) (fun c_23 => ?_) (fun c_23 => absurd (by decide) c_23)
      refine lv_iload_n hx hb dX9_along_77 rfl (lv_at hl 1 rfl) ?_
      exact W.iret (v := 0) hx hb hr (fun t ht hW => ⟨⟨0, 4, rfl, (Or.inr (Or.inr (Or.inr (Or.inr ⟨rfl, hy6, hy7, hy16, hy17, rfl⟩)))), trivial⟩, hS.F ht⟩) hS.2.2 dX9_along_78
set_option maxHeartbeats 4000000 in
set_option maxRecDepth 100000 in
theorem kX8_alike (l : Launch) (dC : Nat → ClassId) (dI : Nat → Nat → Nat) (r : Nat → Nat) (c : Nat → ClassId) (p0 p1 : Int32) (sz : Nat) : Met l yX8_alike (.code yX8_alike cX8_alike 8 (some .int) :: GW) { frames := 4, cells := 0, slots := 0, locals := 161 } (va_Pc [.ref (r 0), .int p0, .int p1] (pW (dC, dI) [(r 0, .inr (7, [.ref (r 1), .int 0, .ref (r 2), .ref (r 55), .ref (r 57), .ref (r 30), .ref (r 56), .ref (r 36), .ref (r 37), .ref (r 38), .int 0, .ref (r 51), .int 0, .ref (r 52), .ref (r 53), .ref (r 54)])), (r 55, .inr (3, [.int 1, .int 0, .int 0, .int 0, .ref (r 20), .ref (r 21), .ref (r 22), .int 0, .ref (r 23), .ref (r 24), .ref (r 25), .int 0, .ref (r 28), .ref (r 27)]))] [] sz)) (va_Qi (fun (r0 : Int32) (_ : Unit) => r0 = (-1)) (fun _ _ => True) (va_A [(r 0, .inr (7, [.ref (r 1), .int 0, .ref (r 2), .ref (r 55), .ref (r 57), .ref (r 30), .ref (r 56), .ref (r 36), .ref (r 37), .ref (r 38), .int 0, .ref (r 51), .int 0, .ref (r 52), .ref (r 53), .ref (r 54)])), (r 55, .inr (3, [.int 1, .int 0, .int 0, .int 0, .ref (r 20), .ref (r 21), .ref (r 22), .int 0, .ref (r 23), .ref (r 24), .ref (r 25), .int 0, .ref (r 28), .ref (r 27)]))] sz)) 0 0 (va_A [(r 0, .inr (7, [.ref (r 1), .int 0, .ref (r 2), .ref (r 55), .ref (r 57), .ref (r 30), .ref (r 56), .ref (r 36), .ref (r 37), .ref (r 38), .int 0, .ref (r 51), .int 0, .ref (r 52), .ref (r 53), .ref (r 54)])), (r 55, .inr (3, [.int 1, .int 0, .int 0, .int 0, .ref (r 20), .ref (r 21), .ref (r 22), .int 0, .ref (r 23), .ref (r 24), .ref (r 25), .int 0, .ref (r 28), .ref (r 27)]))] sz) := by
  refine Met.ofW (cc := cX8_alike) (maxL := 8) (ret := (some .int)) (by decide) rfl ?_
  intro p e s m args below meth c0 s₁ B hml hv
  obtain ⟨rfl, hsz, hP, hK, hD0⟩ := hv
  have hx := B.exec
  have hb := B.bytes
  have hr := B.returns
  have hts := atoms_spec (ws := .code yX8_alike cX8_alike 8 (some .int) :: GW) B.pre
  have hG : ∀ w ∈ GW, w.before _ s = true := fun w h => hts w (List.mem_cons_of_mem _ h)
  have hown : s.vm.findClass RX8 = some m.cls := findClass_of_methodNamed B.named
  have hlocks := B.notSynchronized
  subst hsz
  have hD := hD0.self (sz := s.heap.size)
  generalize hAe : va_A [(r 0, .inr (7, [.ref (r 1), .int 0, .ref (r 2), .ref (r 55), .ref (r 57), .ref (r 30), .ref (r 56), .ref (r 36), .ref (r 37), .ref (r 38), .int 0, .ref (r 51), .int 0, .ref (r 52), .ref (r 53), .ref (r 54)])), (r 55, .inr (3, [.int 1, .int 0, .int 0, .int 0, .ref (r 20), .ref (r 21), .ref (r 22), .int 0, .ref (r 23), .ref (r 24), .ref (r 25), .int 0, .ref (r 28), .ref (r 27)]))] s.heap.size = A at hD ⊢
  have hA : ∀ q : Nat, s.heap.size ≤ q → A q := fun q h => by rw [← hAe]; exact Or.inr h
  have hS : va_S A s.heap s.heap [] := va_S.rf
  have hP : va_P (dC, dI) vwCl [(r 0, .inr (7, [.ref (r 1), .int 0, .ref (r 2), .ref (r 55), .ref (r 57), .ref (r 30), .ref (r 56), .ref (r 36), .ref (r 37), .ref (r 38), .int 0, .ref (r 51), .int 0, .ref (r 52), .ref (r 53), .ref (r 54)])), (r 55, .inr (3, [.int 1, .int 0, .int 0, .int 0, .ref (r 20), .ref (r 21), .ref (r 22), .int 0, .ref (r 23), .ref (r 24), .ref (r 25), .int 0, .ref (r 28), .ref (r 27)]))] s.heap := hP
  have hl := lv_entry ([.ref (r 0), .int p0, .int p1]) (n := 8) (Nat.le_of_ble_eq_true rfl)
  rw [lg_entry_eq]
  generalize (lg_sl ([.ref (r 0), .int p0, .int p1]) ++ List.replicate (8 - (lg_sl ([.ref (r 0), .int p0, .int p1])).length) Slot.unset).toArray = ls at hl ⊢
  have hl : lv_has ls 8 [(0, .ref (r 0)), (1, .int p0), (2, .int p1)] := hl
  refine lv_aload_n hx hb dX8_alike_0 rfl (lv_at hl 0 rfl) ?_
  refine lv_iload_n hx hb dX8_alike_1 rfl (lv_at hl 1 rfl) ?_
  have hPc := hP.sub (ws' := [(r 0, .inr (7, [.ref (r 1), .int 0, .ref (r 2), .ref (r 55), .ref (r 57), .ref (r 30), .ref (r 56), .ref (r 36), .ref (r 37), .ref (r 38), .int 0, .ref (r 51), .int 0, .ref (r 52), .ref (r 53), .ref (r 54)])), (r 55, .inr (3, [.int 1, .int 0, .int 0, .int 0, .ref (r 20), .ref (r 21), .ref (r 22), .int 0, .ref (r 23), .ref (r 24), .ref (r 25), .int 0, .ref (r 28), .ref (r 27)]))]) [0, 1] rfl
  have hKc := hK.sub (tys' := []) [] rfl
  have hDc := hD.sub (ws' := [(r 0, .inr (7, [.ref (r 1), .int 0, .ref (r 2), .ref (r 55), .ref (r 57), .ref (r 30), .ref (r 56), .ref (r 36), .ref (r 37), .ref (r 38), .int 0, .ref (r 51), .int 0, .ref (r 52), .ref (r 53), .ref (r 54)])), (r 55, .inr (3, [.int 1, .int 0, .int 0, .int 0, .ref (r 20), .ref (r 21), .ref (r 22), .int 0, .ref (r 23), .ref (r 24), .ref (r 25), .int 0, .ref (r 28), .ref (r 27)]))]) [0, 1] (by decide) rfl
  have hFc := va_free (wc := [(r 0, .inr (7, [.ref (r 1), .int 0, .ref (r 2), .ref (r 55), .ref (r 57), .ref (r 30), .ref (r 56), .ref (r 36), .ref (r 37), .ref (r 38), .int 0, .ref (r 51), .int 0, .ref (r 52), .ref (r 53), .ref (r 54)])), (r 55, .inr (3, [.int 1, .int 0, .int 0, .int 0, .ref (r 20), .ref (r 21), .ref (r 22), .int 0, .ref (r 23), .ref (r 24), .ref (r 25), .int 0, .ref (r 28), .ref (r 27)]))]) hD hS hA [0, 1] rfl
  refine va_calli (va_runV (As := [.int p0]) (rest := []) ⟨hx, hb, hml, hown, hG⟩ (kX8_isTune l dC dI r c p0 s.heap.size ) (cwV 1 hG (goodV gw695 gw697 gw20 gw129 gw698) rfl rfl rfl hd_X8_isTune ⟨(Nat.le_of_ble_eq_true rfl), (Nat.le_of_ble_eq_true rfl)⟩) ⟨fbW, va_recv hKc hPc (ci := 7) (q0 := 0) rfl rfl, pW_in hPc hKc hDc⟩ rfl rfl hl.1 rfl (lv_room (Nat.le_of_ble_eq_true rfl)) dX8_alike_2 ⟨(Nat.le_of_ble_eq_true rfl), (Nat.le_of_ble_eq_true rfl)⟩) hS (fun q _ h => hFc q h) hFc (fun r_2 u t H1 locs ht hvm hw hB hz1 hk1 hS => ?_)
  obtain ⟨hP1, hD1⟩ := hB
  rw [ht] at hP1
  obtain ⟨hP, hD⟩ := va_join (wr := []) (w1 := [(r 0, .inr (7, [.ref (r 1), .int 0, .ref (r 2), .ref (r 55), .ref (r 57), .ref (r 30), .ref (r 56), .ref (r 36), .ref (r 37), .ref (r 38), .int 0, .ref (r 51), .int 0, .ref (r 52), .ref (r 53), .ref (r 54)])), (r 55, .inr (3, [.int 1, .int 0, .int 0, .int 0, .ref (r 20), .ref (r 21), .ref (r 22), .int 0, .ref (r 23), .ref (r 24), .ref (r 25), .int 0, .ref (r 28), .ref (r 27)]))]) hP hD [0, 1] [] rfl rfl (by decide) (by decide) hk1 hFc hP1 hD1
  have hP : va_P (dC, dI) vwCl [(r 0, .inr (7, [.ref (r 1), .int 0, .ref (r 2), .ref (r 55), .ref (r 57), .ref (r 30), .ref (r 56), .ref (r 36), .ref (r 37), .ref (r 38), .int 0, .ref (r 51), .int 0, .ref (r 52), .ref (r 53), .ref (r 54)])), (r 55, .inr (3, [.int 1, .int 0, .int 0, .int 0, .ref (r 20), .ref (r 21), .ref (r 22), .int 0, .ref (r 23), .ref (r 24), .ref (r 25), .int 0, .ref (r 28), .ref (r 27)]))] H1 := hP
  have hD : va_D A [(r 0, .inr (7, [.ref (r 1), .int 0, .ref (r 2), .ref (r 55), .ref (r 57), .ref (r 30), .ref (r 56), .ref (r 36), .ref (r 37), .ref (r 38), .int 0, .ref (r 51), .int 0, .ref (r 52), .ref (r 53), .ref (r 54)])), (r 55, .inr (3, [.int 1, .int 0, .int 0, .int 0, .ref (r 20), .ref (r 21), .ref (r 22), .int 0, .ref (r 23), .ref (r 24), .ref (r 25), .int 0, .ref (r 28), .ref (r 27)]))] := hD
  refine wt_c (v := 0) hw ?_
  refine lv_if_eq (tgt := 16) hx hb dX8_alike_5 (by decide) (fun c_3 => ?_) (fun c_3 => absurd (by decide) c_3)
  refine lv_iconst (v := (-1)) hx hb dX8_alike_16 (by decide) ?_
  exact W.iret (v := (-1)) hx hb hr (fun t ht hW => ⟨⟨(-1), (), rfl, rfl, trivial⟩, hS.F ht⟩) hS.2.2 dX8_alike_17
set_option maxHeartbeats 4000000 in
set_option maxRecDepth 100000 in
theorem kX9_alike (l : Launch) (dC : Nat → ClassId) (dI : Nat → Nat → Nat) (r : Nat → Nat) (c : Nat → ClassId) (f4 : Nat → Int32) (p0 p1 : Int32) (sz : Nat) (hf4_0 : f4 0 = 0) : Met l yX9_alike (.code yX9_alike cX9_alike 4 (some .int) :: GW) { frames := 6, cells := 0, slots := 0, locals := 223 } (va_Pc [.ref (r 0), .int p0, .int p1] (pW (dC, dI) [(r 0, .inr (8, [.ref (r 1), .ref (r 2), .int 0, .int 0, .int 0, .int (-1), .int 0, .int 0, .int 0, .int 0, .long 0, .ref (r 3), .ref (r 4), .ref (r 5), .ref (r 6), .ref (r 7), .ref (r 8), .ref (r 9), .ref (r 10), .ref (r 11), .ref (r 12), .ref (r 13), .ref (r 14), .ref (r 15), .ref (r 16), .ref (r 17), .ref (r 18), .ref (r 19), .ref (r 20), .ref (r 21), .ref (r 22), .ref (r 23), .ref (r 24), .int 0, .int 0, .int 0, .int 0, .int 0, .int 0, .int 0, .int 0, .int 0, .ref (r 25), .ref (r 26), .ref (r 27), .int 0, .int 0, .ref (r 28), .int 0, .ref (r 29), .ref (r 30), .ref (r 31), .ref (r 32), .ref (r 33), .ref (r 34), .ref (r 35), .ref (r 36), .int 0, .int 0, .int 0, .ref (r 37), .ref (r 38)])), (r 4, .inl ((c 4), 2, .inl f4))] [((c 4), .int)] sz)) (va_Qi (fun (r0 : Int32) (_ : Unit) => r0 = (-1)) (fun _ _ => True) (va_A [(r 0, .inr (8, [.ref (r 1), .ref (r 2), .int 0, .int 0, .int 0, .int (-1), .int 0, .int 0, .int 0, .int 0, .long 0, .ref (r 3), .ref (r 4), .ref (r 5), .ref (r 6), .ref (r 7), .ref (r 8), .ref (r 9), .ref (r 10), .ref (r 11), .ref (r 12), .ref (r 13), .ref (r 14), .ref (r 15), .ref (r 16), .ref (r 17), .ref (r 18), .ref (r 19), .ref (r 20), .ref (r 21), .ref (r 22), .ref (r 23), .ref (r 24), .int 0, .int 0, .int 0, .int 0, .int 0, .int 0, .int 0, .int 0, .int 0, .ref (r 25), .ref (r 26), .ref (r 27), .int 0, .int 0, .ref (r 28), .int 0, .ref (r 29), .ref (r 30), .ref (r 31), .ref (r 32), .ref (r 33), .ref (r 34), .ref (r 35), .ref (r 36), .int 0, .int 0, .int 0, .ref (r 37), .ref (r 38)])), (r 4, .inl ((c 4), 2, .inl f4))] sz)) 0 0 (va_A [(r 0, .inr (8, [.ref (r 1), .ref (r 2), .int 0, .int 0, .int 0, .int (-1), .int 0, .int 0, .int 0, .int 0, .long 0, .ref (r 3), .ref (r 4), .ref (r 5), .ref (r 6), .ref (r 7), .ref (r 8), .ref (r 9), .ref (r 10), .ref (r 11), .ref (r 12), .ref (r 13), .ref (r 14), .ref (r 15), .ref (r 16), .ref (r 17), .ref (r 18), .ref (r 19), .ref (r 20), .ref (r 21), .ref (r 22), .ref (r 23), .ref (r 24), .int 0, .int 0, .int 0, .int 0, .int 0, .int 0, .int 0, .int 0, .int 0, .ref (r 25), .ref (r 26), .ref (r 27), .int 0, .int 0, .ref (r 28), .int 0, .ref (r 29), .ref (r 30), .ref (r 31), .ref (r 32), .ref (r 33), .ref (r 34), .ref (r 35), .ref (r 36), .int 0, .int 0, .int 0, .ref (r 37), .ref (r 38)])), (r 4, .inl ((c 4), 2, .inl f4))] sz) := by
  refine Met.ofW (cc := cX9_alike) (maxL := 4) (ret := (some .int)) (by decide) rfl ?_
  intro p e s m args below meth c0 s₁ B hml hv
  obtain ⟨rfl, hsz, hP, hK, hD0⟩ := hv
  have hx := B.exec
  have hb := B.bytes
  have hr := B.returns
  have hts := atoms_spec (ws := .code yX9_alike cX9_alike 4 (some .int) :: GW) B.pre
  have hG : ∀ w ∈ GW, w.before _ s = true := fun w h => hts w (List.mem_cons_of_mem _ h)
  have hown : s.vm.findClass RX9 = some m.cls := findClass_of_methodNamed B.named
  have hlocks := B.notSynchronized
  subst hsz
  have hD := hD0.self (sz := s.heap.size)
  generalize hAe : va_A [(r 0, .inr (8, [.ref (r 1), .ref (r 2), .int 0, .int 0, .int 0, .int (-1), .int 0, .int 0, .int 0, .int 0, .long 0, .ref (r 3), .ref (r 4), .ref (r 5), .ref (r 6), .ref (r 7), .ref (r 8), .ref (r 9), .ref (r 10), .ref (r 11), .ref (r 12), .ref (r 13), .ref (r 14), .ref (r 15), .ref (r 16), .ref (r 17), .ref (r 18), .ref (r 19), .ref (r 20), .ref (r 21), .ref (r 22), .ref (r 23), .ref (r 24), .int 0, .int 0, .int 0, .int 0, .int 0, .int 0, .int 0, .int 0, .int 0, .ref (r 25), .ref (r 26), .ref (r 27), .int 0, .int 0, .ref (r 28), .int 0, .ref (r 29), .ref (r 30), .ref (r 31), .ref (r 32), .ref (r 33), .ref (r 34), .ref (r 35), .ref (r 36), .int 0, .int 0, .int 0, .ref (r 37), .ref (r 38)])), (r 4, .inl ((c 4), 2, .inl f4))] s.heap.size = A at hD ⊢
  have hA : ∀ q : Nat, s.heap.size ≤ q → A q := fun q h => by rw [← hAe]; exact Or.inr h
  have hS : va_S A s.heap s.heap [] := va_S.rf
  have hP : va_P (dC, dI) vwCl [(r 0, .inr (8, [.ref (r 1), .ref (r 2), .int 0, .int 0, .int 0, .int (-1), .int 0, .int 0, .int 0, .int 0, .long 0, .ref (r 3), .ref (r 4), .ref (r 5), .ref (r 6), .ref (r 7), .ref (r 8), .ref (r 9), .ref (r 10), .ref (r 11), .ref (r 12), .ref (r 13), .ref (r 14), .ref (r 15), .ref (r 16), .ref (r 17), .ref (r 18), .ref (r 19), .ref (r 20), .ref (r 21), .ref (r 22), .ref (r 23), .ref (r 24), .int 0, .int 0, .int 0, .int 0, .int 0, .int 0, .int 0, .int 0, .int 0, .ref (r 25), .ref (r 26), .ref (r 27), .int 0, .int 0, .ref (r 28), .int 0, .ref (r 29), .ref (r 30), .ref (r 31), .ref (r 32), .ref (r 33), .ref (r 34), .ref (r 35), .ref (r 36), .int 0, .int 0, .int 0, .ref (r 37), .ref (r 38)])), (r 4, .inl ((c 4), 2, .inl f4))] s.heap := hP
  have hl := lv_entry ([.ref (r 0), .int p0, .int p1]) (n := 4) (Nat.le_of_ble_eq_true rfl)
  rw [lg_entry_eq]
  generalize (lg_sl ([.ref (r 0), .int p0, .int p1]) ++ List.replicate (4 - (lg_sl ([.ref (r 0), .int p0, .int p1])).length) Slot.unset).toArray = ls at hl ⊢
  have hl : lv_has ls 4 [(0, .ref (r 0)), (1, .int p0), (2, .int p1)] := hl
  refine lv_aload_n hx hb dX9_alike_0 rfl (lv_at hl 0 rfl) ?_
  refine lv_iload_n hx hb dX9_alike_1 rfl (lv_at hl 1 rfl) ?_
  have hPc := hP.sub (ws' := [(r 0, .inr (8, [.ref (r 1), .ref (r 2), .int 0, .int 0, .int 0, .int (-1), .int 0, .int 0, .int 0, .int 0, .long 0, .ref (r 3), .ref (r 4), .ref (r 5), .ref (r 6), .ref (r 7), .ref (r 8), .ref (r 9), .ref (r 10), .ref (r 11), .ref (r 12), .ref (r 13), .ref (r 14), .ref (r 15), .ref (r 16), .ref (r 17), .ref (r 18), .ref (r 19), .ref (r 20), .ref (r 21), .ref (r 22), .ref (r 23), .ref (r 24), .int 0, .int 0, .int 0, .int 0, .int 0, .int 0, .int 0, .int 0, .int 0, .ref (r 25), .ref (r 26), .ref (r 27), .int 0, .int 0, .ref (r 28), .int 0, .ref (r 29), .ref (r 30), .ref (r 31), .ref (r 32), .ref (r 33), .ref (r 34), .ref (r 35), .ref (r 36), .int 0, .int 0, .int 0, .ref (r 37), .ref (r 38)])), (r 4, .inl ((c 4), 2, .inl f4))]) [0, 1] rfl
  have hKc := hK.sub (tys' := [((c 4), .int)]) [0] rfl
  have hDc := hD.sub (ws' := [(r 0, .inr (8, [.ref (r 1), .ref (r 2), .int 0, .int 0, .int 0, .int (-1), .int 0, .int 0, .int 0, .int 0, .long 0, .ref (r 3), .ref (r 4), .ref (r 5), .ref (r 6), .ref (r 7), .ref (r 8), .ref (r 9), .ref (r 10), .ref (r 11), .ref (r 12), .ref (r 13), .ref (r 14), .ref (r 15), .ref (r 16), .ref (r 17), .ref (r 18), .ref (r 19), .ref (r 20), .ref (r 21), .ref (r 22), .ref (r 23), .ref (r 24), .int 0, .int 0, .int 0, .int 0, .int 0, .int 0, .int 0, .int 0, .int 0, .ref (r 25), .ref (r 26), .ref (r 27), .int 0, .int 0, .ref (r 28), .int 0, .ref (r 29), .ref (r 30), .ref (r 31), .ref (r 32), .ref (r 33), .ref (r 34), .ref (r 35), .ref (r 36), .int 0, .int 0, .int 0, .ref (r 37), .ref (r 38)])), (r 4, .inl ((c 4), 2, .inl f4))]) [0, 1] (by decide) rfl
  have hFc := va_free (wc := [(r 0, .inr (8, [.ref (r 1), .ref (r 2), .int 0, .int 0, .int 0, .int (-1), .int 0, .int 0, .int 0, .int 0, .long 0, .ref (r 3), .ref (r 4), .ref (r 5), .ref (r 6), .ref (r 7), .ref (r 8), .ref (r 9), .ref (r 10), .ref (r 11), .ref (r 12), .ref (r 13), .ref (r 14), .ref (r 15), .ref (r 16), .ref (r 17), .ref (r 18), .ref (r 19), .ref (r 20), .ref (r 21), .ref (r 22), .ref (r 23), .ref (r 24), .int 0, .int 0, .int 0, .int 0, .int 0, .int 0, .int 0, .int 0, .int 0, .ref (r 25), .ref (r 26), .ref (r 27), .int 0, .int 0, .ref (r 28), .int 0, .ref (r 29), .ref (r 30), .ref (r 31), .ref (r 32), .ref (r 33), .ref (r 34), .ref (r 35), .ref (r 36), .int 0, .int 0, .int 0, .ref (r 37), .ref (r 38)])), (r 4, .inl ((c 4), 2, .inl f4))]) hD hS hA [0, 1] rfl
  refine va_calli (va_runV (As := [.int p0]) (rest := []) ⟨hx, hb, hml, hown, hG⟩ (kX9_isTune l dC dI r c f4 p0 s.heap.size hf4_0) (cwV 1 hG (goodV gw1508 gw1510 gw85 gw138 gw1511) rfl rfl rfl hd_X9_isTune ⟨(Nat.le_of_ble_eq_true rfl), (Nat.le_of_ble_eq_true rfl)⟩) ⟨fbW, va_recv hKc hPc (ci := 8) (q0 := 0) rfl rfl, pW_in hPc hKc hDc⟩ rfl rfl hl.1 rfl (lv_room (Nat.le_of_ble_eq_true rfl)) dX9_alike_2 ⟨(Nat.le_of_ble_eq_true rfl), (Nat.le_of_ble_eq_true rfl)⟩) hS (fun q _ h => hFc q h) hFc (fun r_2 u t H1 locs ht hvm hw hB hz1 hk1 hS => ?_)
  obtain ⟨hP1, hD1⟩ := hB
  rw [ht] at hP1
  obtain ⟨hP, hD⟩ := va_join (wr := []) (w1 := [(r 0, .inr (8, [.ref (r 1), .ref (r 2), .int 0, .int 0, .int 0, .int (-1), .int 0, .int 0, .int 0, .int 0, .long 0, .ref (r 3), .ref (r 4), .ref (r 5), .ref (r 6), .ref (r 7), .ref (r 8), .ref (r 9), .ref (r 10), .ref (r 11), .ref (r 12), .ref (r 13), .ref (r 14), .ref (r 15), .ref (r 16), .ref (r 17), .ref (r 18), .ref (r 19), .ref (r 20), .ref (r 21), .ref (r 22), .ref (r 23), .ref (r 24), .int 0, .int 0, .int 0, .int 0, .int 0, .int 0, .int 0, .int 0, .int 0, .ref (r 25), .ref (r 26), .ref (r 27), .int 0, .int 0, .ref (r 28), .int 0, .ref (r 29), .ref (r 30), .ref (r 31), .ref (r 32), .ref (r 33), .ref (r 34), .ref (r 35), .ref (r 36), .int 0, .int 0, .int 0, .ref (r 37), .ref (r 38)])), (r 4, .inl ((c 4), 2, .inl f4))]) hP hD [0, 1] [] rfl rfl (by decide) (by decide) hk1 hFc hP1 hD1
  have hP : va_P (dC, dI) vwCl [(r 0, .inr (8, [.ref (r 1), .ref (r 2), .int 0, .int 0, .int 0, .int (-1), .int 0, .int 0, .int 0, .int 0, .long 0, .ref (r 3), .ref (r 4), .ref (r 5), .ref (r 6), .ref (r 7), .ref (r 8), .ref (r 9), .ref (r 10), .ref (r 11), .ref (r 12), .ref (r 13), .ref (r 14), .ref (r 15), .ref (r 16), .ref (r 17), .ref (r 18), .ref (r 19), .ref (r 20), .ref (r 21), .ref (r 22), .ref (r 23), .ref (r 24), .int 0, .int 0, .int 0, .int 0, .int 0, .int 0, .int 0, .int 0, .int 0, .ref (r 25), .ref (r 26), .ref (r 27), .int 0, .int 0, .ref (r 28), .int 0, .ref (r 29), .ref (r 30), .ref (r 31), .ref (r 32), .ref (r 33), .ref (r 34), .ref (r 35), .ref (r 36), .int 0, .int 0, .int 0, .ref (r 37), .ref (r 38)])), (r 4, .inl ((c 4), 2, .inl f4))] H1 := hP
  have hD : va_D A [(r 0, .inr (8, [.ref (r 1), .ref (r 2), .int 0, .int 0, .int 0, .int (-1), .int 0, .int 0, .int 0, .int 0, .long 0, .ref (r 3), .ref (r 4), .ref (r 5), .ref (r 6), .ref (r 7), .ref (r 8), .ref (r 9), .ref (r 10), .ref (r 11), .ref (r 12), .ref (r 13), .ref (r 14), .ref (r 15), .ref (r 16), .ref (r 17), .ref (r 18), .ref (r 19), .ref (r 20), .ref (r 21), .ref (r 22), .ref (r 23), .ref (r 24), .int 0, .int 0, .int 0, .int 0, .int 0, .int 0, .int 0, .int 0, .int 0, .ref (r 25), .ref (r 26), .ref (r 27), .int 0, .int 0, .ref (r 28), .int 0, .ref (r 29), .ref (r 30), .ref (r 31), .ref (r 32), .ref (r 33), .ref (r 34), .ref (r 35), .ref (r 36), .int 0, .int 0, .int 0, .ref (r 37), .ref (r 38)])), (r 4, .inl ((c 4), 2, .inl f4))] := hD
  refine wt_c (v := 0) hw ?_
  refine lv_if_eq (tgt := 16) hx hb dX9_alike_5 (by decide) (fun c_3 => ?_) (fun c_3 => absurd (by decide) c_3)
  refine lv_iconst (v := (-1)) hx hb dX9_alike_16 (by decide) ?_
  exact W.iret (v := (-1)) hx hb hr (fun t ht hW => ⟨⟨(-1), (), rfl, rfl, trivial⟩, hS.F ht⟩) hS.2.2 dX9_alike_17
set_option maxHeartbeats 4000000 in
set_option maxRecDepth 100000 in
theorem kX8_law (l : Launch) (dC : Nat → ClassId) (dI : Nat → Nat → Nat) (r : Nat → Nat) (c : Nat → ClassId) (p0 p1 : Int32) (sz : Nat) : Met l yX8_law (.code yX8_law cX8_law 3 (some .int) :: GW) { frames := 4, cells := 0, slots := 0, locals := 161 } (va_Pc [.ref (r 0), .int p0, .int p1] (pW (dC, dI) [(r 0, .inr (7, [.ref (r 1), .int 0, .ref (r 2), .ref (r 55), .ref (r 57), .ref (r 30), .ref (r 56), .ref (r 36), .ref (r 37), .ref (r 38), .int 0, .ref (r 51), .int 0, .ref (r 52), .ref (r 53), .ref (r 54)])), (r 55, .inr (3, [.int 1, .int 0, .int 0, .int 0, .ref (r 20), .ref (r 21), .ref (r 22), .int 0, .ref (r 23), .ref (r 24), .ref (r 25), .int 0, .ref (r 28), .ref (r 27)]))] [] sz)) (va_Qi (fun (r0 : Int32) (_ : Unit) => r0 = (-1)) (fun _ _ => True) (va_A [(r 0, .inr (7, [.ref (r 1), .int 0, .ref (r 2), .ref (r 55), .ref (r 57), .ref (r 30), .ref (r 56), .ref (r 36), .ref (r 37), .ref (r 38), .int 0, .ref (r 51), .int 0, .ref (r 52), .ref (r 53), .ref (r 54)])), (r 55, .inr (3, [.int 1, .int 0, .int 0, .int 0, .ref (r 20), .ref (r 21), .ref (r 22), .int 0, .ref (r 23), .ref (r 24), .ref (r 25), .int 0, .ref (r 28), .ref (r 27)]))] sz)) 0 0 (va_A [(r 0, .inr (7, [.ref (r 1), .int 0, .ref (r 2), .ref (r 55), .ref (r 57), .ref (r 30), .ref (r 56), .ref (r 36), .ref (r 37), .ref (r 38), .int 0, .ref (r 51), .int 0, .ref (r 52), .ref (r 53), .ref (r 54)])), (r 55, .inr (3, [.int 1, .int 0, .int 0, .int 0, .ref (r 20), .ref (r 21), .ref (r 22), .int 0, .ref (r 23), .ref (r 24), .ref (r 25), .int 0, .ref (r 28), .ref (r 27)]))] sz) := by
  refine Met.ofW (cc := cX8_law) (maxL := 3) (ret := (some .int)) (by decide) rfl ?_
  intro p e s m args below meth c0 s₁ B hml hv
  obtain ⟨rfl, hsz, hP, hK, hD0⟩ := hv
  have hx := B.exec
  have hb := B.bytes
  have hr := B.returns
  have hts := atoms_spec (ws := .code yX8_law cX8_law 3 (some .int) :: GW) B.pre
  have hG : ∀ w ∈ GW, w.before _ s = true := fun w h => hts w (List.mem_cons_of_mem _ h)
  have hown : s.vm.findClass RX8 = some m.cls := findClass_of_methodNamed B.named
  have hlocks := B.notSynchronized
  subst hsz
  have hD := hD0.self (sz := s.heap.size)
  generalize hAe : va_A [(r 0, .inr (7, [.ref (r 1), .int 0, .ref (r 2), .ref (r 55), .ref (r 57), .ref (r 30), .ref (r 56), .ref (r 36), .ref (r 37), .ref (r 38), .int 0, .ref (r 51), .int 0, .ref (r 52), .ref (r 53), .ref (r 54)])), (r 55, .inr (3, [.int 1, .int 0, .int 0, .int 0, .ref (r 20), .ref (r 21), .ref (r 22), .int 0, .ref (r 23), .ref (r 24), .ref (r 25), .int 0, .ref (r 28), .ref (r 27)]))] s.heap.size = A at hD ⊢
  have hA : ∀ q : Nat, s.heap.size ≤ q → A q := fun q h => by rw [← hAe]; exact Or.inr h
  have hS : va_S A s.heap s.heap [] := va_S.rf
  have hP : va_P (dC, dI) vwCl [(r 0, .inr (7, [.ref (r 1), .int 0, .ref (r 2), .ref (r 55), .ref (r 57), .ref (r 30), .ref (r 56), .ref (r 36), .ref (r 37), .ref (r 38), .int 0, .ref (r 51), .int 0, .ref (r 52), .ref (r 53), .ref (r 54)])), (r 55, .inr (3, [.int 1, .int 0, .int 0, .int 0, .ref (r 20), .ref (r 21), .ref (r 22), .int 0, .ref (r 23), .ref (r 24), .ref (r 25), .int 0, .ref (r 28), .ref (r 27)]))] s.heap := hP
  have hl := lv_entry ([.ref (r 0), .int p0, .int p1]) (n := 3) (Nat.le_of_ble_eq_true rfl)
  rw [lg_entry_eq]
  generalize (lg_sl ([.ref (r 0), .int p0, .int p1]) ++ List.replicate (3 - (lg_sl ([.ref (r 0), .int p0, .int p1])).length) Slot.unset).toArray = ls at hl ⊢
  have hl : lv_has ls 3 [(0, .ref (r 0)), (1, .int p0), (2, .int p1)] := hl
  refine lv_aload_n hx hb dX8_law_0 rfl (lv_at hl 0 rfl) ?_
  refine lv_iload_n hx hb dX8_law_1 rfl (lv_at hl 1 rfl) ?_
  have hPc := hP.sub (ws' := [(r 0, .inr (7, [.ref (r 1), .int 0, .ref (r 2), .ref (r 55), .ref (r 57), .ref (r 30), .ref (r 56), .ref (r 36), .ref (r 37), .ref (r 38), .int 0, .ref (r 51), .int 0, .ref (r 52), .ref (r 53), .ref (r 54)])), (r 55, .inr (3, [.int 1, .int 0, .int 0, .int 0, .ref (r 20), .ref (r 21), .ref (r 22), .int 0, .ref (r 23), .ref (r 24), .ref (r 25), .int 0, .ref (r 28), .ref (r 27)]))]) [0, 1] rfl
  have hKc := hK.sub (tys' := []) [] rfl
  have hDc := hD.sub (ws' := [(r 0, .inr (7, [.ref (r 1), .int 0, .ref (r 2), .ref (r 55), .ref (r 57), .ref (r 30), .ref (r 56), .ref (r 36), .ref (r 37), .ref (r 38), .int 0, .ref (r 51), .int 0, .ref (r 52), .ref (r 53), .ref (r 54)])), (r 55, .inr (3, [.int 1, .int 0, .int 0, .int 0, .ref (r 20), .ref (r 21), .ref (r 22), .int 0, .ref (r 23), .ref (r 24), .ref (r 25), .int 0, .ref (r 28), .ref (r 27)]))]) [0, 1] (by decide) rfl
  have hFc := va_free (wc := [(r 0, .inr (7, [.ref (r 1), .int 0, .ref (r 2), .ref (r 55), .ref (r 57), .ref (r 30), .ref (r 56), .ref (r 36), .ref (r 37), .ref (r 38), .int 0, .ref (r 51), .int 0, .ref (r 52), .ref (r 53), .ref (r 54)])), (r 55, .inr (3, [.int 1, .int 0, .int 0, .int 0, .ref (r 20), .ref (r 21), .ref (r 22), .int 0, .ref (r 23), .ref (r 24), .ref (r 25), .int 0, .ref (r 28), .ref (r 27)]))]) hD hS hA [0, 1] rfl
  refine va_calli (va_runV (As := [.int p0]) (rest := []) ⟨hx, hb, hml, hown, hG⟩ (kX8_isHouse l dC dI r c p0 s.heap.size ) (cwV 1 hG (goodV gw716 gw718 gw21 gw129 gw719) rfl rfl rfl hd_X8_isHouse ⟨(Nat.le_of_ble_eq_true rfl), (Nat.le_of_ble_eq_true rfl)⟩) ⟨fbW, va_recv hKc hPc (ci := 7) (q0 := 0) rfl rfl, pW_in hPc hKc hDc⟩ rfl rfl hl.1 rfl (lv_room (Nat.le_of_ble_eq_true rfl)) dX8_law_2 ⟨(Nat.le_of_ble_eq_true rfl), (Nat.le_of_ble_eq_true rfl)⟩) hS (fun q _ h => hFc q h) hFc (fun r_2 u t H1 locs ht hvm hw hB hz1 hk1 hS => ?_)
  obtain ⟨hP1, hD1⟩ := hB
  rw [ht] at hP1
  obtain ⟨hP, hD⟩ := va_join (wr := []) (w1 := [(r 0, .inr (7, [.ref (r 1), .int 0, .ref (r 2), .ref (r 55), .ref (r 57), .ref (r 30), .ref (r 56), .ref (r 36), .ref (r 37), .ref (r 38), .int 0, .ref (r 51), .int 0, .ref (r 52), .ref (r 53), .ref (r 54)])), (r 55, .inr (3, [.int 1, .int 0, .int 0, .int 0, .ref (r 20), .ref (r 21), .ref (r 22), .int 0, .ref (r 23), .ref (r 24), .ref (r 25), .int 0, .ref (r 28), .ref (r 27)]))]) hP hD [0, 1] [] rfl rfl (by decide) (by decide) hk1 hFc hP1 hD1
  have hP : va_P (dC, dI) vwCl [(r 0, .inr (7, [.ref (r 1), .int 0, .ref (r 2), .ref (r 55), .ref (r 57), .ref (r 30), .ref (r 56), .ref (r 36), .ref (r 37), .ref (r 38), .int 0, .ref (r 51), .int 0, .ref (r 52), .ref (r 53), .ref (r 54)])), (r 55, .inr (3, [.int 1, .int 0, .int 0, .int 0, .ref (r 20), .ref (r 21), .ref (r 22), .int 0, .ref (r 23), .ref (r 24), .ref (r 25), .int 0, .ref (r 28), .ref (r 27)]))] H1 := hP
  have hD : va_D A [(r 0, .inr (7, [.ref (r 1), .int 0, .ref (r 2), .ref (r 55), .ref (r 57), .ref (r 30), .ref (r 56), .ref (r 36), .ref (r 37), .ref (r 38), .int 0, .ref (r 51), .int 0, .ref (r 52), .ref (r 53), .ref (r 54)])), (r 55, .inr (3, [.int 1, .int 0, .int 0, .int 0, .ref (r 20), .ref (r 21), .ref (r 22), .int 0, .ref (r 23), .ref (r 24), .ref (r 25), .int 0, .ref (r 28), .ref (r 27)]))] := hD
  refine wt_c (v := 0) hw ?_
  refine lv_if_eq (tgt := 19) hx hb dX8_law_5 (by decide) (fun c_3 => ?_) (fun c_3 => absurd (by decide) c_3)
  refine lv_iconst (v := (-1)) hx hb dX8_law_19 (by decide) ?_
  exact W.iret (v := (-1)) hx hb hr (fun t ht hW => ⟨⟨(-1), (), rfl, rfl, trivial⟩, hS.F ht⟩) hS.2.2 dX8_law_20
set_option maxHeartbeats 4000000 in
set_option maxRecDepth 100000 in
theorem kX9_law (l : Launch) (dC : Nat → ClassId) (dI : Nat → Nat → Nat) (r : Nat → Nat) (c : Nat → ClassId) (f5 : Nat → Int32) (p0 p1 : Int32) (sz : Nat) (hf5_0 : f5 0 = 0) : Met l yX9_law (.code yX9_law cX9_law 5 (some .int) :: GW) { frames := 6, cells := 0, slots := 0, locals := 223 } (va_Pc [.ref (r 0), .int p0, .int p1] (pW (dC, dI) [(r 0, .inr (8, [.ref (r 1), .ref (r 2), .int 0, .int 0, .int 0, .int (-1), .int 0, .int 0, .int 0, .int 0, .long 0, .ref (r 3), .ref (r 4), .ref (r 5), .ref (r 6), .ref (r 7), .ref (r 8), .ref (r 9), .ref (r 10), .ref (r 11), .ref (r 12), .ref (r 13), .ref (r 14), .ref (r 15), .ref (r 16), .ref (r 17), .ref (r 18), .ref (r 19), .ref (r 20), .ref (r 21), .ref (r 22), .ref (r 23), .ref (r 24), .int 0, .int 0, .int 0, .int 0, .int 0, .int 0, .int 0, .int 0, .int 0, .ref (r 25), .ref (r 26), .ref (r 27), .int 0, .int 0, .ref (r 28), .int 0, .ref (r 29), .ref (r 30), .ref (r 31), .ref (r 32), .ref (r 33), .ref (r 34), .ref (r 35), .ref (r 36), .int 0, .int 0, .int 0, .ref (r 37), .ref (r 38)])), (r 5, .inl ((c 5), 2, .inl f5))] [((c 5), .int)] sz)) (va_Qi (fun (r0 : Int32) (_ : Unit) => r0 = (-1)) (fun _ _ => True) (va_A [(r 0, .inr (8, [.ref (r 1), .ref (r 2), .int 0, .int 0, .int 0, .int (-1), .int 0, .int 0, .int 0, .int 0, .long 0, .ref (r 3), .ref (r 4), .ref (r 5), .ref (r 6), .ref (r 7), .ref (r 8), .ref (r 9), .ref (r 10), .ref (r 11), .ref (r 12), .ref (r 13), .ref (r 14), .ref (r 15), .ref (r 16), .ref (r 17), .ref (r 18), .ref (r 19), .ref (r 20), .ref (r 21), .ref (r 22), .ref (r 23), .ref (r 24), .int 0, .int 0, .int 0, .int 0, .int 0, .int 0, .int 0, .int 0, .int 0, .ref (r 25), .ref (r 26), .ref (r 27), .int 0, .int 0, .ref (r 28), .int 0, .ref (r 29), .ref (r 30), .ref (r 31), .ref (r 32), .ref (r 33), .ref (r 34), .ref (r 35), .ref (r 36), .int 0, .int 0, .int 0, .ref (r 37), .ref (r 38)])), (r 5, .inl ((c 5), 2, .inl f5))] sz)) 0 0 (va_A [(r 0, .inr (8, [.ref (r 1), .ref (r 2), .int 0, .int 0, .int 0, .int (-1), .int 0, .int 0, .int 0, .int 0, .long 0, .ref (r 3), .ref (r 4), .ref (r 5), .ref (r 6), .ref (r 7), .ref (r 8), .ref (r 9), .ref (r 10), .ref (r 11), .ref (r 12), .ref (r 13), .ref (r 14), .ref (r 15), .ref (r 16), .ref (r 17), .ref (r 18), .ref (r 19), .ref (r 20), .ref (r 21), .ref (r 22), .ref (r 23), .ref (r 24), .int 0, .int 0, .int 0, .int 0, .int 0, .int 0, .int 0, .int 0, .int 0, .ref (r 25), .ref (r 26), .ref (r 27), .int 0, .int 0, .ref (r 28), .int 0, .ref (r 29), .ref (r 30), .ref (r 31), .ref (r 32), .ref (r 33), .ref (r 34), .ref (r 35), .ref (r 36), .int 0, .int 0, .int 0, .ref (r 37), .ref (r 38)])), (r 5, .inl ((c 5), 2, .inl f5))] sz) := by
  refine Met.ofW (cc := cX9_law) (maxL := 5) (ret := (some .int)) (by decide) rfl ?_
  intro p e s m args below meth c0 s₁ B hml hv
  obtain ⟨rfl, hsz, hP, hK, hD0⟩ := hv
  have hx := B.exec
  have hb := B.bytes
  have hr := B.returns
  have hts := atoms_spec (ws := .code yX9_law cX9_law 5 (some .int) :: GW) B.pre
  have hG : ∀ w ∈ GW, w.before _ s = true := fun w h => hts w (List.mem_cons_of_mem _ h)
  have hown : s.vm.findClass RX9 = some m.cls := findClass_of_methodNamed B.named
  have hlocks := B.notSynchronized
  subst hsz
  have hD := hD0.self (sz := s.heap.size)
  generalize hAe : va_A [(r 0, .inr (8, [.ref (r 1), .ref (r 2), .int 0, .int 0, .int 0, .int (-1), .int 0, .int 0, .int 0, .int 0, .long 0, .ref (r 3), .ref (r 4), .ref (r 5), .ref (r 6), .ref (r 7), .ref (r 8), .ref (r 9), .ref (r 10), .ref (r 11), .ref (r 12), .ref (r 13), .ref (r 14), .ref (r 15), .ref (r 16), .ref (r 17), .ref (r 18), .ref (r 19), .ref (r 20), .ref (r 21), .ref (r 22), .ref (r 23), .ref (r 24), .int 0, .int 0, .int 0, .int 0, .int 0, .int 0, .int 0, .int 0, .int 0, .ref (r 25), .ref (r 26), .ref (r 27), .int 0, .int 0, .ref (r 28), .int 0, .ref (r 29), .ref (r 30), .ref (r 31), .ref (r 32), .ref (r 33), .ref (r 34), .ref (r 35), .ref (r 36), .int 0, .int 0, .int 0, .ref (r 37), .ref (r 38)])), (r 5, .inl ((c 5), 2, .inl f5))] s.heap.size = A at hD ⊢
  have hA : ∀ q : Nat, s.heap.size ≤ q → A q := fun q h => by rw [← hAe]; exact Or.inr h
  have hS : va_S A s.heap s.heap [] := va_S.rf
  have hP : va_P (dC, dI) vwCl [(r 0, .inr (8, [.ref (r 1), .ref (r 2), .int 0, .int 0, .int 0, .int (-1), .int 0, .int 0, .int 0, .int 0, .long 0, .ref (r 3), .ref (r 4), .ref (r 5), .ref (r 6), .ref (r 7), .ref (r 8), .ref (r 9), .ref (r 10), .ref (r 11), .ref (r 12), .ref (r 13), .ref (r 14), .ref (r 15), .ref (r 16), .ref (r 17), .ref (r 18), .ref (r 19), .ref (r 20), .ref (r 21), .ref (r 22), .ref (r 23), .ref (r 24), .int 0, .int 0, .int 0, .int 0, .int 0, .int 0, .int 0, .int 0, .int 0, .ref (r 25), .ref (r 26), .ref (r 27), .int 0, .int 0, .ref (r 28), .int 0, .ref (r 29), .ref (r 30), .ref (r 31), .ref (r 32), .ref (r 33), .ref (r 34), .ref (r 35), .ref (r 36), .int 0, .int 0, .int 0, .ref (r 37), .ref (r 38)])), (r 5, .inl ((c 5), 2, .inl f5))] s.heap := hP
  have hl := lv_entry ([.ref (r 0), .int p0, .int p1]) (n := 5) (Nat.le_of_ble_eq_true rfl)
  rw [lg_entry_eq]
  generalize (lg_sl ([.ref (r 0), .int p0, .int p1]) ++ List.replicate (5 - (lg_sl ([.ref (r 0), .int p0, .int p1])).length) Slot.unset).toArray = ls at hl ⊢
  have hl : lv_has ls 5 [(0, .ref (r 0)), (1, .int p0), (2, .int p1)] := hl
  refine lv_aload_n hx hb dX9_law_0 rfl (lv_at hl 0 rfl) ?_
  refine lv_iload_n hx hb dX9_law_1 rfl (lv_at hl 1 rfl) ?_
  have hPc := hP.sub (ws' := [(r 0, .inr (8, [.ref (r 1), .ref (r 2), .int 0, .int 0, .int 0, .int (-1), .int 0, .int 0, .int 0, .int 0, .long 0, .ref (r 3), .ref (r 4), .ref (r 5), .ref (r 6), .ref (r 7), .ref (r 8), .ref (r 9), .ref (r 10), .ref (r 11), .ref (r 12), .ref (r 13), .ref (r 14), .ref (r 15), .ref (r 16), .ref (r 17), .ref (r 18), .ref (r 19), .ref (r 20), .ref (r 21), .ref (r 22), .ref (r 23), .ref (r 24), .int 0, .int 0, .int 0, .int 0, .int 0, .int 0, .int 0, .int 0, .int 0, .ref (r 25), .ref (r 26), .ref (r 27), .int 0, .int 0, .ref (r 28), .int 0, .ref (r 29), .ref (r 30), .ref (r 31), .ref (r 32), .ref (r 33), .ref (r 34), .ref (r 35), .ref (r 36), .int 0, .int 0, .int 0, .ref (r 37), .ref (r 38)])), (r 5, .inl ((c 5), 2, .inl f5))]) [0, 1] rfl
  have hKc := hK.sub (tys' := [((c 5), .int)]) [0] rfl
  have hDc := hD.sub (ws' := [(r 0, .inr (8, [.ref (r 1), .ref (r 2), .int 0, .int 0, .int 0, .int (-1), .int 0, .int 0, .int 0, .int 0, .long 0, .ref (r 3), .ref (r 4), .ref (r 5), .ref (r 6), .ref (r 7), .ref (r 8), .ref (r 9), .ref (r 10), .ref (r 11), .ref (r 12), .ref (r 13), .ref (r 14), .ref (r 15), .ref (r 16), .ref (r 17), .ref (r 18), .ref (r 19), .ref (r 20), .ref (r 21), .ref (r 22), .ref (r 23), .ref (r 24), .int 0, .int 0, .int 0, .int 0, .int 0, .int 0, .int 0, .int 0, .int 0, .ref (r 25), .ref (r 26), .ref (r 27), .int 0, .int 0, .ref (r 28), .int 0, .ref (r 29), .ref (r 30), .ref (r 31), .ref (r 32), .ref (r 33), .ref (r 34), .ref (r 35), .ref (r 36), .int 0, .int 0, .int 0, .ref (r 37), .ref (r 38)])), (r 5, .inl ((c 5), 2, .inl f5))]) [0, 1] (by decide) rfl
  have hFc := va_free (wc := [(r 0, .inr (8, [.ref (r 1), .ref (r 2), .int 0, .int 0, .int 0, .int (-1), .int 0, .int 0, .int 0, .int 0, .long 0, .ref (r 3), .ref (r 4), .ref (r 5), .ref (r 6), .ref (r 7), .ref (r 8), .ref (r 9), .ref (r 10), .ref (r 11), .ref (r 12), .ref (r 13), .ref (r 14), .ref (r 15), .ref (r 16), .ref (r 17), .ref (r 18), .ref (r 19), .ref (r 20), .ref (r 21), .ref (r 22), .ref (r 23), .ref (r 24), .int 0, .int 0, .int 0, .int 0, .int 0, .int 0, .int 0, .int 0, .int 0, .ref (r 25), .ref (r 26), .ref (r 27), .int 0, .int 0, .ref (r 28), .int 0, .ref (r 29), .ref (r 30), .ref (r 31), .ref (r 32), .ref (r 33), .ref (r 34), .ref (r 35), .ref (r 36), .int 0, .int 0, .int 0, .ref (r 37), .ref (r 38)])), (r 5, .inl ((c 5), 2, .inl f5))]) hD hS hA [0, 1] rfl
  refine va_calli (va_runV (As := [.int p0]) (rest := []) ⟨hx, hb, hml, hown, hG⟩ (kX9_isHouse l dC dI r c f5 p0 s.heap.size hf5_0) (cwV 1 hG (goodV gw1542 gw1544 gw90 gw138 gw1545) rfl rfl rfl hd_X9_isHouse ⟨(Nat.le_of_ble_eq_true rfl), (Nat.le_of_ble_eq_true rfl)⟩) ⟨fbW, va_recv hKc hPc (ci := 8) (q0 := 0) rfl rfl, pW_in hPc hKc hDc⟩ rfl rfl hl.1 rfl (lv_room (Nat.le_of_ble_eq_true rfl)) dX9_law_2 ⟨(Nat.le_of_ble_eq_true rfl), (Nat.le_of_ble_eq_true rfl)⟩) hS (fun q _ h => hFc q h) hFc (fun r_2 u t H1 locs ht hvm hw hB hz1 hk1 hS => ?_)
  obtain ⟨hP1, hD1⟩ := hB
  rw [ht] at hP1
  obtain ⟨hP, hD⟩ := va_join (wr := []) (w1 := [(r 0, .inr (8, [.ref (r 1), .ref (r 2), .int 0, .int 0, .int 0, .int (-1), .int 0, .int 0, .int 0, .int 0, .long 0, .ref (r 3), .ref (r 4), .ref (r 5), .ref (r 6), .ref (r 7), .ref (r 8), .ref (r 9), .ref (r 10), .ref (r 11), .ref (r 12), .ref (r 13), .ref (r 14), .ref (r 15), .ref (r 16), .ref (r 17), .ref (r 18), .ref (r 19), .ref (r 20), .ref (r 21), .ref (r 22), .ref (r 23), .ref (r 24), .int 0, .int 0, .int 0, .int 0, .int 0, .int 0, .int 0, .int 0, .int 0, .ref (r 25), .ref (r 26), .ref (r 27), .int 0, .int 0, .ref (r 28), .int 0, .ref (r 29), .ref (r 30), .ref (r 31), .ref (r 32), .ref (r 33), .ref (r 34), .ref (r 35), .ref (r 36), .int 0, .int 0, .int 0, .ref (r 37), .ref (r 38)])), (r 5, .inl ((c 5), 2, .inl f5))]) hP hD [0, 1] [] rfl rfl (by decide) (by decide) hk1 hFc hP1 hD1
  have hP : va_P (dC, dI) vwCl [(r 0, .inr (8, [.ref (r 1), .ref (r 2), .int 0, .int 0, .int 0, .int (-1), .int 0, .int 0, .int 0, .int 0, .long 0, .ref (r 3), .ref (r 4), .ref (r 5), .ref (r 6), .ref (r 7), .ref (r 8), .ref (r 9), .ref (r 10), .ref (r 11), .ref (r 12), .ref (r 13), .ref (r 14), .ref (r 15), .ref (r 16), .ref (r 17), .ref (r 18), .ref (r 19), .ref (r 20), .ref (r 21), .ref (r 22), .ref (r 23), .ref (r 24), .int 0, .int 0, .int 0, .int 0, .int 0, .int 0, .int 0, .int 0, .int 0, .ref (r 25), .ref (r 26), .ref (r 27), .int 0, .int 0, .ref (r 28), .int 0, .ref (r 29), .ref (r 30), .ref (r 31), .ref (r 32), .ref (r 33), .ref (r 34), .ref (r 35), .ref (r 36), .int 0, .int 0, .int 0, .ref (r 37), .ref (r 38)])), (r 5, .inl ((c 5), 2, .inl f5))] H1 := hP
  have hD : va_D A [(r 0, .inr (8, [.ref (r 1), .ref (r 2), .int 0, .int 0, .int 0, .int (-1), .int 0, .int 0, .int 0, .int 0, .long 0, .ref (r 3), .ref (r 4), .ref (r 5), .ref (r 6), .ref (r 7), .ref (r 8), .ref (r 9), .ref (r 10), .ref (r 11), .ref (r 12), .ref (r 13), .ref (r 14), .ref (r 15), .ref (r 16), .ref (r 17), .ref (r 18), .ref (r 19), .ref (r 20), .ref (r 21), .ref (r 22), .ref (r 23), .ref (r 24), .int 0, .int 0, .int 0, .int 0, .int 0, .int 0, .int 0, .int 0, .int 0, .ref (r 25), .ref (r 26), .ref (r 27), .int 0, .int 0, .ref (r 28), .int 0, .ref (r 29), .ref (r 30), .ref (r 31), .ref (r 32), .ref (r 33), .ref (r 34), .ref (r 35), .ref (r 36), .int 0, .int 0, .int 0, .ref (r 37), .ref (r 38)])), (r 5, .inl ((c 5), 2, .inl f5))] := hD
  refine wt_c (v := 0) hw ?_
  refine lv_if_eq (tgt := 19) hx hb dX9_law_5 (by decide) (fun c_3 => ?_) (fun c_3 => absurd (by decide) c_3)
  refine lv_iconst (v := (-1)) hx hb dX9_law_19 (by decide) ?_
  exact W.iret (v := (-1)) hx hb hr (fun t ht hW => ⟨⟨(-1), (), rfl, rfl, trivial⟩, hS.F ht⟩) hS.2.2 dX9_law_20
set_option maxHeartbeats 4000000 in
set_option maxRecDepth 100000 in
theorem kX8_favourite (l : Launch) (dC : Nat → ClassId) (dI : Nat → Nat → Nat) (r : Nat → Nat) (c : Nat → ClassId) (sz : Nat) : Met l yX8_favourite (.code yX8_favourite cX8_favourite 6 (some .int) :: GW) { frames := 2, cells := 0, slots := 0, locals := 100 } (va_Pc [.ref (r 0)] (pW (dC, dI) [(r 0, .inr (7, [.ref (r 1), .int 0, .ref (r 2), .ref (r 55), .ref (r 57), .ref (r 30), .ref (r 56), .ref (r 36), .ref (r 37), .ref (r 38), .int 0, .ref (r 51), .int 0, .ref (r 52), .ref (r 53), .ref (r 54)])), (r 55, .inr (3, [.int 1, .int 0, .int 0, .int 0, .ref (r 20), .ref (r 21), .ref (r 22), .int 0, .ref (r 23), .ref (r 24), .ref (r 25), .int 0, .ref (r 28), .ref (r 27)]))] [] sz)) (va_Qi (fun (r0 : Int32) (_ : Unit) => r0 = (-1)) (fun _ _ => True) (va_A [(r 0, .inr (7, [.ref (r 1), .int 0, .ref (r 2), .ref (r 55), .ref (r 57), .ref (r 30), .ref (r 56), .ref (r 36), .ref (r 37), .ref (r 38), .int 0, .ref (r 51), .int 0, .ref (r 52), .ref (r 53), .ref (r 54)])), (r 55, .inr (3, [.int 1, .int 0, .int 0, .int 0, .ref (r 20), .ref (r 21), .ref (r 22), .int 0, .ref (r 23), .ref (r 24), .ref (r 25), .int 0, .ref (r 28), .ref (r 27)]))] sz)) 0 0 (va_A [(r 0, .inr (7, [.ref (r 1), .int 0, .ref (r 2), .ref (r 55), .ref (r 57), .ref (r 30), .ref (r 56), .ref (r 36), .ref (r 37), .ref (r 38), .int 0, .ref (r 51), .int 0, .ref (r 52), .ref (r 53), .ref (r 54)])), (r 55, .inr (3, [.int 1, .int 0, .int 0, .int 0, .ref (r 20), .ref (r 21), .ref (r 22), .int 0, .ref (r 23), .ref (r 24), .ref (r 25), .int 0, .ref (r 28), .ref (r 27)]))] sz) := by
  refine Met.ofW (cc := cX8_favourite) (maxL := 6) (ret := (some .int)) (by decide) rfl ?_
  intro p e s m args below meth c0 s₁ B hml hv
  obtain ⟨rfl, hsz, hP, hK, hD0⟩ := hv
  have hx := B.exec
  have hb := B.bytes
  have hr := B.returns
  have hts := atoms_spec (ws := .code yX8_favourite cX8_favourite 6 (some .int) :: GW) B.pre
  have hG : ∀ w ∈ GW, w.before _ s = true := fun w h => hts w (List.mem_cons_of_mem _ h)
  have hown : s.vm.findClass RX8 = some m.cls := findClass_of_methodNamed B.named
  have hlocks := B.notSynchronized
  subst hsz
  have hD := hD0.self (sz := s.heap.size)
  generalize hAe : va_A [(r 0, .inr (7, [.ref (r 1), .int 0, .ref (r 2), .ref (r 55), .ref (r 57), .ref (r 30), .ref (r 56), .ref (r 36), .ref (r 37), .ref (r 38), .int 0, .ref (r 51), .int 0, .ref (r 52), .ref (r 53), .ref (r 54)])), (r 55, .inr (3, [.int 1, .int 0, .int 0, .int 0, .ref (r 20), .ref (r 21), .ref (r 22), .int 0, .ref (r 23), .ref (r 24), .ref (r 25), .int 0, .ref (r 28), .ref (r 27)]))] s.heap.size = A at hD ⊢
  have hA : ∀ q : Nat, s.heap.size ≤ q → A q := fun q h => by rw [← hAe]; exact Or.inr h
  have hS : va_S A s.heap s.heap [] := va_S.rf
  have hP : va_P (dC, dI) vwCl [(r 0, .inr (7, [.ref (r 1), .int 0, .ref (r 2), .ref (r 55), .ref (r 57), .ref (r 30), .ref (r 56), .ref (r 36), .ref (r 37), .ref (r 38), .int 0, .ref (r 51), .int 0, .ref (r 52), .ref (r 53), .ref (r 54)])), (r 55, .inr (3, [.int 1, .int 0, .int 0, .int 0, .ref (r 20), .ref (r 21), .ref (r 22), .int 0, .ref (r 23), .ref (r 24), .ref (r 25), .int 0, .ref (r 28), .ref (r 27)]))] s.heap := hP
  have hl := lv_entry ([.ref (r 0)]) (n := 6) (Nat.le_of_ble_eq_true rfl)
  rw [lg_entry_eq]
  generalize (lg_sl ([.ref (r 0)]) ++ List.replicate (6 - (lg_sl ([.ref (r 0)])).length) Slot.unset).toArray = ls at hl ⊢
  have hl : lv_has ls 6 [(0, .ref (r 0))] := hl
  refine lv_iconst (v := (-1)) hx hb dX8_favourite_0 (by decide) ?_
  refine lv_istore_n (lv' := [(1, .int (-1)), (0, .ref (r 0))]) hx hb dX8_favourite_1 rfl hl (by decide) rfl (fun ls hl => ?_)
  refine lv_iconst (v := (-1)) hx hb dX8_favourite_2 (by decide) ?_
  refine lv_istore_n (lv' := [(2, .int (-1)), (1, .int (-1)), (0, .ref (r 0))]) hx hb dX8_favourite_3 rfl hl (by decide) rfl (fun ls hl => ?_)
  refine lv_iconst (v := 0) hx hb dX8_favourite_4 (by decide) ?_
  refine lv_istore_n (lv' := [(3, .int 0), (2, .int (-1)), (1, .int (-1)), (0, .ref (r 0))]) hx hb dX8_favourite_5 rfl hl (by decide) rfl (fun ls hl => ?_)
  refine lv_iload_n hx hb dX8_favourite_6 rfl (lv_at hl 0 rfl) ?_
  refine lv_aload_n hx hb dX8_favourite_7 rfl (lv_at hl 3 rfl) ?_
  refine va_get (D := (dC, dI)) (ci := 7) (v := .ref (r 55)) (C := RX8) (T := TX8) (N := 16) hx hb hG inX8 hown hK hP 0 rfl rfl 3 (by decide) (hG _ gw471) (fun _ h9 => h9) rfl dX8_favourite_8 ?_
  refine va_get (D := (dC, dI)) (ci := 3) (v := .int 0) (C := RX4) (T := TX4) (N := 14) hx hb hG inX4 hown hK hP 1 rfl rfl 3 (by decide) (hG _ gw245) (fun _ h9 => h9) rfl dX8_favourite_11 ?_
  refine lv_icmp_ge (tgt := 81) hx hb dX8_favourite_14 (by decide) (fun c_1 => ?_) (fun c_1 => absurd (by decide) c_1)
  refine lv_iload_n hx hb dX8_favourite_81 rfl (lv_at hl 2 rfl) ?_
  exact W.iret (v := (-1)) hx hb hr (fun t ht hW => ⟨⟨(-1), (), rfl, rfl, trivial⟩, hS.F ht⟩) hS.2.2 dX8_favourite_82
set_option maxHeartbeats 4000000 in
set_option maxRecDepth 100000 in
theorem kX9_favourite (l : Launch) (dC : Nat → ClassId) (dI : Nat → Nat → Nat) (r : Nat → Nat) (c : Nat → ClassId) (f4 : Nat → Int32) (sz : Nat) (hf4_0 : f4 0 = 0) : Met l yX9_favourite (.code yX9_favourite cX9_favourite 3 (some .int) :: GW) { frames := 4, cells := 0, slots := 0, locals := 160 } (va_Pc [.ref (r 0)] (pW (dC, dI) [(r 0, .inr (8, [.ref (r 1), .ref (r 2), .int 0, .int 0, .int 0, .int (-1), .int 0, .int 0, .int 0, .int 0, .long 0, .ref (r 3), .ref (r 4), .ref (r 5), .ref (r 6), .ref (r 7), .ref (r 8), .ref (r 9), .ref (r 10), .ref (r 11), .ref (r 12), .ref (r 13), .ref (r 14), .ref (r 15), .ref (r 16), .ref (r 17), .ref (r 18), .ref (r 19), .ref (r 20), .ref (r 21), .ref (r 22), .ref (r 23), .ref (r 24), .int 0, .int 0, .int 0, .int 0, .int 0, .int 0, .int 0, .int 0, .int 0, .ref (r 25), .ref (r 26), .ref (r 27), .int 0, .int 0, .ref (r 28), .int 0, .ref (r 29), .ref (r 30), .ref (r 31), .ref (r 32), .ref (r 33), .ref (r 34), .ref (r 35), .ref (r 36), .int 0, .int 0, .int 0, .ref (r 37), .ref (r 38)])), (r 4, .inl ((c 4), 2, .inl f4))] [((c 4), .int)] sz)) (va_Qi (fun (r0 : Int32) (_ : Unit) => r0 = (-1)) (fun _ _ => True) (va_A [(r 0, .inr (8, [.ref (r 1), .ref (r 2), .int 0, .int 0, .int 0, .int (-1), .int 0, .int 0, .int 0, .int 0, .long 0, .ref (r 3), .ref (r 4), .ref (r 5), .ref (r 6), .ref (r 7), .ref (r 8), .ref (r 9), .ref (r 10), .ref (r 11), .ref (r 12), .ref (r 13), .ref (r 14), .ref (r 15), .ref (r 16), .ref (r 17), .ref (r 18), .ref (r 19), .ref (r 20), .ref (r 21), .ref (r 22), .ref (r 23), .ref (r 24), .int 0, .int 0, .int 0, .int 0, .int 0, .int 0, .int 0, .int 0, .int 0, .ref (r 25), .ref (r 26), .ref (r 27), .int 0, .int 0, .ref (r 28), .int 0, .ref (r 29), .ref (r 30), .ref (r 31), .ref (r 32), .ref (r 33), .ref (r 34), .ref (r 35), .ref (r 36), .int 0, .int 0, .int 0, .ref (r 37), .ref (r 38)])), (r 4, .inl ((c 4), 2, .inl f4))] sz)) 0 0 (va_A [(r 0, .inr (8, [.ref (r 1), .ref (r 2), .int 0, .int 0, .int 0, .int (-1), .int 0, .int 0, .int 0, .int 0, .long 0, .ref (r 3), .ref (r 4), .ref (r 5), .ref (r 6), .ref (r 7), .ref (r 8), .ref (r 9), .ref (r 10), .ref (r 11), .ref (r 12), .ref (r 13), .ref (r 14), .ref (r 15), .ref (r 16), .ref (r 17), .ref (r 18), .ref (r 19), .ref (r 20), .ref (r 21), .ref (r 22), .ref (r 23), .ref (r 24), .int 0, .int 0, .int 0, .int 0, .int 0, .int 0, .int 0, .int 0, .int 0, .ref (r 25), .ref (r 26), .ref (r 27), .int 0, .int 0, .ref (r 28), .int 0, .ref (r 29), .ref (r 30), .ref (r 31), .ref (r 32), .ref (r 33), .ref (r 34), .ref (r 35), .ref (r 36), .int 0, .int 0, .int 0, .ref (r 37), .ref (r 38)])), (r 4, .inl ((c 4), 2, .inl f4))] sz) := by
  refine Met.ofW (cc := cX9_favourite) (maxL := 3) (ret := (some .int)) (by decide) rfl ?_
  intro p e s m args below meth c0 s₁ B hml hv
  obtain ⟨rfl, hsz, hP, hK, hD0⟩ := hv
  have hx := B.exec
  have hb := B.bytes
  have hr := B.returns
  have hts := atoms_spec (ws := .code yX9_favourite cX9_favourite 3 (some .int) :: GW) B.pre
  have hG : ∀ w ∈ GW, w.before _ s = true := fun w h => hts w (List.mem_cons_of_mem _ h)
  have hown : s.vm.findClass RX9 = some m.cls := findClass_of_methodNamed B.named
  have hlocks := B.notSynchronized
  subst hsz
  have hD := hD0.self (sz := s.heap.size)
  generalize hAe : va_A [(r 0, .inr (8, [.ref (r 1), .ref (r 2), .int 0, .int 0, .int 0, .int (-1), .int 0, .int 0, .int 0, .int 0, .long 0, .ref (r 3), .ref (r 4), .ref (r 5), .ref (r 6), .ref (r 7), .ref (r 8), .ref (r 9), .ref (r 10), .ref (r 11), .ref (r 12), .ref (r 13), .ref (r 14), .ref (r 15), .ref (r 16), .ref (r 17), .ref (r 18), .ref (r 19), .ref (r 20), .ref (r 21), .ref (r 22), .ref (r 23), .ref (r 24), .int 0, .int 0, .int 0, .int 0, .int 0, .int 0, .int 0, .int 0, .int 0, .ref (r 25), .ref (r 26), .ref (r 27), .int 0, .int 0, .ref (r 28), .int 0, .ref (r 29), .ref (r 30), .ref (r 31), .ref (r 32), .ref (r 33), .ref (r 34), .ref (r 35), .ref (r 36), .int 0, .int 0, .int 0, .ref (r 37), .ref (r 38)])), (r 4, .inl ((c 4), 2, .inl f4))] s.heap.size = A at hD ⊢
  have hA : ∀ q : Nat, s.heap.size ≤ q → A q := fun q h => by rw [← hAe]; exact Or.inr h
  have hS : va_S A s.heap s.heap [] := va_S.rf
  have hP : va_P (dC, dI) vwCl [(r 0, .inr (8, [.ref (r 1), .ref (r 2), .int 0, .int 0, .int 0, .int (-1), .int 0, .int 0, .int 0, .int 0, .long 0, .ref (r 3), .ref (r 4), .ref (r 5), .ref (r 6), .ref (r 7), .ref (r 8), .ref (r 9), .ref (r 10), .ref (r 11), .ref (r 12), .ref (r 13), .ref (r 14), .ref (r 15), .ref (r 16), .ref (r 17), .ref (r 18), .ref (r 19), .ref (r 20), .ref (r 21), .ref (r 22), .ref (r 23), .ref (r 24), .int 0, .int 0, .int 0, .int 0, .int 0, .int 0, .int 0, .int 0, .int 0, .ref (r 25), .ref (r 26), .ref (r 27), .int 0, .int 0, .ref (r 28), .int 0, .ref (r 29), .ref (r 30), .ref (r 31), .ref (r 32), .ref (r 33), .ref (r 34), .ref (r 35), .ref (r 36), .int 0, .int 0, .int 0, .ref (r 37), .ref (r 38)])), (r 4, .inl ((c 4), 2, .inl f4))] s.heap := hP
  have hl := lv_entry ([.ref (r 0)]) (n := 3) (Nat.le_of_ble_eq_true rfl)
  rw [lg_entry_eq]
  generalize (lg_sl ([.ref (r 0)]) ++ List.replicate (3 - (lg_sl ([.ref (r 0)])).length) Slot.unset).toArray = ls at hl ⊢
  have hl : lv_has ls 3 [(0, .ref (r 0))] := hl
  refine lv_iconst (v := (-1)) hx hb dX9_favourite_0 (by decide) ?_
  refine lv_istore_n (lv' := [(1, .int (-1)), (0, .ref (r 0))]) hx hb dX9_favourite_1 rfl hl (by decide) rfl (fun ls hl => ?_)
  refine lv_iconst (v := 0) hx hb dX9_favourite_2 (by decide) ?_
  refine lv_istore_n (lv' := [(2, .int 0), (1, .int (-1)), (0, .ref (r 0))]) hx hb dX9_favourite_3 rfl hl (by decide) rfl (fun ls hl => ?_)
  refine lv_iload_n hx hb dX9_favourite_4 rfl (lv_at hl 0 rfl) ?_
  refine lv_aload_n hx hb dX9_favourite_5 rfl (lv_at hl 2 rfl) ?_
  have hPc := hP.sub (ws' := [(r 0, .inr (8, [.ref (r 1), .ref (r 2), .int 0, .int 0, .int 0, .int (-1), .int 0, .int 0, .int 0, .int 0, .long 0, .ref (r 3), .ref (r 4), .ref (r 5), .ref (r 6), .ref (r 7), .ref (r 8), .ref (r 9), .ref (r 10), .ref (r 11), .ref (r 12), .ref (r 13), .ref (r 14), .ref (r 15), .ref (r 16), .ref (r 17), .ref (r 18), .ref (r 19), .ref (r 20), .ref (r 21), .ref (r 22), .ref (r 23), .ref (r 24), .int 0, .int 0, .int 0, .int 0, .int 0, .int 0, .int 0, .int 0, .int 0, .ref (r 25), .ref (r 26), .ref (r 27), .int 0, .int 0, .ref (r 28), .int 0, .ref (r 29), .ref (r 30), .ref (r 31), .ref (r 32), .ref (r 33), .ref (r 34), .ref (r 35), .ref (r 36), .int 0, .int 0, .int 0, .ref (r 37), .ref (r 38)])), (r 4, .inl ((c 4), 2, .inl f4))]) [0, 1] rfl
  have hKc := hK.sub (tys' := [((c 4), .int)]) [0] rfl
  have hDc := hD.sub (ws' := [(r 0, .inr (8, [.ref (r 1), .ref (r 2), .int 0, .int 0, .int 0, .int (-1), .int 0, .int 0, .int 0, .int 0, .long 0, .ref (r 3), .ref (r 4), .ref (r 5), .ref (r 6), .ref (r 7), .ref (r 8), .ref (r 9), .ref (r 10), .ref (r 11), .ref (r 12), .ref (r 13), .ref (r 14), .ref (r 15), .ref (r 16), .ref (r 17), .ref (r 18), .ref (r 19), .ref (r 20), .ref (r 21), .ref (r 22), .ref (r 23), .ref (r 24), .int 0, .int 0, .int 0, .int 0, .int 0, .int 0, .int 0, .int 0, .int 0, .ref (r 25), .ref (r 26), .ref (r 27), .int 0, .int 0, .ref (r 28), .int 0, .ref (r 29), .ref (r 30), .ref (r 31), .ref (r 32), .ref (r 33), .ref (r 34), .ref (r 35), .ref (r 36), .int 0, .int 0, .int 0, .ref (r 37), .ref (r 38)])), (r 4, .inl ((c 4), 2, .inl f4))]) [0, 1] (by decide) rfl
  have hFc := va_free (wc := [(r 0, .inr (8, [.ref (r 1), .ref (r 2), .int 0, .int 0, .int 0, .int (-1), .int 0, .int 0, .int 0, .int 0, .long 0, .ref (r 3), .ref (r 4), .ref (r 5), .ref (r 6), .ref (r 7), .ref (r 8), .ref (r 9), .ref (r 10), .ref (r 11), .ref (r 12), .ref (r 13), .ref (r 14), .ref (r 15), .ref (r 16), .ref (r 17), .ref (r 18), .ref (r 19), .ref (r 20), .ref (r 21), .ref (r 22), .ref (r 23), .ref (r 24), .int 0, .int 0, .int 0, .int 0, .int 0, .int 0, .int 0, .int 0, .int 0, .ref (r 25), .ref (r 26), .ref (r 27), .int 0, .int 0, .ref (r 28), .int 0, .ref (r 29), .ref (r 30), .ref (r 31), .ref (r 32), .ref (r 33), .ref (r 34), .ref (r 35), .ref (r 36), .int 0, .int 0, .int 0, .ref (r 37), .ref (r 38)])), (r 4, .inl ((c 4), 2, .inl f4))]) hD hS hA [0, 1] rfl
  refine va_calli (va_runV (As := []) (rest := [.int 0]) ⟨hx, hb, hml, hown, hG⟩ (kX9_songs l dC dI r c f4 s.heap.size hf4_0) (cwV 0 hG (goodV gw1512 gw1514 gw86 gw138 gw1515) rfl rfl rfl hd_X9_songs ⟨(Nat.le_of_ble_eq_true rfl), (Nat.le_of_ble_eq_true rfl)⟩) ⟨fbW, va_recv hKc hPc (ci := 8) (q0 := 0) rfl rfl, pW_in hPc hKc hDc⟩ rfl rfl hl.1 rfl (lv_room (Nat.le_of_ble_eq_true rfl)) dX9_favourite_6 ⟨(Nat.le_of_ble_eq_true rfl), (Nat.le_of_ble_eq_true rfl)⟩) hS (fun q _ h => hFc q h) hFc (fun r_2 u t H1 locs ht hvm hw hB hz1 hk1 hS => ?_)
  obtain ⟨hP1, hD1⟩ := hB
  rw [ht] at hP1
  obtain ⟨hP, hD⟩ := va_join (wr := []) (w1 := [(r 0, .inr (8, [.ref (r 1), .ref (r 2), .int 0, .int 0, .int 0, .int (-1), .int 0, .int 0, .int 0, .int 0, .long 0, .ref (r 3), .ref (r 4), .ref (r 5), .ref (r 6), .ref (r 7), .ref (r 8), .ref (r 9), .ref (r 10), .ref (r 11), .ref (r 12), .ref (r 13), .ref (r 14), .ref (r 15), .ref (r 16), .ref (r 17), .ref (r 18), .ref (r 19), .ref (r 20), .ref (r 21), .ref (r 22), .ref (r 23), .ref (r 24), .int 0, .int 0, .int 0, .int 0, .int 0, .int 0, .int 0, .int 0, .int 0, .ref (r 25), .ref (r 26), .ref (r 27), .int 0, .int 0, .ref (r 28), .int 0, .ref (r 29), .ref (r 30), .ref (r 31), .ref (r 32), .ref (r 33), .ref (r 34), .ref (r 35), .ref (r 36), .int 0, .int 0, .int 0, .ref (r 37), .ref (r 38)])), (r 4, .inl ((c 4), 2, .inl f4))]) hP hD [0, 1] [] rfl rfl (by decide) (by decide) hk1 hFc hP1 hD1
  have hP : va_P (dC, dI) vwCl [(r 0, .inr (8, [.ref (r 1), .ref (r 2), .int 0, .int 0, .int 0, .int (-1), .int 0, .int 0, .int 0, .int 0, .long 0, .ref (r 3), .ref (r 4), .ref (r 5), .ref (r 6), .ref (r 7), .ref (r 8), .ref (r 9), .ref (r 10), .ref (r 11), .ref (r 12), .ref (r 13), .ref (r 14), .ref (r 15), .ref (r 16), .ref (r 17), .ref (r 18), .ref (r 19), .ref (r 20), .ref (r 21), .ref (r 22), .ref (r 23), .ref (r 24), .int 0, .int 0, .int 0, .int 0, .int 0, .int 0, .int 0, .int 0, .int 0, .ref (r 25), .ref (r 26), .ref (r 27), .int 0, .int 0, .ref (r 28), .int 0, .ref (r 29), .ref (r 30), .ref (r 31), .ref (r 32), .ref (r 33), .ref (r 34), .ref (r 35), .ref (r 36), .int 0, .int 0, .int 0, .ref (r 37), .ref (r 38)])), (r 4, .inl ((c 4), 2, .inl f4))] H1 := hP
  have hD : va_D A [(r 0, .inr (8, [.ref (r 1), .ref (r 2), .int 0, .int 0, .int 0, .int (-1), .int 0, .int 0, .int 0, .int 0, .long 0, .ref (r 3), .ref (r 4), .ref (r 5), .ref (r 6), .ref (r 7), .ref (r 8), .ref (r 9), .ref (r 10), .ref (r 11), .ref (r 12), .ref (r 13), .ref (r 14), .ref (r 15), .ref (r 16), .ref (r 17), .ref (r 18), .ref (r 19), .ref (r 20), .ref (r 21), .ref (r 22), .ref (r 23), .ref (r 24), .int 0, .int 0, .int 0, .int 0, .int 0, .int 0, .int 0, .int 0, .int 0, .ref (r 25), .ref (r 26), .ref (r 27), .int 0, .int 0, .ref (r 28), .int 0, .ref (r 29), .ref (r 30), .ref (r 31), .ref (r 32), .ref (r 33), .ref (r 34), .ref (r 35), .ref (r 36), .int 0, .int 0, .int 0, .ref (r 37), .ref (r 38)])), (r 4, .inl ((c 4), 2, .inl f4))] := hD
  refine wt_c (v := 0) hw ?_
  refine lv_icmp_ge (tgt := 43) hx hb dX9_favourite_9 (by decide) (fun c_3 => ?_) (fun c_3 => absurd (by decide) c_3)
  refine lv_iload_n hx hb dX9_favourite_43 rfl (lv_at hl 1 rfl) ?_
  exact W.iret (v := (-1)) hx hb hr (fun t ht hW => ⟨⟨(-1), (), rfl, rfl, trivial⟩, hS.F ht⟩) hS.2.2 dX9_favourite_44
set_option maxHeartbeats 4000000 in
set_option maxRecDepth 100000 in
theorem kX8_paidFor (l : Launch) (dC : Nat → ClassId) (dI : Nat → Nat → Nat) (r : Nat → Nat) (c : Nat → ClassId) (sz : Nat) : Met l yX8_paidFor (.code yX8_paidFor cX8_paidFor 3 (some .int) :: GW) { frames := 2, cells := 0, slots := 0, locals := 100 } (va_Pc [.ref (r 0)] (pW (dC, dI) [(r 0, .inr (7, [.ref (r 1), .int 0, .ref (r 2), .ref (r 55), .ref (r 57), .ref (r 30), .ref (r 56), .ref (r 36), .ref (r 37), .ref (r 38), .int 0, .ref (r 51), .int 0, .ref (r 52), .ref (r 53), .ref (r 54)])), (r 55, .inr (3, [.int 1, .int 0, .int 0, .int 0, .ref (r 20), .ref (r 21), .ref (r 22), .int 0, .ref (r 23), .ref (r 24), .ref (r 25), .int 0, .ref (r 28), .ref (r 27)]))] [] sz)) (va_Qi (fun (r0 : Int32) (_ : Unit) => r0 = 0) (fun (_ : Unit) (t : State) => va_P (dC, dI) vwCl [(r 0, .inr (7, [.ref (r 1), .int 0, .ref (r 2), .ref (r 55), .ref (r 57), .ref (r 30), .ref (r 56), .ref (r 36), .ref (r 37), .ref (r 38), .int 0, .ref (r 51), .int 0, .ref (r 52), .ref (r 53), .ref (r 54)])), (r 55, .inr (3, [.int 1, .int 0, .int 0, .int 0, .ref (r 20), .ref (r 21), .ref (r 22), .int 0, .ref (r 23), .ref (r 24), .ref (r 25), .int 0, .ref (r 28), .ref (r 27)]))] t.heap ∧ va_D (va_A [(r 0, .inr (7, [.ref (r 1), .int 0, .ref (r 2), .ref (r 55), .ref (r 57), .ref (r 30), .ref (r 56), .ref (r 36), .ref (r 37), .ref (r 38), .int 0, .ref (r 51), .int 0, .ref (r 52), .ref (r 53), .ref (r 54)])), (r 55, .inr (3, [.int 1, .int 0, .int 0, .int 0, .ref (r 20), .ref (r 21), .ref (r 22), .int 0, .ref (r 23), .ref (r 24), .ref (r 25), .int 0, .ref (r 28), .ref (r 27)]))] sz) [(r 0, .inr (7, [.ref (r 1), .int 0, .ref (r 2), .ref (r 55), .ref (r 57), .ref (r 30), .ref (r 56), .ref (r 36), .ref (r 37), .ref (r 38), .int 0, .ref (r 51), .int 0, .ref (r 52), .ref (r 53), .ref (r 54)])), (r 55, .inr (3, [.int 1, .int 0, .int 0, .int 0, .ref (r 20), .ref (r 21), .ref (r 22), .int 0, .ref (r 23), .ref (r 24), .ref (r 25), .int 0, .ref (r 28), .ref (r 27)]))]) (va_A [(r 0, .inr (7, [.ref (r 1), .int 0, .ref (r 2), .ref (r 55), .ref (r 57), .ref (r 30), .ref (r 56), .ref (r 36), .ref (r 37), .ref (r 38), .int 0, .ref (r 51), .int 0, .ref (r 52), .ref (r 53), .ref (r 54)])), (r 55, .inr (3, [.int 1, .int 0, .int 0, .int 0, .ref (r 20), .ref (r 21), .ref (r 22), .int 0, .ref (r 23), .ref (r 24), .ref (r 25), .int 0, .ref (r 28), .ref (r 27)]))] sz)) 0 0 (va_A [(r 0, .inr (7, [.ref (r 1), .int 0, .ref (r 2), .ref (r 55), .ref (r 57), .ref (r 30), .ref (r 56), .ref (r 36), .ref (r 37), .ref (r 38), .int 0, .ref (r 51), .int 0, .ref (r 52), .ref (r 53), .ref (r 54)])), (r 55, .inr (3, [.int 1, .int 0, .int 0, .int 0, .ref (r 20), .ref (r 21), .ref (r 22), .int 0, .ref (r 23), .ref (r 24), .ref (r 25), .int 0, .ref (r 28), .ref (r 27)]))] sz) := by
  refine Met.ofW (cc := cX8_paidFor) (maxL := 3) (ret := (some .int)) (by decide) rfl ?_
  intro p e s m args below meth c0 s₁ B hml hv
  obtain ⟨rfl, hsz, hP, hK, hD0⟩ := hv
  have hx := B.exec
  have hb := B.bytes
  have hr := B.returns
  have hts := atoms_spec (ws := .code yX8_paidFor cX8_paidFor 3 (some .int) :: GW) B.pre
  have hG : ∀ w ∈ GW, w.before _ s = true := fun w h => hts w (List.mem_cons_of_mem _ h)
  have hown : s.vm.findClass RX8 = some m.cls := findClass_of_methodNamed B.named
  have hlocks := B.notSynchronized
  subst hsz
  have hD := hD0.self (sz := s.heap.size)
  generalize hAe : va_A [(r 0, .inr (7, [.ref (r 1), .int 0, .ref (r 2), .ref (r 55), .ref (r 57), .ref (r 30), .ref (r 56), .ref (r 36), .ref (r 37), .ref (r 38), .int 0, .ref (r 51), .int 0, .ref (r 52), .ref (r 53), .ref (r 54)])), (r 55, .inr (3, [.int 1, .int 0, .int 0, .int 0, .ref (r 20), .ref (r 21), .ref (r 22), .int 0, .ref (r 23), .ref (r 24), .ref (r 25), .int 0, .ref (r 28), .ref (r 27)]))] s.heap.size = A at hD ⊢
  have hA : ∀ q : Nat, s.heap.size ≤ q → A q := fun q h => by rw [← hAe]; exact Or.inr h
  have hS : va_S A s.heap s.heap [] := va_S.rf
  have hP : va_P (dC, dI) vwCl [(r 0, .inr (7, [.ref (r 1), .int 0, .ref (r 2), .ref (r 55), .ref (r 57), .ref (r 30), .ref (r 56), .ref (r 36), .ref (r 37), .ref (r 38), .int 0, .ref (r 51), .int 0, .ref (r 52), .ref (r 53), .ref (r 54)])), (r 55, .inr (3, [.int 1, .int 0, .int 0, .int 0, .ref (r 20), .ref (r 21), .ref (r 22), .int 0, .ref (r 23), .ref (r 24), .ref (r 25), .int 0, .ref (r 28), .ref (r 27)]))] s.heap := hP
  have hl := lv_entry ([.ref (r 0)]) (n := 3) (Nat.le_of_ble_eq_true rfl)
  rw [lg_entry_eq]
  generalize (lg_sl ([.ref (r 0)]) ++ List.replicate (3 - (lg_sl ([.ref (r 0)])).length) Slot.unset).toArray = ls at hl ⊢
  have hl : lv_has ls 3 [(0, .ref (r 0))] := hl
  refine lv_iconst (v := 0) hx hb dX8_paidFor_0 (by decide) ?_
  refine lv_istore_n (lv' := [(1, .int 0), (0, .ref (r 0))]) hx hb dX8_paidFor_1 rfl hl (by decide) rfl (fun ls hl => ?_)
  refine lv_iconst (v := 0) hx hb dX8_paidFor_2 (by decide) ?_
  refine lv_istore_n (lv' := [(2, .int 0), (1, .int 0), (0, .ref (r 0))]) hx hb dX8_paidFor_3 rfl hl (by decide) rfl (fun ls hl => ?_)
  refine lv_iload_n hx hb dX8_paidFor_4 rfl (lv_at hl 0 rfl) ?_
  refine lv_aload_n hx hb dX8_paidFor_5 rfl (lv_at hl 2 rfl) ?_
  refine va_get (D := (dC, dI)) (ci := 7) (v := .ref (r 55)) (C := RX8) (T := TX8) (N := 16) hx hb hG inX8 hown hK hP 0 rfl rfl 3 (by decide) (hG _ gw471) (fun _ h9 => h9) rfl dX8_paidFor_6 ?_
  refine va_get (D := (dC, dI)) (ci := 3) (v := .int 0) (C := RX4) (T := TX4) (N := 14) hx hb hG inX4 hown hK hP 1 rfl rfl 7 (by decide) (hG _ gw258) (fun _ h9 => h9) rfl dX8_paidFor_9 ?_
  refine lv_icmp_ge (tgt := 29) hx hb dX8_paidFor_12 (by decide) (fun c_1 => ?_) (fun c_1 => absurd (by decide) c_1)
  refine lv_iload_n hx hb dX8_paidFor_29 rfl (lv_at hl 1 rfl) ?_
  have hP9 := hP.sub (ws' := [(r 0, .inr (7, [.ref (r 1), .int 0, .ref (r 2), .ref (r 55), .ref (r 57), .ref (r 30), .ref (r 56), .ref (r 36), .ref (r 37), .ref (r 38), .int 0, .ref (r 51), .int 0, .ref (r 52), .ref (r 53), .ref (r 54)])), (r 55, .inr (3, [.int 1, .int 0, .int 0, .int 0, .ref (r 20), .ref (r 21), .ref (r 22), .int 0, .ref (r 23), .ref (r 24), .ref (r 25), .int 0, .ref (r 28), .ref (r 27)]))]) [0, 1] rfl
  have hD9 := hD.sub (ws' := [(r 0, .inr (7, [.ref (r 1), .int 0, .ref (r 2), .ref (r 55), .ref (r 57), .ref (r 30), .ref (r 56), .ref (r 36), .ref (r 37), .ref (r 38), .int 0, .ref (r 51), .int 0, .ref (r 52), .ref (r 53), .ref (r 54)])), (r 55, .inr (3, [.int 1, .int 0, .int 0, .int 0, .ref (r 20), .ref (r 21), .ref (r 22), .int 0, .ref (r 23), .ref (r 24), .ref (r 25), .int 0, .ref (r 28), .ref (r 27)]))]) [0, 1] (by decide) rfl
  exact W.iret (v := 0) hx hb hr (fun t ht hW => ⟨⟨0, (), rfl, rfl, ⟨by rw [ht]; exact hP9, hD9⟩⟩, hS.F ht⟩) hS.2.2 dX8_paidFor_30
set_option maxHeartbeats 4000000 in
set_option maxRecDepth 100000 in
theorem kX8_priceOf (l : Launch) (dC : Nat → ClassId) (dI : Nat → Nat → Nat) (r : Nat → Nat) (c : Nat → ClassId) (sz : Nat) : Met l yX8_priceOf (.code yX8_priceOf cX8_priceOf 4 (some .int) :: GW) { frames := 2, cells := 0, slots := 0, locals := 100 } (va_Pc [.ref (r 0), .int 0] (pW (dC, dI) [(r 0, .inr (7, [.ref (r 1), .int 0, .ref (r 2), .ref (r 55), .ref (r 57), .ref (r 30), .ref (r 56), .ref (r 36), .ref (r 37), .ref (r 38), .int 0, .ref (r 51), .int 0, .ref (r 52), .ref (r 53), .ref (r 54)])), (r 55, .inr (3, [.int 1, .int 0, .int 0, .int 0, .ref (r 20), .ref (r 21), .ref (r 22), .int 0, .ref (r 23), .ref (r 24), .ref (r 25), .int 0, .ref (r 28), .ref (r 27)]))] [] sz)) (va_Qi (fun (r0 : Int32) (_ : Unit) => r0 = 0) (fun (_ : Unit) (t : State) => va_P (dC, dI) vwCl [(r 0, .inr (7, [.ref (r 1), .int 0, .ref (r 2), .ref (r 55), .ref (r 57), .ref (r 30), .ref (r 56), .ref (r 36), .ref (r 37), .ref (r 38), .int 0, .ref (r 51), .int 0, .ref (r 52), .ref (r 53), .ref (r 54)])), (r 55, .inr (3, [.int 1, .int 0, .int 0, .int 0, .ref (r 20), .ref (r 21), .ref (r 22), .int 0, .ref (r 23), .ref (r 24), .ref (r 25), .int 0, .ref (r 28), .ref (r 27)]))] t.heap ∧ va_D (va_A [(r 0, .inr (7, [.ref (r 1), .int 0, .ref (r 2), .ref (r 55), .ref (r 57), .ref (r 30), .ref (r 56), .ref (r 36), .ref (r 37), .ref (r 38), .int 0, .ref (r 51), .int 0, .ref (r 52), .ref (r 53), .ref (r 54)])), (r 55, .inr (3, [.int 1, .int 0, .int 0, .int 0, .ref (r 20), .ref (r 21), .ref (r 22), .int 0, .ref (r 23), .ref (r 24), .ref (r 25), .int 0, .ref (r 28), .ref (r 27)]))] sz) [(r 0, .inr (7, [.ref (r 1), .int 0, .ref (r 2), .ref (r 55), .ref (r 57), .ref (r 30), .ref (r 56), .ref (r 36), .ref (r 37), .ref (r 38), .int 0, .ref (r 51), .int 0, .ref (r 52), .ref (r 53), .ref (r 54)])), (r 55, .inr (3, [.int 1, .int 0, .int 0, .int 0, .ref (r 20), .ref (r 21), .ref (r 22), .int 0, .ref (r 23), .ref (r 24), .ref (r 25), .int 0, .ref (r 28), .ref (r 27)]))]) (va_A [(r 0, .inr (7, [.ref (r 1), .int 0, .ref (r 2), .ref (r 55), .ref (r 57), .ref (r 30), .ref (r 56), .ref (r 36), .ref (r 37), .ref (r 38), .int 0, .ref (r 51), .int 0, .ref (r 52), .ref (r 53), .ref (r 54)])), (r 55, .inr (3, [.int 1, .int 0, .int 0, .int 0, .ref (r 20), .ref (r 21), .ref (r 22), .int 0, .ref (r 23), .ref (r 24), .ref (r 25), .int 0, .ref (r 28), .ref (r 27)]))] sz)) 0 0 (va_A [(r 0, .inr (7, [.ref (r 1), .int 0, .ref (r 2), .ref (r 55), .ref (r 57), .ref (r 30), .ref (r 56), .ref (r 36), .ref (r 37), .ref (r 38), .int 0, .ref (r 51), .int 0, .ref (r 52), .ref (r 53), .ref (r 54)])), (r 55, .inr (3, [.int 1, .int 0, .int 0, .int 0, .ref (r 20), .ref (r 21), .ref (r 22), .int 0, .ref (r 23), .ref (r 24), .ref (r 25), .int 0, .ref (r 28), .ref (r 27)]))] sz) := by
  refine Met.ofW (cc := cX8_priceOf) (maxL := 4) (ret := (some .int)) (by decide) rfl ?_
  intro p e s m args below meth c0 s₁ B hml hv
  obtain ⟨rfl, hsz, hP, hK, hD0⟩ := hv
  have hx := B.exec
  have hb := B.bytes
  have hr := B.returns
  have hts := atoms_spec (ws := .code yX8_priceOf cX8_priceOf 4 (some .int) :: GW) B.pre
  have hG : ∀ w ∈ GW, w.before _ s = true := fun w h => hts w (List.mem_cons_of_mem _ h)
  have hown : s.vm.findClass RX8 = some m.cls := findClass_of_methodNamed B.named
  have hlocks := B.notSynchronized
  subst hsz
  have hD := hD0.self (sz := s.heap.size)
  generalize hAe : va_A [(r 0, .inr (7, [.ref (r 1), .int 0, .ref (r 2), .ref (r 55), .ref (r 57), .ref (r 30), .ref (r 56), .ref (r 36), .ref (r 37), .ref (r 38), .int 0, .ref (r 51), .int 0, .ref (r 52), .ref (r 53), .ref (r 54)])), (r 55, .inr (3, [.int 1, .int 0, .int 0, .int 0, .ref (r 20), .ref (r 21), .ref (r 22), .int 0, .ref (r 23), .ref (r 24), .ref (r 25), .int 0, .ref (r 28), .ref (r 27)]))] s.heap.size = A at hD ⊢
  have hA : ∀ q : Nat, s.heap.size ≤ q → A q := fun q h => by rw [← hAe]; exact Or.inr h
  have hS : va_S A s.heap s.heap [] := va_S.rf
  have hP : va_P (dC, dI) vwCl [(r 0, .inr (7, [.ref (r 1), .int 0, .ref (r 2), .ref (r 55), .ref (r 57), .ref (r 30), .ref (r 56), .ref (r 36), .ref (r 37), .ref (r 38), .int 0, .ref (r 51), .int 0, .ref (r 52), .ref (r 53), .ref (r 54)])), (r 55, .inr (3, [.int 1, .int 0, .int 0, .int 0, .ref (r 20), .ref (r 21), .ref (r 22), .int 0, .ref (r 23), .ref (r 24), .ref (r 25), .int 0, .ref (r 28), .ref (r 27)]))] s.heap := hP
  have hl := lv_entry ([.ref (r 0), .int 0]) (n := 4) (Nat.le_of_ble_eq_true rfl)
  rw [lg_entry_eq]
  generalize (lg_sl ([.ref (r 0), .int 0]) ++ List.replicate (4 - (lg_sl ([.ref (r 0), .int 0])).length) Slot.unset).toArray = ls at hl ⊢
  have hl : lv_has ls 4 [(0, .ref (r 0)), (1, .int 0)] := hl
  refine lv_iconst (v := 0) hx hb dX8_priceOf_0 (by decide) ?_
  refine lv_istore_n (lv' := [(2, .int 0), (0, .ref (r 0)), (1, .int 0)]) hx hb dX8_priceOf_1 rfl hl (by decide) rfl (fun ls hl => ?_)
  refine lv_iconst (v := 0) hx hb dX8_priceOf_2 (by decide) ?_
  refine lv_istore_n (lv' := [(3, .int 0), (2, .int 0), (0, .ref (r 0)), (1, .int 0)]) hx hb dX8_priceOf_3 rfl hl (by decide) rfl (fun ls hl => ?_)
  refine lv_iload_n hx hb dX8_priceOf_4 rfl (lv_at hl 0 rfl) ?_
  refine lv_aload_n hx hb dX8_priceOf_5 rfl (lv_at hl 2 rfl) ?_
  refine va_get (D := (dC, dI)) (ci := 7) (v := .ref (r 55)) (C := RX8) (T := TX8) (N := 16) hx hb hG inX8 hown hK hP 0 rfl rfl 3 (by decide) (hG _ gw471) (fun _ h9 => h9) rfl dX8_priceOf_6 ?_
  refine va_get (D := (dC, dI)) (ci := 3) (v := .int 0) (C := RX4) (T := TX4) (N := 14) hx hb hG inX4 hown hK hP 1 rfl rfl 3 (by decide) (hG _ gw245) (fun _ h9 => h9) rfl dX8_priceOf_9 ?_
  refine lv_icmp_ge (tgt := 41) hx hb dX8_priceOf_12 (by decide) (fun c_1 => ?_) (fun c_1 => absurd (by decide) c_1)
  refine lv_iload_n hx hb dX8_priceOf_41 rfl (lv_at hl 1 rfl) ?_
  have hP9 := hP.sub (ws' := [(r 0, .inr (7, [.ref (r 1), .int 0, .ref (r 2), .ref (r 55), .ref (r 57), .ref (r 30), .ref (r 56), .ref (r 36), .ref (r 37), .ref (r 38), .int 0, .ref (r 51), .int 0, .ref (r 52), .ref (r 53), .ref (r 54)])), (r 55, .inr (3, [.int 1, .int 0, .int 0, .int 0, .ref (r 20), .ref (r 21), .ref (r 22), .int 0, .ref (r 23), .ref (r 24), .ref (r 25), .int 0, .ref (r 28), .ref (r 27)]))]) [0, 1] rfl
  have hD9 := hD.sub (ws' := [(r 0, .inr (7, [.ref (r 1), .int 0, .ref (r 2), .ref (r 55), .ref (r 57), .ref (r 30), .ref (r 56), .ref (r 36), .ref (r 37), .ref (r 38), .int 0, .ref (r 51), .int 0, .ref (r 52), .ref (r 53), .ref (r 54)])), (r 55, .inr (3, [.int 1, .int 0, .int 0, .int 0, .ref (r 20), .ref (r 21), .ref (r 22), .int 0, .ref (r 23), .ref (r 24), .ref (r 25), .int 0, .ref (r 28), .ref (r 27)]))]) [0, 1] (by decide) rfl
  exact W.iret (v := 0) hx hb hr (fun t ht hW => ⟨⟨0, (), rfl, rfl, ⟨by rw [ht]; exact hP9, hD9⟩⟩, hS.F ht⟩) hS.2.2 dX8_priceOf_42
set_option maxHeartbeats 4000000 in
set_option maxRecDepth 100000 in
theorem kX8_earned (l : Launch) (dC : Nat → ClassId) (dI : Nat → Nat → Nat) (r : Nat → Nat) (c : Nat → ClassId) (sz : Nat) : Met l yX8_earned (.code yX8_earned cX8_earned 1 (some .int) :: GW) { frames := 4, cells := 0, slots := 0, locals := 163 } (va_Pc [.ref (r 0)] (pW (dC, dI) [(r 0, .inr (7, [.ref (r 1), .int 0, .ref (r 2), .ref (r 55), .ref (r 57), .ref (r 30), .ref (r 56), .ref (r 36), .ref (r 37), .ref (r 38), .int 0, .ref (r 51), .int 0, .ref (r 52), .ref (r 53), .ref (r 54)])), (r 55, .inr (3, [.int 1, .int 0, .int 0, .int 0, .ref (r 20), .ref (r 21), .ref (r 22), .int 0, .ref (r 23), .ref (r 24), .ref (r 25), .int 0, .ref (r 28), .ref (r 27)]))] [] sz)) (va_Qi (fun (r0 : Int32) (_ : Unit) => r0 = 0) (fun _ _ => True) (va_A [(r 0, .inr (7, [.ref (r 1), .int 0, .ref (r 2), .ref (r 55), .ref (r 57), .ref (r 30), .ref (r 56), .ref (r 36), .ref (r 37), .ref (r 38), .int 0, .ref (r 51), .int 0, .ref (r 52), .ref (r 53), .ref (r 54)])), (r 55, .inr (3, [.int 1, .int 0, .int 0, .int 0, .ref (r 20), .ref (r 21), .ref (r 22), .int 0, .ref (r 23), .ref (r 24), .ref (r 25), .int 0, .ref (r 28), .ref (r 27)]))] sz)) 0 0 (va_A [(r 0, .inr (7, [.ref (r 1), .int 0, .ref (r 2), .ref (r 55), .ref (r 57), .ref (r 30), .ref (r 56), .ref (r 36), .ref (r 37), .ref (r 38), .int 0, .ref (r 51), .int 0, .ref (r 52), .ref (r 53), .ref (r 54)])), (r 55, .inr (3, [.int 1, .int 0, .int 0, .int 0, .ref (r 20), .ref (r 21), .ref (r 22), .int 0, .ref (r 23), .ref (r 24), .ref (r 25), .int 0, .ref (r 28), .ref (r 27)]))] sz) := by
  refine Met.ofW (cc := cX8_earned) (maxL := 1) (ret := (some .int)) (by decide) rfl ?_
  intro p e s m args below meth c0 s₁ B hml hv
  obtain ⟨rfl, hsz, hP, hK, hD0⟩ := hv
  have hx := B.exec
  have hb := B.bytes
  have hr := B.returns
  have hts := atoms_spec (ws := .code yX8_earned cX8_earned 1 (some .int) :: GW) B.pre
  have hG : ∀ w ∈ GW, w.before _ s = true := fun w h => hts w (List.mem_cons_of_mem _ h)
  have hown : s.vm.findClass RX8 = some m.cls := findClass_of_methodNamed B.named
  have hlocks := B.notSynchronized
  subst hsz
  have hD := hD0.self (sz := s.heap.size)
  generalize hAe : va_A [(r 0, .inr (7, [.ref (r 1), .int 0, .ref (r 2), .ref (r 55), .ref (r 57), .ref (r 30), .ref (r 56), .ref (r 36), .ref (r 37), .ref (r 38), .int 0, .ref (r 51), .int 0, .ref (r 52), .ref (r 53), .ref (r 54)])), (r 55, .inr (3, [.int 1, .int 0, .int 0, .int 0, .ref (r 20), .ref (r 21), .ref (r 22), .int 0, .ref (r 23), .ref (r 24), .ref (r 25), .int 0, .ref (r 28), .ref (r 27)]))] s.heap.size = A at hD ⊢
  have hA : ∀ q : Nat, s.heap.size ≤ q → A q := fun q h => by rw [← hAe]; exact Or.inr h
  have hS : va_S A s.heap s.heap [] := va_S.rf
  have hP : va_P (dC, dI) vwCl [(r 0, .inr (7, [.ref (r 1), .int 0, .ref (r 2), .ref (r 55), .ref (r 57), .ref (r 30), .ref (r 56), .ref (r 36), .ref (r 37), .ref (r 38), .int 0, .ref (r 51), .int 0, .ref (r 52), .ref (r 53), .ref (r 54)])), (r 55, .inr (3, [.int 1, .int 0, .int 0, .int 0, .ref (r 20), .ref (r 21), .ref (r 22), .int 0, .ref (r 23), .ref (r 24), .ref (r 25), .int 0, .ref (r 28), .ref (r 27)]))] s.heap := hP
  have hl := lv_entry ([.ref (r 0)]) (n := 1) (Nat.le_of_ble_eq_true rfl)
  rw [lg_entry_eq]
  generalize (lg_sl ([.ref (r 0)]) ++ List.replicate (1 - (lg_sl ([.ref (r 0)])).length) Slot.unset).toArray = ls at hl ⊢
  have hl : lv_has ls 1 [(0, .ref (r 0))] := hl
  refine lv_aload_n hx hb dX8_earned_0 rfl (lv_at hl 0 rfl) ?_
  refine lv_aload_n hx hb dX8_earned_1 rfl (lv_at hl 0 rfl) ?_
  have hPc := hP.sub (ws' := [(r 0, .inr (7, [.ref (r 1), .int 0, .ref (r 2), .ref (r 55), .ref (r 57), .ref (r 30), .ref (r 56), .ref (r 36), .ref (r 37), .ref (r 38), .int 0, .ref (r 51), .int 0, .ref (r 52), .ref (r 53), .ref (r 54)])), (r 55, .inr (3, [.int 1, .int 0, .int 0, .int 0, .ref (r 20), .ref (r 21), .ref (r 22), .int 0, .ref (r 23), .ref (r 24), .ref (r 25), .int 0, .ref (r 28), .ref (r 27)]))]) [0, 1] rfl
  have hKc := hK.sub (tys' := []) [] rfl
  have hDc := hD.sub (ws' := [(r 0, .inr (7, [.ref (r 1), .int 0, .ref (r 2), .ref (r 55), .ref (r 57), .ref (r 30), .ref (r 56), .ref (r 36), .ref (r 37), .ref (r 38), .int 0, .ref (r 51), .int 0, .ref (r 52), .ref (r 53), .ref (r 54)])), (r 55, .inr (3, [.int 1, .int 0, .int 0, .int 0, .ref (r 20), .ref (r 21), .ref (r 22), .int 0, .ref (r 23), .ref (r 24), .ref (r 25), .int 0, .ref (r 28), .ref (r 27)]))]) [0, 1] (by decide) rfl
  have hFc := va_free (wc := [(r 0, .inr (7, [.ref (r 1), .int 0, .ref (r 2), .ref (r 55), .ref (r 57), .ref (r 30), .ref (r 56), .ref (r 36), .ref (r 37), .ref (r 38), .int 0, .ref (r 51), .int 0, .ref (r 52), .ref (r 53), .ref (r 54)])), (r 55, .inr (3, [.int 1, .int 0, .int 0, .int 0, .ref (r 20), .ref (r 21), .ref (r 22), .int 0, .ref (r 23), .ref (r 24), .ref (r 25), .int 0, .ref (r 28), .ref (r 27)]))]) hD hS hA [0, 1] rfl
  refine va_calli (va_runV (As := []) (rest := [.ref (r 0)]) ⟨hx, hb, hml, hown, hG⟩ (kX8_paidFor l dC dI r c s.heap.size ) (cwV 0 hG (goodV gw993 gw995 gw46 gw129 gw996) rfl rfl rfl hd_X8_paidFor ⟨(Nat.le_of_ble_eq_true rfl), (Nat.le_of_ble_eq_true rfl)⟩) ⟨fbW, va_recv hKc hPc (ci := 7) (q0 := 0) rfl rfl, pW_in hPc hKc hDc⟩ rfl rfl hl.1 rfl (lv_room (Nat.le_of_ble_eq_true rfl)) dX8_earned_2 ⟨(Nat.le_of_ble_eq_true rfl), (Nat.le_of_ble_eq_true rfl)⟩) hS (fun q _ h => hFc q h) hFc (fun r_2 u t H1 locs ht hvm hw hB hz1 hk1 hS => ?_)
  obtain ⟨hP1, hD1⟩ := hB
  rw [ht] at hP1
  obtain ⟨hP, hD⟩ := va_join (wr := []) (w1 := [(r 0, .inr (7, [.ref (r 1), .int 0, .ref (r 2), .ref (r 55), .ref (r 57), .ref (r 30), .ref (r 56), .ref (r 36), .ref (r 37), .ref (r 38), .int 0, .ref (r 51), .int 0, .ref (r 52), .ref (r 53), .ref (r 54)])), (r 55, .inr (3, [.int 1, .int 0, .int 0, .int 0, .ref (r 20), .ref (r 21), .ref (r 22), .int 0, .ref (r 23), .ref (r 24), .ref (r 25), .int 0, .ref (r 28), .ref (r 27)]))]) hP hD [0, 1] [] rfl rfl (by decide) (by decide) hk1 hFc hP1 hD1
  have hP : va_P (dC, dI) vwCl [(r 0, .inr (7, [.ref (r 1), .int 0, .ref (r 2), .ref (r 55), .ref (r 57), .ref (r 30), .ref (r 56), .ref (r 36), .ref (r 37), .ref (r 38), .int 0, .ref (r 51), .int 0, .ref (r 52), .ref (r 53), .ref (r 54)])), (r 55, .inr (3, [.int 1, .int 0, .int 0, .int 0, .ref (r 20), .ref (r 21), .ref (r 22), .int 0, .ref (r 23), .ref (r 24), .ref (r 25), .int 0, .ref (r 28), .ref (r 27)]))] H1 := hP
  have hD : va_D A [(r 0, .inr (7, [.ref (r 1), .int 0, .ref (r 2), .ref (r 55), .ref (r 57), .ref (r 30), .ref (r 56), .ref (r 36), .ref (r 37), .ref (r 38), .int 0, .ref (r 51), .int 0, .ref (r 52), .ref (r 53), .ref (r 54)])), (r 55, .inr (3, [.int 1, .int 0, .int 0, .int 0, .ref (r 20), .ref (r 21), .ref (r 22), .int 0, .ref (r 23), .ref (r 24), .ref (r 25), .int 0, .ref (r 28), .ref (r 27)]))] := hD
  refine wt_c (v := 0) hw ?_
  have hPc := hP.sub (ws' := [(r 0, .inr (7, [.ref (r 1), .int 0, .ref (r 2), .ref (r 55), .ref (r 57), .ref (r 30), .ref (r 56), .ref (r 36), .ref (r 37), .ref (r 38), .int 0, .ref (r 51), .int 0, .ref (r 52), .ref (r 53), .ref (r 54)])), (r 55, .inr (3, [.int 1, .int 0, .int 0, .int 0, .ref (r 20), .ref (r 21), .ref (r 22), .int 0, .ref (r 23), .ref (r 24), .ref (r 25), .int 0, .ref (r 28), .ref (r 27)]))]) [0, 1] rfl
  have hKc := hK.sub (tys' := []) [] rfl
  have hDc := hD.sub (ws' := [(r 0, .inr (7, [.ref (r 1), .int 0, .ref (r 2), .ref (r 55), .ref (r 57), .ref (r 30), .ref (r 56), .ref (r 36), .ref (r 37), .ref (r 38), .int 0, .ref (r 51), .int 0, .ref (r 52), .ref (r 53), .ref (r 54)])), (r 55, .inr (3, [.int 1, .int 0, .int 0, .int 0, .ref (r 20), .ref (r 21), .ref (r 22), .int 0, .ref (r 23), .ref (r 24), .ref (r 25), .int 0, .ref (r 28), .ref (r 27)]))]) [0, 1] (by decide) rfl
  have hFc := va_free (wc := [(r 0, .inr (7, [.ref (r 1), .int 0, .ref (r 2), .ref (r 55), .ref (r 57), .ref (r 30), .ref (r 56), .ref (r 36), .ref (r 37), .ref (r 38), .int 0, .ref (r 51), .int 0, .ref (r 52), .ref (r 53), .ref (r 54)])), (r 55, .inr (3, [.int 1, .int 0, .int 0, .int 0, .ref (r 20), .ref (r 21), .ref (r 22), .int 0, .ref (r 23), .ref (r 24), .ref (r 25), .int 0, .ref (r 28), .ref (r 27)]))]) hD hS hA [0, 1] rfl
  refine va_calli (va_runV (As := [.int 0]) (rest := []) ⟨hx, hb, hml, hown, hG⟩ (kX8_priceOf l dC dI r c H1.size ) (cwV 1 hG (goodV gw985 gw987 gw45 gw129 gw988) rfl rfl rfl hd_X8_priceOf ⟨(Nat.le_of_ble_eq_true rfl), (Nat.le_of_ble_eq_true rfl)⟩) ⟨fbW, va_recv hKc hPc (ci := 7) (q0 := 0) rfl rfl, pW_in hPc hKc hDc⟩ rfl rfl hl.1 rfl (lv_room (Nat.le_of_ble_eq_true rfl)) dX8_earned_5 ⟨(Nat.le_of_ble_eq_true rfl), (Nat.le_of_ble_eq_true rfl)⟩) hS (fun q _ h => hFc q h) hFc (fun r_4 u t H3 locs ht hvm hw hB hz1 hk1 hS => ?_)
  obtain ⟨hP1, hD1⟩ := hB
  rw [ht] at hP1
  obtain ⟨hP, hD⟩ := va_join (wr := []) (w1 := [(r 0, .inr (7, [.ref (r 1), .int 0, .ref (r 2), .ref (r 55), .ref (r 57), .ref (r 30), .ref (r 56), .ref (r 36), .ref (r 37), .ref (r 38), .int 0, .ref (r 51), .int 0, .ref (r 52), .ref (r 53), .ref (r 54)])), (r 55, .inr (3, [.int 1, .int 0, .int 0, .int 0, .ref (r 20), .ref (r 21), .ref (r 22), .int 0, .ref (r 23), .ref (r 24), .ref (r 25), .int 0, .ref (r 28), .ref (r 27)]))]) hP hD [0, 1] [] rfl rfl (by decide) (by decide) hk1 hFc hP1 hD1
  have hP : va_P (dC, dI) vwCl [(r 0, .inr (7, [.ref (r 1), .int 0, .ref (r 2), .ref (r 55), .ref (r 57), .ref (r 30), .ref (r 56), .ref (r 36), .ref (r 37), .ref (r 38), .int 0, .ref (r 51), .int 0, .ref (r 52), .ref (r 53), .ref (r 54)])), (r 55, .inr (3, [.int 1, .int 0, .int 0, .int 0, .ref (r 20), .ref (r 21), .ref (r 22), .int 0, .ref (r 23), .ref (r 24), .ref (r 25), .int 0, .ref (r 28), .ref (r 27)]))] H3 := hP
  have hD : va_D A [(r 0, .inr (7, [.ref (r 1), .int 0, .ref (r 2), .ref (r 55), .ref (r 57), .ref (r 30), .ref (r 56), .ref (r 36), .ref (r 37), .ref (r 38), .int 0, .ref (r 51), .int 0, .ref (r 52), .ref (r 53), .ref (r 54)])), (r 55, .inr (3, [.int 1, .int 0, .int 0, .int 0, .ref (r 20), .ref (r 21), .ref (r 22), .int 0, .ref (r 23), .ref (r 24), .ref (r 25), .int 0, .ref (r 28), .ref (r 27)]))] := hD
  refine wt_c (v := 0) hw ?_
  exact W.iret (v := 0) hx hb hr (fun t ht hW => ⟨⟨0, (), rfl, rfl, trivial⟩, hS.F ht⟩) hS.2.2 dX8_earned_8
set_option maxHeartbeats 4000000 in
set_option maxRecDepth 100000 in
theorem kX9_earned (l : Launch) (dC : Nat → ClassId) (dI : Nat → Nat → Nat) (r : Nat → Nat) (c : Nat → ClassId) (f4 : Nat → Int32) (sz : Nat) (hf4_0 : f4 0 = 0) : Met l yX9_earned (.code yX9_earned cX9_earned 3 (some .int) :: GW) { frames := 4, cells := 0, slots := 0, locals := 160 } (va_Pc [.ref (r 0)] (pW (dC, dI) [(r 0, .inr (8, [.ref (r 1), .ref (r 2), .int 0, .int 0, .int 0, .int (-1), .int 0, .int 0, .int 0, .int 0, .long 0, .ref (r 3), .ref (r 4), .ref (r 5), .ref (r 6), .ref (r 7), .ref (r 8), .ref (r 9), .ref (r 10), .ref (r 11), .ref (r 12), .ref (r 13), .ref (r 14), .ref (r 15), .ref (r 16), .ref (r 17), .ref (r 18), .ref (r 19), .ref (r 20), .ref (r 21), .ref (r 22), .ref (r 23), .ref (r 24), .int 0, .int 0, .int 0, .int 0, .int 0, .int 0, .int 0, .int 0, .int 0, .ref (r 25), .ref (r 26), .ref (r 27), .int 0, .int 0, .ref (r 28), .int 0, .ref (r 29), .ref (r 30), .ref (r 31), .ref (r 32), .ref (r 33), .ref (r 34), .ref (r 35), .ref (r 36), .int 0, .int 0, .int 0, .ref (r 37), .ref (r 38)])), (r 4, .inl ((c 4), 2, .inl f4))] [((c 4), .int)] sz)) (va_Qi (fun (r0 : Int32) (_ : Unit) => r0 = 0) (fun _ _ => True) (va_A [(r 0, .inr (8, [.ref (r 1), .ref (r 2), .int 0, .int 0, .int 0, .int (-1), .int 0, .int 0, .int 0, .int 0, .long 0, .ref (r 3), .ref (r 4), .ref (r 5), .ref (r 6), .ref (r 7), .ref (r 8), .ref (r 9), .ref (r 10), .ref (r 11), .ref (r 12), .ref (r 13), .ref (r 14), .ref (r 15), .ref (r 16), .ref (r 17), .ref (r 18), .ref (r 19), .ref (r 20), .ref (r 21), .ref (r 22), .ref (r 23), .ref (r 24), .int 0, .int 0, .int 0, .int 0, .int 0, .int 0, .int 0, .int 0, .int 0, .ref (r 25), .ref (r 26), .ref (r 27), .int 0, .int 0, .ref (r 28), .int 0, .ref (r 29), .ref (r 30), .ref (r 31), .ref (r 32), .ref (r 33), .ref (r 34), .ref (r 35), .ref (r 36), .int 0, .int 0, .int 0, .ref (r 37), .ref (r 38)])), (r 4, .inl ((c 4), 2, .inl f4))] sz)) 0 0 (va_A [(r 0, .inr (8, [.ref (r 1), .ref (r 2), .int 0, .int 0, .int 0, .int (-1), .int 0, .int 0, .int 0, .int 0, .long 0, .ref (r 3), .ref (r 4), .ref (r 5), .ref (r 6), .ref (r 7), .ref (r 8), .ref (r 9), .ref (r 10), .ref (r 11), .ref (r 12), .ref (r 13), .ref (r 14), .ref (r 15), .ref (r 16), .ref (r 17), .ref (r 18), .ref (r 19), .ref (r 20), .ref (r 21), .ref (r 22), .ref (r 23), .ref (r 24), .int 0, .int 0, .int 0, .int 0, .int 0, .int 0, .int 0, .int 0, .int 0, .ref (r 25), .ref (r 26), .ref (r 27), .int 0, .int 0, .ref (r 28), .int 0, .ref (r 29), .ref (r 30), .ref (r 31), .ref (r 32), .ref (r 33), .ref (r 34), .ref (r 35), .ref (r 36), .int 0, .int 0, .int 0, .ref (r 37), .ref (r 38)])), (r 4, .inl ((c 4), 2, .inl f4))] sz) := by
  refine Met.ofW (cc := cX9_earned) (maxL := 3) (ret := (some .int)) (by decide) rfl ?_
  intro p e s m args below meth c0 s₁ B hml hv
  obtain ⟨rfl, hsz, hP, hK, hD0⟩ := hv
  have hx := B.exec
  have hb := B.bytes
  have hr := B.returns
  have hts := atoms_spec (ws := .code yX9_earned cX9_earned 3 (some .int) :: GW) B.pre
  have hG : ∀ w ∈ GW, w.before _ s = true := fun w h => hts w (List.mem_cons_of_mem _ h)
  have hown : s.vm.findClass RX9 = some m.cls := findClass_of_methodNamed B.named
  have hlocks := B.notSynchronized
  subst hsz
  have hD := hD0.self (sz := s.heap.size)
  generalize hAe : va_A [(r 0, .inr (8, [.ref (r 1), .ref (r 2), .int 0, .int 0, .int 0, .int (-1), .int 0, .int 0, .int 0, .int 0, .long 0, .ref (r 3), .ref (r 4), .ref (r 5), .ref (r 6), .ref (r 7), .ref (r 8), .ref (r 9), .ref (r 10), .ref (r 11), .ref (r 12), .ref (r 13), .ref (r 14), .ref (r 15), .ref (r 16), .ref (r 17), .ref (r 18), .ref (r 19), .ref (r 20), .ref (r 21), .ref (r 22), .ref (r 23), .ref (r 24), .int 0, .int 0, .int 0, .int 0, .int 0, .int 0, .int 0, .int 0, .int 0, .ref (r 25), .ref (r 26), .ref (r 27), .int 0, .int 0, .ref (r 28), .int 0, .ref (r 29), .ref (r 30), .ref (r 31), .ref (r 32), .ref (r 33), .ref (r 34), .ref (r 35), .ref (r 36), .int 0, .int 0, .int 0, .ref (r 37), .ref (r 38)])), (r 4, .inl ((c 4), 2, .inl f4))] s.heap.size = A at hD ⊢
  have hA : ∀ q : Nat, s.heap.size ≤ q → A q := fun q h => by rw [← hAe]; exact Or.inr h
  have hS : va_S A s.heap s.heap [] := va_S.rf
  have hP : va_P (dC, dI) vwCl [(r 0, .inr (8, [.ref (r 1), .ref (r 2), .int 0, .int 0, .int 0, .int (-1), .int 0, .int 0, .int 0, .int 0, .long 0, .ref (r 3), .ref (r 4), .ref (r 5), .ref (r 6), .ref (r 7), .ref (r 8), .ref (r 9), .ref (r 10), .ref (r 11), .ref (r 12), .ref (r 13), .ref (r 14), .ref (r 15), .ref (r 16), .ref (r 17), .ref (r 18), .ref (r 19), .ref (r 20), .ref (r 21), .ref (r 22), .ref (r 23), .ref (r 24), .int 0, .int 0, .int 0, .int 0, .int 0, .int 0, .int 0, .int 0, .int 0, .ref (r 25), .ref (r 26), .ref (r 27), .int 0, .int 0, .ref (r 28), .int 0, .ref (r 29), .ref (r 30), .ref (r 31), .ref (r 32), .ref (r 33), .ref (r 34), .ref (r 35), .ref (r 36), .int 0, .int 0, .int 0, .ref (r 37), .ref (r 38)])), (r 4, .inl ((c 4), 2, .inl f4))] s.heap := hP
  have hl := lv_entry ([.ref (r 0)]) (n := 3) (Nat.le_of_ble_eq_true rfl)
  rw [lg_entry_eq]
  generalize (lg_sl ([.ref (r 0)]) ++ List.replicate (3 - (lg_sl ([.ref (r 0)])).length) Slot.unset).toArray = ls at hl ⊢
  have hl : lv_has ls 3 [(0, .ref (r 0))] := hl
  refine lv_iconst (v := 0) hx hb dX9_earned_0 (by decide) ?_
  refine lv_istore_n (lv' := [(1, .int 0), (0, .ref (r 0))]) hx hb dX9_earned_1 rfl hl (by decide) rfl (fun ls hl => ?_)
  refine lv_iconst (v := 0) hx hb dX9_earned_2 (by decide) ?_
  refine lv_istore_n (lv' := [(2, .int 0), (1, .int 0), (0, .ref (r 0))]) hx hb dX9_earned_3 rfl hl (by decide) rfl (fun ls hl => ?_)
  refine lv_iload_n hx hb dX9_earned_4 rfl (lv_at hl 0 rfl) ?_
  refine lv_aload_n hx hb dX9_earned_5 rfl (lv_at hl 2 rfl) ?_
  have hPc := hP.sub (ws' := [(r 0, .inr (8, [.ref (r 1), .ref (r 2), .int 0, .int 0, .int 0, .int (-1), .int 0, .int 0, .int 0, .int 0, .long 0, .ref (r 3), .ref (r 4), .ref (r 5), .ref (r 6), .ref (r 7), .ref (r 8), .ref (r 9), .ref (r 10), .ref (r 11), .ref (r 12), .ref (r 13), .ref (r 14), .ref (r 15), .ref (r 16), .ref (r 17), .ref (r 18), .ref (r 19), .ref (r 20), .ref (r 21), .ref (r 22), .ref (r 23), .ref (r 24), .int 0, .int 0, .int 0, .int 0, .int 0, .int 0, .int 0, .int 0, .int 0, .ref (r 25), .ref (r 26), .ref (r 27), .int 0, .int 0, .ref (r 28), .int 0, .ref (r 29), .ref (r 30), .ref (r 31), .ref (r 32), .ref (r 33), .ref (r 34), .ref (r 35), .ref (r 36), .int 0, .int 0, .int 0, .ref (r 37), .ref (r 38)])), (r 4, .inl ((c 4), 2, .inl f4))]) [0, 1] rfl
  have hKc := hK.sub (tys' := [((c 4), .int)]) [0] rfl
  have hDc := hD.sub (ws' := [(r 0, .inr (8, [.ref (r 1), .ref (r 2), .int 0, .int 0, .int 0, .int (-1), .int 0, .int 0, .int 0, .int 0, .long 0, .ref (r 3), .ref (r 4), .ref (r 5), .ref (r 6), .ref (r 7), .ref (r 8), .ref (r 9), .ref (r 10), .ref (r 11), .ref (r 12), .ref (r 13), .ref (r 14), .ref (r 15), .ref (r 16), .ref (r 17), .ref (r 18), .ref (r 19), .ref (r 20), .ref (r 21), .ref (r 22), .ref (r 23), .ref (r 24), .int 0, .int 0, .int 0, .int 0, .int 0, .int 0, .int 0, .int 0, .int 0, .ref (r 25), .ref (r 26), .ref (r 27), .int 0, .int 0, .ref (r 28), .int 0, .ref (r 29), .ref (r 30), .ref (r 31), .ref (r 32), .ref (r 33), .ref (r 34), .ref (r 35), .ref (r 36), .int 0, .int 0, .int 0, .ref (r 37), .ref (r 38)])), (r 4, .inl ((c 4), 2, .inl f4))]) [0, 1] (by decide) rfl
  have hFc := va_free (wc := [(r 0, .inr (8, [.ref (r 1), .ref (r 2), .int 0, .int 0, .int 0, .int (-1), .int 0, .int 0, .int 0, .int 0, .long 0, .ref (r 3), .ref (r 4), .ref (r 5), .ref (r 6), .ref (r 7), .ref (r 8), .ref (r 9), .ref (r 10), .ref (r 11), .ref (r 12), .ref (r 13), .ref (r 14), .ref (r 15), .ref (r 16), .ref (r 17), .ref (r 18), .ref (r 19), .ref (r 20), .ref (r 21), .ref (r 22), .ref (r 23), .ref (r 24), .int 0, .int 0, .int 0, .int 0, .int 0, .int 0, .int 0, .int 0, .int 0, .ref (r 25), .ref (r 26), .ref (r 27), .int 0, .int 0, .ref (r 28), .int 0, .ref (r 29), .ref (r 30), .ref (r 31), .ref (r 32), .ref (r 33), .ref (r 34), .ref (r 35), .ref (r 36), .int 0, .int 0, .int 0, .ref (r 37), .ref (r 38)])), (r 4, .inl ((c 4), 2, .inl f4))]) hD hS hA [0, 1] rfl
  refine va_calli (va_runV (As := []) (rest := [.int 0]) ⟨hx, hb, hml, hown, hG⟩ (kX9_songs l dC dI r c f4 s.heap.size hf4_0) (cwV 0 hG (goodV gw1512 gw1514 gw86 gw138 gw1515) rfl rfl rfl hd_X9_songs ⟨(Nat.le_of_ble_eq_true rfl), (Nat.le_of_ble_eq_true rfl)⟩) ⟨fbW, va_recv hKc hPc (ci := 8) (q0 := 0) rfl rfl, pW_in hPc hKc hDc⟩ rfl rfl hl.1 rfl (lv_room (Nat.le_of_ble_eq_true rfl)) dX9_earned_6 ⟨(Nat.le_of_ble_eq_true rfl), (Nat.le_of_ble_eq_true rfl)⟩) hS (fun q _ h => hFc q h) hFc (fun r_2 u t H1 locs ht hvm hw hB hz1 hk1 hS => ?_)
  obtain ⟨hP1, hD1⟩ := hB
  rw [ht] at hP1
  obtain ⟨hP, hD⟩ := va_join (wr := []) (w1 := [(r 0, .inr (8, [.ref (r 1), .ref (r 2), .int 0, .int 0, .int 0, .int (-1), .int 0, .int 0, .int 0, .int 0, .long 0, .ref (r 3), .ref (r 4), .ref (r 5), .ref (r 6), .ref (r 7), .ref (r 8), .ref (r 9), .ref (r 10), .ref (r 11), .ref (r 12), .ref (r 13), .ref (r 14), .ref (r 15), .ref (r 16), .ref (r 17), .ref (r 18), .ref (r 19), .ref (r 20), .ref (r 21), .ref (r 22), .ref (r 23), .ref (r 24), .int 0, .int 0, .int 0, .int 0, .int 0, .int 0, .int 0, .int 0, .int 0, .ref (r 25), .ref (r 26), .ref (r 27), .int 0, .int 0, .ref (r 28), .int 0, .ref (r 29), .ref (r 30), .ref (r 31), .ref (r 32), .ref (r 33), .ref (r 34), .ref (r 35), .ref (r 36), .int 0, .int 0, .int 0, .ref (r 37), .ref (r 38)])), (r 4, .inl ((c 4), 2, .inl f4))]) hP hD [0, 1] [] rfl rfl (by decide) (by decide) hk1 hFc hP1 hD1
  have hP : va_P (dC, dI) vwCl [(r 0, .inr (8, [.ref (r 1), .ref (r 2), .int 0, .int 0, .int 0, .int (-1), .int 0, .int 0, .int 0, .int 0, .long 0, .ref (r 3), .ref (r 4), .ref (r 5), .ref (r 6), .ref (r 7), .ref (r 8), .ref (r 9), .ref (r 10), .ref (r 11), .ref (r 12), .ref (r 13), .ref (r 14), .ref (r 15), .ref (r 16), .ref (r 17), .ref (r 18), .ref (r 19), .ref (r 20), .ref (r 21), .ref (r 22), .ref (r 23), .ref (r 24), .int 0, .int 0, .int 0, .int 0, .int 0, .int 0, .int 0, .int 0, .int 0, .ref (r 25), .ref (r 26), .ref (r 27), .int 0, .int 0, .ref (r 28), .int 0, .ref (r 29), .ref (r 30), .ref (r 31), .ref (r 32), .ref (r 33), .ref (r 34), .ref (r 35), .ref (r 36), .int 0, .int 0, .int 0, .ref (r 37), .ref (r 38)])), (r 4, .inl ((c 4), 2, .inl f4))] H1 := hP
  have hD : va_D A [(r 0, .inr (8, [.ref (r 1), .ref (r 2), .int 0, .int 0, .int 0, .int (-1), .int 0, .int 0, .int 0, .int 0, .long 0, .ref (r 3), .ref (r 4), .ref (r 5), .ref (r 6), .ref (r 7), .ref (r 8), .ref (r 9), .ref (r 10), .ref (r 11), .ref (r 12), .ref (r 13), .ref (r 14), .ref (r 15), .ref (r 16), .ref (r 17), .ref (r 18), .ref (r 19), .ref (r 20), .ref (r 21), .ref (r 22), .ref (r 23), .ref (r 24), .int 0, .int 0, .int 0, .int 0, .int 0, .int 0, .int 0, .int 0, .int 0, .ref (r 25), .ref (r 26), .ref (r 27), .int 0, .int 0, .ref (r 28), .int 0, .ref (r 29), .ref (r 30), .ref (r 31), .ref (r 32), .ref (r 33), .ref (r 34), .ref (r 35), .ref (r 36), .int 0, .int 0, .int 0, .ref (r 37), .ref (r 38)])), (r 4, .inl ((c 4), 2, .inl f4))] := hD
  refine wt_c (v := 0) hw ?_
  refine lv_icmp_ge (tgt := 35) hx hb dX9_earned_9 (by decide) (fun c_3 => ?_) (fun c_3 => absurd (by decide) c_3)
  refine lv_iload_n hx hb dX9_earned_35 rfl (lv_at hl 1 rfl) ?_
  exact W.iret (v := 0) hx hb hr (fun t ht hW => ⟨⟨0, (), rfl, rfl, trivial⟩, hS.F ht⟩) hS.2.2 dX9_earned_36
set_option maxHeartbeats 4000000 in
set_option maxRecDepth 100000 in
theorem kX8_sharedDivisor (l : Launch) (dC : Nat → ClassId) (dI : Nat → Nat → Nat) (sz : Nat) : Met l yX8_sharedDivisor (.code yX8_sharedDivisor cX8_sharedDivisor 6 (some .int) :: GW) { frames := 2, cells := 0, slots := 0, locals := 100 } (va_Pc [.int 1, .int 1] (pR (dC, dI) [] [] sz)) (va_Qi (fun (r0 : Int32) (_ : Unit) => r0 = 1) (fun _ _ => True) (fun q => sz ≤ q)) 0 0 (fun q => sz ≤ q) := by
  refine Met.ofW (cc := cX8_sharedDivisor) (maxL := 6) (ret := (some .int)) (by decide) rfl ?_
  intro p e s m args below meth c0 s₁ B hml hv
  obtain ⟨rfl, hsz, hP, hK⟩ := hv
  have hx := B.exec
  have hb := B.bytes
  have hr := B.returns
  have hts := atoms_spec (ws := .code yX8_sharedDivisor cX8_sharedDivisor 6 (some .int) :: GW) B.pre
  have hG : ∀ w ∈ GW, w.before _ s = true := fun w h => hts w (List.mem_cons_of_mem _ h)
  have hown : s.vm.findClass RX8 = some m.cls := findClass_of_methodNamed B.named
  have hlocks := B.notSynchronized
  subst hsz
  have hS : va_S (fun q => s.heap.size ≤ q) s.heap s.heap [] := va_S.rf
  have hP : va_P (dC, dI) vwCl [] s.heap := hP
  have hl := lv_entry ([.int 1, .int 1]) (n := 6) (Nat.le_of_ble_eq_true rfl)
  rw [lg_entry_eq]
  generalize (lg_sl ([.int 1, .int 1]) ++ List.replicate (6 - (lg_sl ([.int 1, .int 1])).length) Slot.unset).toArray = ls at hl ⊢
  have hl : lv_has ls 6 [(0, .int 1), (1, .int 1)] := hl
  refine lv_iload_n hx hb dX8_sharedDivisor_0 rfl (lv_at hl 0 rfl) ?_
  refine lv_istore_n (lv' := [(2, .int 1), (0, .int 1), (1, .int 1)]) hx hb dX8_sharedDivisor_1 rfl hl (by decide) rfl (fun ls hl => ?_)
  refine lv_iload_n hx hb dX8_sharedDivisor_2 rfl (lv_at hl 2 rfl) ?_
  refine lv_istore_n (lv' := [(3, .int 1), (2, .int 1), (0, .int 1), (1, .int 1)]) hx hb dX8_sharedDivisor_3 rfl hl (by decide) rfl (fun ls hl => ?_)
  refine lv_iconst (v := 0) hx hb dX8_sharedDivisor_4 (by decide) ?_
  refine lv_istore (lv' := [(4, .int 0), (3, .int 1), (2, .int 1), (0, .int 1), (1, .int 1)]) hx hb dX8_sharedDivisor_5 hl (by decide) rfl (fun ls hl => ?_)
  refine lv_iload hx hb dX8_sharedDivisor_7 (lv_at hl 0 rfl) ?_
  refine lv_bipush (v := 64) hx hb dX8_sharedDivisor_9 (by decide) ?_
  refine lv_icmp_ge (tgt := 34) hx hb dX8_sharedDivisor_11 (by decide) (fun c_1 => absurd c_1 (by decide)) (fun c_1 => ?_)
  refine lv_iload_n hx hb dX8_sharedDivisor_14 rfl (lv_at hl 1 rfl) ?_
  refine lv_if_eq (tgt := 34) hx hb dX8_sharedDivisor_15 (by decide) (fun c_2 => absurd c_2 (by decide)) (fun c_2 => ?_)
  refine lv_iload_n hx hb dX8_sharedDivisor_18 rfl (lv_at hl 2 rfl) ?_
  refine lv_iload_n hx hb dX8_sharedDivisor_19 rfl (lv_at hl 1 rfl) ?_
  refine lv_irem hx hb dX8_sharedDivisor_20 (by decide) ?_
  refine wt_c (v := 0) (by decide) ?_
  refine lv_istore (lv' := [(5, .int 0), (4, .int 0), (3, .int 1), (2, .int 1), (0, .int 1), (1, .int 1)]) hx hb dX8_sharedDivisor_21 hl (by decide) rfl (fun ls hl => ?_)
  refine lv_iload_n hx hb dX8_sharedDivisor_23 rfl (lv_at hl 2 rfl) ?_
  refine lv_istore_n (lv' := [(2, .int 1), (5, .int 0), (4, .int 0), (3, .int 1), (0, .int 1), (1, .int 1)]) hx hb dX8_sharedDivisor_24 rfl hl (by decide) rfl (fun ls hl => ?_)
  refine lv_iload hx hb dX8_sharedDivisor_25 (lv_at hl 1 rfl) ?_
  refine lv_istore_n (lv' := [(3, .int 0), (2, .int 1), (5, .int 0), (4, .int 0), (0, .int 1), (1, .int 1)]) hx hb dX8_sharedDivisor_27 rfl hl (by decide) rfl (fun ls hl => ?_)
  refine lv_iinc (v := 1) (lv' := [(4, .int 1), (3, .int 0), (2, .int 1), (5, .int 0), (0, .int 1), (1, .int 1)]) hx hb dX8_sharedDivisor_28 hl (k := 3) rfl (by decide) (by decide) rfl (fun ls hl => ?_)
  refine lv_goto (tgt := 7) hx hb dX8_sharedDivisor_31 (by decide) ?_
  refine lv_iload hx hb dX8_sharedDivisor_7 (lv_at hl 0 rfl) ?_
  refine lv_bipush (v := 64) hx hb dX8_sharedDivisor_9 (by decide) ?_
  refine lv_icmp_ge (tgt := 34) hx hb dX8_sharedDivisor_11 (by decide) (fun c_3 => absurd c_3 (by decide)) (fun c_3 => ?_)
  refine lv_iload_n hx hb dX8_sharedDivisor_14 rfl (lv_at hl 1 rfl) ?_
  refine lv_if_eq (tgt := 34) hx hb dX8_sharedDivisor_15 (by decide) (fun c_4 => ?_) (fun c_4 => absurd (by decide) c_4)
  refine lv_iconst (v := 1) hx hb dX8_sharedDivisor_34 (by decide) ?_
  refine lv_iload_n hx hb dX8_sharedDivisor_35 rfl (lv_at hl 2 rfl) ?_
  refine va_mmax hx hb (hml.trans hl.1.symm) hown (hG _ gw948) (hG _ gw775) (hG _ gw139) (hG _ gw776) (Nat.le_of_ble_eq_true rfl) (Nat.le_of_ble_eq_true rfl) (Nat.le_of_ble_eq_true rfl) (Nat.le_of_ble_eq_true rfl) dX8_sharedDivisor_36 ?_
  refine wt_c (v := 1) (by decide) ?_
  exact W.iret (v := 1) hx hb hr (fun t ht hW => ⟨⟨1, (), rfl, rfl, trivial⟩, hS.F ht⟩) hS.2.2 dX8_sharedDivisor_39
set_option maxHeartbeats 4000000 in
set_option maxRecDepth 100000 in
theorem kX8_sharedDivisor_v1 (l : Launch) (dC : Nat → ClassId) (dI : Nat → Nat → Nat) (sz : Nat) : Met l yX8_sharedDivisor (.code yX8_sharedDivisor cX8_sharedDivisor 6 (some .int) :: GW) { frames := 2, cells := 0, slots := 0, locals := 100 } (va_Pc [.int 100, .int 100] (pR (dC, dI) [] [] sz)) (va_Qi (fun (r0 : Int32) (_ : Unit) => r0 = 100) (fun _ _ => True) (fun q => sz ≤ q)) 0 0 (fun q => sz ≤ q) := by
  refine Met.ofW (cc := cX8_sharedDivisor) (maxL := 6) (ret := (some .int)) (by decide) rfl ?_
  intro p e s m args below meth c0 s₁ B hml hv
  obtain ⟨rfl, hsz, hP, hK⟩ := hv
  have hx := B.exec
  have hb := B.bytes
  have hr := B.returns
  have hts := atoms_spec (ws := .code yX8_sharedDivisor cX8_sharedDivisor 6 (some .int) :: GW) B.pre
  have hG : ∀ w ∈ GW, w.before _ s = true := fun w h => hts w (List.mem_cons_of_mem _ h)
  have hown : s.vm.findClass RX8 = some m.cls := findClass_of_methodNamed B.named
  have hlocks := B.notSynchronized
  subst hsz
  have hS : va_S (fun q => s.heap.size ≤ q) s.heap s.heap [] := va_S.rf
  have hP : va_P (dC, dI) vwCl [] s.heap := hP
  have hl := lv_entry ([.int 100, .int 100]) (n := 6) (Nat.le_of_ble_eq_true rfl)
  rw [lg_entry_eq]
  generalize (lg_sl ([.int 100, .int 100]) ++ List.replicate (6 - (lg_sl ([.int 100, .int 100])).length) Slot.unset).toArray = ls at hl ⊢
  have hl : lv_has ls 6 [(0, .int 100), (1, .int 100)] := hl
  refine lv_iload_n hx hb dX8_sharedDivisor_0 rfl (lv_at hl 0 rfl) ?_
  refine lv_istore_n (lv' := [(2, .int 100), (0, .int 100), (1, .int 100)]) hx hb dX8_sharedDivisor_1 rfl hl (by decide) rfl (fun ls hl => ?_)
  refine lv_iload_n hx hb dX8_sharedDivisor_2 rfl (lv_at hl 2 rfl) ?_
  refine lv_istore_n (lv' := [(3, .int 100), (2, .int 100), (0, .int 100), (1, .int 100)]) hx hb dX8_sharedDivisor_3 rfl hl (by decide) rfl (fun ls hl => ?_)
  refine lv_iconst (v := 0) hx hb dX8_sharedDivisor_4 (by decide) ?_
  refine lv_istore (lv' := [(4, .int 0), (3, .int 100), (2, .int 100), (0, .int 100), (1, .int 100)]) hx hb dX8_sharedDivisor_5 hl (by decide) rfl (fun ls hl => ?_)
  refine lv_iload hx hb dX8_sharedDivisor_7 (lv_at hl 0 rfl) ?_
  refine lv_bipush (v := 64) hx hb dX8_sharedDivisor_9 (by decide) ?_
  refine lv_icmp_ge (tgt := 34) hx hb dX8_sharedDivisor_11 (by decide) (fun c_1 => absurd c_1 (by decide)) (fun c_1 => ?_)
  refine lv_iload_n hx hb dX8_sharedDivisor_14 rfl (lv_at hl 1 rfl) ?_
  refine lv_if_eq (tgt := 34) hx hb dX8_sharedDivisor_15 (by decide) (fun c_2 => absurd c_2 (by decide)) (fun c_2 => ?_)
  refine lv_iload_n hx hb dX8_sharedDivisor_18 rfl (lv_at hl 2 rfl) ?_
  refine lv_iload_n hx hb dX8_sharedDivisor_19 rfl (lv_at hl 1 rfl) ?_
  refine lv_irem hx hb dX8_sharedDivisor_20 (by decide) ?_
  refine wt_c (v := 0) (by decide) ?_
  refine lv_istore (lv' := [(5, .int 0), (4, .int 0), (3, .int 100), (2, .int 100), (0, .int 100), (1, .int 100)]) hx hb dX8_sharedDivisor_21 hl (by decide) rfl (fun ls hl => ?_)
  refine lv_iload_n hx hb dX8_sharedDivisor_23 rfl (lv_at hl 2 rfl) ?_
  refine lv_istore_n (lv' := [(2, .int 100), (5, .int 0), (4, .int 0), (3, .int 100), (0, .int 100), (1, .int 100)]) hx hb dX8_sharedDivisor_24 rfl hl (by decide) rfl (fun ls hl => ?_)
  refine lv_iload hx hb dX8_sharedDivisor_25 (lv_at hl 1 rfl) ?_
  refine lv_istore_n (lv' := [(3, .int 0), (2, .int 100), (5, .int 0), (4, .int 0), (0, .int 100), (1, .int 100)]) hx hb dX8_sharedDivisor_27 rfl hl (by decide) rfl (fun ls hl => ?_)
  refine lv_iinc (v := 1) (lv' := [(4, .int 1), (3, .int 0), (2, .int 100), (5, .int 0), (0, .int 100), (1, .int 100)]) hx hb dX8_sharedDivisor_28 hl (k := 3) rfl (by decide) (by decide) rfl (fun ls hl => ?_)
  refine lv_goto (tgt := 7) hx hb dX8_sharedDivisor_31 (by decide) ?_
  refine lv_iload hx hb dX8_sharedDivisor_7 (lv_at hl 0 rfl) ?_
  refine lv_bipush (v := 64) hx hb dX8_sharedDivisor_9 (by decide) ?_
  refine lv_icmp_ge (tgt := 34) hx hb dX8_sharedDivisor_11 (by decide) (fun c_3 => absurd c_3 (by decide)) (fun c_3 => ?_)
  refine lv_iload_n hx hb dX8_sharedDivisor_14 rfl (lv_at hl 1 rfl) ?_
  refine lv_if_eq (tgt := 34) hx hb dX8_sharedDivisor_15 (by decide) (fun c_4 => ?_) (fun c_4 => absurd (by decide) c_4)
  refine lv_iconst (v := 1) hx hb dX8_sharedDivisor_34 (by decide) ?_
  refine lv_iload_n hx hb dX8_sharedDivisor_35 rfl (lv_at hl 2 rfl) ?_
  refine va_mmax hx hb (hml.trans hl.1.symm) hown (hG _ gw948) (hG _ gw775) (hG _ gw139) (hG _ gw776) (Nat.le_of_ble_eq_true rfl) (Nat.le_of_ble_eq_true rfl) (Nat.le_of_ble_eq_true rfl) (Nat.le_of_ble_eq_true rfl) dX8_sharedDivisor_36 ?_
  refine wt_c (v := 100) (by decide) ?_
  exact W.iret (v := 100) hx hb hr (fun t ht hW => ⟨⟨100, (), rfl, rfl, trivial⟩, hS.F ht⟩) hS.2.2 dX8_sharedDivisor_39
set_option maxHeartbeats 4000000 in
set_option maxRecDepth 100000 in
theorem kX8_sharedDivisor_v2 (l : Launch) (dC : Nat → ClassId) (dI : Nat → Nat → Nat) (sz : Nat) : Met l yX8_sharedDivisor (.code yX8_sharedDivisor cX8_sharedDivisor 6 (some .int) :: GW) { frames := 2, cells := 0, slots := 0, locals := 100 } (va_Pc [.int 10000, .int 10000] (pR (dC, dI) [] [] sz)) (va_Qi (fun (r0 : Int32) (_ : Unit) => r0 = 10000) (fun _ _ => True) (fun q => sz ≤ q)) 0 0 (fun q => sz ≤ q) := by
  refine Met.ofW (cc := cX8_sharedDivisor) (maxL := 6) (ret := (some .int)) (by decide) rfl ?_
  intro p e s m args below meth c0 s₁ B hml hv
  obtain ⟨rfl, hsz, hP, hK⟩ := hv
  have hx := B.exec
  have hb := B.bytes
  have hr := B.returns
  have hts := atoms_spec (ws := .code yX8_sharedDivisor cX8_sharedDivisor 6 (some .int) :: GW) B.pre
  have hG : ∀ w ∈ GW, w.before _ s = true := fun w h => hts w (List.mem_cons_of_mem _ h)
  have hown : s.vm.findClass RX8 = some m.cls := findClass_of_methodNamed B.named
  have hlocks := B.notSynchronized
  subst hsz
  have hS : va_S (fun q => s.heap.size ≤ q) s.heap s.heap [] := va_S.rf
  have hP : va_P (dC, dI) vwCl [] s.heap := hP
  have hl := lv_entry ([.int 10000, .int 10000]) (n := 6) (Nat.le_of_ble_eq_true rfl)
  rw [lg_entry_eq]
  generalize (lg_sl ([.int 10000, .int 10000]) ++ List.replicate (6 - (lg_sl ([.int 10000, .int 10000])).length) Slot.unset).toArray = ls at hl ⊢
  have hl : lv_has ls 6 [(0, .int 10000), (1, .int 10000)] := hl
  refine lv_iload_n hx hb dX8_sharedDivisor_0 rfl (lv_at hl 0 rfl) ?_
  refine lv_istore_n (lv' := [(2, .int 10000), (0, .int 10000), (1, .int 10000)]) hx hb dX8_sharedDivisor_1 rfl hl (by decide) rfl (fun ls hl => ?_)
  refine lv_iload_n hx hb dX8_sharedDivisor_2 rfl (lv_at hl 2 rfl) ?_
  refine lv_istore_n (lv' := [(3, .int 10000), (2, .int 10000), (0, .int 10000), (1, .int 10000)]) hx hb dX8_sharedDivisor_3 rfl hl (by decide) rfl (fun ls hl => ?_)
  refine lv_iconst (v := 0) hx hb dX8_sharedDivisor_4 (by decide) ?_
  refine lv_istore (lv' := [(4, .int 0), (3, .int 10000), (2, .int 10000), (0, .int 10000), (1, .int 10000)]) hx hb dX8_sharedDivisor_5 hl (by decide) rfl (fun ls hl => ?_)
  refine lv_iload hx hb dX8_sharedDivisor_7 (lv_at hl 0 rfl) ?_
  refine lv_bipush (v := 64) hx hb dX8_sharedDivisor_9 (by decide) ?_
  refine lv_icmp_ge (tgt := 34) hx hb dX8_sharedDivisor_11 (by decide) (fun c_1 => absurd c_1 (by decide)) (fun c_1 => ?_)
  refine lv_iload_n hx hb dX8_sharedDivisor_14 rfl (lv_at hl 1 rfl) ?_
  refine lv_if_eq (tgt := 34) hx hb dX8_sharedDivisor_15 (by decide) (fun c_2 => absurd c_2 (by decide)) (fun c_2 => ?_)
  refine lv_iload_n hx hb dX8_sharedDivisor_18 rfl (lv_at hl 2 rfl) ?_
  refine lv_iload_n hx hb dX8_sharedDivisor_19 rfl (lv_at hl 1 rfl) ?_
  refine lv_irem hx hb dX8_sharedDivisor_20 (by decide) ?_
  refine wt_c (v := 0) (by decide) ?_
  refine lv_istore (lv' := [(5, .int 0), (4, .int 0), (3, .int 10000), (2, .int 10000), (0, .int 10000), (1, .int 10000)]) hx hb dX8_sharedDivisor_21 hl (by decide) rfl (fun ls hl => ?_)
  refine lv_iload_n hx hb dX8_sharedDivisor_23 rfl (lv_at hl 2 rfl) ?_
  refine lv_istore_n (lv' := [(2, .int 10000), (5, .int 0), (4, .int 0), (3, .int 10000), (0, .int 10000), (1, .int 10000)]) hx hb dX8_sharedDivisor_24 rfl hl (by decide) rfl (fun ls hl => ?_)
  refine lv_iload hx hb dX8_sharedDivisor_25 (lv_at hl 1 rfl) ?_
  refine lv_istore_n (lv' := [(3, .int 0), (2, .int 10000), (5, .int 0), (4, .int 0), (0, .int 10000), (1, .int 10000)]) hx hb dX8_sharedDivisor_27 rfl hl (by decide) rfl (fun ls hl => ?_)
  refine lv_iinc (v := 1) (lv' := [(4, .int 1), (3, .int 0), (2, .int 10000), (5, .int 0), (0, .int 10000), (1, .int 10000)]) hx hb dX8_sharedDivisor_28 hl (k := 3) rfl (by decide) (by decide) rfl (fun ls hl => ?_)
  refine lv_goto (tgt := 7) hx hb dX8_sharedDivisor_31 (by decide) ?_
  refine lv_iload hx hb dX8_sharedDivisor_7 (lv_at hl 0 rfl) ?_
  refine lv_bipush (v := 64) hx hb dX8_sharedDivisor_9 (by decide) ?_
  refine lv_icmp_ge (tgt := 34) hx hb dX8_sharedDivisor_11 (by decide) (fun c_3 => absurd c_3 (by decide)) (fun c_3 => ?_)
  refine lv_iload_n hx hb dX8_sharedDivisor_14 rfl (lv_at hl 1 rfl) ?_
  refine lv_if_eq (tgt := 34) hx hb dX8_sharedDivisor_15 (by decide) (fun c_4 => ?_) (fun c_4 => absurd (by decide) c_4)
  refine lv_iconst (v := 1) hx hb dX8_sharedDivisor_34 (by decide) ?_
  refine lv_iload_n hx hb dX8_sharedDivisor_35 rfl (lv_at hl 2 rfl) ?_
  refine va_mmax hx hb (hml.trans hl.1.symm) hown (hG _ gw948) (hG _ gw775) (hG _ gw139) (hG _ gw776) (Nat.le_of_ble_eq_true rfl) (Nat.le_of_ble_eq_true rfl) (Nat.le_of_ble_eq_true rfl) (Nat.le_of_ble_eq_true rfl) dX8_sharedDivisor_36 ?_
  refine wt_c (v := 10000) (by decide) ?_
  exact W.iret (v := 10000) hx hb hr (fun t ht hW => ⟨⟨10000, (), rfl, rfl, trivial⟩, hS.F ht⟩) hS.2.2 dX8_sharedDivisor_39
set_option maxHeartbeats 4000000 in
set_option maxRecDepth 100000 in
theorem kX8_sharedDivisor_v3 (l : Launch) (dC : Nat → ClassId) (dI : Nat → Nat → Nat) (sz : Nat) : Met l yX8_sharedDivisor (.code yX8_sharedDivisor cX8_sharedDivisor 6 (some .int) :: GW) { frames := 2, cells := 0, slots := 0, locals := 100 } (va_Pc [.int 1000000, .int 1000000] (pR (dC, dI) [] [] sz)) (va_Qi (fun (r0 : Int32) (_ : Unit) => r0 = 1000000) (fun _ _ => True) (fun q => sz ≤ q)) 0 0 (fun q => sz ≤ q) := by
  refine Met.ofW (cc := cX8_sharedDivisor) (maxL := 6) (ret := (some .int)) (by decide) rfl ?_
  intro p e s m args below meth c0 s₁ B hml hv
  obtain ⟨rfl, hsz, hP, hK⟩ := hv
  have hx := B.exec
  have hb := B.bytes
  have hr := B.returns
  have hts := atoms_spec (ws := .code yX8_sharedDivisor cX8_sharedDivisor 6 (some .int) :: GW) B.pre
  have hG : ∀ w ∈ GW, w.before _ s = true := fun w h => hts w (List.mem_cons_of_mem _ h)
  have hown : s.vm.findClass RX8 = some m.cls := findClass_of_methodNamed B.named
  have hlocks := B.notSynchronized
  subst hsz
  have hS : va_S (fun q => s.heap.size ≤ q) s.heap s.heap [] := va_S.rf
  have hP : va_P (dC, dI) vwCl [] s.heap := hP
  have hl := lv_entry ([.int 1000000, .int 1000000]) (n := 6) (Nat.le_of_ble_eq_true rfl)
  rw [lg_entry_eq]
  generalize (lg_sl ([.int 1000000, .int 1000000]) ++ List.replicate (6 - (lg_sl ([.int 1000000, .int 1000000])).length) Slot.unset).toArray = ls at hl ⊢
  have hl : lv_has ls 6 [(0, .int 1000000), (1, .int 1000000)] := hl
  refine lv_iload_n hx hb dX8_sharedDivisor_0 rfl (lv_at hl 0 rfl) ?_
  refine lv_istore_n (lv' := [(2, .int 1000000), (0, .int 1000000), (1, .int 1000000)]) hx hb dX8_sharedDivisor_1 rfl hl (by decide) rfl (fun ls hl => ?_)
  refine lv_iload_n hx hb dX8_sharedDivisor_2 rfl (lv_at hl 2 rfl) ?_
  refine lv_istore_n (lv' := [(3, .int 1000000), (2, .int 1000000), (0, .int 1000000), (1, .int 1000000)]) hx hb dX8_sharedDivisor_3 rfl hl (by decide) rfl (fun ls hl => ?_)
  refine lv_iconst (v := 0) hx hb dX8_sharedDivisor_4 (by decide) ?_
  refine lv_istore (lv' := [(4, .int 0), (3, .int 1000000), (2, .int 1000000), (0, .int 1000000), (1, .int 1000000)]) hx hb dX8_sharedDivisor_5 hl (by decide) rfl (fun ls hl => ?_)
  refine lv_iload hx hb dX8_sharedDivisor_7 (lv_at hl 0 rfl) ?_
  refine lv_bipush (v := 64) hx hb dX8_sharedDivisor_9 (by decide) ?_
  refine lv_icmp_ge (tgt := 34) hx hb dX8_sharedDivisor_11 (by decide) (fun c_1 => absurd c_1 (by decide)) (fun c_1 => ?_)
  refine lv_iload_n hx hb dX8_sharedDivisor_14 rfl (lv_at hl 1 rfl) ?_
  refine lv_if_eq (tgt := 34) hx hb dX8_sharedDivisor_15 (by decide) (fun c_2 => absurd c_2 (by decide)) (fun c_2 => ?_)
  refine lv_iload_n hx hb dX8_sharedDivisor_18 rfl (lv_at hl 2 rfl) ?_
  refine lv_iload_n hx hb dX8_sharedDivisor_19 rfl (lv_at hl 1 rfl) ?_
  refine lv_irem hx hb dX8_sharedDivisor_20 (by decide) ?_
  refine wt_c (v := 0) (by decide) ?_
  refine lv_istore (lv' := [(5, .int 0), (4, .int 0), (3, .int 1000000), (2, .int 1000000), (0, .int 1000000), (1, .int 1000000)]) hx hb dX8_sharedDivisor_21 hl (by decide) rfl (fun ls hl => ?_)
  refine lv_iload_n hx hb dX8_sharedDivisor_23 rfl (lv_at hl 2 rfl) ?_
  refine lv_istore_n (lv' := [(2, .int 1000000), (5, .int 0), (4, .int 0), (3, .int 1000000), (0, .int 1000000), (1, .int 1000000)]) hx hb dX8_sharedDivisor_24 rfl hl (by decide) rfl (fun ls hl => ?_)
  refine lv_iload hx hb dX8_sharedDivisor_25 (lv_at hl 1 rfl) ?_
  refine lv_istore_n (lv' := [(3, .int 0), (2, .int 1000000), (5, .int 0), (4, .int 0), (0, .int 1000000), (1, .int 1000000)]) hx hb dX8_sharedDivisor_27 rfl hl (by decide) rfl (fun ls hl => ?_)
  refine lv_iinc (v := 1) (lv' := [(4, .int 1), (3, .int 0), (2, .int 1000000), (5, .int 0), (0, .int 1000000), (1, .int 1000000)]) hx hb dX8_sharedDivisor_28 hl (k := 3) rfl (by decide) (by decide) rfl (fun ls hl => ?_)
  refine lv_goto (tgt := 7) hx hb dX8_sharedDivisor_31 (by decide) ?_
  refine lv_iload hx hb dX8_sharedDivisor_7 (lv_at hl 0 rfl) ?_
  refine lv_bipush (v := 64) hx hb dX8_sharedDivisor_9 (by decide) ?_
  refine lv_icmp_ge (tgt := 34) hx hb dX8_sharedDivisor_11 (by decide) (fun c_3 => absurd c_3 (by decide)) (fun c_3 => ?_)
  refine lv_iload_n hx hb dX8_sharedDivisor_14 rfl (lv_at hl 1 rfl) ?_
  refine lv_if_eq (tgt := 34) hx hb dX8_sharedDivisor_15 (by decide) (fun c_4 => ?_) (fun c_4 => absurd (by decide) c_4)
  refine lv_iconst (v := 1) hx hb dX8_sharedDivisor_34 (by decide) ?_
  refine lv_iload_n hx hb dX8_sharedDivisor_35 rfl (lv_at hl 2 rfl) ?_
  refine va_mmax hx hb (hml.trans hl.1.symm) hown (hG _ gw948) (hG _ gw775) (hG _ gw139) (hG _ gw776) (Nat.le_of_ble_eq_true rfl) (Nat.le_of_ble_eq_true rfl) (Nat.le_of_ble_eq_true rfl) (Nat.le_of_ble_eq_true rfl) dX8_sharedDivisor_36 ?_
  refine wt_c (v := 1000000) (by decide) ?_
  exact W.iret (v := 1000000) hx hb hr (fun t ht hW => ⟨⟨1000000, (), rfl, rfl, trivial⟩, hS.F ht⟩) hS.2.2 dX8_sharedDivisor_39
set_option maxHeartbeats 4000000 in
set_option maxRecDepth 100000 in
theorem kX8_sharedDivisor_v4 (l : Launch) (dC : Nat → ClassId) (dI : Nat → Nat → Nat) (sz : Nat) : Met l yX8_sharedDivisor (.code yX8_sharedDivisor cX8_sharedDivisor 6 (some .int) :: GW) { frames := 2, cells := 0, slots := 0, locals := 100 } (va_Pc [.int 100000000, .int 100000000] (pR (dC, dI) [] [] sz)) (va_Qi (fun (r0 : Int32) (_ : Unit) => r0 = 100000000) (fun _ _ => True) (fun q => sz ≤ q)) 0 0 (fun q => sz ≤ q) := by
  refine Met.ofW (cc := cX8_sharedDivisor) (maxL := 6) (ret := (some .int)) (by decide) rfl ?_
  intro p e s m args below meth c0 s₁ B hml hv
  obtain ⟨rfl, hsz, hP, hK⟩ := hv
  have hx := B.exec
  have hb := B.bytes
  have hr := B.returns
  have hts := atoms_spec (ws := .code yX8_sharedDivisor cX8_sharedDivisor 6 (some .int) :: GW) B.pre
  have hG : ∀ w ∈ GW, w.before _ s = true := fun w h => hts w (List.mem_cons_of_mem _ h)
  have hown : s.vm.findClass RX8 = some m.cls := findClass_of_methodNamed B.named
  have hlocks := B.notSynchronized
  subst hsz
  have hS : va_S (fun q => s.heap.size ≤ q) s.heap s.heap [] := va_S.rf
  have hP : va_P (dC, dI) vwCl [] s.heap := hP
  have hl := lv_entry ([.int 100000000, .int 100000000]) (n := 6) (Nat.le_of_ble_eq_true rfl)
  rw [lg_entry_eq]
  generalize (lg_sl ([.int 100000000, .int 100000000]) ++ List.replicate (6 - (lg_sl ([.int 100000000, .int 100000000])).length) Slot.unset).toArray = ls at hl ⊢
  have hl : lv_has ls 6 [(0, .int 100000000), (1, .int 100000000)] := hl
  refine lv_iload_n hx hb dX8_sharedDivisor_0 rfl (lv_at hl 0 rfl) ?_
  refine lv_istore_n (lv' := [(2, .int 100000000), (0, .int 100000000), (1, .int 100000000)]) hx hb dX8_sharedDivisor_1 rfl hl (by decide) rfl (fun ls hl => ?_)
  refine lv_iload_n hx hb dX8_sharedDivisor_2 rfl (lv_at hl 2 rfl) ?_
  refine lv_istore_n (lv' := [(3, .int 100000000), (2, .int 100000000), (0, .int 100000000), (1, .int 100000000)]) hx hb dX8_sharedDivisor_3 rfl hl (by decide) rfl (fun ls hl => ?_)
  refine lv_iconst (v := 0) hx hb dX8_sharedDivisor_4 (by decide) ?_
  refine lv_istore (lv' := [(4, .int 0), (3, .int 100000000), (2, .int 100000000), (0, .int 100000000), (1, .int 100000000)]) hx hb dX8_sharedDivisor_5 hl (by decide) rfl (fun ls hl => ?_)
  refine lv_iload hx hb dX8_sharedDivisor_7 (lv_at hl 0 rfl) ?_
  refine lv_bipush (v := 64) hx hb dX8_sharedDivisor_9 (by decide) ?_
  refine lv_icmp_ge (tgt := 34) hx hb dX8_sharedDivisor_11 (by decide) (fun c_1 => absurd c_1 (by decide)) (fun c_1 => ?_)
  refine lv_iload_n hx hb dX8_sharedDivisor_14 rfl (lv_at hl 1 rfl) ?_
  refine lv_if_eq (tgt := 34) hx hb dX8_sharedDivisor_15 (by decide) (fun c_2 => absurd c_2 (by decide)) (fun c_2 => ?_)
  refine lv_iload_n hx hb dX8_sharedDivisor_18 rfl (lv_at hl 2 rfl) ?_
  refine lv_iload_n hx hb dX8_sharedDivisor_19 rfl (lv_at hl 1 rfl) ?_
  refine lv_irem hx hb dX8_sharedDivisor_20 (by decide) ?_
  refine wt_c (v := 0) (by decide) ?_
  refine lv_istore (lv' := [(5, .int 0), (4, .int 0), (3, .int 100000000), (2, .int 100000000), (0, .int 100000000), (1, .int 100000000)]) hx hb dX8_sharedDivisor_21 hl (by decide) rfl (fun ls hl => ?_)
  refine lv_iload_n hx hb dX8_sharedDivisor_23 rfl (lv_at hl 2 rfl) ?_
  refine lv_istore_n (lv' := [(2, .int 100000000), (5, .int 0), (4, .int 0), (3, .int 100000000), (0, .int 100000000), (1, .int 100000000)]) hx hb dX8_sharedDivisor_24 rfl hl (by decide) rfl (fun ls hl => ?_)
  refine lv_iload hx hb dX8_sharedDivisor_25 (lv_at hl 1 rfl) ?_
  refine lv_istore_n (lv' := [(3, .int 0), (2, .int 100000000), (5, .int 0), (4, .int 0), (0, .int 100000000), (1, .int 100000000)]) hx hb dX8_sharedDivisor_27 rfl hl (by decide) rfl (fun ls hl => ?_)
  refine lv_iinc (v := 1) (lv' := [(4, .int 1), (3, .int 0), (2, .int 100000000), (5, .int 0), (0, .int 100000000), (1, .int 100000000)]) hx hb dX8_sharedDivisor_28 hl (k := 3) rfl (by decide) (by decide) rfl (fun ls hl => ?_)
  refine lv_goto (tgt := 7) hx hb dX8_sharedDivisor_31 (by decide) ?_
  refine lv_iload hx hb dX8_sharedDivisor_7 (lv_at hl 0 rfl) ?_
  refine lv_bipush (v := 64) hx hb dX8_sharedDivisor_9 (by decide) ?_
  refine lv_icmp_ge (tgt := 34) hx hb dX8_sharedDivisor_11 (by decide) (fun c_3 => absurd c_3 (by decide)) (fun c_3 => ?_)
  refine lv_iload_n hx hb dX8_sharedDivisor_14 rfl (lv_at hl 1 rfl) ?_
  refine lv_if_eq (tgt := 34) hx hb dX8_sharedDivisor_15 (by decide) (fun c_4 => ?_) (fun c_4 => absurd (by decide) c_4)
  refine lv_iconst (v := 1) hx hb dX8_sharedDivisor_34 (by decide) ?_
  refine lv_iload_n hx hb dX8_sharedDivisor_35 rfl (lv_at hl 2 rfl) ?_
  refine va_mmax hx hb (hml.trans hl.1.symm) hown (hG _ gw948) (hG _ gw775) (hG _ gw139) (hG _ gw776) (Nat.le_of_ble_eq_true rfl) (Nat.le_of_ble_eq_true rfl) (Nat.le_of_ble_eq_true rfl) (Nat.le_of_ble_eq_true rfl) dX8_sharedDivisor_36 ?_
  refine wt_c (v := 100000000) (by decide) ?_
  exact W.iret (v := 100000000) hx hb hr (fun t ht hW => ⟨⟨100000000, (), rfl, rfl, trivial⟩, hS.F ht⟩) hS.2.2 dX8_sharedDivisor_39
set_option maxHeartbeats 4000000 in
set_option maxRecDepth 100000 in
theorem kX8_odds (l : Launch) (dC : Nat → ClassId) (dI : Nat → Nat → Nat) (r : Nat → Nat) (c : Nat → ClassId) (p0 p1 : Int32) (sz : Nat) : Met l yX8_odds (.code yX8_odds cX8_odds 6 (some .int) :: GW) { frames := 4, cells := 0, slots := 0, locals := 165 } (va_Pc [.ref (r 0), .int p0, .int p1] (pW (dC, dI) [(r 0, .inr (7, [.ref (r 1), .int 0, .ref (r 2), .ref (r 55), .ref (r 57), .ref (r 30), .ref (r 56), .ref (r 36), .ref (r 37), .ref (r 38), .int 0, .ref (r 51), .int 0, .ref (r 52), .ref (r 53), .ref (r 54)])), (r 55, .inr (3, [.int 1, .int 0, .int 0, .int 0, .ref (r 20), .ref (r 21), .ref (r 22), .int 0, .ref (r 23), .ref (r 24), .ref (r 25), .int 0, .ref (r 28), .ref (r 27)]))] [] sz)) (va_Qi (fun (r0 : Int32) (u : Nat) => (u = 0 ∧ p0 < 0 ∧ r0 = (-1)) ∨ (u = 1 ∧ ¬ p0 < 0 ∧ 4 < p0 ∧ r0 = (-1)) ∨ (u = 2 ∧ ¬ p0 < 0 ∧ ¬ 4 < p0 ∧ p1 < 0 ∧ r0 = (-1)) ∨ (u = 3 ∧ ¬ p0 < 0 ∧ ¬ 4 < p0 ∧ ¬ p1 < 0 ∧ p1 ≤ 1 ∧ p0 ≤ 0 ∧ ¬ p1 = 0 ∧ r0 = 1) ∨ (u = 4 ∧ ¬ p0 < 0 ∧ ¬ 4 < p0 ∧ ¬ p1 < 0 ∧ p1 ≤ 1 ∧ p0 ≤ 0 ∧ p1 = 0 ∧ r0 = 1) ∨ (u = 5 ∧ ¬ p0 < 0 ∧ ¬ 4 < p0 ∧ ¬ p1 < 0 ∧ p1 ≤ 1 ∧ ¬ p0 ≤ 0 ∧ p0 ≤ 1 ∧ ¬ p1 = 0 ∧ r0 = 1) ∨ (u = 6 ∧ ¬ p0 < 0 ∧ ¬ 4 < p0 ∧ ¬ p1 < 0 ∧ p1 ≤ 1 ∧ ¬ p0 ≤ 0 ∧ p0 ≤ 1 ∧ p1 = 0 ∧ r0 = 1) ∨ (u = 7 ∧ ¬ p0 < 0 ∧ ¬ 4 < p0 ∧ ¬ p1 < 0 ∧ p1 ≤ 1 ∧ ¬ p0 ≤ 0 ∧ ¬ p0 ≤ 1 ∧ p0 ≤ 2 ∧ ¬ p1 = 0 ∧ r0 = 1) ∨ (u = 8 ∧ ¬ p0 < 0 ∧ ¬ 4 < p0 ∧ ¬ p1 < 0 ∧ p1 ≤ 1 ∧ ¬ p0 ≤ 0 ∧ ¬ p0 ≤ 1 ∧ p0 ≤ 2 ∧ p1 = 0 ∧ r0 = 1) ∨ (u = 9 ∧ ¬ p0 < 0 ∧ ¬ 4 < p0 ∧ ¬ p1 < 0 ∧ p1 ≤ 1 ∧ ¬ p0 ≤ 0 ∧ ¬ p0 ≤ 1 ∧ ¬ p0 ≤ 2 ∧ p0 ≤ 3 ∧ ¬ p1 = 0 ∧ r0 = 1) ∨ (u = 10 ∧ ¬ p0 < 0 ∧ ¬ 4 < p0 ∧ ¬ p1 < 0 ∧ p1 ≤ 1 ∧ ¬ p0 ≤ 0 ∧ ¬ p0 ≤ 1 ∧ ¬ p0 ≤ 2 ∧ p0 ≤ 3 ∧ p1 = 0 ∧ r0 = 1) ∨ (u = 11 ∧ ¬ p0 < 0 ∧ ¬ 4 < p0 ∧ ¬ p1 < 0 ∧ p1 ≤ 1 ∧ ¬ p0 ≤ 0 ∧ ¬ p0 ≤ 1 ∧ ¬ p0 ≤ 2 ∧ ¬ p0 ≤ 3 ∧ p0 ≤ 4 ∧ ¬ p1 = 0 ∧ r0 = 1) ∨ (u = 12 ∧ ¬ p0 < 0 ∧ ¬ 4 < p0 ∧ ¬ p1 < 0 ∧ p1 ≤ 1 ∧ ¬ p0 ≤ 0 ∧ ¬ p0 ≤ 1 ∧ ¬ p0 ≤ 2 ∧ ¬ p0 ≤ 3 ∧ p0 ≤ 4 ∧ p1 = 0 ∧ r0 = 1) ∨ (u = 13 ∧ ¬ p0 < 0 ∧ ¬ 4 < p0 ∧ ¬ p1 < 0 ∧ ¬ p1 ≤ 1 ∧ r0 = (-1))) (fun _ _ => True) (va_A [(r 0, .inr (7, [.ref (r 1), .int 0, .ref (r 2), .ref (r 55), .ref (r 57), .ref (r 30), .ref (r 56), .ref (r 36), .ref (r 37), .ref (r 38), .int 0, .ref (r 51), .int 0, .ref (r 52), .ref (r 53), .ref (r 54)])), (r 55, .inr (3, [.int 1, .int 0, .int 0, .int 0, .ref (r 20), .ref (r 21), .ref (r 22), .int 0, .ref (r 23), .ref (r 24), .ref (r 25), .int 0, .ref (r 28), .ref (r 27)]))] sz)) 0 0 (va_A [(r 0, .inr (7, [.ref (r 1), .int 0, .ref (r 2), .ref (r 55), .ref (r 57), .ref (r 30), .ref (r 56), .ref (r 36), .ref (r 37), .ref (r 38), .int 0, .ref (r 51), .int 0, .ref (r 52), .ref (r 53), .ref (r 54)])), (r 55, .inr (3, [.int 1, .int 0, .int 0, .int 0, .ref (r 20), .ref (r 21), .ref (r 22), .int 0, .ref (r 23), .ref (r 24), .ref (r 25), .int 0, .ref (r 28), .ref (r 27)]))] sz) := by
  refine Met.ofW (cc := cX8_odds) (maxL := 6) (ret := (some .int)) (by decide) rfl ?_
  intro p e s m args below meth c0 s₁ B hml hv
  obtain ⟨rfl, hsz, hP, hK, hD0⟩ := hv
  have hx := B.exec
  have hb := B.bytes
  have hr := B.returns
  have hts := atoms_spec (ws := .code yX8_odds cX8_odds 6 (some .int) :: GW) B.pre
  have hG : ∀ w ∈ GW, w.before _ s = true := fun w h => hts w (List.mem_cons_of_mem _ h)
  have hown : s.vm.findClass RX8 = some m.cls := findClass_of_methodNamed B.named
  have hlocks := B.notSynchronized
  subst hsz
  have hD := hD0.self (sz := s.heap.size)
  generalize hAe : va_A [(r 0, .inr (7, [.ref (r 1), .int 0, .ref (r 2), .ref (r 55), .ref (r 57), .ref (r 30), .ref (r 56), .ref (r 36), .ref (r 37), .ref (r 38), .int 0, .ref (r 51), .int 0, .ref (r 52), .ref (r 53), .ref (r 54)])), (r 55, .inr (3, [.int 1, .int 0, .int 0, .int 0, .ref (r 20), .ref (r 21), .ref (r 22), .int 0, .ref (r 23), .ref (r 24), .ref (r 25), .int 0, .ref (r 28), .ref (r 27)]))] s.heap.size = A at hD ⊢
  have hA : ∀ q : Nat, s.heap.size ≤ q → A q := fun q h => by rw [← hAe]; exact Or.inr h
  have hS : va_S A s.heap s.heap [] := va_S.rf
  have hP : va_P (dC, dI) vwCl [(r 0, .inr (7, [.ref (r 1), .int 0, .ref (r 2), .ref (r 55), .ref (r 57), .ref (r 30), .ref (r 56), .ref (r 36), .ref (r 37), .ref (r 38), .int 0, .ref (r 51), .int 0, .ref (r 52), .ref (r 53), .ref (r 54)])), (r 55, .inr (3, [.int 1, .int 0, .int 0, .int 0, .ref (r 20), .ref (r 21), .ref (r 22), .int 0, .ref (r 23), .ref (r 24), .ref (r 25), .int 0, .ref (r 28), .ref (r 27)]))] s.heap := hP
  have hl := lv_entry ([.ref (r 0), .int p0, .int p1]) (n := 6) (Nat.le_of_ble_eq_true rfl)
  rw [lg_entry_eq]
  generalize (lg_sl ([.ref (r 0), .int p0, .int p1]) ++ List.replicate (6 - (lg_sl ([.ref (r 0), .int p0, .int p1])).length) Slot.unset).toArray = ls at hl ⊢
  have hl : lv_has ls 6 [(0, .ref (r 0)), (1, .int p0), (2, .int p1)] := hl
  refine lv_iload_n hx hb dX8_odds_0 rfl (lv_at hl 1 rfl) ?_
  refine lv_if_lt (tgt := 18) hx hb dX8_odds_1 (by decide) (fun c_1 => ?_) (fun c_1 => ?_)
  · skip
    refine lv_iconst (v := (-1)) hx hb dX8_odds_18 (by decide) ?_
    exact W.iret (v := (-1)) hx hb hr (fun t ht hW => ⟨⟨(-1), 0, rfl, (Or.inl ⟨rfl, c_1, rfl⟩), trivial⟩, hS.F ht⟩) hS.2.2 dX8_odds_19
  · skip
    refine lv_iload_n hx hb dX8_odds_4 rfl (lv_at hl 1 rfl) ?_
    refine lv_iconst (v := 4) hx hb dX8_odds_5 (by decide) ?_
    refine lv_icmp_gt (tgt := 18) hx hb dX8_odds_6 (by decide) (fun c_2 => ?_) (fun c_2 => ?_)
    · skip
      refine lv_iconst (v := (-1)) hx hb dX8_odds_18 (by decide) ?_
      exact W.iret (v := (-1)) hx hb hr (fun t ht hW => ⟨⟨(-1), 1, rfl, (Or.inr (Or.inl ⟨rfl, c_1, c_2, rfl⟩)), trivial⟩, hS.F ht⟩) hS.2.2 dX8_odds_19
    · skip
      refine lv_iload_n hx hb dX8_odds_9 rfl (lv_at hl 2 rfl) ?_
      refine lv_if_lt (tgt := 18) hx hb dX8_odds_10 (by decide) (fun c_3 => ?_) (fun c_3 => ?_)
      · skip
        refine lv_iconst (v := (-1)) hx hb dX8_odds_18 (by decide) ?_
        exact W.iret (v := (-1)) hx hb hr (fun t ht hW => ⟨⟨(-1), 2, rfl, (Or.inr (Or.inr (Or.inl ⟨rfl, c_1, c_2, c_3, rfl⟩))), trivial⟩, hS.F ht⟩) hS.2.2 dX8_odds_19
      · skip
        refine lv_iload_n hx hb dX8_odds_13 rfl (lv_at hl 2 rfl) ?_
        refine lv_iconst (v := 1) hx hb dX8_odds_14 (by decide) ?_
        refine lv_icmp_le (tgt := 20) hx hb dX8_odds_15 (by decide) (fun c_4 => ?_) (fun c_4 => ?_)
        · skip
          refine lv_iconst (v := 1) hx hb dX8_odds_20 (by decide) ?_
          refine lv_istore_n (lv' := [(3, .int 1), (0, .ref (r 0)), (1, .int p0), (2, .int p1)]) hx hb dX8_odds_21 rfl hl (by decide) rfl (fun ls hl => ?_)
          refine lv_iconst (v := 1) hx hb dX8_odds_22 (by decide) ?_
          refine lv_istore (lv' := [(4, .int 1), (3, .int 1), (0, .ref (r 0)), (1, .int p0), (2, .int p1)]) hx hb dX8_odds_23 hl (by decide) rfl (fun ls hl => ?_)
          refine lv_iconst (v := 0) hx hb dX8_odds_25 (by decide) ?_
          refine lv_istore (lv' := [(5, .int 0), (4, .int 1), (3, .int 1), (0, .ref (r 0)), (1, .int p0), (2, .int p1)]) hx hb dX8_odds_26 hl (by decide) rfl (fun ls hl => ?_)
          refine lv_iload hx hb dX8_odds_28 (lv_at hl 0 rfl) ?_
          refine lv_iload_n hx hb dX8_odds_30 rfl (lv_at hl 4 rfl) ?_
          refine lv_icmp_ge (tgt := 60) hx hb dX8_odds_31 (by decide) (fun c_5 => ?_) (fun c_5 => ?_)
          · skip
            refine lv_iload_n hx hb dX8_odds_60 rfl (lv_at hl 2 rfl) ?_
            refine lv_iload hx hb dX8_odds_61 (lv_at hl 1 rfl) ?_
            have hPc := hP.sub (ws' := []) [] rfl
            have hKc := hK.sub (tys' := []) [] rfl
            refine va_calli (va_runS (As := [.int 1, .int 1]) (rest := []) ⟨hx, hb, hml, hown, hG⟩ (kX8_sharedDivisor l dC dI  s.heap.size ) (va_cwS 2 hG (goodS gw1046 gw1047 gw129 gw1048) rfl rfl rfl hd_X8_sharedDivisor ⟨(Nat.le_of_ble_eq_true rfl), (Nat.le_of_ble_eq_true rfl)⟩) ⟨fbR, pR_in hPc hKc⟩ rfl rfl hl.1 rfl (lv_room (Nat.le_of_ble_eq_true rfl)) dX8_odds_63 ⟨(Nat.le_of_ble_eq_true rfl), (Nat.le_of_ble_eq_true rfl)⟩) hS (fun q hq h => absurd hq (Nat.not_lt.mpr h)) (fun q h => hA q (Nat.le_trans hS.1 h)) (fun r_7 u t H6 locs ht hvm hw hB hz1 hk1 hS => ?_)
            have hP := wk hP hk1
            refine wt_c (v := 1) hw ?_
            refine lv_istore (lv' := [(5, .int 1), (4, .int 1), (3, .int 1), (0, .ref (r 0)), (1, .int p0), (2, .int p1)]) hx hb dX8_odds_66 hl (by decide) rfl (fun ls hl => ?_)
            refine lv_iload_n hx hb dX8_odds_68 rfl (lv_at hl 5 rfl) ?_
            refine lv_if_ne (tgt := 76) hx hb dX8_odds_69 (by decide) (fun c_8 => ?_) (fun c_8 => ?_)
            · skip
              refine lv_iload hx hb dX8_odds_76 (lv_at hl 1 rfl) ?_
              refine lv_iload hx hb dX8_odds_78 (lv_at hl 0 rfl) ?_
              refine lv_idiv hx hb dX8_odds_80 (by decide) ?_
              refine wt_c (v := 1) (by decide) ?_
              exact W.iret (v := 1) hx hb hr (fun t ht hW => ⟨⟨1, 3, rfl, (Or.inr (Or.inr (Or.inr (Or.inl ⟨rfl, c_1, c_2, c_3, c_4, c_5, c_8, rfl⟩)))), trivial⟩, hS.F ht⟩) hS.2.2 dX8_odds_81
            · skip
              refine lv_iload_n hx hb dX8_odds_72 rfl (lv_at hl 2 rfl) ?_
              refine lv_goto (tgt := 78) hx hb dX8_odds_73 (by decide) ?_
              refine lv_iload hx hb dX8_odds_78 (lv_at hl 0 rfl) ?_
              refine lv_idiv hx hb dX8_odds_80 (by decide) ?_
              refine wt_c (v := 1) (by decide) ?_
              exact W.iret (v := 1) hx hb hr (fun t ht hW => ⟨⟨1, 4, rfl, (Or.inr (Or.inr (Or.inr (Or.inr (Or.inl ⟨rfl, c_1, c_2, c_3, c_4, c_5, c_8, rfl⟩))))), trivial⟩, hS.F ht⟩) hS.2.2 dX8_odds_81
          · skip
            refine lv_iload_n hx hb dX8_odds_34 rfl (lv_at hl 2 rfl) ?_
            refine lv_bipush (v := 100) hx hb dX8_odds_35 (by decide) ?_
            refine lv_aload_n hx hb dX8_odds_37 rfl (lv_at hl 3 rfl) ?_
            refine va_get (D := (dC, dI)) (ci := 7) (v := .ref (r 55)) (C := RX8) (T := TX8) (N := 16) hx hb hG inX8 hown hK hP 0 rfl rfl 3 (by decide) (hG _ gw471) (fun _ h9 => h9) rfl dX8_odds_38 ?_
            refine va_get (D := (dC, dI)) (ci := 3) (v := .int 0) (C := RX4) (T := TX4) (N := 14) hx hb hG inX4 hown hK hP 1 rfl rfl 1 (by decide) (hG _ gw239) (fun _ h9 => h9) rfl dX8_odds_41 ?_
            refine lv_isub hx hb dX8_odds_44 ?_
            refine wt_c (v := 100) (by decide) ?_
            refine lv_imul hx hb dX8_odds_45 ?_
            refine wt_c (v := 100) (by decide) ?_
            refine lv_istore_n (lv' := [(3, .int 100), (5, .int 0), (4, .int 1), (0, .ref (r 0)), (1, .int p0), (2, .int p1)]) hx hb dX8_odds_46 rfl hl (by decide) rfl (fun ls hl => ?_)
            refine lv_iload hx hb dX8_odds_47 (lv_at hl 2 rfl) ?_
            refine lv_bipush (v := 100) hx hb dX8_odds_49 (by decide) ?_
            refine lv_imul hx hb dX8_odds_51 ?_
            refine wt_c (v := 100) (by decide) ?_
            refine lv_istore (lv' := [(4, .int 100), (3, .int 100), (5, .int 0), (0, .ref (r 0)), (1, .int p0), (2, .int p1)]) hx hb dX8_odds_52 hl (by decide) rfl (fun ls hl => ?_)
            refine lv_iinc (v := 1) (lv' := [(5, .int 1), (4, .int 100), (3, .int 100), (0, .ref (r 0)), (1, .int p0), (2, .int p1)]) hx hb dX8_odds_54 hl (k := 2) rfl (by decide) (by decide) rfl (fun ls hl => ?_)
            refine lv_goto (tgt := 28) hx hb dX8_odds_57 (by decide) ?_
            refine lv_iload hx hb dX8_odds_28 (lv_at hl 0 rfl) ?_
            refine lv_iload_n hx hb dX8_odds_30 rfl (lv_at hl 4 rfl) ?_
            refine lv_icmp_ge (tgt := 60) hx hb dX8_odds_31 (by decide) (fun c_9 => ?_) (fun c_9 => ?_)
            · skip
              refine lv_iload_n hx hb dX8_odds_60 rfl (lv_at hl 2 rfl) ?_
              refine lv_iload hx hb dX8_odds_61 (lv_at hl 1 rfl) ?_
              have hPc := hP.sub (ws' := []) [] rfl
              have hKc := hK.sub (tys' := []) [] rfl
              refine va_calli (va_runS (As := [.int 100, .int 100]) (rest := []) ⟨hx, hb, hml, hown, hG⟩ (kX8_sharedDivisor_v1 l dC dI  s.heap.size ) (va_cwS 2 hG (goodS gw1046 gw1047 gw129 gw1048) rfl rfl rfl hd_X8_sharedDivisor ⟨(Nat.le_of_ble_eq_true rfl), (Nat.le_of_ble_eq_true rfl)⟩) ⟨fbR, pR_in hPc hKc⟩ rfl rfl hl.1 rfl (lv_room (Nat.le_of_ble_eq_true rfl)) dX8_odds_63 ⟨(Nat.le_of_ble_eq_true rfl), (Nat.le_of_ble_eq_true rfl)⟩) hS (fun q hq h => absurd hq (Nat.not_lt.mpr h)) (fun q h => hA q (Nat.le_trans hS.1 h)) (fun r_11 u t H10 locs ht hvm hw hB hz1 hk1 hS => ?_)
              have hP := wk hP hk1
              refine wt_c (v := 100) hw ?_
              refine lv_istore (lv' := [(5, .int 100), (4, .int 100), (3, .int 100), (0, .ref (r 0)), (1, .int p0), (2, .int p1)]) hx hb dX8_odds_66 hl (by decide) rfl (fun ls hl => ?_)
              refine lv_iload_n hx hb dX8_odds_68 rfl (lv_at hl 5 rfl) ?_
              refine lv_if_ne (tgt := 76) hx hb dX8_odds_69 (by decide) (fun c_12 => ?_) (fun c_12 => ?_)
              · skip
                refine lv_iload hx hb dX8_odds_76 (lv_at hl 1 rfl) ?_
                refine lv_iload hx hb dX8_odds_78 (lv_at hl 0 rfl) ?_
                refine lv_idiv hx hb dX8_odds_80 (by decide) ?_
                refine wt_c (v := 1) (by decide) ?_
                exact W.iret (v := 1) hx hb hr (fun t ht hW => ⟨⟨1, 5, rfl, (Or.inr (Or.inr (Or.inr (Or.inr (Or.inr (Or.inl ⟨rfl, c_1, c_2, c_3, c_4, c_5, c_9, c_12, rfl⟩)))))), trivial⟩, hS.F ht⟩) hS.2.2 dX8_odds_81
              · skip
                refine lv_iload_n hx hb dX8_odds_72 rfl (lv_at hl 2 rfl) ?_
                refine lv_goto (tgt := 78) hx hb dX8_odds_73 (by decide) ?_
                refine lv_iload hx hb dX8_odds_78 (lv_at hl 0 rfl) ?_
                refine lv_idiv hx hb dX8_odds_80 (by decide) ?_
                refine wt_c (v := 1) (by decide) ?_
                exact W.iret (v := 1) hx hb hr (fun t ht hW => ⟨⟨1, 6, rfl, (Or.inr (Or.inr (Or.inr (Or.inr (Or.inr (Or.inr (Or.inl ⟨rfl, c_1, c_2, c_3, c_4, c_5, c_9, c_12, rfl⟩))))))), trivial⟩, hS.F ht⟩) hS.2.2 dX8_odds_81
            · skip
              refine lv_iload_n hx hb dX8_odds_34 rfl (lv_at hl 2 rfl) ?_
              refine lv_bipush (v := 100) hx hb dX8_odds_35 (by decide) ?_
              refine lv_aload_n hx hb dX8_odds_37 rfl (lv_at hl 3 rfl) ?_
              refine va_get (D := (dC, dI)) (ci := 7) (v := .ref (r 55)) (C := RX8) (T := TX8) (N := 16) hx hb hG inX8 hown hK hP 0 rfl rfl 3 (by decide) (hG _ gw471) (fun _ h9 => h9) rfl dX8_odds_38 ?_
              refine va_get (D := (dC, dI)) (ci := 3) (v := .int 0) (C := RX4) (T := TX4) (N := 14) hx hb hG inX4 hown hK hP 1 rfl rfl 1 (by decide) (hG _ gw239) (fun _ h9 => h9) rfl dX8_odds_41 ?_
              refine lv_isub hx hb dX8_odds_44 ?_
              refine wt_c (v := 100) (by decide) ?_
              refine lv_imul hx hb dX8_odds_45 ?_
              refine wt_c (v := 10000) (by decide) ?_
              refine lv_istore_n (lv' := [(3, .int 10000), (5, .int 1), (4, .int 100), (0, .ref (r 0)), (1, .int p0), (2, .int p1)]) hx hb dX8_odds_46 rfl hl (by decide) rfl (fun ls hl => ?_)
              refine lv_iload hx hb dX8_odds_47 (lv_at hl 2 rfl) ?_
              refine lv_bipush (v := 100) hx hb dX8_odds_49 (by decide) ?_
              refine lv_imul hx hb dX8_odds_51 ?_
              refine wt_c (v := 10000) (by decide) ?_
              refine lv_istore (lv' := [(4, .int 10000), (3, .int 10000), (5, .int 1), (0, .ref (r 0)), (1, .int p0), (2, .int p1)]) hx hb dX8_odds_52 hl (by decide) rfl (fun ls hl => ?_)
              refine lv_iinc (v := 2) (lv' := [(5, .int 2), (4, .int 10000), (3, .int 10000), (0, .ref (r 0)), (1, .int p0), (2, .int p1)]) hx hb dX8_odds_54 hl (k := 2) rfl (by decide) (by decide) rfl (fun ls hl => ?_)
              refine lv_goto (tgt := 28) hx hb dX8_odds_57 (by decide) ?_
              refine lv_iload hx hb dX8_odds_28 (lv_at hl 0 rfl) ?_
              refine lv_iload_n hx hb dX8_odds_30 rfl (lv_at hl 4 rfl) ?_
              refine lv_icmp_ge (tgt := 60) hx hb dX8_odds_31 (by decide) (fun c_13 => ?_) (fun c_13 => ?_)
              · skip
                refine lv_iload_n hx hb dX8_odds_60 rfl (lv_at hl 2 rfl) ?_
                refine lv_iload hx hb dX8_odds_61 (lv_at hl 1 rfl) ?_
                have hPc := hP.sub (ws' := []) [] rfl
                have hKc := hK.sub (tys' := []) [] rfl
                refine va_calli (va_runS (As := [.int 10000, .int 10000]) (rest := []) ⟨hx, hb, hml, hown, hG⟩ (kX8_sharedDivisor_v2 l dC dI  s.heap.size ) (va_cwS 2 hG (goodS gw1046 gw1047 gw129 gw1048) rfl rfl rfl hd_X8_sharedDivisor ⟨(Nat.le_of_ble_eq_true rfl), (Nat.le_of_ble_eq_true rfl)⟩) ⟨fbR, pR_in hPc hKc⟩ rfl rfl hl.1 rfl (lv_room (Nat.le_of_ble_eq_true rfl)) dX8_odds_63 ⟨(Nat.le_of_ble_eq_true rfl), (Nat.le_of_ble_eq_true rfl)⟩) hS (fun q hq h => absurd hq (Nat.not_lt.mpr h)) (fun q h => hA q (Nat.le_trans hS.1 h)) (fun r_15 u t H14 locs ht hvm hw hB hz1 hk1 hS => ?_)
                have hP := wk hP hk1
                refine wt_c (v := 10000) hw ?_
                refine lv_istore (lv' := [(5, .int 10000), (4, .int 10000), (3, .int 10000), (0, .ref (r 0)), (1, .int p0), (2, .int p1)]) hx hb dX8_odds_66 hl (by decide) rfl (fun ls hl => ?_)
                refine lv_iload_n hx hb dX8_odds_68 rfl (lv_at hl 5 rfl) ?_
                refine lv_if_ne (tgt := 76) hx hb dX8_odds_69 (by decide) (fun c_16 => ?_) (fun c_16 => ?_)
                · skip
                  refine lv_iload hx hb dX8_odds_76 (lv_at hl 1 rfl) ?_
                  refine lv_iload hx hb dX8_odds_78 (lv_at hl 0 rfl) ?_
                  refine lv_idiv hx hb dX8_odds_80 (by decide) ?_
                  refine wt_c (v := 1) (by decide) ?_
                  exact W.iret (v := 1) hx hb hr (fun t ht hW => ⟨⟨1, 7, rfl, (Or.inr (Or.inr (Or.inr (Or.inr (Or.inr (Or.inr (Or.inr (Or.inl ⟨rfl, c_1, c_2, c_3, c_4, c_5, c_9, c_13, c_16, rfl⟩)))))))), trivial⟩, hS.F ht⟩) hS.2.2 dX8_odds_81
                · skip
                  refine lv_iload_n hx hb dX8_odds_72 rfl (lv_at hl 2 rfl) ?_
                  refine lv_goto (tgt := 78) hx hb dX8_odds_73 (by decide) ?_
                  refine lv_iload hx hb dX8_odds_78 (lv_at hl 0 rfl) ?_
                  refine lv_idiv hx hb dX8_odds_80 (by decide) ?_
                  refine wt_c (v := 1) (by decide) ?_
                  exact W.iret (v := 1) hx hb hr (fun t ht hW => ⟨⟨1, 8, rfl, (Or.inr (Or.inr (Or.inr (Or.inr (Or.inr (Or.inr (Or.inr (Or.inr (Or.inl ⟨rfl, c_1, c_2, c_3, c_4, c_5, c_9, c_13, c_16, rfl⟩))))))))), trivial⟩, hS.F ht⟩) hS.2.2 dX8_odds_81
              · skip
                refine lv_iload_n hx hb dX8_odds_34 rfl (lv_at hl 2 rfl) ?_
                refine lv_bipush (v := 100) hx hb dX8_odds_35 (by decide) ?_
                refine lv_aload_n hx hb dX8_odds_37 rfl (lv_at hl 3 rfl) ?_
                refine va_get (D := (dC, dI)) (ci := 7) (v := .ref (r 55)) (C := RX8) (T := TX8) (N := 16) hx hb hG inX8 hown hK hP 0 rfl rfl 3 (by decide) (hG _ gw471) (fun _ h9 => h9) rfl dX8_odds_38 ?_
                refine va_get (D := (dC, dI)) (ci := 3) (v := .int 0) (C := RX4) (T := TX4) (N := 14) hx hb hG inX4 hown hK hP 1 rfl rfl 1 (by decide) (hG _ gw239) (fun _ h9 => h9) rfl dX8_odds_41 ?_
                refine lv_isub hx hb dX8_odds_44 ?_
                refine wt_c (v := 100) (by decide) ?_
                refine lv_imul hx hb dX8_odds_45 ?_
                refine wt_c (v := 1000000) (by decide) ?_
                refine lv_istore_n (lv' := [(3, .int 1000000), (5, .int 2), (4, .int 10000), (0, .ref (r 0)), (1, .int p0), (2, .int p1)]) hx hb dX8_odds_46 rfl hl (by decide) rfl (fun ls hl => ?_)
                refine lv_iload hx hb dX8_odds_47 (lv_at hl 2 rfl) ?_
                refine lv_bipush (v := 100) hx hb dX8_odds_49 (by decide) ?_
                refine lv_imul hx hb dX8_odds_51 ?_
                refine wt_c (v := 1000000) (by decide) ?_
                refine lv_istore (lv' := [(4, .int 1000000), (3, .int 1000000), (5, .int 2), (0, .ref (r 0)), (1, .int p0), (2, .int p1)]) hx hb dX8_odds_52 hl (by decide) rfl (fun ls hl => ?_)
                refine lv_iinc (v := 3) (lv' := [(5, .int 3), (4, .int 1000000), (3, .int 1000000), (0, .ref (r 0)), (1, .int p0), (2, .int p1)]) hx hb dX8_odds_54 hl (k := 2) rfl (by decide) (by decide) rfl (fun ls hl => ?_)
                refine lv_goto (tgt := 28) hx hb dX8_odds_57 (by decide) ?_
                refine lv_iload hx hb dX8_odds_28 (lv_at hl 0 rfl) ?_
                refine lv_iload_n hx hb dX8_odds_30 rfl (lv_at hl 4 rfl) ?_
                refine lv_icmp_ge (tgt := 60) hx hb dX8_odds_31 (by decide) (fun c_17 => ?_) (fun c_17 => ?_)
                · skip
                  refine lv_iload_n hx hb dX8_odds_60 rfl (lv_at hl 2 rfl) ?_
                  refine lv_iload hx hb dX8_odds_61 (lv_at hl 1 rfl) ?_
                  have hPc := hP.sub (ws' := []) [] rfl
                  have hKc := hK.sub (tys' := []) [] rfl
                  refine va_calli (va_runS (As := [.int 1000000, .int 1000000]) (rest := []) ⟨hx, hb, hml, hown, hG⟩ (kX8_sharedDivisor_v3 l dC dI  s.heap.size ) (va_cwS 2 hG (goodS gw1046 gw1047 gw129 gw1048) rfl rfl rfl hd_X8_sharedDivisor ⟨(Nat.le_of_ble_eq_true rfl), (Nat.le_of_ble_eq_true rfl)⟩) ⟨fbR, pR_in hPc hKc⟩ rfl rfl hl.1 rfl (lv_room (Nat.le_of_ble_eq_true rfl)) dX8_odds_63 ⟨(Nat.le_of_ble_eq_true rfl), (Nat.le_of_ble_eq_true rfl)⟩) hS (fun q hq h => absurd hq (Nat.not_lt.mpr h)) (fun q h => hA q (Nat.le_trans hS.1 h)) (fun r_19 u t H18 locs ht hvm hw hB hz1 hk1 hS => ?_)
                  have hP := wk hP hk1
                  refine wt_c (v := 1000000) hw ?_
                  refine lv_istore (lv' := [(5, .int 1000000), (4, .int 1000000), (3, .int 1000000), (0, .ref (r 0)), (1, .int p0), (2, .int p1)]) hx hb dX8_odds_66 hl (by decide) rfl (fun ls hl => ?_)
                  refine lv_iload_n hx hb dX8_odds_68 rfl (lv_at hl 5 rfl) ?_
                  refine lv_if_ne (tgt := 76) hx hb dX8_odds_69 (by decide) (fun c_20 => ?_) (fun c_20 => ?_)
                  · skip
                    refine lv_iload hx hb dX8_odds_76 (lv_at hl 1 rfl) ?_
                    refine lv_iload hx hb dX8_odds_78 (lv_at hl 0 rfl) ?_
                    refine lv_idiv hx hb dX8_odds_80 (by decide) ?_
                    refine wt_c (v := 1) (by decide) ?_
                    exact W.iret (v := 1) hx hb hr (fun t ht hW => ⟨⟨1, 9, rfl, (Or.inr (Or.inr (Or.inr (Or.inr (Or.inr (Or.inr (Or.inr (Or.inr (Or.inr (Or.inl ⟨rfl, c_1, c_2, c_3, c_4, c_5, c_9, c_13, c_17, c_20, rfl⟩)))))))))), trivial⟩, hS.F ht⟩) hS.2.2 dX8_odds_81
                  · skip
                    refine lv_iload_n hx hb dX8_odds_72 rfl (lv_at hl 2 rfl) ?_
                    refine lv_goto (tgt := 78) hx hb dX8_odds_73 (by decide) ?_
                    refine lv_iload hx hb dX8_odds_78 (lv_at hl 0 rfl) ?_
                    refine lv_idiv hx hb dX8_odds_80 (by decide) ?_
                    refine wt_c (v := 1) (by decide) ?_
                    exact W.iret (v := 1) hx hb hr (fun t ht hW => ⟨⟨1, 10, rfl, (Or.inr (Or.inr (Or.inr (Or.inr (Or.inr (Or.inr (Or.inr (Or.inr (Or.inr (Or.inr (Or.inl ⟨rfl, c_1, c_2, c_3, c_4, c_5, c_9, c_13, c_17, c_20, rfl⟩))))))))))), trivial⟩, hS.F ht⟩) hS.2.2 dX8_odds_81
                · skip
                  refine lv_iload_n hx hb dX8_odds_34 rfl (lv_at hl 2 rfl) ?_
                  refine lv_bipush (v := 100) hx hb dX8_odds_35 (by decide) ?_
                  refine lv_aload_n hx hb dX8_odds_37 rfl (lv_at hl 3 rfl) ?_
                  refine va_get (D := (dC, dI)) (ci := 7) (v := .ref (r 55)) (C := RX8) (T := TX8) (N := 16) hx hb hG inX8 hown hK hP 0 rfl rfl 3 (by decide) (hG _ gw471) (fun _ h9 => h9) rfl dX8_odds_38 ?_
                  refine va_get (D := (dC, dI)) (ci := 3) (v := .int 0) (C := RX4) (T := TX4) (N := 14) hx hb hG inX4 hown hK hP 1 rfl rfl 1 (by decide) (hG _ gw239) (fun _ h9 => h9) rfl dX8_odds_41 ?_
                  refine lv_isub hx hb dX8_odds_44 ?_
                  refine wt_c (v := 100) (by decide) ?_
                  refine lv_imul hx hb dX8_odds_45 ?_
                  refine wt_c (v := 100000000) (by decide) ?_
                  refine lv_istore_n (lv' := [(3, .int 100000000), (5, .int 3), (4, .int 1000000), (0, .ref (r 0)), (1, .int p0), (2, .int p1)]) hx hb dX8_odds_46 rfl hl (by decide) rfl (fun ls hl => ?_)
                  refine lv_iload hx hb dX8_odds_47 (lv_at hl 2 rfl) ?_
                  refine lv_bipush (v := 100) hx hb dX8_odds_49 (by decide) ?_
                  refine lv_imul hx hb dX8_odds_51 ?_
                  refine wt_c (v := 100000000) (by decide) ?_
                  refine lv_istore (lv' := [(4, .int 100000000), (3, .int 100000000), (5, .int 3), (0, .ref (r 0)), (1, .int p0), (2, .int p1)]) hx hb dX8_odds_52 hl (by decide) rfl (fun ls hl => ?_)
                  refine lv_iinc (v := 4) (lv' := [(5, .int 4), (4, .int 100000000), (3, .int 100000000), (0, .ref (r 0)), (1, .int p0), (2, .int p1)]) hx hb dX8_odds_54 hl (k := 2) rfl (by decide) (by decide) rfl (fun ls hl => ?_)
                  refine lv_goto (tgt := 28) hx hb dX8_odds_57 (by decide) ?_
                  refine lv_iload hx hb dX8_odds_28 (lv_at hl 0 rfl) ?_
                  refine lv_iload_n hx hb dX8_odds_30 rfl (lv_at hl 4 rfl) ?_
                  refine lv_icmp_ge (tgt := 60) hx hb dX8_odds_31 (by decide) (fun c_21 => ?_) (fun c_21 => ((by have k0 := q_nlt c_1; have k1 := q_nlt c_2; have k4 := q_nle c_5; have k5 := q_nle c_9; have k6 := q_nle c_13; have k7 := q_nle c_17; have k8 := q_nle c_21; have z0 : (0 : Int32).toInt = 0 := (by decide); have z1 : (1 : Int32).toInt = 1 := (by decide); have z2 : (2 : Int32).toInt = 2 := (by decide); have z3 : (3 : Int32).toInt = 3 := (by decide); have z4 : (4 : Int32).toInt = 4 := (by decide); omega) : False).elim)
                  refine lv_iload_n hx hb dX8_odds_60 rfl (lv_at hl 2 rfl) ?_
                  refine lv_iload hx hb dX8_odds_61 (lv_at hl 1 rfl) ?_
                  have hPc := hP.sub (ws' := []) [] rfl
                  have hKc := hK.sub (tys' := []) [] rfl
                  refine va_calli (va_runS (As := [.int 100000000, .int 100000000]) (rest := []) ⟨hx, hb, hml, hown, hG⟩ (kX8_sharedDivisor_v4 l dC dI  s.heap.size ) (va_cwS 2 hG (goodS gw1046 gw1047 gw129 gw1048) rfl rfl rfl hd_X8_sharedDivisor ⟨(Nat.le_of_ble_eq_true rfl), (Nat.le_of_ble_eq_true rfl)⟩) ⟨fbR, pR_in hPc hKc⟩ rfl rfl hl.1 rfl (lv_room (Nat.le_of_ble_eq_true rfl)) dX8_odds_63 ⟨(Nat.le_of_ble_eq_true rfl), (Nat.le_of_ble_eq_true rfl)⟩) hS (fun q hq h => absurd hq (Nat.not_lt.mpr h)) (fun q h => hA q (Nat.le_trans hS.1 h)) (fun r_23 u t H22 locs ht hvm hw hB hz1 hk1 hS => ?_)
                  have hP := wk hP hk1
                  refine wt_c (v := 100000000) hw ?_
                  refine lv_istore (lv' := [(5, .int 100000000), (4, .int 100000000), (3, .int 100000000), (0, .ref (r 0)), (1, .int p0), (2, .int p1)]) hx hb dX8_odds_66 hl (by decide) rfl (fun ls hl => ?_)
                  refine lv_iload_n hx hb dX8_odds_68 rfl (lv_at hl 5 rfl) ?_
                  refine lv_if_ne (tgt := 76) hx hb dX8_odds_69 (by decide) (fun c_24 => ?_) (fun c_24 => ?_)
                  · skip
                    refine lv_iload hx hb dX8_odds_76 (lv_at hl 1 rfl) ?_
                    refine lv_iload hx hb dX8_odds_78 (lv_at hl 0 rfl) ?_
                    refine lv_idiv hx hb dX8_odds_80 (by decide) ?_
                    refine wt_c (v := 1) (by decide) ?_
                    exact W.iret (v := 1) hx hb hr (fun t ht hW => ⟨⟨1, 11, rfl, (Or.inr (Or.inr (Or.inr (Or.inr (Or.inr (Or.inr (Or.inr (Or.inr (Or.inr (Or.inr (Or.inr (Or.inl ⟨rfl, c_1, c_2, c_3, c_4, c_5, c_9, c_13, c_17, c_21, c_24, rfl⟩)))))))))))), trivial⟩, hS.F ht⟩) hS.2.2 dX8_odds_81
                  · skip
                    refine lv_iload_n hx hb dX8_odds_72 rfl (lv_at hl 2 rfl) ?_
                    refine lv_goto (tgt := 78) hx hb dX8_odds_73 (by decide) ?_
                    refine lv_iload hx hb dX8_odds_78 (lv_at hl 0 rfl) ?_
                    refine lv_idiv hx hb dX8_odds_80 (by decide) ?_
                    refine wt_c (v := 1) (by decide) ?_
                    exact W.iret (v := 1) hx hb hr (fun t ht hW => ⟨⟨1, 12, rfl, (Or.inr (Or.inr (Or.inr (Or.inr (Or.inr (Or.inr (Or.inr (Or.inr (Or.inr (Or.inr (Or.inr (Or.inr (Or.inl ⟨rfl, c_1, c_2, c_3, c_4, c_5, c_9, c_13, c_17, c_21, c_24, rfl⟩))))))))))))), trivial⟩, hS.F ht⟩) hS.2.2 dX8_odds_81
        · skip
          refine lv_iconst (v := (-1)) hx hb dX8_odds_18 (by decide) ?_
          exact W.iret (v := (-1)) hx hb hr (fun t ht hW => ⟨⟨(-1), 13, rfl, (Or.inr (Or.inr (Or.inr (Or.inr (Or.inr (Or.inr (Or.inr (Or.inr (Or.inr (Or.inr (Or.inr (Or.inr (Or.inr ⟨rfl, c_1, c_2, c_3, c_4, rfl⟩))))))))))))), trivial⟩, hS.F ht⟩) hS.2.2 dX8_odds_19
set_option maxHeartbeats 4000000 in
set_option maxRecDepth 100000 in
theorem kX9_isIn_v6 (l : Launch) (dC : Nat → ClassId) (dI : Nat → Nat → Nat) (p0 : Int32) (sz : Nat) : Met l yX9_isIn (.code yX9_isIn cX9_isIn 3 (some .boolean) :: GW) { frames := 2, cells := 0, slots := 0, locals := 100 } (va_Pc [.int p0, .int 0, .int 4] (pR (dC, dI) [] [] sz)) (va_Qi (fun (r0 : Int32) (u : Nat) => (u = 0 ∧ p0 < 0 ∧ r0 = 0) ∨ (u = 1 ∧ ¬ p0 < 0 ∧ 4 < p0 ∧ r0 = 0) ∨ (u = 2 ∧ ¬ p0 < 0 ∧ ¬ 4 < p0 ∧ r0 = 1)) (fun _ _ => True) (fun q => sz ≤ q)) 0 0 (fun q => sz ≤ q) := by
  refine Met.ofW (cc := cX9_isIn) (maxL := 3) (ret := (some .boolean)) (by decide) rfl ?_
  intro p e s m args below meth c0 s₁ B hml hv
  obtain ⟨rfl, hsz, hP, hK⟩ := hv
  have hx := B.exec
  have hb := B.bytes
  have hr := B.returns
  have hts := atoms_spec (ws := .code yX9_isIn cX9_isIn 3 (some .boolean) :: GW) B.pre
  have hG : ∀ w ∈ GW, w.before _ s = true := fun w h => hts w (List.mem_cons_of_mem _ h)
  have hown : s.vm.findClass RX9 = some m.cls := findClass_of_methodNamed B.named
  have hlocks := B.notSynchronized
  subst hsz
  have hS : va_S (fun q => s.heap.size ≤ q) s.heap s.heap [] := va_S.rf
  have hP : va_P (dC, dI) vwCl [] s.heap := hP
  have hl := lv_entry ([.int p0, .int 0, .int 4]) (n := 3) (Nat.le_of_ble_eq_true rfl)
  rw [lg_entry_eq]
  generalize (lg_sl ([.int p0, .int 0, .int 4]) ++ List.replicate (3 - (lg_sl ([.int p0, .int 0, .int 4])).length) Slot.unset).toArray = ls at hl ⊢
  have hl : lv_has ls 3 [(0, .int p0), (1, .int 0), (2, .int 4)] := hl
  refine lv_iload_n hx hb dX9_isIn_0 rfl (lv_at hl 0 rfl) ?_
  refine lv_iload_n hx hb dX9_isIn_1 rfl (lv_at hl 1 rfl) ?_
  refine lv_icmp_lt (tgt := 14) hx hb dX9_isIn_2 (by decide) (fun c_1 => ?_) (fun c_1 => ?_)
  · skip
    refine lv_iconst (v := 0) hx hb dX9_isIn_14 (by decide) ?_
    exact W.zret (v := 0) hx hb hr (by decide) (fun t ht hW => ⟨⟨0, 0, rfl, (Or.inl ⟨rfl, c_1, rfl⟩), trivial⟩, hS.F ht⟩) hS.2.2 dX9_isIn_15
  · skip
    refine lv_iload_n hx hb dX9_isIn_5 rfl (lv_at hl 0 rfl) ?_
    refine lv_iload_n hx hb dX9_isIn_6 rfl (lv_at hl 2 rfl) ?_
    refine lv_icmp_gt (tgt := 14) hx hb dX9_isIn_7 (by decide) (fun c_2 => ?_) (fun c_2 => ?_)
    · skip
      refine lv_iconst (v := 0) hx hb dX9_isIn_14 (by decide) ?_
      exact W.zret (v := 0) hx hb hr (by decide) (fun t ht hW => ⟨⟨0, 1, rfl, (Or.inr (Or.inl ⟨rfl, c_1, c_2, rfl⟩)), trivial⟩, hS.F ht⟩) hS.2.2 dX9_isIn_15
    · skip
      refine lv_iconst (v := 1) hx hb dX9_isIn_10 (by decide) ?_
      refine lv_goto (tgt := 15) hx hb dX9_isIn_11 (by decide) ?_
      exact W.zret (v := 1) hx hb hr (by decide) (fun t ht hW => ⟨⟨1, 2, rfl, (Or.inr (Or.inr ⟨rfl, c_1, c_2, rfl⟩)), trivial⟩, hS.F ht⟩) hS.2.2 dX9_isIn_15
set_option maxHeartbeats 4000000 in
set_option maxRecDepth 100000 in
theorem kX9_power_v2 (l : Launch) (dC : Nat → ClassId) (dI : Nat → Nat → Nat) (sz : Nat) : Met l yX9_power (.code yX9_power cX9_power 4 (some .int) :: GW) { frames := 2, cells := 0, slots := 0, locals := 100 } (va_Pc [.int 100, .int 0] (pR (dC, dI) [] [] sz)) (va_Qi (fun (r0 : Int32) (_ : Unit) => r0 = 1) (fun _ _ => True) (fun q => sz ≤ q)) 0 0 (fun q => sz ≤ q) := by
  refine Met.ofW (cc := cX9_power) (maxL := 4) (ret := (some .int)) (by decide) rfl ?_
  intro p e s m args below meth c0 s₁ B hml hv
  obtain ⟨rfl, hsz, hP, hK⟩ := hv
  have hx := B.exec
  have hb := B.bytes
  have hr := B.returns
  have hts := atoms_spec (ws := .code yX9_power cX9_power 4 (some .int) :: GW) B.pre
  have hG : ∀ w ∈ GW, w.before _ s = true := fun w h => hts w (List.mem_cons_of_mem _ h)
  have hown : s.vm.findClass RX9 = some m.cls := findClass_of_methodNamed B.named
  have hlocks := B.notSynchronized
  subst hsz
  have hS : va_S (fun q => s.heap.size ≤ q) s.heap s.heap [] := va_S.rf
  have hP : va_P (dC, dI) vwCl [] s.heap := hP
  have hl := lv_entry ([.int 100, .int 0]) (n := 4) (Nat.le_of_ble_eq_true rfl)
  rw [lg_entry_eq]
  generalize (lg_sl ([.int 100, .int 0]) ++ List.replicate (4 - (lg_sl ([.int 100, .int 0])).length) Slot.unset).toArray = ls at hl ⊢
  have hl : lv_has ls 4 [(0, .int 100), (1, .int 0)] := hl
  refine lv_iconst (v := 1) hx hb dX9_power_0 (by decide) ?_
  refine lv_istore_n (lv' := [(2, .int 1), (0, .int 100), (1, .int 0)]) hx hb dX9_power_1 rfl hl (by decide) rfl (fun ls hl => ?_)
  refine lv_iconst (v := 0) hx hb dX9_power_2 (by decide) ?_
  refine lv_istore_n (lv' := [(3, .int 0), (2, .int 1), (0, .int 100), (1, .int 0)]) hx hb dX9_power_3 rfl hl (by decide) rfl (fun ls hl => ?_)
  refine lv_iload_n hx hb dX9_power_4 rfl (lv_at hl 0 rfl) ?_
  refine lv_iload_n hx hb dX9_power_5 rfl (lv_at hl 3 rfl) ?_
  refine lv_icmp_ge (tgt := 19) hx hb dX9_power_6 (by decide) (fun c_1 => ?_) (fun c_1 => absurd (by decide) c_1)
  refine lv_iload_n hx hb dX9_power_19 rfl (lv_at hl 1 rfl) ?_
  exact W.iret (v := 1) hx hb hr (fun t ht hW => ⟨⟨1, (), rfl, rfl, trivial⟩, hS.F ht⟩) hS.2.2 dX9_power_20
set_option maxHeartbeats 4000000 in
set_option maxRecDepth 100000 in
theorem kX9_divisor (l : Launch) (dC : Nat → ClassId) (dI : Nat → Nat → Nat) (sz : Nat) : Met l yX9_divisor (.code yX9_divisor cX9_divisor 5 (some .int) :: GW) { frames := 2, cells := 0, slots := 0, locals := 100 } (va_Pc [.int 1, .int 1] (pR (dC, dI) [] [] sz)) (va_Qi (fun (r0 : Int32) (_ : Unit) => r0 = 1) (fun _ _ => True) (fun q => sz ≤ q)) 0 0 (fun q => sz ≤ q) := by
  refine Met.ofW (cc := cX9_divisor) (maxL := 5) (ret := (some .int)) (by decide) rfl ?_
  intro p e s m args below meth c0 s₁ B hml hv
  obtain ⟨rfl, hsz, hP, hK⟩ := hv
  have hx := B.exec
  have hb := B.bytes
  have hr := B.returns
  have hts := atoms_spec (ws := .code yX9_divisor cX9_divisor 5 (some .int) :: GW) B.pre
  have hG : ∀ w ∈ GW, w.before _ s = true := fun w h => hts w (List.mem_cons_of_mem _ h)
  have hown : s.vm.findClass RX9 = some m.cls := findClass_of_methodNamed B.named
  have hlocks := B.notSynchronized
  subst hsz
  have hS : va_S (fun q => s.heap.size ≤ q) s.heap s.heap [] := va_S.rf
  have hP : va_P (dC, dI) vwCl [] s.heap := hP
  have hl := lv_entry ([.int 1, .int 1]) (n := 5) (Nat.le_of_ble_eq_true rfl)
  rw [lg_entry_eq]
  generalize (lg_sl ([.int 1, .int 1]) ++ List.replicate (5 - (lg_sl ([.int 1, .int 1])).length) Slot.unset).toArray = ls at hl ⊢
  have hl : lv_has ls 5 [(0, .int 1), (1, .int 1)] := hl
  refine lv_iload_n hx hb dX9_divisor_0 rfl (lv_at hl 0 rfl) ?_
  refine lv_istore_n (lv' := [(2, .int 1), (0, .int 1), (1, .int 1)]) hx hb dX9_divisor_1 rfl hl (by decide) rfl (fun ls hl => ?_)
  refine lv_iload_n hx hb dX9_divisor_2 rfl (lv_at hl 2 rfl) ?_
  refine lv_istore_n (lv' := [(3, .int 1), (2, .int 1), (0, .int 1), (1, .int 1)]) hx hb dX9_divisor_3 rfl hl (by decide) rfl (fun ls hl => ?_)
  refine lv_iload_n hx hb dX9_divisor_4 rfl (lv_at hl 0 rfl) ?_
  refine lv_if_le (tgt := 21) hx hb dX9_divisor_5 (by decide) (fun c_1 => absurd c_1 (by decide)) (fun c_1 => ?_)
  refine lv_iload_n hx hb dX9_divisor_8 rfl (lv_at hl 1 rfl) ?_
  refine lv_iload_n hx hb dX9_divisor_9 rfl (lv_at hl 0 rfl) ?_
  refine lv_irem hx hb dX9_divisor_10 (by decide) ?_
  refine wt_c (v := 0) (by decide) ?_
  refine lv_istore (lv' := [(4, .int 0), (3, .int 1), (2, .int 1), (0, .int 1), (1, .int 1)]) hx hb dX9_divisor_11 hl (by decide) rfl (fun ls hl => ?_)
  refine lv_iload_n hx hb dX9_divisor_13 rfl (lv_at hl 1 rfl) ?_
  refine lv_istore_n (lv' := [(2, .int 1), (4, .int 0), (3, .int 1), (0, .int 1), (1, .int 1)]) hx hb dX9_divisor_14 rfl hl (by decide) rfl (fun ls hl => ?_)
  refine lv_iload hx hb dX9_divisor_15 (lv_at hl 1 rfl) ?_
  refine lv_istore_n (lv' := [(3, .int 0), (2, .int 1), (4, .int 0), (0, .int 1), (1, .int 1)]) hx hb dX9_divisor_17 rfl hl (by decide) rfl (fun ls hl => ?_)
  refine lv_goto (tgt := 4) hx hb dX9_divisor_18 (by decide) ?_
  refine lv_iload_n hx hb dX9_divisor_4 rfl (lv_at hl 0 rfl) ?_
  refine lv_if_le (tgt := 21) hx hb dX9_divisor_5 (by decide) (fun c_2 => ?_) (fun c_2 => absurd (by decide) c_2)
  refine lv_iload_n hx hb dX9_divisor_21 rfl (lv_at hl 1 rfl) ?_
  exact W.iret (v := 1) hx hb hr (fun t ht hW => ⟨⟨1, (), rfl, rfl, trivial⟩, hS.F ht⟩) hS.2.2 dX9_divisor_22
set_option maxHeartbeats 4000000 in
set_option maxRecDepth 100000 in
theorem kX9_power_v3 (l : Launch) (dC : Nat → ClassId) (dI : Nat → Nat → Nat) (sz : Nat) : Met l yX9_power (.code yX9_power cX9_power 4 (some .int) :: GW) { frames := 2, cells := 0, slots := 0, locals := 100 } (va_Pc [.int 100, .int 1] (pR (dC, dI) [] [] sz)) (va_Qi (fun (r0 : Int32) (_ : Unit) => r0 = 100) (fun _ _ => True) (fun q => sz ≤ q)) 0 0 (fun q => sz ≤ q) := by
  refine Met.ofW (cc := cX9_power) (maxL := 4) (ret := (some .int)) (by decide) rfl ?_
  intro p e s m args below meth c0 s₁ B hml hv
  obtain ⟨rfl, hsz, hP, hK⟩ := hv
  have hx := B.exec
  have hb := B.bytes
  have hr := B.returns
  have hts := atoms_spec (ws := .code yX9_power cX9_power 4 (some .int) :: GW) B.pre
  have hG : ∀ w ∈ GW, w.before _ s = true := fun w h => hts w (List.mem_cons_of_mem _ h)
  have hown : s.vm.findClass RX9 = some m.cls := findClass_of_methodNamed B.named
  have hlocks := B.notSynchronized
  subst hsz
  have hS : va_S (fun q => s.heap.size ≤ q) s.heap s.heap [] := va_S.rf
  have hP : va_P (dC, dI) vwCl [] s.heap := hP
  have hl := lv_entry ([.int 100, .int 1]) (n := 4) (Nat.le_of_ble_eq_true rfl)
  rw [lg_entry_eq]
  generalize (lg_sl ([.int 100, .int 1]) ++ List.replicate (4 - (lg_sl ([.int 100, .int 1])).length) Slot.unset).toArray = ls at hl ⊢
  have hl : lv_has ls 4 [(0, .int 100), (1, .int 1)] := hl
  refine lv_iconst (v := 1) hx hb dX9_power_0 (by decide) ?_
  refine lv_istore_n (lv' := [(2, .int 1), (0, .int 100), (1, .int 1)]) hx hb dX9_power_1 rfl hl (by decide) rfl (fun ls hl => ?_)
  refine lv_iconst (v := 0) hx hb dX9_power_2 (by decide) ?_
  refine lv_istore_n (lv' := [(3, .int 0), (2, .int 1), (0, .int 100), (1, .int 1)]) hx hb dX9_power_3 rfl hl (by decide) rfl (fun ls hl => ?_)
  refine lv_iload_n hx hb dX9_power_4 rfl (lv_at hl 0 rfl) ?_
  refine lv_iload_n hx hb dX9_power_5 rfl (lv_at hl 3 rfl) ?_
  refine lv_icmp_ge (tgt := 19) hx hb dX9_power_6 (by decide) (fun c_1 => absurd c_1 (by decide)) (fun c_1 => ?_)
  refine lv_iload_n hx hb dX9_power_9 rfl (lv_at hl 1 rfl) ?_
  refine lv_iload_n hx hb dX9_power_10 rfl (lv_at hl 2 rfl) ?_
  refine lv_imul hx hb dX9_power_11 ?_
  refine wt_c (v := 100) (by decide) ?_
  refine lv_istore_n (lv' := [(2, .int 100), (3, .int 0), (0, .int 100), (1, .int 1)]) hx hb dX9_power_12 rfl hl (by decide) rfl (fun ls hl => ?_)
  refine lv_iinc (v := 1) (lv' := [(3, .int 1), (2, .int 100), (0, .int 100), (1, .int 1)]) hx hb dX9_power_13 hl (k := 1) rfl (by decide) (by decide) rfl (fun ls hl => ?_)
  refine lv_goto (tgt := 4) hx hb dX9_power_16 (by decide) ?_
  refine lv_iload_n hx hb dX9_power_4 rfl (lv_at hl 0 rfl) ?_
  refine lv_iload_n hx hb dX9_power_5 rfl (lv_at hl 3 rfl) ?_
  refine lv_icmp_ge (tgt := 19) hx hb dX9_power_6 (by decide) (fun c_2 => ?_) (fun c_2 => absurd (by decide) c_2)
  refine lv_iload_n hx hb dX9_power_19 rfl (lv_at hl 1 rfl) ?_
  exact W.iret (v := 100) hx hb hr (fun t ht hW => ⟨⟨100, (), rfl, rfl, trivial⟩, hS.F ht⟩) hS.2.2 dX9_power_20
set_option maxHeartbeats 4000000 in
set_option maxRecDepth 100000 in
theorem kX9_divisor_v1 (l : Launch) (dC : Nat → ClassId) (dI : Nat → Nat → Nat) (sz : Nat) : Met l yX9_divisor (.code yX9_divisor cX9_divisor 5 (some .int) :: GW) { frames := 2, cells := 0, slots := 0, locals := 100 } (va_Pc [.int 100, .int 100] (pR (dC, dI) [] [] sz)) (va_Qi (fun (r0 : Int32) (_ : Unit) => r0 = 100) (fun _ _ => True) (fun q => sz ≤ q)) 0 0 (fun q => sz ≤ q) := by
  refine Met.ofW (cc := cX9_divisor) (maxL := 5) (ret := (some .int)) (by decide) rfl ?_
  intro p e s m args below meth c0 s₁ B hml hv
  obtain ⟨rfl, hsz, hP, hK⟩ := hv
  have hx := B.exec
  have hb := B.bytes
  have hr := B.returns
  have hts := atoms_spec (ws := .code yX9_divisor cX9_divisor 5 (some .int) :: GW) B.pre
  have hG : ∀ w ∈ GW, w.before _ s = true := fun w h => hts w (List.mem_cons_of_mem _ h)
  have hown : s.vm.findClass RX9 = some m.cls := findClass_of_methodNamed B.named
  have hlocks := B.notSynchronized
  subst hsz
  have hS : va_S (fun q => s.heap.size ≤ q) s.heap s.heap [] := va_S.rf
  have hP : va_P (dC, dI) vwCl [] s.heap := hP
  have hl := lv_entry ([.int 100, .int 100]) (n := 5) (Nat.le_of_ble_eq_true rfl)
  rw [lg_entry_eq]
  generalize (lg_sl ([.int 100, .int 100]) ++ List.replicate (5 - (lg_sl ([.int 100, .int 100])).length) Slot.unset).toArray = ls at hl ⊢
  have hl : lv_has ls 5 [(0, .int 100), (1, .int 100)] := hl
  refine lv_iload_n hx hb dX9_divisor_0 rfl (lv_at hl 0 rfl) ?_
  refine lv_istore_n (lv' := [(2, .int 100), (0, .int 100), (1, .int 100)]) hx hb dX9_divisor_1 rfl hl (by decide) rfl (fun ls hl => ?_)
  refine lv_iload_n hx hb dX9_divisor_2 rfl (lv_at hl 2 rfl) ?_
  refine lv_istore_n (lv' := [(3, .int 100), (2, .int 100), (0, .int 100), (1, .int 100)]) hx hb dX9_divisor_3 rfl hl (by decide) rfl (fun ls hl => ?_)
  refine lv_iload_n hx hb dX9_divisor_4 rfl (lv_at hl 0 rfl) ?_
  refine lv_if_le (tgt := 21) hx hb dX9_divisor_5 (by decide) (fun c_1 => absurd c_1 (by decide)) (fun c_1 => ?_)
  refine lv_iload_n hx hb dX9_divisor_8 rfl (lv_at hl 1 rfl) ?_
  refine lv_iload_n hx hb dX9_divisor_9 rfl (lv_at hl 0 rfl) ?_
  refine lv_irem hx hb dX9_divisor_10 (by decide) ?_
  refine wt_c (v := 0) (by decide) ?_
  refine lv_istore (lv' := [(4, .int 0), (3, .int 100), (2, .int 100), (0, .int 100), (1, .int 100)]) hx hb dX9_divisor_11 hl (by decide) rfl (fun ls hl => ?_)
  refine lv_iload_n hx hb dX9_divisor_13 rfl (lv_at hl 1 rfl) ?_
  refine lv_istore_n (lv' := [(2, .int 100), (4, .int 0), (3, .int 100), (0, .int 100), (1, .int 100)]) hx hb dX9_divisor_14 rfl hl (by decide) rfl (fun ls hl => ?_)
  refine lv_iload hx hb dX9_divisor_15 (lv_at hl 1 rfl) ?_
  refine lv_istore_n (lv' := [(3, .int 0), (2, .int 100), (4, .int 0), (0, .int 100), (1, .int 100)]) hx hb dX9_divisor_17 rfl hl (by decide) rfl (fun ls hl => ?_)
  refine lv_goto (tgt := 4) hx hb dX9_divisor_18 (by decide) ?_
  refine lv_iload_n hx hb dX9_divisor_4 rfl (lv_at hl 0 rfl) ?_
  refine lv_if_le (tgt := 21) hx hb dX9_divisor_5 (by decide) (fun c_2 => ?_) (fun c_2 => absurd (by decide) c_2)
  refine lv_iload_n hx hb dX9_divisor_21 rfl (lv_at hl 1 rfl) ?_
  exact W.iret (v := 100) hx hb hr (fun t ht hW => ⟨⟨100, (), rfl, rfl, trivial⟩, hS.F ht⟩) hS.2.2 dX9_divisor_22
set_option maxHeartbeats 4000000 in
set_option maxRecDepth 100000 in
theorem kX9_power_v4 (l : Launch) (dC : Nat → ClassId) (dI : Nat → Nat → Nat) (sz : Nat) : Met l yX9_power (.code yX9_power cX9_power 4 (some .int) :: GW) { frames := 2, cells := 0, slots := 0, locals := 100 } (va_Pc [.int 100, .int 2] (pR (dC, dI) [] [] sz)) (va_Qi (fun (r0 : Int32) (_ : Unit) => r0 = 10000) (fun _ _ => True) (fun q => sz ≤ q)) 0 0 (fun q => sz ≤ q) := by
  refine Met.ofW (cc := cX9_power) (maxL := 4) (ret := (some .int)) (by decide) rfl ?_
  intro p e s m args below meth c0 s₁ B hml hv
  obtain ⟨rfl, hsz, hP, hK⟩ := hv
  have hx := B.exec
  have hb := B.bytes
  have hr := B.returns
  have hts := atoms_spec (ws := .code yX9_power cX9_power 4 (some .int) :: GW) B.pre
  have hG : ∀ w ∈ GW, w.before _ s = true := fun w h => hts w (List.mem_cons_of_mem _ h)
  have hown : s.vm.findClass RX9 = some m.cls := findClass_of_methodNamed B.named
  have hlocks := B.notSynchronized
  subst hsz
  have hS : va_S (fun q => s.heap.size ≤ q) s.heap s.heap [] := va_S.rf
  have hP : va_P (dC, dI) vwCl [] s.heap := hP
  have hl := lv_entry ([.int 100, .int 2]) (n := 4) (Nat.le_of_ble_eq_true rfl)
  rw [lg_entry_eq]
  generalize (lg_sl ([.int 100, .int 2]) ++ List.replicate (4 - (lg_sl ([.int 100, .int 2])).length) Slot.unset).toArray = ls at hl ⊢
  have hl : lv_has ls 4 [(0, .int 100), (1, .int 2)] := hl
  refine lv_iconst (v := 1) hx hb dX9_power_0 (by decide) ?_
  refine lv_istore_n (lv' := [(2, .int 1), (0, .int 100), (1, .int 2)]) hx hb dX9_power_1 rfl hl (by decide) rfl (fun ls hl => ?_)
  refine lv_iconst (v := 0) hx hb dX9_power_2 (by decide) ?_
  refine lv_istore_n (lv' := [(3, .int 0), (2, .int 1), (0, .int 100), (1, .int 2)]) hx hb dX9_power_3 rfl hl (by decide) rfl (fun ls hl => ?_)
  refine lv_iload_n hx hb dX9_power_4 rfl (lv_at hl 0 rfl) ?_
  refine lv_iload_n hx hb dX9_power_5 rfl (lv_at hl 3 rfl) ?_
  refine lv_icmp_ge (tgt := 19) hx hb dX9_power_6 (by decide) (fun c_1 => absurd c_1 (by decide)) (fun c_1 => ?_)
  refine lv_iload_n hx hb dX9_power_9 rfl (lv_at hl 1 rfl) ?_
  refine lv_iload_n hx hb dX9_power_10 rfl (lv_at hl 2 rfl) ?_
  refine lv_imul hx hb dX9_power_11 ?_
  refine wt_c (v := 100) (by decide) ?_
  refine lv_istore_n (lv' := [(2, .int 100), (3, .int 0), (0, .int 100), (1, .int 2)]) hx hb dX9_power_12 rfl hl (by decide) rfl (fun ls hl => ?_)
  refine lv_iinc (v := 1) (lv' := [(3, .int 1), (2, .int 100), (0, .int 100), (1, .int 2)]) hx hb dX9_power_13 hl (k := 1) rfl (by decide) (by decide) rfl (fun ls hl => ?_)
  refine lv_goto (tgt := 4) hx hb dX9_power_16 (by decide) ?_
  refine lv_iload_n hx hb dX9_power_4 rfl (lv_at hl 0 rfl) ?_
  refine lv_iload_n hx hb dX9_power_5 rfl (lv_at hl 3 rfl) ?_
  refine lv_icmp_ge (tgt := 19) hx hb dX9_power_6 (by decide) (fun c_2 => absurd c_2 (by decide)) (fun c_2 => ?_)
  refine lv_iload_n hx hb dX9_power_9 rfl (lv_at hl 1 rfl) ?_
  refine lv_iload_n hx hb dX9_power_10 rfl (lv_at hl 2 rfl) ?_
  refine lv_imul hx hb dX9_power_11 ?_
  refine wt_c (v := 10000) (by decide) ?_
  refine lv_istore_n (lv' := [(2, .int 10000), (3, .int 1), (0, .int 100), (1, .int 2)]) hx hb dX9_power_12 rfl hl (by decide) rfl (fun ls hl => ?_)
  refine lv_iinc (v := 2) (lv' := [(3, .int 2), (2, .int 10000), (0, .int 100), (1, .int 2)]) hx hb dX9_power_13 hl (k := 1) rfl (by decide) (by decide) rfl (fun ls hl => ?_)
  refine lv_goto (tgt := 4) hx hb dX9_power_16 (by decide) ?_
  refine lv_iload_n hx hb dX9_power_4 rfl (lv_at hl 0 rfl) ?_
  refine lv_iload_n hx hb dX9_power_5 rfl (lv_at hl 3 rfl) ?_
  refine lv_icmp_ge (tgt := 19) hx hb dX9_power_6 (by decide) (fun c_3 => ?_) (fun c_3 => absurd (by decide) c_3)
  refine lv_iload_n hx hb dX9_power_19 rfl (lv_at hl 1 rfl) ?_
  exact W.iret (v := 10000) hx hb hr (fun t ht hW => ⟨⟨10000, (), rfl, rfl, trivial⟩, hS.F ht⟩) hS.2.2 dX9_power_20
set_option maxHeartbeats 4000000 in
set_option maxRecDepth 100000 in
theorem kX9_divisor_v2 (l : Launch) (dC : Nat → ClassId) (dI : Nat → Nat → Nat) (sz : Nat) : Met l yX9_divisor (.code yX9_divisor cX9_divisor 5 (some .int) :: GW) { frames := 2, cells := 0, slots := 0, locals := 100 } (va_Pc [.int 10000, .int 10000] (pR (dC, dI) [] [] sz)) (va_Qi (fun (r0 : Int32) (_ : Unit) => r0 = 10000) (fun _ _ => True) (fun q => sz ≤ q)) 0 0 (fun q => sz ≤ q) := by
  refine Met.ofW (cc := cX9_divisor) (maxL := 5) (ret := (some .int)) (by decide) rfl ?_
  intro p e s m args below meth c0 s₁ B hml hv
  obtain ⟨rfl, hsz, hP, hK⟩ := hv
  have hx := B.exec
  have hb := B.bytes
  have hr := B.returns
  have hts := atoms_spec (ws := .code yX9_divisor cX9_divisor 5 (some .int) :: GW) B.pre
  have hG : ∀ w ∈ GW, w.before _ s = true := fun w h => hts w (List.mem_cons_of_mem _ h)
  have hown : s.vm.findClass RX9 = some m.cls := findClass_of_methodNamed B.named
  have hlocks := B.notSynchronized
  subst hsz
  have hS : va_S (fun q => s.heap.size ≤ q) s.heap s.heap [] := va_S.rf
  have hP : va_P (dC, dI) vwCl [] s.heap := hP
  have hl := lv_entry ([.int 10000, .int 10000]) (n := 5) (Nat.le_of_ble_eq_true rfl)
  rw [lg_entry_eq]
  generalize (lg_sl ([.int 10000, .int 10000]) ++ List.replicate (5 - (lg_sl ([.int 10000, .int 10000])).length) Slot.unset).toArray = ls at hl ⊢
  have hl : lv_has ls 5 [(0, .int 10000), (1, .int 10000)] := hl
  refine lv_iload_n hx hb dX9_divisor_0 rfl (lv_at hl 0 rfl) ?_
  refine lv_istore_n (lv' := [(2, .int 10000), (0, .int 10000), (1, .int 10000)]) hx hb dX9_divisor_1 rfl hl (by decide) rfl (fun ls hl => ?_)
  refine lv_iload_n hx hb dX9_divisor_2 rfl (lv_at hl 2 rfl) ?_
  refine lv_istore_n (lv' := [(3, .int 10000), (2, .int 10000), (0, .int 10000), (1, .int 10000)]) hx hb dX9_divisor_3 rfl hl (by decide) rfl (fun ls hl => ?_)
  refine lv_iload_n hx hb dX9_divisor_4 rfl (lv_at hl 0 rfl) ?_
  refine lv_if_le (tgt := 21) hx hb dX9_divisor_5 (by decide) (fun c_1 => absurd c_1 (by decide)) (fun c_1 => ?_)
  refine lv_iload_n hx hb dX9_divisor_8 rfl (lv_at hl 1 rfl) ?_
  refine lv_iload_n hx hb dX9_divisor_9 rfl (lv_at hl 0 rfl) ?_
  refine lv_irem hx hb dX9_divisor_10 (by decide) ?_
  refine wt_c (v := 0) (by decide) ?_
  refine lv_istore (lv' := [(4, .int 0), (3, .int 10000), (2, .int 10000), (0, .int 10000), (1, .int 10000)]) hx hb dX9_divisor_11 hl (by decide) rfl (fun ls hl => ?_)
  refine lv_iload_n hx hb dX9_divisor_13 rfl (lv_at hl 1 rfl) ?_
  refine lv_istore_n (lv' := [(2, .int 10000), (4, .int 0), (3, .int 10000), (0, .int 10000), (1, .int 10000)]) hx hb dX9_divisor_14 rfl hl (by decide) rfl (fun ls hl => ?_)
  refine lv_iload hx hb dX9_divisor_15 (lv_at hl 1 rfl) ?_
  refine lv_istore_n (lv' := [(3, .int 0), (2, .int 10000), (4, .int 0), (0, .int 10000), (1, .int 10000)]) hx hb dX9_divisor_17 rfl hl (by decide) rfl (fun ls hl => ?_)
  refine lv_goto (tgt := 4) hx hb dX9_divisor_18 (by decide) ?_
  refine lv_iload_n hx hb dX9_divisor_4 rfl (lv_at hl 0 rfl) ?_
  refine lv_if_le (tgt := 21) hx hb dX9_divisor_5 (by decide) (fun c_2 => ?_) (fun c_2 => absurd (by decide) c_2)
  refine lv_iload_n hx hb dX9_divisor_21 rfl (lv_at hl 1 rfl) ?_
  exact W.iret (v := 10000) hx hb hr (fun t ht hW => ⟨⟨10000, (), rfl, rfl, trivial⟩, hS.F ht⟩) hS.2.2 dX9_divisor_22
set_option maxHeartbeats 4000000 in
set_option maxRecDepth 100000 in
theorem kX9_power_v5 (l : Launch) (dC : Nat → ClassId) (dI : Nat → Nat → Nat) (sz : Nat) : Met l yX9_power (.code yX9_power cX9_power 4 (some .int) :: GW) { frames := 2, cells := 0, slots := 0, locals := 100 } (va_Pc [.int 100, .int 3] (pR (dC, dI) [] [] sz)) (va_Qi (fun (r0 : Int32) (_ : Unit) => r0 = 1000000) (fun _ _ => True) (fun q => sz ≤ q)) 0 0 (fun q => sz ≤ q) := by
  refine Met.ofW (cc := cX9_power) (maxL := 4) (ret := (some .int)) (by decide) rfl ?_
  intro p e s m args below meth c0 s₁ B hml hv
  obtain ⟨rfl, hsz, hP, hK⟩ := hv
  have hx := B.exec
  have hb := B.bytes
  have hr := B.returns
  have hts := atoms_spec (ws := .code yX9_power cX9_power 4 (some .int) :: GW) B.pre
  have hG : ∀ w ∈ GW, w.before _ s = true := fun w h => hts w (List.mem_cons_of_mem _ h)
  have hown : s.vm.findClass RX9 = some m.cls := findClass_of_methodNamed B.named
  have hlocks := B.notSynchronized
  subst hsz
  have hS : va_S (fun q => s.heap.size ≤ q) s.heap s.heap [] := va_S.rf
  have hP : va_P (dC, dI) vwCl [] s.heap := hP
  have hl := lv_entry ([.int 100, .int 3]) (n := 4) (Nat.le_of_ble_eq_true rfl)
  rw [lg_entry_eq]
  generalize (lg_sl ([.int 100, .int 3]) ++ List.replicate (4 - (lg_sl ([.int 100, .int 3])).length) Slot.unset).toArray = ls at hl ⊢
  have hl : lv_has ls 4 [(0, .int 100), (1, .int 3)] := hl
  refine lv_iconst (v := 1) hx hb dX9_power_0 (by decide) ?_
  refine lv_istore_n (lv' := [(2, .int 1), (0, .int 100), (1, .int 3)]) hx hb dX9_power_1 rfl hl (by decide) rfl (fun ls hl => ?_)
  refine lv_iconst (v := 0) hx hb dX9_power_2 (by decide) ?_
  refine lv_istore_n (lv' := [(3, .int 0), (2, .int 1), (0, .int 100), (1, .int 3)]) hx hb dX9_power_3 rfl hl (by decide) rfl (fun ls hl => ?_)
  refine lv_iload_n hx hb dX9_power_4 rfl (lv_at hl 0 rfl) ?_
  refine lv_iload_n hx hb dX9_power_5 rfl (lv_at hl 3 rfl) ?_
  refine lv_icmp_ge (tgt := 19) hx hb dX9_power_6 (by decide) (fun c_1 => absurd c_1 (by decide)) (fun c_1 => ?_)
  refine lv_iload_n hx hb dX9_power_9 rfl (lv_at hl 1 rfl) ?_
  refine lv_iload_n hx hb dX9_power_10 rfl (lv_at hl 2 rfl) ?_
  refine lv_imul hx hb dX9_power_11 ?_
  refine wt_c (v := 100) (by decide) ?_
  refine lv_istore_n (lv' := [(2, .int 100), (3, .int 0), (0, .int 100), (1, .int 3)]) hx hb dX9_power_12 rfl hl (by decide) rfl (fun ls hl => ?_)
  refine lv_iinc (v := 1) (lv' := [(3, .int 1), (2, .int 100), (0, .int 100), (1, .int 3)]) hx hb dX9_power_13 hl (k := 1) rfl (by decide) (by decide) rfl (fun ls hl => ?_)
  refine lv_goto (tgt := 4) hx hb dX9_power_16 (by decide) ?_
  refine lv_iload_n hx hb dX9_power_4 rfl (lv_at hl 0 rfl) ?_
  refine lv_iload_n hx hb dX9_power_5 rfl (lv_at hl 3 rfl) ?_
  refine lv_icmp_ge (tgt := 19) hx hb dX9_power_6 (by decide) (fun c_2 => absurd c_2 (by decide)) (fun c_2 => ?_)
  refine lv_iload_n hx hb dX9_power_9 rfl (lv_at hl 1 rfl) ?_
  refine lv_iload_n hx hb dX9_power_10 rfl (lv_at hl 2 rfl) ?_
  refine lv_imul hx hb dX9_power_11 ?_
  refine wt_c (v := 10000) (by decide) ?_
  refine lv_istore_n (lv' := [(2, .int 10000), (3, .int 1), (0, .int 100), (1, .int 3)]) hx hb dX9_power_12 rfl hl (by decide) rfl (fun ls hl => ?_)
  refine lv_iinc (v := 2) (lv' := [(3, .int 2), (2, .int 10000), (0, .int 100), (1, .int 3)]) hx hb dX9_power_13 hl (k := 1) rfl (by decide) (by decide) rfl (fun ls hl => ?_)
  refine lv_goto (tgt := 4) hx hb dX9_power_16 (by decide) ?_
  refine lv_iload_n hx hb dX9_power_4 rfl (lv_at hl 0 rfl) ?_
  refine lv_iload_n hx hb dX9_power_5 rfl (lv_at hl 3 rfl) ?_
  refine lv_icmp_ge (tgt := 19) hx hb dX9_power_6 (by decide) (fun c_3 => absurd c_3 (by decide)) (fun c_3 => ?_)
  refine lv_iload_n hx hb dX9_power_9 rfl (lv_at hl 1 rfl) ?_
  refine lv_iload_n hx hb dX9_power_10 rfl (lv_at hl 2 rfl) ?_
  refine lv_imul hx hb dX9_power_11 ?_
  refine wt_c (v := 1000000) (by decide) ?_
  refine lv_istore_n (lv' := [(2, .int 1000000), (3, .int 2), (0, .int 100), (1, .int 3)]) hx hb dX9_power_12 rfl hl (by decide) rfl (fun ls hl => ?_)
  refine lv_iinc (v := 3) (lv' := [(3, .int 3), (2, .int 1000000), (0, .int 100), (1, .int 3)]) hx hb dX9_power_13 hl (k := 1) rfl (by decide) (by decide) rfl (fun ls hl => ?_)
  refine lv_goto (tgt := 4) hx hb dX9_power_16 (by decide) ?_
  refine lv_iload_n hx hb dX9_power_4 rfl (lv_at hl 0 rfl) ?_
  refine lv_iload_n hx hb dX9_power_5 rfl (lv_at hl 3 rfl) ?_
  refine lv_icmp_ge (tgt := 19) hx hb dX9_power_6 (by decide) (fun c_4 => ?_) (fun c_4 => absurd (by decide) c_4)
  refine lv_iload_n hx hb dX9_power_19 rfl (lv_at hl 1 rfl) ?_
  exact W.iret (v := 1000000) hx hb hr (fun t ht hW => ⟨⟨1000000, (), rfl, rfl, trivial⟩, hS.F ht⟩) hS.2.2 dX9_power_20
set_option maxHeartbeats 4000000 in
set_option maxRecDepth 100000 in
theorem kX9_divisor_v3 (l : Launch) (dC : Nat → ClassId) (dI : Nat → Nat → Nat) (sz : Nat) : Met l yX9_divisor (.code yX9_divisor cX9_divisor 5 (some .int) :: GW) { frames := 2, cells := 0, slots := 0, locals := 100 } (va_Pc [.int 1000000, .int 1000000] (pR (dC, dI) [] [] sz)) (va_Qi (fun (r0 : Int32) (_ : Unit) => r0 = 1000000) (fun _ _ => True) (fun q => sz ≤ q)) 0 0 (fun q => sz ≤ q) := by
  refine Met.ofW (cc := cX9_divisor) (maxL := 5) (ret := (some .int)) (by decide) rfl ?_
  intro p e s m args below meth c0 s₁ B hml hv
  obtain ⟨rfl, hsz, hP, hK⟩ := hv
  have hx := B.exec
  have hb := B.bytes
  have hr := B.returns
  have hts := atoms_spec (ws := .code yX9_divisor cX9_divisor 5 (some .int) :: GW) B.pre
  have hG : ∀ w ∈ GW, w.before _ s = true := fun w h => hts w (List.mem_cons_of_mem _ h)
  have hown : s.vm.findClass RX9 = some m.cls := findClass_of_methodNamed B.named
  have hlocks := B.notSynchronized
  subst hsz
  have hS : va_S (fun q => s.heap.size ≤ q) s.heap s.heap [] := va_S.rf
  have hP : va_P (dC, dI) vwCl [] s.heap := hP
  have hl := lv_entry ([.int 1000000, .int 1000000]) (n := 5) (Nat.le_of_ble_eq_true rfl)
  rw [lg_entry_eq]
  generalize (lg_sl ([.int 1000000, .int 1000000]) ++ List.replicate (5 - (lg_sl ([.int 1000000, .int 1000000])).length) Slot.unset).toArray = ls at hl ⊢
  have hl : lv_has ls 5 [(0, .int 1000000), (1, .int 1000000)] := hl
  refine lv_iload_n hx hb dX9_divisor_0 rfl (lv_at hl 0 rfl) ?_
  refine lv_istore_n (lv' := [(2, .int 1000000), (0, .int 1000000), (1, .int 1000000)]) hx hb dX9_divisor_1 rfl hl (by decide) rfl (fun ls hl => ?_)
  refine lv_iload_n hx hb dX9_divisor_2 rfl (lv_at hl 2 rfl) ?_
  refine lv_istore_n (lv' := [(3, .int 1000000), (2, .int 1000000), (0, .int 1000000), (1, .int 1000000)]) hx hb dX9_divisor_3 rfl hl (by decide) rfl (fun ls hl => ?_)
  refine lv_iload_n hx hb dX9_divisor_4 rfl (lv_at hl 0 rfl) ?_
  refine lv_if_le (tgt := 21) hx hb dX9_divisor_5 (by decide) (fun c_1 => absurd c_1 (by decide)) (fun c_1 => ?_)
  refine lv_iload_n hx hb dX9_divisor_8 rfl (lv_at hl 1 rfl) ?_
  refine lv_iload_n hx hb dX9_divisor_9 rfl (lv_at hl 0 rfl) ?_
  refine lv_irem hx hb dX9_divisor_10 (by decide) ?_
  refine wt_c (v := 0) (by decide) ?_
  refine lv_istore (lv' := [(4, .int 0), (3, .int 1000000), (2, .int 1000000), (0, .int 1000000), (1, .int 1000000)]) hx hb dX9_divisor_11 hl (by decide) rfl (fun ls hl => ?_)
  refine lv_iload_n hx hb dX9_divisor_13 rfl (lv_at hl 1 rfl) ?_
  refine lv_istore_n (lv' := [(2, .int 1000000), (4, .int 0), (3, .int 1000000), (0, .int 1000000), (1, .int 1000000)]) hx hb dX9_divisor_14 rfl hl (by decide) rfl (fun ls hl => ?_)
  refine lv_iload hx hb dX9_divisor_15 (lv_at hl 1 rfl) ?_
  refine lv_istore_n (lv' := [(3, .int 0), (2, .int 1000000), (4, .int 0), (0, .int 1000000), (1, .int 1000000)]) hx hb dX9_divisor_17 rfl hl (by decide) rfl (fun ls hl => ?_)
  refine lv_goto (tgt := 4) hx hb dX9_divisor_18 (by decide) ?_
  refine lv_iload_n hx hb dX9_divisor_4 rfl (lv_at hl 0 rfl) ?_
  refine lv_if_le (tgt := 21) hx hb dX9_divisor_5 (by decide) (fun c_2 => ?_) (fun c_2 => absurd (by decide) c_2)
  refine lv_iload_n hx hb dX9_divisor_21 rfl (lv_at hl 1 rfl) ?_
  exact W.iret (v := 1000000) hx hb hr (fun t ht hW => ⟨⟨1000000, (), rfl, rfl, trivial⟩, hS.F ht⟩) hS.2.2 dX9_divisor_22
set_option maxHeartbeats 4000000 in
set_option maxRecDepth 100000 in
theorem kX9_power_v6 (l : Launch) (dC : Nat → ClassId) (dI : Nat → Nat → Nat) (sz : Nat) : Met l yX9_power (.code yX9_power cX9_power 4 (some .int) :: GW) { frames := 2, cells := 0, slots := 0, locals := 100 } (va_Pc [.int 100, .int 4] (pR (dC, dI) [] [] sz)) (va_Qi (fun (r0 : Int32) (_ : Unit) => r0 = 100000000) (fun _ _ => True) (fun q => sz ≤ q)) 0 0 (fun q => sz ≤ q) := by
  refine Met.ofW (cc := cX9_power) (maxL := 4) (ret := (some .int)) (by decide) rfl ?_
  intro p e s m args below meth c0 s₁ B hml hv
  obtain ⟨rfl, hsz, hP, hK⟩ := hv
  have hx := B.exec
  have hb := B.bytes
  have hr := B.returns
  have hts := atoms_spec (ws := .code yX9_power cX9_power 4 (some .int) :: GW) B.pre
  have hG : ∀ w ∈ GW, w.before _ s = true := fun w h => hts w (List.mem_cons_of_mem _ h)
  have hown : s.vm.findClass RX9 = some m.cls := findClass_of_methodNamed B.named
  have hlocks := B.notSynchronized
  subst hsz
  have hS : va_S (fun q => s.heap.size ≤ q) s.heap s.heap [] := va_S.rf
  have hP : va_P (dC, dI) vwCl [] s.heap := hP
  have hl := lv_entry ([.int 100, .int 4]) (n := 4) (Nat.le_of_ble_eq_true rfl)
  rw [lg_entry_eq]
  generalize (lg_sl ([.int 100, .int 4]) ++ List.replicate (4 - (lg_sl ([.int 100, .int 4])).length) Slot.unset).toArray = ls at hl ⊢
  have hl : lv_has ls 4 [(0, .int 100), (1, .int 4)] := hl
  refine lv_iconst (v := 1) hx hb dX9_power_0 (by decide) ?_
  refine lv_istore_n (lv' := [(2, .int 1), (0, .int 100), (1, .int 4)]) hx hb dX9_power_1 rfl hl (by decide) rfl (fun ls hl => ?_)
  refine lv_iconst (v := 0) hx hb dX9_power_2 (by decide) ?_
  refine lv_istore_n (lv' := [(3, .int 0), (2, .int 1), (0, .int 100), (1, .int 4)]) hx hb dX9_power_3 rfl hl (by decide) rfl (fun ls hl => ?_)
  refine lv_iload_n hx hb dX9_power_4 rfl (lv_at hl 0 rfl) ?_
  refine lv_iload_n hx hb dX9_power_5 rfl (lv_at hl 3 rfl) ?_
  refine lv_icmp_ge (tgt := 19) hx hb dX9_power_6 (by decide) (fun c_1 => absurd c_1 (by decide)) (fun c_1 => ?_)
  refine lv_iload_n hx hb dX9_power_9 rfl (lv_at hl 1 rfl) ?_
  refine lv_iload_n hx hb dX9_power_10 rfl (lv_at hl 2 rfl) ?_
  refine lv_imul hx hb dX9_power_11 ?_
  refine wt_c (v := 100) (by decide) ?_
  refine lv_istore_n (lv' := [(2, .int 100), (3, .int 0), (0, .int 100), (1, .int 4)]) hx hb dX9_power_12 rfl hl (by decide) rfl (fun ls hl => ?_)
  refine lv_iinc (v := 1) (lv' := [(3, .int 1), (2, .int 100), (0, .int 100), (1, .int 4)]) hx hb dX9_power_13 hl (k := 1) rfl (by decide) (by decide) rfl (fun ls hl => ?_)
  refine lv_goto (tgt := 4) hx hb dX9_power_16 (by decide) ?_
  refine lv_iload_n hx hb dX9_power_4 rfl (lv_at hl 0 rfl) ?_
  refine lv_iload_n hx hb dX9_power_5 rfl (lv_at hl 3 rfl) ?_
  refine lv_icmp_ge (tgt := 19) hx hb dX9_power_6 (by decide) (fun c_2 => absurd c_2 (by decide)) (fun c_2 => ?_)
  refine lv_iload_n hx hb dX9_power_9 rfl (lv_at hl 1 rfl) ?_
  refine lv_iload_n hx hb dX9_power_10 rfl (lv_at hl 2 rfl) ?_
  refine lv_imul hx hb dX9_power_11 ?_
  refine wt_c (v := 10000) (by decide) ?_
  refine lv_istore_n (lv' := [(2, .int 10000), (3, .int 1), (0, .int 100), (1, .int 4)]) hx hb dX9_power_12 rfl hl (by decide) rfl (fun ls hl => ?_)
  refine lv_iinc (v := 2) (lv' := [(3, .int 2), (2, .int 10000), (0, .int 100), (1, .int 4)]) hx hb dX9_power_13 hl (k := 1) rfl (by decide) (by decide) rfl (fun ls hl => ?_)
  refine lv_goto (tgt := 4) hx hb dX9_power_16 (by decide) ?_
  refine lv_iload_n hx hb dX9_power_4 rfl (lv_at hl 0 rfl) ?_
  refine lv_iload_n hx hb dX9_power_5 rfl (lv_at hl 3 rfl) ?_
  refine lv_icmp_ge (tgt := 19) hx hb dX9_power_6 (by decide) (fun c_3 => absurd c_3 (by decide)) (fun c_3 => ?_)
  refine lv_iload_n hx hb dX9_power_9 rfl (lv_at hl 1 rfl) ?_
  refine lv_iload_n hx hb dX9_power_10 rfl (lv_at hl 2 rfl) ?_
  refine lv_imul hx hb dX9_power_11 ?_
  refine wt_c (v := 1000000) (by decide) ?_
  refine lv_istore_n (lv' := [(2, .int 1000000), (3, .int 2), (0, .int 100), (1, .int 4)]) hx hb dX9_power_12 rfl hl (by decide) rfl (fun ls hl => ?_)
  refine lv_iinc (v := 3) (lv' := [(3, .int 3), (2, .int 1000000), (0, .int 100), (1, .int 4)]) hx hb dX9_power_13 hl (k := 1) rfl (by decide) (by decide) rfl (fun ls hl => ?_)
  refine lv_goto (tgt := 4) hx hb dX9_power_16 (by decide) ?_
  refine lv_iload_n hx hb dX9_power_4 rfl (lv_at hl 0 rfl) ?_
  refine lv_iload_n hx hb dX9_power_5 rfl (lv_at hl 3 rfl) ?_
  refine lv_icmp_ge (tgt := 19) hx hb dX9_power_6 (by decide) (fun c_4 => absurd c_4 (by decide)) (fun c_4 => ?_)
  refine lv_iload_n hx hb dX9_power_9 rfl (lv_at hl 1 rfl) ?_
  refine lv_iload_n hx hb dX9_power_10 rfl (lv_at hl 2 rfl) ?_
  refine lv_imul hx hb dX9_power_11 ?_
  refine wt_c (v := 100000000) (by decide) ?_
  refine lv_istore_n (lv' := [(2, .int 100000000), (3, .int 3), (0, .int 100), (1, .int 4)]) hx hb dX9_power_12 rfl hl (by decide) rfl (fun ls hl => ?_)
  refine lv_iinc (v := 4) (lv' := [(3, .int 4), (2, .int 100000000), (0, .int 100), (1, .int 4)]) hx hb dX9_power_13 hl (k := 1) rfl (by decide) (by decide) rfl (fun ls hl => ?_)
  refine lv_goto (tgt := 4) hx hb dX9_power_16 (by decide) ?_
  refine lv_iload_n hx hb dX9_power_4 rfl (lv_at hl 0 rfl) ?_
  refine lv_iload_n hx hb dX9_power_5 rfl (lv_at hl 3 rfl) ?_
  refine lv_icmp_ge (tgt := 19) hx hb dX9_power_6 (by decide) (fun c_5 => ?_) (fun c_5 => absurd (by decide) c_5)
  refine lv_iload_n hx hb dX9_power_19 rfl (lv_at hl 1 rfl) ?_
  exact W.iret (v := 100000000) hx hb hr (fun t ht hW => ⟨⟨100000000, (), rfl, rfl, trivial⟩, hS.F ht⟩) hS.2.2 dX9_power_20
set_option maxHeartbeats 4000000 in
set_option maxRecDepth 100000 in
theorem kX9_divisor_v4 (l : Launch) (dC : Nat → ClassId) (dI : Nat → Nat → Nat) (sz : Nat) : Met l yX9_divisor (.code yX9_divisor cX9_divisor 5 (some .int) :: GW) { frames := 2, cells := 0, slots := 0, locals := 100 } (va_Pc [.int 100000000, .int 100000000] (pR (dC, dI) [] [] sz)) (va_Qi (fun (r0 : Int32) (_ : Unit) => r0 = 100000000) (fun _ _ => True) (fun q => sz ≤ q)) 0 0 (fun q => sz ≤ q) := by
  refine Met.ofW (cc := cX9_divisor) (maxL := 5) (ret := (some .int)) (by decide) rfl ?_
  intro p e s m args below meth c0 s₁ B hml hv
  obtain ⟨rfl, hsz, hP, hK⟩ := hv
  have hx := B.exec
  have hb := B.bytes
  have hr := B.returns
  have hts := atoms_spec (ws := .code yX9_divisor cX9_divisor 5 (some .int) :: GW) B.pre
  have hG : ∀ w ∈ GW, w.before _ s = true := fun w h => hts w (List.mem_cons_of_mem _ h)
  have hown : s.vm.findClass RX9 = some m.cls := findClass_of_methodNamed B.named
  have hlocks := B.notSynchronized
  subst hsz
  have hS : va_S (fun q => s.heap.size ≤ q) s.heap s.heap [] := va_S.rf
  have hP : va_P (dC, dI) vwCl [] s.heap := hP
  have hl := lv_entry ([.int 100000000, .int 100000000]) (n := 5) (Nat.le_of_ble_eq_true rfl)
  rw [lg_entry_eq]
  generalize (lg_sl ([.int 100000000, .int 100000000]) ++ List.replicate (5 - (lg_sl ([.int 100000000, .int 100000000])).length) Slot.unset).toArray = ls at hl ⊢
  have hl : lv_has ls 5 [(0, .int 100000000), (1, .int 100000000)] := hl
  refine lv_iload_n hx hb dX9_divisor_0 rfl (lv_at hl 0 rfl) ?_
  refine lv_istore_n (lv' := [(2, .int 100000000), (0, .int 100000000), (1, .int 100000000)]) hx hb dX9_divisor_1 rfl hl (by decide) rfl (fun ls hl => ?_)
  refine lv_iload_n hx hb dX9_divisor_2 rfl (lv_at hl 2 rfl) ?_
  refine lv_istore_n (lv' := [(3, .int 100000000), (2, .int 100000000), (0, .int 100000000), (1, .int 100000000)]) hx hb dX9_divisor_3 rfl hl (by decide) rfl (fun ls hl => ?_)
  refine lv_iload_n hx hb dX9_divisor_4 rfl (lv_at hl 0 rfl) ?_
  refine lv_if_le (tgt := 21) hx hb dX9_divisor_5 (by decide) (fun c_1 => absurd c_1 (by decide)) (fun c_1 => ?_)
  refine lv_iload_n hx hb dX9_divisor_8 rfl (lv_at hl 1 rfl) ?_
  refine lv_iload_n hx hb dX9_divisor_9 rfl (lv_at hl 0 rfl) ?_
  refine lv_irem hx hb dX9_divisor_10 (by decide) ?_
  refine wt_c (v := 0) (by decide) ?_
  refine lv_istore (lv' := [(4, .int 0), (3, .int 100000000), (2, .int 100000000), (0, .int 100000000), (1, .int 100000000)]) hx hb dX9_divisor_11 hl (by decide) rfl (fun ls hl => ?_)
  refine lv_iload_n hx hb dX9_divisor_13 rfl (lv_at hl 1 rfl) ?_
  refine lv_istore_n (lv' := [(2, .int 100000000), (4, .int 0), (3, .int 100000000), (0, .int 100000000), (1, .int 100000000)]) hx hb dX9_divisor_14 rfl hl (by decide) rfl (fun ls hl => ?_)
  refine lv_iload hx hb dX9_divisor_15 (lv_at hl 1 rfl) ?_
  refine lv_istore_n (lv' := [(3, .int 0), (2, .int 100000000), (4, .int 0), (0, .int 100000000), (1, .int 100000000)]) hx hb dX9_divisor_17 rfl hl (by decide) rfl (fun ls hl => ?_)
  refine lv_goto (tgt := 4) hx hb dX9_divisor_18 (by decide) ?_
  refine lv_iload_n hx hb dX9_divisor_4 rfl (lv_at hl 0 rfl) ?_
  refine lv_if_le (tgt := 21) hx hb dX9_divisor_5 (by decide) (fun c_2 => ?_) (fun c_2 => absurd (by decide) c_2)
  refine lv_iload_n hx hb dX9_divisor_21 rfl (lv_at hl 1 rfl) ?_
  exact W.iret (v := 100000000) hx hb hr (fun t ht hW => ⟨⟨100000000, (), rfl, rfl, trivial⟩, hS.F ht⟩) hS.2.2 dX9_divisor_22
set_option maxHeartbeats 4000000 in
set_option maxRecDepth 100000 in
theorem kX9_odds (l : Launch) (dC : Nat → ClassId) (dI : Nat → Nat → Nat) (r : Nat → Nat) (c : Nat → ClassId) (f7 : Nat → Int32) (p0 p1 : Int32) (sz : Nat) (hf7_0 : f7 0 = 0) : Met l yX9_odds (.code yX9_odds cX9_odds 5 (some .int) :: GW) { frames := 4, cells := 0, slots := 0, locals := 164 } (va_Pc [.ref (r 0), .int p0, .int p1] (pW (dC, dI) [(r 0, .inr (8, [.ref (r 1), .ref (r 2), .int 0, .int 0, .int 0, .int (-1), .int 0, .int 0, .int 0, .int 0, .long 0, .ref (r 3), .ref (r 4), .ref (r 5), .ref (r 6), .ref (r 7), .ref (r 8), .ref (r 9), .ref (r 10), .ref (r 11), .ref (r 12), .ref (r 13), .ref (r 14), .ref (r 15), .ref (r 16), .ref (r 17), .ref (r 18), .ref (r 19), .ref (r 20), .ref (r 21), .ref (r 22), .ref (r 23), .ref (r 24), .int 0, .int 0, .int 0, .int 0, .int 0, .int 0, .int 0, .int 0, .int 0, .ref (r 25), .ref (r 26), .ref (r 27), .int 0, .int 0, .ref (r 28), .int 0, .ref (r 29), .ref (r 30), .ref (r 31), .ref (r 32), .ref (r 33), .ref (r 34), .ref (r 35), .ref (r 36), .int 0, .int 0, .int 0, .ref (r 37), .ref (r 38)])), (r 7, .inl ((c 7), 2, .inl f7))] [((c 7), .int)] sz)) (va_Qi (fun (r0 : Int32) (u : Nat) => (u = 0 ∧ p0 < 0 ∧ r0 = (-1)) ∨ (u = 1 ∧ ¬ p0 < 0 ∧ 4 < p0 ∧ r0 = (-1)) ∨ (u = 2 ∧ ¬ p0 < 0 ∧ ¬ 4 < p0 ∧ p1 < 0 ∧ r0 = (-1)) ∨ (u = 3 ∧ ¬ p0 < 0 ∧ ¬ 4 < p0 ∧ ¬ p1 < 0 ∧ 1 < p1 ∧ r0 = (-1)) ∨ (u = 4 ∧ p0 = 0 ∧ ¬ p1 < 0 ∧ ¬ 1 < p1 ∧ ¬ p1 = 0 ∧ r0 = 1) ∨ (u = 5 ∧ p0 = 0 ∧ ¬ p1 < 0 ∧ ¬ 1 < p1 ∧ p1 = 0 ∧ r0 = 1) ∨ (u = 6 ∧ p0 = 1 ∧ ¬ p1 < 0 ∧ ¬ 1 < p1 ∧ ¬ p1 = 0 ∧ r0 = 1) ∨ (u = 7 ∧ p0 = 1 ∧ ¬ p1 < 0 ∧ ¬ 1 < p1 ∧ p1 = 0 ∧ r0 = 1) ∨ (u = 8 ∧ p0 = 2 ∧ ¬ p1 < 0 ∧ ¬ 1 < p1 ∧ ¬ p1 = 0 ∧ r0 = 1) ∨ (u = 9 ∧ p0 = 2 ∧ ¬ p1 < 0 ∧ ¬ 1 < p1 ∧ p1 = 0 ∧ r0 = 1) ∨ (u = 10 ∧ p0 = 3 ∧ ¬ p1 < 0 ∧ ¬ 1 < p1 ∧ ¬ p1 = 0 ∧ r0 = 1) ∨ (u = 11 ∧ p0 = 3 ∧ ¬ p1 < 0 ∧ ¬ 1 < p1 ∧ p1 = 0 ∧ r0 = 1) ∨ (u = 12 ∧ p0 = 4 ∧ ¬ p1 < 0 ∧ ¬ 1 < p1 ∧ ¬ p1 = 0 ∧ r0 = 1) ∨ (u = 13 ∧ p0 = 4 ∧ ¬ p1 < 0 ∧ ¬ 1 < p1 ∧ p1 = 0 ∧ r0 = 1)) (fun _ _ => True) (va_A [(r 0, .inr (8, [.ref (r 1), .ref (r 2), .int 0, .int 0, .int 0, .int (-1), .int 0, .int 0, .int 0, .int 0, .long 0, .ref (r 3), .ref (r 4), .ref (r 5), .ref (r 6), .ref (r 7), .ref (r 8), .ref (r 9), .ref (r 10), .ref (r 11), .ref (r 12), .ref (r 13), .ref (r 14), .ref (r 15), .ref (r 16), .ref (r 17), .ref (r 18), .ref (r 19), .ref (r 20), .ref (r 21), .ref (r 22), .ref (r 23), .ref (r 24), .int 0, .int 0, .int 0, .int 0, .int 0, .int 0, .int 0, .int 0, .int 0, .ref (r 25), .ref (r 26), .ref (r 27), .int 0, .int 0, .ref (r 28), .int 0, .ref (r 29), .ref (r 30), .ref (r 31), .ref (r 32), .ref (r 33), .ref (r 34), .ref (r 35), .ref (r 36), .int 0, .int 0, .int 0, .ref (r 37), .ref (r 38)])), (r 7, .inl ((c 7), 2, .inl f7))] sz)) 0 0 (va_A [(r 0, .inr (8, [.ref (r 1), .ref (r 2), .int 0, .int 0, .int 0, .int (-1), .int 0, .int 0, .int 0, .int 0, .long 0, .ref (r 3), .ref (r 4), .ref (r 5), .ref (r 6), .ref (r 7), .ref (r 8), .ref (r 9), .ref (r 10), .ref (r 11), .ref (r 12), .ref (r 13), .ref (r 14), .ref (r 15), .ref (r 16), .ref (r 17), .ref (r 18), .ref (r 19), .ref (r 20), .ref (r 21), .ref (r 22), .ref (r 23), .ref (r 24), .int 0, .int 0, .int 0, .int 0, .int 0, .int 0, .int 0, .int 0, .int 0, .ref (r 25), .ref (r 26), .ref (r 27), .int 0, .int 0, .ref (r 28), .int 0, .ref (r 29), .ref (r 30), .ref (r 31), .ref (r 32), .ref (r 33), .ref (r 34), .ref (r 35), .ref (r 36), .int 0, .int 0, .int 0, .ref (r 37), .ref (r 38)])), (r 7, .inl ((c 7), 2, .inl f7))] sz) := by
  refine Met.ofW (cc := cX9_odds) (maxL := 5) (ret := (some .int)) (by decide) rfl ?_
  intro p e s m args below meth c0 s₁ B hml hv
  obtain ⟨rfl, hsz, hP, hK, hD0⟩ := hv
  have hx := B.exec
  have hb := B.bytes
  have hr := B.returns
  have hts := atoms_spec (ws := .code yX9_odds cX9_odds 5 (some .int) :: GW) B.pre
  have hG : ∀ w ∈ GW, w.before _ s = true := fun w h => hts w (List.mem_cons_of_mem _ h)
  have hown : s.vm.findClass RX9 = some m.cls := findClass_of_methodNamed B.named
  have hlocks := B.notSynchronized
  subst hsz
  have hD := hD0.self (sz := s.heap.size)
  generalize hAe : va_A [(r 0, .inr (8, [.ref (r 1), .ref (r 2), .int 0, .int 0, .int 0, .int (-1), .int 0, .int 0, .int 0, .int 0, .long 0, .ref (r 3), .ref (r 4), .ref (r 5), .ref (r 6), .ref (r 7), .ref (r 8), .ref (r 9), .ref (r 10), .ref (r 11), .ref (r 12), .ref (r 13), .ref (r 14), .ref (r 15), .ref (r 16), .ref (r 17), .ref (r 18), .ref (r 19), .ref (r 20), .ref (r 21), .ref (r 22), .ref (r 23), .ref (r 24), .int 0, .int 0, .int 0, .int 0, .int 0, .int 0, .int 0, .int 0, .int 0, .ref (r 25), .ref (r 26), .ref (r 27), .int 0, .int 0, .ref (r 28), .int 0, .ref (r 29), .ref (r 30), .ref (r 31), .ref (r 32), .ref (r 33), .ref (r 34), .ref (r 35), .ref (r 36), .int 0, .int 0, .int 0, .ref (r 37), .ref (r 38)])), (r 7, .inl ((c 7), 2, .inl f7))] s.heap.size = A at hD ⊢
  have hA : ∀ q : Nat, s.heap.size ≤ q → A q := fun q h => by rw [← hAe]; exact Or.inr h
  have hS : va_S A s.heap s.heap [] := va_S.rf
  have hP : va_P (dC, dI) vwCl [(r 0, .inr (8, [.ref (r 1), .ref (r 2), .int 0, .int 0, .int 0, .int (-1), .int 0, .int 0, .int 0, .int 0, .long 0, .ref (r 3), .ref (r 4), .ref (r 5), .ref (r 6), .ref (r 7), .ref (r 8), .ref (r 9), .ref (r 10), .ref (r 11), .ref (r 12), .ref (r 13), .ref (r 14), .ref (r 15), .ref (r 16), .ref (r 17), .ref (r 18), .ref (r 19), .ref (r 20), .ref (r 21), .ref (r 22), .ref (r 23), .ref (r 24), .int 0, .int 0, .int 0, .int 0, .int 0, .int 0, .int 0, .int 0, .int 0, .ref (r 25), .ref (r 26), .ref (r 27), .int 0, .int 0, .ref (r 28), .int 0, .ref (r 29), .ref (r 30), .ref (r 31), .ref (r 32), .ref (r 33), .ref (r 34), .ref (r 35), .ref (r 36), .int 0, .int 0, .int 0, .ref (r 37), .ref (r 38)])), (r 7, .inl ((c 7), 2, .inl f7))] s.heap := hP
  have hl := lv_entry ([.ref (r 0), .int p0, .int p1]) (n := 5) (Nat.le_of_ble_eq_true rfl)
  rw [lg_entry_eq]
  generalize (lg_sl ([.ref (r 0), .int p0, .int p1]) ++ List.replicate (5 - (lg_sl ([.ref (r 0), .int p0, .int p1])).length) Slot.unset).toArray = ls at hl ⊢
  have hl : lv_has ls 5 [(0, .ref (r 0)), (1, .int p0), (2, .int p1)] := hl
  refine lv_iload_n hx hb dX9_odds_0 rfl (lv_at hl 1 rfl) ?_
  refine lv_iconst (v := 0) hx hb dX9_odds_1 (by decide) ?_
  refine lv_iconst (v := 4) hx hb dX9_odds_2 (by decide) ?_
  have hPc := hP.sub (ws' := []) [] rfl
  have hKc := hK.sub (tys' := []) [] rfl
  refine va_calli (va_runS (As := [.int p0, .int 0, .int 4]) (rest := []) ⟨hx, hb, hml, hown, hG⟩ (kX9_isIn_v6 l dC dI p0 s.heap.size ) (va_cwS 3 hG (goodS gw1516 gw1517 gw138 gw1518) rfl rfl rfl hd_X9_isIn ⟨(Nat.le_of_ble_eq_true rfl), (Nat.le_of_ble_eq_true rfl)⟩) ⟨fbR, pR_in hPc hKc⟩ rfl rfl hl.1 rfl (lv_room (Nat.le_of_ble_eq_true rfl)) dX9_odds_3 ⟨(Nat.le_of_ble_eq_true rfl), (Nat.le_of_ble_eq_true rfl)⟩) hS (fun q hq h => absurd hq (Nat.not_lt.mpr h)) (fun q h => hA q (Nat.le_trans hS.1 h)) (fun r_2 u t H1 locs ht hvm hw hB hz1 hk1 hS => ?_)
  rcases hw with ⟨rfl, hy3, hw⟩ | ⟨rfl, hy4, hy5, hw⟩ | ⟨rfl, hy6, hy7, hw⟩
  · skip
    have hP := wk hP hk1
    refine wt_c (v := 0) hw ?_
    refine lv_if_eq (tgt := 18) hx hb dX9_odds_6 (by decide) (fun c_8 => ?_) (fun c_8 => absurd (by decide) c_8)
    refine lv_iconst (v := (-1)) hx hb dX9_odds_18 (by decide) ?_
    exact W.iret (v := (-1)) hx hb hr (fun t ht hW => ⟨⟨(-1), 0, rfl, (Or.inl ⟨rfl, hy3, rfl⟩), trivial⟩, hS.F ht⟩) hS.2.2 dX9_odds_19
  · skip
    have hP := wk hP hk1
    refine wt_c (v := 0) hw ?_
    refine lv_if_eq (tgt := 18) hx hb dX9_odds_6 (by decide) (fun c_9 => ?_) (fun c_9 => absurd (by decide) c_9)
    refine lv_iconst (v := (-1)) hx hb dX9_odds_18 (by decide) ?_
    exact W.iret (v := (-1)) hx hb hr (fun t ht hW => ⟨⟨(-1), 1, rfl, (Or.inr (Or.inl ⟨rfl, hy4, hy5, rfl⟩)), trivial⟩, hS.F ht⟩) hS.2.2 dX9_odds_19
  · skip
    have hP := wk hP hk1
    refine wt_c (v := 1) hw ?_
    refine lv_if_eq (tgt := 18) hx hb dX9_odds_6 (by decide) (fun c_10 => absurd c_10 (by decide)) (fun c_10 => ?_)
    refine lv_iload_n hx hb dX9_odds_9 rfl (lv_at hl 2 rfl) ?_
    refine lv_iconst (v := 0) hx hb dX9_odds_10 (by decide) ?_
    refine lv_iconst (v := 1) hx hb dX9_odds_11 (by decide) ?_
    have hPc := hP.sub (ws' := []) [] rfl
    have hKc := hK.sub (tys' := []) [] rfl
    refine va_calli (va_runS (As := [.int p1, .int 0, .int 1]) (rest := []) ⟨hx, hb, hml, hown, hG⟩ (kX9_isIn_v1 l dC dI p1 H1.size ) (va_cwS 3 hG (goodS gw1516 gw1517 gw138 gw1518) rfl rfl rfl hd_X9_isIn ⟨(Nat.le_of_ble_eq_true rfl), (Nat.le_of_ble_eq_true rfl)⟩) ⟨fbR, pR_in hPc hKc⟩ rfl rfl hl.1 rfl (lv_room (Nat.le_of_ble_eq_true rfl)) dX9_odds_12 ⟨(Nat.le_of_ble_eq_true rfl), (Nat.le_of_ble_eq_true rfl)⟩) hS (fun q hq h => absurd hq (Nat.not_lt.mpr h)) (fun q h => hA q (Nat.le_trans hS.1 h)) (fun r_12 u t H11 locs ht hvm hw hB hz1 hk1 hS => ?_)
    rcases hw with ⟨rfl, hy13, hw⟩ | ⟨rfl, hy14, hy15, hw⟩ | ⟨rfl, hy16, hy17, hw⟩
    · skip
      have hP := wk hP hk1
      refine wt_c (v := 0) hw ?_
      refine lv_if_ne (tgt := 20) hx hb dX9_odds_15 (by decide) (fun c_18 => absurd (by decide) c_18) (fun c_18 => ?_)
      refine lv_iconst (v := (-1)) hx hb dX9_odds_18 (by decide) ?_
      exact W.iret (v := (-1)) hx hb hr (fun t ht hW => ⟨⟨(-1), 2, rfl, (Or.inr (Or.inr (Or.inl ⟨rfl, hy6, hy7, hy13, rfl⟩))), trivial⟩, hS.F ht⟩) hS.2.2 dX9_odds_19
    · skip
      have hP := wk hP hk1
      refine wt_c (v := 0) hw ?_
      refine lv_if_ne (tgt := 20) hx hb dX9_odds_15 (by decide) (fun c_19 => absurd (by decide) c_19) (fun c_19 => ?_)
      refine lv_iconst (v := (-1)) hx hb dX9_odds_18 (by decide) ?_
      exact W.iret (v := (-1)) hx hb hr (fun t ht hW => ⟨⟨(-1), 3, rfl, (Or.inr (Or.inr (Or.inr (Or.inl ⟨rfl, hy6, hy7, hy14, hy15, rfl⟩)))), trivial⟩, hS.F ht⟩) hS.2.2 dX9_odds_19
    · skip
      have hP := wk hP hk1
      refine wt_c (v := 1) hw ?_
      refine lv_if_ne (tgt := 20) hx hb dX9_odds_15 (by decide) (fun c_20 => ?_) (fun c_20 => absurd c_20 (by decide))
      refine lv_bipush (v := 100) hx hb dX9_odds_20 (by decide) ?_
      refine lv_aload_n hx hb dX9_odds_22 rfl (lv_at hl 0 rfl) ?_
      refine va_get (D := (dC, dI)) (ci := 8) (v := .ref (r 7)) (C := RX9) (T := TX9) (N := 62) hx hb hG inX9 hown hK hP 0 rfl rfl 15 (by decide) (hG _ gw1186) (fun _ h9 => h9) rfl dX9_odds_23 ?_
      refine lv_aload_n hx hb dX9_odds_26 rfl (lv_at hl 0 rfl) ?_
      refine va_get (D := (dC, dI)) (ci := 8) (v := .int 0) (C := RX9) (T := TX9) (N := 62) hx hb hG inX9 hown hK hP 0 rfl rfl 33 (by decide) (hG _ gw1204) (fun _ h9 => h9) rfl dX9_odds_27 ?_
      refine va_iald hx hb hK hP 1 0 rfl rfl (vin (by decide)) dX9_odds_30 ?_
      refine wt_c (v := 0) hf7_0 ?_
      refine lv_isub hx hb dX9_odds_31 ?_
      refine wt_c (v := 100) (by decide) ?_
      refine lv_iload_n hx hb dX9_odds_32 rfl (lv_at hl 1 rfl) ?_
      have hq : p0 = 0 ∨ p0 = 1 ∨ p0 = 2 ∨ p0 = 3 ∨ p0 = 4 := by
        have k0 := q_nlt hy6
        have k1 := q_nlt hy7
        have z0 : (0 : Int32).toInt = 0 := (by decide)
        have z4 : (4 : Int32).toInt = 4 := (by decide)
        have hz : p0.toInt = 0 ∨ p0.toInt = 1 ∨ p0.toInt = 2 ∨ p0.toInt = 3 ∨ p0.toInt = 4 := by omega
        rcases hz with hz | hz | hz | hz | hz
        · exact Or.inl (Int32.toInt_inj.mp (hz.trans (by decide)))
        · exact Or.inr (Or.inl (Int32.toInt_inj.mp (hz.trans (by decide))))
        · exact Or.inr (Or.inr (Or.inl (Int32.toInt_inj.mp (hz.trans (by decide)))))
        · exact Or.inr (Or.inr (Or.inr (Or.inl (Int32.toInt_inj.mp (hz.trans (by decide))))))
        · exact Or.inr (Or.inr (Or.inr (Or.inr ((Int32.toInt_inj.mp (hz.trans (by decide)))))))
      rcases hq with rfl | rfl | rfl | rfl | rfl
      · skip
        have hPc := hP.sub (ws' := []) [] rfl
        have hKc := hK.sub (tys' := []) [] rfl
        refine va_calli (va_runS (As := [.int 100, .int 0]) (rest := []) ⟨hx, hb, hml, hown, hG⟩ (kX9_power_v2 l dC dI  H11.size ) (va_cwS 2 hG (goodS gw1756 gw1757 gw138 gw1758) rfl rfl rfl hd_X9_power ⟨(Nat.le_of_ble_eq_true rfl), (Nat.le_of_ble_eq_true rfl)⟩) ⟨fbR, pR_in hPc hKc⟩ rfl rfl hl.1 rfl (lv_room (Nat.le_of_ble_eq_true rfl)) dX9_odds_33 ⟨(Nat.le_of_ble_eq_true rfl), (Nat.le_of_ble_eq_true rfl)⟩) hS (fun q hq h => absurd hq (Nat.not_lt.mpr h)) (fun q h => hA q (Nat.le_trans hS.1 h)) (fun r_22 u t H21 locs ht hvm hw hB hz1 hk1 hS => ?_)
        have hP := wk hP hk1
        refine wt_c (v := 1) hw ?_
        refine lv_istore_n (lv' := [(3, .int 1), (0, .ref (r 0)), (1, .int 0), (2, .int p1)]) hx hb dX9_odds_36 rfl hl (by decide) rfl (fun ls hl => ?_)
        refine lv_bipush (v := 100) hx hb dX9_odds_37 (by decide) ?_
        refine lv_iload_n hx hb dX9_odds_39 rfl (lv_at hl 2 rfl) ?_
        have hPc := hP.sub (ws' := []) [] rfl
        have hKc := hK.sub (tys' := []) [] rfl
        refine va_calli (va_runS (As := [.int 100, .int 0]) (rest := []) ⟨hx, hb, hml, hown, hG⟩ (kX9_power_v2 l dC dI  H21.size ) (va_cwS 2 hG (goodS gw1756 gw1757 gw138 gw1758) rfl rfl rfl hd_X9_power ⟨(Nat.le_of_ble_eq_true rfl), (Nat.le_of_ble_eq_true rfl)⟩) ⟨fbR, pR_in hPc hKc⟩ rfl rfl hl.1 rfl (lv_room (Nat.le_of_ble_eq_true rfl)) dX9_odds_40 ⟨(Nat.le_of_ble_eq_true rfl), (Nat.le_of_ble_eq_true rfl)⟩) hS (fun q hq h => absurd hq (Nat.not_lt.mpr h)) (fun q h => hA q (Nat.le_trans hS.1 h)) (fun r_24 u t H23 locs ht hvm hw hB hz1 hk1 hS => ?_)
        have hP := wk hP hk1
        refine wt_c (v := 1) hw ?_
        refine lv_istore (lv' := [(4, .int 1), (3, .int 1), (0, .ref (r 0)), (1, .int 0), (2, .int p1)]) hx hb dX9_odds_43 hl (by decide) rfl (fun ls hl => ?_)
        refine lv_iload_n hx hb dX9_odds_45 rfl (lv_at hl 4 rfl) ?_
        refine lv_if_ne (tgt := 53) hx hb dX9_odds_46 (by decide) (fun c_25 => ?_) (fun c_25 => ?_)
        · skip
          refine lv_iload hx hb dX9_odds_53 (lv_at hl 0 rfl) ?_
          refine lv_iload hx hb dX9_odds_55 (lv_at hl 0 rfl) ?_
          refine lv_iload_n hx hb dX9_odds_57 rfl (lv_at hl 1 rfl) ?_
          have hPc := hP.sub (ws' := []) [] rfl
          have hKc := hK.sub (tys' := []) [] rfl
          refine va_calli (va_runS (As := [.int 1, .int 1]) (rest := [.int 1]) ⟨hx, hb, hml, hown, hG⟩ (kX9_divisor l dC dI  H23.size ) (va_cwS 2 hG (goodS gw1814 gw1815 gw138 gw1816) rfl rfl rfl hd_X9_divisor ⟨(Nat.le_of_ble_eq_true rfl), (Nat.le_of_ble_eq_true rfl)⟩) ⟨fbR, pR_in hPc hKc⟩ rfl rfl hl.1 rfl (lv_room (Nat.le_of_ble_eq_true rfl)) dX9_odds_58 ⟨(Nat.le_of_ble_eq_true rfl), (Nat.le_of_ble_eq_true rfl)⟩) hS (fun q hq h => absurd hq (Nat.not_lt.mpr h)) (fun q h => hA q (Nat.le_trans hS.1 h)) (fun r_27 u t H26 locs ht hvm hw hB hz1 hk1 hS => ?_)
          have hP := wk hP hk1
          refine wt_c (v := 1) hw ?_
          refine lv_idiv hx hb dX9_odds_61 (by decide) ?_
          refine wt_c (v := 1) (by decide) ?_
          exact W.iret (v := 1) hx hb hr (fun t ht hW => ⟨⟨1, 4, rfl, (Or.inr (Or.inr (Or.inr (Or.inr (Or.inl ⟨rfl, rfl, hy16, hy17, c_25, rfl⟩))))), trivial⟩, hS.F ht⟩) hS.2.2 dX9_odds_62
        · skip
          refine lv_iload_n hx hb dX9_odds_49 rfl (lv_at hl 1 rfl) ?_
          refine lv_goto (tgt := 55) hx hb dX9_odds_50 (by decide) ?_
          refine lv_iload hx hb dX9_odds_55 (lv_at hl 0 rfl) ?_
          refine lv_iload_n hx hb dX9_odds_57 rfl (lv_at hl 1 rfl) ?_
          have hPc := hP.sub (ws' := []) [] rfl
          have hKc := hK.sub (tys' := []) [] rfl
          refine va_calli (va_runS (As := [.int 1, .int 1]) (rest := [.int 1]) ⟨hx, hb, hml, hown, hG⟩ (kX9_divisor l dC dI  H23.size ) (va_cwS 2 hG (goodS gw1814 gw1815 gw138 gw1816) rfl rfl rfl hd_X9_divisor ⟨(Nat.le_of_ble_eq_true rfl), (Nat.le_of_ble_eq_true rfl)⟩) ⟨fbR, pR_in hPc hKc⟩ rfl rfl hl.1 rfl (lv_room (Nat.le_of_ble_eq_true rfl)) dX9_odds_58 ⟨(Nat.le_of_ble_eq_true rfl), (Nat.le_of_ble_eq_true rfl)⟩) hS (fun q hq h => absurd hq (Nat.not_lt.mpr h)) (fun q h => hA q (Nat.le_trans hS.1 h)) (fun r_29 u t H28 locs ht hvm hw hB hz1 hk1 hS => ?_)
          have hP := wk hP hk1
          refine wt_c (v := 1) hw ?_
          refine lv_idiv hx hb dX9_odds_61 (by decide) ?_
          refine wt_c (v := 1) (by decide) ?_
          exact W.iret (v := 1) hx hb hr (fun t ht hW => ⟨⟨1, 5, rfl, (Or.inr (Or.inr (Or.inr (Or.inr (Or.inr (Or.inl ⟨rfl, rfl, hy16, hy17, c_25, rfl⟩)))))), trivial⟩, hS.F ht⟩) hS.2.2 dX9_odds_62
      · skip
        have hPc := hP.sub (ws' := []) [] rfl
        have hKc := hK.sub (tys' := []) [] rfl
        refine va_calli (va_runS (As := [.int 100, .int 1]) (rest := []) ⟨hx, hb, hml, hown, hG⟩ (kX9_power_v3 l dC dI  H11.size ) (va_cwS 2 hG (goodS gw1756 gw1757 gw138 gw1758) rfl rfl rfl hd_X9_power ⟨(Nat.le_of_ble_eq_true rfl), (Nat.le_of_ble_eq_true rfl)⟩) ⟨fbR, pR_in hPc hKc⟩ rfl rfl hl.1 rfl (lv_room (Nat.le_of_ble_eq_true rfl)) dX9_odds_33 ⟨(Nat.le_of_ble_eq_true rfl), (Nat.le_of_ble_eq_true rfl)⟩) hS (fun q hq h => absurd hq (Nat.not_lt.mpr h)) (fun q h => hA q (Nat.le_trans hS.1 h)) (fun r_31 u t H30 locs ht hvm hw hB hz1 hk1 hS => ?_)
        have hP := wk hP hk1
        refine wt_c (v := 100) hw ?_
        refine lv_istore_n (lv' := [(3, .int 100), (0, .ref (r 0)), (1, .int 1), (2, .int p1)]) hx hb dX9_odds_36 rfl hl (by decide) rfl (fun ls hl => ?_)
        refine lv_bipush (v := 100) hx hb dX9_odds_37 (by decide) ?_
        refine lv_iload_n hx hb dX9_odds_39 rfl (lv_at hl 2 rfl) ?_
        have hPc := hP.sub (ws' := []) [] rfl
        have hKc := hK.sub (tys' := []) [] rfl
        refine va_calli (va_runS (As := [.int 100, .int 1]) (rest := []) ⟨hx, hb, hml, hown, hG⟩ (kX9_power_v3 l dC dI  H30.size ) (va_cwS 2 hG (goodS gw1756 gw1757 gw138 gw1758) rfl rfl rfl hd_X9_power ⟨(Nat.le_of_ble_eq_true rfl), (Nat.le_of_ble_eq_true rfl)⟩) ⟨fbR, pR_in hPc hKc⟩ rfl rfl hl.1 rfl (lv_room (Nat.le_of_ble_eq_true rfl)) dX9_odds_40 ⟨(Nat.le_of_ble_eq_true rfl), (Nat.le_of_ble_eq_true rfl)⟩) hS (fun q hq h => absurd hq (Nat.not_lt.mpr h)) (fun q h => hA q (Nat.le_trans hS.1 h)) (fun r_33 u t H32 locs ht hvm hw hB hz1 hk1 hS => ?_)
        have hP := wk hP hk1
        refine wt_c (v := 100) hw ?_
        refine lv_istore (lv' := [(4, .int 100), (3, .int 100), (0, .ref (r 0)), (1, .int 1), (2, .int p1)]) hx hb dX9_odds_43 hl (by decide) rfl (fun ls hl => ?_)
        refine lv_iload_n hx hb dX9_odds_45 rfl (lv_at hl 4 rfl) ?_
        refine lv_if_ne (tgt := 53) hx hb dX9_odds_46 (by decide) (fun c_34 => ?_) (fun c_34 => ?_)
        · skip
          refine lv_iload hx hb dX9_odds_53 (lv_at hl 0 rfl) ?_
          refine lv_iload hx hb dX9_odds_55 (lv_at hl 0 rfl) ?_
          refine lv_iload_n hx hb dX9_odds_57 rfl (lv_at hl 1 rfl) ?_
          have hPc := hP.sub (ws' := []) [] rfl
          have hKc := hK.sub (tys' := []) [] rfl
          refine va_calli (va_runS (As := [.int 100, .int 100]) (rest := [.int 100]) ⟨hx, hb, hml, hown, hG⟩ (kX9_divisor_v1 l dC dI  H32.size ) (va_cwS 2 hG (goodS gw1814 gw1815 gw138 gw1816) rfl rfl rfl hd_X9_divisor ⟨(Nat.le_of_ble_eq_true rfl), (Nat.le_of_ble_eq_true rfl)⟩) ⟨fbR, pR_in hPc hKc⟩ rfl rfl hl.1 rfl (lv_room (Nat.le_of_ble_eq_true rfl)) dX9_odds_58 ⟨(Nat.le_of_ble_eq_true rfl), (Nat.le_of_ble_eq_true rfl)⟩) hS (fun q hq h => absurd hq (Nat.not_lt.mpr h)) (fun q h => hA q (Nat.le_trans hS.1 h)) (fun r_36 u t H35 locs ht hvm hw hB hz1 hk1 hS => ?_)
          have hP := wk hP hk1
          refine wt_c (v := 100) hw ?_
          refine lv_idiv hx hb dX9_odds_61 (by decide) ?_
          refine wt_c (v := 1) (by decide) ?_
          exact W.iret (v := 1) hx hb hr (fun t ht hW => ⟨⟨1, 6, rfl, (Or.inr (Or.inr (Or.inr (Or.inr (Or.inr (Or.inr (Or.inl ⟨rfl, rfl, hy16, hy17, c_34, rfl⟩))))))), trivial⟩, hS.F ht⟩) hS.2.2 dX9_odds_62
        · skip
          refine lv_iload_n hx hb dX9_odds_49 rfl (lv_at hl 1 rfl) ?_
          refine lv_goto (tgt := 55) hx hb dX9_odds_50 (by decide) ?_
          refine lv_iload hx hb dX9_odds_55 (lv_at hl 0 rfl) ?_
          refine lv_iload_n hx hb dX9_odds_57 rfl (lv_at hl 1 rfl) ?_
          have hPc := hP.sub (ws' := []) [] rfl
          have hKc := hK.sub (tys' := []) [] rfl
          refine va_calli (va_runS (As := [.int 100, .int 100]) (rest := [.int 100]) ⟨hx, hb, hml, hown, hG⟩ (kX9_divisor_v1 l dC dI  H32.size ) (va_cwS 2 hG (goodS gw1814 gw1815 gw138 gw1816) rfl rfl rfl hd_X9_divisor ⟨(Nat.le_of_ble_eq_true rfl), (Nat.le_of_ble_eq_true rfl)⟩) ⟨fbR, pR_in hPc hKc⟩ rfl rfl hl.1 rfl (lv_room (Nat.le_of_ble_eq_true rfl)) dX9_odds_58 ⟨(Nat.le_of_ble_eq_true rfl), (Nat.le_of_ble_eq_true rfl)⟩) hS (fun q hq h => absurd hq (Nat.not_lt.mpr h)) (fun q h => hA q (Nat.le_trans hS.1 h)) (fun r_38 u t H37 locs ht hvm hw hB hz1 hk1 hS => ?_)
          have hP := wk hP hk1
          refine wt_c (v := 100) hw ?_
          refine lv_idiv hx hb dX9_odds_61 (by decide) ?_
          refine wt_c (v := 1) (by decide) ?_
          exact W.iret (v := 1) hx hb hr (fun t ht hW => ⟨⟨1, 7, rfl, (Or.inr (Or.inr (Or.inr (Or.inr (Or.inr (Or.inr (Or.inr (Or.inl ⟨rfl, rfl, hy16, hy17, c_34, rfl⟩)))))))), trivial⟩, hS.F ht⟩) hS.2.2 dX9_odds_62
      · skip
        have hPc := hP.sub (ws' := []) [] rfl
        have hKc := hK.sub (tys' := []) [] rfl
        refine va_calli (va_runS (As := [.int 100, .int 2]) (rest := []) ⟨hx, hb, hml, hown, hG⟩ (kX9_power_v4 l dC dI  H11.size ) (va_cwS 2 hG (goodS gw1756 gw1757 gw138 gw1758) rfl rfl rfl hd_X9_power ⟨(Nat.le_of_ble_eq_true rfl), (Nat.le_of_ble_eq_true rfl)⟩) ⟨fbR, pR_in hPc hKc⟩ rfl rfl hl.1 rfl (lv_room (Nat.le_of_ble_eq_true rfl)) dX9_odds_33 ⟨(Nat.le_of_ble_eq_true rfl), (Nat.le_of_ble_eq_true rfl)⟩) hS (fun q hq h => absurd hq (Nat.not_lt.mpr h)) (fun q h => hA q (Nat.le_trans hS.1 h)) (fun r_40 u t H39 locs ht hvm hw hB hz1 hk1 hS => ?_)
        have hP := wk hP hk1
        refine wt_c (v := 10000) hw ?_
        refine lv_istore_n (lv' := [(3, .int 10000), (0, .ref (r 0)), (1, .int 2), (2, .int p1)]) hx hb dX9_odds_36 rfl hl (by decide) rfl (fun ls hl => ?_)
        refine lv_bipush (v := 100) hx hb dX9_odds_37 (by decide) ?_
        refine lv_iload_n hx hb dX9_odds_39 rfl (lv_at hl 2 rfl) ?_
        have hPc := hP.sub (ws' := []) [] rfl
        have hKc := hK.sub (tys' := []) [] rfl
        refine va_calli (va_runS (As := [.int 100, .int 2]) (rest := []) ⟨hx, hb, hml, hown, hG⟩ (kX9_power_v4 l dC dI  H39.size ) (va_cwS 2 hG (goodS gw1756 gw1757 gw138 gw1758) rfl rfl rfl hd_X9_power ⟨(Nat.le_of_ble_eq_true rfl), (Nat.le_of_ble_eq_true rfl)⟩) ⟨fbR, pR_in hPc hKc⟩ rfl rfl hl.1 rfl (lv_room (Nat.le_of_ble_eq_true rfl)) dX9_odds_40 ⟨(Nat.le_of_ble_eq_true rfl), (Nat.le_of_ble_eq_true rfl)⟩) hS (fun q hq h => absurd hq (Nat.not_lt.mpr h)) (fun q h => hA q (Nat.le_trans hS.1 h)) (fun r_42 u t H41 locs ht hvm hw hB hz1 hk1 hS => ?_)
        have hP := wk hP hk1
        refine wt_c (v := 10000) hw ?_
        refine lv_istore (lv' := [(4, .int 10000), (3, .int 10000), (0, .ref (r 0)), (1, .int 2), (2, .int p1)]) hx hb dX9_odds_43 hl (by decide) rfl (fun ls hl => ?_)
        refine lv_iload_n hx hb dX9_odds_45 rfl (lv_at hl 4 rfl) ?_
        refine lv_if_ne (tgt := 53) hx hb dX9_odds_46 (by decide) (fun c_43 => ?_) (fun c_43 => ?_)
        · skip
          refine lv_iload hx hb dX9_odds_53 (lv_at hl 0 rfl) ?_
          refine lv_iload hx hb dX9_odds_55 (lv_at hl 0 rfl) ?_
          refine lv_iload_n hx hb dX9_odds_57 rfl (lv_at hl 1 rfl) ?_
          have hPc := hP.sub (ws' := []) [] rfl
          have hKc := hK.sub (tys' := []) [] rfl
          refine va_calli (va_runS (As := [.int 10000, .int 10000]) (rest := [.int 10000]) ⟨hx, hb, hml, hown, hG⟩ (kX9_divisor_v2 l dC dI  H41.size ) (va_cwS 2 hG (goodS gw1814 gw1815 gw138 gw1816) rfl rfl rfl hd_X9_divisor ⟨(Nat.le_of_ble_eq_true rfl), (Nat.le_of_ble_eq_true rfl)⟩) ⟨fbR, pR_in hPc hKc⟩ rfl rfl hl.1 rfl (lv_room (Nat.le_of_ble_eq_true rfl)) dX9_odds_58 ⟨(Nat.le_of_ble_eq_true rfl), (Nat.le_of_ble_eq_true rfl)⟩) hS (fun q hq h => absurd hq (Nat.not_lt.mpr h)) (fun q h => hA q (Nat.le_trans hS.1 h)) (fun r_45 u t H44 locs ht hvm hw hB hz1 hk1 hS => ?_)
          have hP := wk hP hk1
          refine wt_c (v := 10000) hw ?_
          refine lv_idiv hx hb dX9_odds_61 (by decide) ?_
          refine wt_c (v := 1) (by decide) ?_
          exact W.iret (v := 1) hx hb hr (fun t ht hW => ⟨⟨1, 8, rfl, (Or.inr (Or.inr (Or.inr (Or.inr (Or.inr (Or.inr (Or.inr (Or.inr (Or.inl ⟨rfl, rfl, hy16, hy17, c_43, rfl⟩))))))))), trivial⟩, hS.F ht⟩) hS.2.2 dX9_odds_62
        · skip
          refine lv_iload_n hx hb dX9_odds_49 rfl (lv_at hl 1 rfl) ?_
          refine lv_goto (tgt := 55) hx hb dX9_odds_50 (by decide) ?_
          refine lv_iload hx hb dX9_odds_55 (lv_at hl 0 rfl) ?_
          refine lv_iload_n hx hb dX9_odds_57 rfl (lv_at hl 1 rfl) ?_
          have hPc := hP.sub (ws' := []) [] rfl
          have hKc := hK.sub (tys' := []) [] rfl
          refine va_calli (va_runS (As := [.int 10000, .int 10000]) (rest := [.int 10000]) ⟨hx, hb, hml, hown, hG⟩ (kX9_divisor_v2 l dC dI  H41.size ) (va_cwS 2 hG (goodS gw1814 gw1815 gw138 gw1816) rfl rfl rfl hd_X9_divisor ⟨(Nat.le_of_ble_eq_true rfl), (Nat.le_of_ble_eq_true rfl)⟩) ⟨fbR, pR_in hPc hKc⟩ rfl rfl hl.1 rfl (lv_room (Nat.le_of_ble_eq_true rfl)) dX9_odds_58 ⟨(Nat.le_of_ble_eq_true rfl), (Nat.le_of_ble_eq_true rfl)⟩) hS (fun q hq h => absurd hq (Nat.not_lt.mpr h)) (fun q h => hA q (Nat.le_trans hS.1 h)) (fun r_47 u t H46 locs ht hvm hw hB hz1 hk1 hS => ?_)
          have hP := wk hP hk1
          refine wt_c (v := 10000) hw ?_
          refine lv_idiv hx hb dX9_odds_61 (by decide) ?_
          refine wt_c (v := 1) (by decide) ?_
          exact W.iret (v := 1) hx hb hr (fun t ht hW => ⟨⟨1, 9, rfl, (Or.inr (Or.inr (Or.inr (Or.inr (Or.inr (Or.inr (Or.inr (Or.inr (Or.inr (Or.inl ⟨rfl, rfl, hy16, hy17, c_43, rfl⟩)))))))))), trivial⟩, hS.F ht⟩) hS.2.2 dX9_odds_62
      · skip
        have hPc := hP.sub (ws' := []) [] rfl
        have hKc := hK.sub (tys' := []) [] rfl
        refine va_calli (va_runS (As := [.int 100, .int 3]) (rest := []) ⟨hx, hb, hml, hown, hG⟩ (kX9_power_v5 l dC dI  H11.size ) (va_cwS 2 hG (goodS gw1756 gw1757 gw138 gw1758) rfl rfl rfl hd_X9_power ⟨(Nat.le_of_ble_eq_true rfl), (Nat.le_of_ble_eq_true rfl)⟩) ⟨fbR, pR_in hPc hKc⟩ rfl rfl hl.1 rfl (lv_room (Nat.le_of_ble_eq_true rfl)) dX9_odds_33 ⟨(Nat.le_of_ble_eq_true rfl), (Nat.le_of_ble_eq_true rfl)⟩) hS (fun q hq h => absurd hq (Nat.not_lt.mpr h)) (fun q h => hA q (Nat.le_trans hS.1 h)) (fun r_49 u t H48 locs ht hvm hw hB hz1 hk1 hS => ?_)
        have hP := wk hP hk1
        refine wt_c (v := 1000000) hw ?_
        refine lv_istore_n (lv' := [(3, .int 1000000), (0, .ref (r 0)), (1, .int 3), (2, .int p1)]) hx hb dX9_odds_36 rfl hl (by decide) rfl (fun ls hl => ?_)
        refine lv_bipush (v := 100) hx hb dX9_odds_37 (by decide) ?_
        refine lv_iload_n hx hb dX9_odds_39 rfl (lv_at hl 2 rfl) ?_
        have hPc := hP.sub (ws' := []) [] rfl
        have hKc := hK.sub (tys' := []) [] rfl
        refine va_calli (va_runS (As := [.int 100, .int 3]) (rest := []) ⟨hx, hb, hml, hown, hG⟩ (kX9_power_v5 l dC dI  H48.size ) (va_cwS 2 hG (goodS gw1756 gw1757 gw138 gw1758) rfl rfl rfl hd_X9_power ⟨(Nat.le_of_ble_eq_true rfl), (Nat.le_of_ble_eq_true rfl)⟩) ⟨fbR, pR_in hPc hKc⟩ rfl rfl hl.1 rfl (lv_room (Nat.le_of_ble_eq_true rfl)) dX9_odds_40 ⟨(Nat.le_of_ble_eq_true rfl), (Nat.le_of_ble_eq_true rfl)⟩) hS (fun q hq h => absurd hq (Nat.not_lt.mpr h)) (fun q h => hA q (Nat.le_trans hS.1 h)) (fun r_51 u t H50 locs ht hvm hw hB hz1 hk1 hS => ?_)
        have hP := wk hP hk1
        refine wt_c (v := 1000000) hw ?_
        refine lv_istore (lv' := [(4, .int 1000000), (3, .int 1000000), (0, .ref (r 0)), (1, .int 3), (2, .int p1)]) hx hb dX9_odds_43 hl (by decide) rfl (fun ls hl => ?_)
        refine lv_iload_n hx hb dX9_odds_45 rfl (lv_at hl 4 rfl) ?_
        refine lv_if_ne (tgt := 53) hx hb dX9_odds_46 (by decide) (fun c_52 => ?_) (fun c_52 => ?_)
        · skip
          refine lv_iload hx hb dX9_odds_53 (lv_at hl 0 rfl) ?_
          refine lv_iload hx hb dX9_odds_55 (lv_at hl 0 rfl) ?_
          refine lv_iload_n hx hb dX9_odds_57 rfl (lv_at hl 1 rfl) ?_
          have hPc := hP.sub (ws' := []) [] rfl
          have hKc := hK.sub (tys' := []) [] rfl
          refine va_calli (va_runS (As := [.int 1000000, .int 1000000]) (rest := [.int 1000000]) ⟨hx, hb, hml, hown, hG⟩ (kX9_divisor_v3 l dC dI  H50.size ) (va_cwS 2 hG (goodS gw1814 gw1815 gw138 gw1816) rfl rfl rfl hd_X9_divisor ⟨(Nat.le_of_ble_eq_true rfl), (Nat.le_of_ble_eq_true rfl)⟩) ⟨fbR, pR_in hPc hKc⟩ rfl rfl hl.1 rfl (lv_room (Nat.le_of_ble_eq_true rfl)) dX9_odds_58 ⟨(Nat.le_of_ble_eq_true rfl), (Nat.le_of_ble_eq_true rfl)⟩) hS (fun q hq h => absurd hq (Nat.not_lt.mpr h)) (fun q h => hA q (Nat.le_trans hS.1 h)) (fun r_54 u t H53 locs ht hvm hw hB hz1 hk1 hS => ?_)
          have hP := wk hP hk1
          refine wt_c (v := 1000000) hw ?_
          refine lv_idiv hx hb dX9_odds_61 (by decide) ?_
          refine wt_c (v := 1) (by decide) ?_
          exact W.iret (v := 1) hx hb hr (fun t ht hW => ⟨⟨1, 10, rfl, (Or.inr (Or.inr (Or.inr (Or.inr (Or.inr (Or.inr (Or.inr (Or.inr (Or.inr (Or.inr (Or.inl ⟨rfl, rfl, hy16, hy17, c_52, rfl⟩))))))))))), trivial⟩, hS.F ht⟩) hS.2.2 dX9_odds_62
        · skip
          refine lv_iload_n hx hb dX9_odds_49 rfl (lv_at hl 1 rfl) ?_
          refine lv_goto (tgt := 55) hx hb dX9_odds_50 (by decide) ?_
          refine lv_iload hx hb dX9_odds_55 (lv_at hl 0 rfl) ?_
          refine lv_iload_n hx hb dX9_odds_57 rfl (lv_at hl 1 rfl) ?_
          have hPc := hP.sub (ws' := []) [] rfl
          have hKc := hK.sub (tys' := []) [] rfl
          refine va_calli (va_runS (As := [.int 1000000, .int 1000000]) (rest := [.int 1000000]) ⟨hx, hb, hml, hown, hG⟩ (kX9_divisor_v3 l dC dI  H50.size ) (va_cwS 2 hG (goodS gw1814 gw1815 gw138 gw1816) rfl rfl rfl hd_X9_divisor ⟨(Nat.le_of_ble_eq_true rfl), (Nat.le_of_ble_eq_true rfl)⟩) ⟨fbR, pR_in hPc hKc⟩ rfl rfl hl.1 rfl (lv_room (Nat.le_of_ble_eq_true rfl)) dX9_odds_58 ⟨(Nat.le_of_ble_eq_true rfl), (Nat.le_of_ble_eq_true rfl)⟩) hS (fun q hq h => absurd hq (Nat.not_lt.mpr h)) (fun q h => hA q (Nat.le_trans hS.1 h)) (fun r_56 u t H55 locs ht hvm hw hB hz1 hk1 hS => ?_)
          have hP := wk hP hk1
          refine wt_c (v := 1000000) hw ?_
          refine lv_idiv hx hb dX9_odds_61 (by decide) ?_
          refine wt_c (v := 1) (by decide) ?_
          exact W.iret (v := 1) hx hb hr (fun t ht hW => ⟨⟨1, 11, rfl, (Or.inr (Or.inr (Or.inr (Or.inr (Or.inr (Or.inr (Or.inr (Or.inr (Or.inr (Or.inr (Or.inr (Or.inl ⟨rfl, rfl, hy16, hy17, c_52, rfl⟩)))))))))))), trivial⟩, hS.F ht⟩) hS.2.2 dX9_odds_62
      · skip
        have hPc := hP.sub (ws' := []) [] rfl
        have hKc := hK.sub (tys' := []) [] rfl
        refine va_calli (va_runS (As := [.int 100, .int 4]) (rest := []) ⟨hx, hb, hml, hown, hG⟩ (kX9_power_v6 l dC dI  H11.size ) (va_cwS 2 hG (goodS gw1756 gw1757 gw138 gw1758) rfl rfl rfl hd_X9_power ⟨(Nat.le_of_ble_eq_true rfl), (Nat.le_of_ble_eq_true rfl)⟩) ⟨fbR, pR_in hPc hKc⟩ rfl rfl hl.1 rfl (lv_room (Nat.le_of_ble_eq_true rfl)) dX9_odds_33 ⟨(Nat.le_of_ble_eq_true rfl), (Nat.le_of_ble_eq_true rfl)⟩) hS (fun q hq h => absurd hq (Nat.not_lt.mpr h)) (fun q h => hA q (Nat.le_trans hS.1 h)) (fun r_58 u t H57 locs ht hvm hw hB hz1 hk1 hS => ?_)
        have hP := wk hP hk1
        refine wt_c (v := 100000000) hw ?_
        refine lv_istore_n (lv' := [(3, .int 100000000), (0, .ref (r 0)), (1, .int 4), (2, .int p1)]) hx hb dX9_odds_36 rfl hl (by decide) rfl (fun ls hl => ?_)
        refine lv_bipush (v := 100) hx hb dX9_odds_37 (by decide) ?_
        refine lv_iload_n hx hb dX9_odds_39 rfl (lv_at hl 2 rfl) ?_
        have hPc := hP.sub (ws' := []) [] rfl
        have hKc := hK.sub (tys' := []) [] rfl
        refine va_calli (va_runS (As := [.int 100, .int 4]) (rest := []) ⟨hx, hb, hml, hown, hG⟩ (kX9_power_v6 l dC dI  H57.size ) (va_cwS 2 hG (goodS gw1756 gw1757 gw138 gw1758) rfl rfl rfl hd_X9_power ⟨(Nat.le_of_ble_eq_true rfl), (Nat.le_of_ble_eq_true rfl)⟩) ⟨fbR, pR_in hPc hKc⟩ rfl rfl hl.1 rfl (lv_room (Nat.le_of_ble_eq_true rfl)) dX9_odds_40 ⟨(Nat.le_of_ble_eq_true rfl), (Nat.le_of_ble_eq_true rfl)⟩) hS (fun q hq h => absurd hq (Nat.not_lt.mpr h)) (fun q h => hA q (Nat.le_trans hS.1 h)) (fun r_60 u t H59 locs ht hvm hw hB hz1 hk1 hS => ?_)
        have hP := wk hP hk1
        refine wt_c (v := 100000000) hw ?_
        refine lv_istore (lv' := [(4, .int 100000000), (3, .int 100000000), (0, .ref (r 0)), (1, .int 4), (2, .int p1)]) hx hb dX9_odds_43 hl (by decide) rfl (fun ls hl => ?_)
        refine lv_iload_n hx hb dX9_odds_45 rfl (lv_at hl 4 rfl) ?_
        refine lv_if_ne (tgt := 53) hx hb dX9_odds_46 (by decide) (fun c_61 => ?_) (fun c_61 => ?_)
        · skip
          refine lv_iload hx hb dX9_odds_53 (lv_at hl 0 rfl) ?_
          refine lv_iload hx hb dX9_odds_55 (lv_at hl 0 rfl) ?_
          refine lv_iload_n hx hb dX9_odds_57 rfl (lv_at hl 1 rfl) ?_
          have hPc := hP.sub (ws' := []) [] rfl
          have hKc := hK.sub (tys' := []) [] rfl
          refine va_calli (va_runS (As := [.int 100000000, .int 100000000]) (rest := [.int 100000000]) ⟨hx, hb, hml, hown, hG⟩ (kX9_divisor_v4 l dC dI  H59.size ) (va_cwS 2 hG (goodS gw1814 gw1815 gw138 gw1816) rfl rfl rfl hd_X9_divisor ⟨(Nat.le_of_ble_eq_true rfl), (Nat.le_of_ble_eq_true rfl)⟩) ⟨fbR, pR_in hPc hKc⟩ rfl rfl hl.1 rfl (lv_room (Nat.le_of_ble_eq_true rfl)) dX9_odds_58 ⟨(Nat.le_of_ble_eq_true rfl), (Nat.le_of_ble_eq_true rfl)⟩) hS (fun q hq h => absurd hq (Nat.not_lt.mpr h)) (fun q h => hA q (Nat.le_trans hS.1 h)) (fun r_63 u t H62 locs ht hvm hw hB hz1 hk1 hS => ?_)
          have hP := wk hP hk1
          refine wt_c (v := 100000000) hw ?_
          refine lv_idiv hx hb dX9_odds_61 (by decide) ?_
          refine wt_c (v := 1) (by decide) ?_
          exact W.iret (v := 1) hx hb hr (fun t ht hW => ⟨⟨1, 12, rfl, (Or.inr (Or.inr (Or.inr (Or.inr (Or.inr (Or.inr (Or.inr (Or.inr (Or.inr (Or.inr (Or.inr (Or.inr (Or.inl ⟨rfl, rfl, hy16, hy17, c_61, rfl⟩))))))))))))), trivial⟩, hS.F ht⟩) hS.2.2 dX9_odds_62
        · skip
          refine lv_iload_n hx hb dX9_odds_49 rfl (lv_at hl 1 rfl) ?_
          refine lv_goto (tgt := 55) hx hb dX9_odds_50 (by decide) ?_
          refine lv_iload hx hb dX9_odds_55 (lv_at hl 0 rfl) ?_
          refine lv_iload_n hx hb dX9_odds_57 rfl (lv_at hl 1 rfl) ?_
          have hPc := hP.sub (ws' := []) [] rfl
          have hKc := hK.sub (tys' := []) [] rfl
          refine va_calli (va_runS (As := [.int 100000000, .int 100000000]) (rest := [.int 100000000]) ⟨hx, hb, hml, hown, hG⟩ (kX9_divisor_v4 l dC dI  H59.size ) (va_cwS 2 hG (goodS gw1814 gw1815 gw138 gw1816) rfl rfl rfl hd_X9_divisor ⟨(Nat.le_of_ble_eq_true rfl), (Nat.le_of_ble_eq_true rfl)⟩) ⟨fbR, pR_in hPc hKc⟩ rfl rfl hl.1 rfl (lv_room (Nat.le_of_ble_eq_true rfl)) dX9_odds_58 ⟨(Nat.le_of_ble_eq_true rfl), (Nat.le_of_ble_eq_true rfl)⟩) hS (fun q hq h => absurd hq (Nat.not_lt.mpr h)) (fun q h => hA q (Nat.le_trans hS.1 h)) (fun r_65 u t H64 locs ht hvm hw hB hz1 hk1 hS => ?_)
          have hP := wk hP hk1
          refine wt_c (v := 100000000) hw ?_
          refine lv_idiv hx hb dX9_odds_61 (by decide) ?_
          refine wt_c (v := 1) (by decide) ?_
          exact W.iret (v := 1) hx hb hr (fun t ht hW => ⟨⟨1, 13, rfl, (Or.inr (Or.inr (Or.inr (Or.inr (Or.inr (Or.inr (Or.inr (Or.inr (Or.inr (Or.inr (Or.inr (Or.inr (Or.inr ⟨rfl, rfl, hy16, hy17, c_61, rfl⟩))))))))))))), trivial⟩, hS.F ht⟩) hS.2.2 dX9_odds_62
set_option maxHeartbeats 4000000 in
set_option maxRecDepth 100000 in
theorem kX8_lies (l : Launch) (dC : Nat → ClassId) (dI : Nat → Nat → Nat) (r : Nat → Nat) (c : Nat → ClassId) (p0 : Int32) (sz : Nat) : Met l yX8_lies (.code yX8_lies cX8_lies 2 (some .int) :: GW) { frames := 2, cells := 0, slots := 0, locals := 100 } (va_Pc [.ref (r 0), .int p0] (pW (dC, dI) [(r 0, .inr (7, [.ref (r 1), .int 0, .ref (r 2), .ref (r 55), .ref (r 57), .ref (r 30), .ref (r 56), .ref (r 36), .ref (r 37), .ref (r 38), .int 0, .ref (r 51), .int 0, .ref (r 52), .ref (r 53), .ref (r 54)]))] [] sz)) (va_Qi (fun (r0 : Int32) (_ : Unit) => r0 = (-2)) (fun _ _ => True) (va_A [(r 0, .inr (7, [.ref (r 1), .int 0, .ref (r 2), .ref (r 55), .ref (r 57), .ref (r 30), .ref (r 56), .ref (r 36), .ref (r 37), .ref (r 38), .int 0, .ref (r 51), .int 0, .ref (r 52), .ref (r 53), .ref (r 54)]))] sz)) 0 0 (va_A [(r 0, .inr (7, [.ref (r 1), .int 0, .ref (r 2), .ref (r 55), .ref (r 57), .ref (r 30), .ref (r 56), .ref (r 36), .ref (r 37), .ref (r 38), .int 0, .ref (r 51), .int 0, .ref (r 52), .ref (r 53), .ref (r 54)]))] sz) := by
  refine Met.ofW (cc := cX8_lies) (maxL := 2) (ret := (some .int)) (by decide) rfl ?_
  intro p e s m args below meth c0 s₁ B hml hv
  obtain ⟨rfl, hsz, hP, hK, hD0⟩ := hv
  have hx := B.exec
  have hb := B.bytes
  have hr := B.returns
  have hts := atoms_spec (ws := .code yX8_lies cX8_lies 2 (some .int) :: GW) B.pre
  have hG : ∀ w ∈ GW, w.before _ s = true := fun w h => hts w (List.mem_cons_of_mem _ h)
  have hown : s.vm.findClass RX8 = some m.cls := findClass_of_methodNamed B.named
  have hlocks := B.notSynchronized
  subst hsz
  have hD := hD0.self (sz := s.heap.size)
  generalize hAe : va_A [(r 0, .inr (7, [.ref (r 1), .int 0, .ref (r 2), .ref (r 55), .ref (r 57), .ref (r 30), .ref (r 56), .ref (r 36), .ref (r 37), .ref (r 38), .int 0, .ref (r 51), .int 0, .ref (r 52), .ref (r 53), .ref (r 54)]))] s.heap.size = A at hD ⊢
  have hA : ∀ q : Nat, s.heap.size ≤ q → A q := fun q h => by rw [← hAe]; exact Or.inr h
  have hS : va_S A s.heap s.heap [] := va_S.rf
  have hP : va_P (dC, dI) vwCl [(r 0, .inr (7, [.ref (r 1), .int 0, .ref (r 2), .ref (r 55), .ref (r 57), .ref (r 30), .ref (r 56), .ref (r 36), .ref (r 37), .ref (r 38), .int 0, .ref (r 51), .int 0, .ref (r 52), .ref (r 53), .ref (r 54)]))] s.heap := hP
  have hl := lv_entry ([.ref (r 0), .int p0]) (n := 2) (Nat.le_of_ble_eq_true rfl)
  rw [lg_entry_eq]
  generalize (lg_sl ([.ref (r 0), .int p0]) ++ List.replicate (2 - (lg_sl ([.ref (r 0), .int p0])).length) Slot.unset).toArray = ls at hl ⊢
  have hl : lv_has ls 2 [(0, .ref (r 0)), (1, .int p0)] := hl
  refine lv_iload_n hx hb dX8_lies_0 rfl (lv_at hl 1 rfl) ?_
  refine lv_if_lt (tgt := 21) hx hb dX8_lies_1 (by decide) (fun c_1 => ?_) (fun c_1 => ?_)
  · skip
    refine lv_bipush (v := (-2)) hx hb dX8_lies_21 (by decide) ?_
    exact W.iret (v := (-2)) hx hb hr (fun t ht hW => ⟨⟨(-2), (), rfl, rfl, trivial⟩, hS.F ht⟩) hS.2.2 dX8_lies_23
  · skip
    refine lv_iload_n hx hb dX8_lies_4 rfl (lv_at hl 1 rfl) ?_
    refine lv_aload_n hx hb dX8_lies_5 rfl (lv_at hl 0 rfl) ?_
    refine va_get (D := (dC, dI)) (ci := 7) (v := .int 0) (C := RX8) (T := TX8) (N := 16) hx hb hG inX8 hown hK hP 0 rfl rfl 12 (by decide) (hG _ gw480) (fun _ h9 => h9) rfl dX8_lies_6 ?_
    refine lv_icmp_ge (tgt := 21) hx hb dX8_lies_9 (by decide) (fun c_2 => ?_) (fun c_2 => ((by have k0 := q_nlt c_1; have k1 := q_nle c_2; have z0 : (0 : Int32).toInt = 0 := (by decide); omega) : False).elim)
    refine lv_bipush (v := (-2)) hx hb dX8_lies_21 (by decide) ?_
    exact W.iret (v := (-2)) hx hb hr (fun t ht hW => ⟨⟨(-2), (), rfl, rfl, trivial⟩, hS.F ht⟩) hS.2.2 dX8_lies_23
set_option maxHeartbeats 4000000 in
set_option maxRecDepth 100000 in
theorem kX9_lies (l : Launch) (dC : Nat → ClassId) (dI : Nat → Nat → Nat) (r : Nat → Nat) (c : Nat → ClassId) (p0 : Int32) (sz : Nat) : Met l yX9_lies (.code yX9_lies cX9_lies 2 (some .int) :: GW) { frames := 4, cells := 0, slots := 0, locals := 162 } (va_Pc [.ref (r 0), .int p0] (pW (dC, dI) [(r 0, .inr (8, [.ref (r 1), .ref (r 2), .int 0, .int 0, .int 0, .int (-1), .int 0, .int 0, .int 0, .int 0, .long 0, .ref (r 3), .ref (r 4), .ref (r 5), .ref (r 6), .ref (r 7), .ref (r 8), .ref (r 9), .ref (r 10), .ref (r 11), .ref (r 12), .ref (r 13), .ref (r 14), .ref (r 15), .ref (r 16), .ref (r 17), .ref (r 18), .ref (r 19), .ref (r 20), .ref (r 21), .ref (r 22), .ref (r 23), .ref (r 24), .int 0, .int 0, .int 0, .int 0, .int 0, .int 0, .int 0, .int 0, .int 0, .ref (r 25), .ref (r 26), .ref (r 27), .int 0, .int 0, .ref (r 28), .int 0, .ref (r 29), .ref (r 30), .ref (r 31), .ref (r 32), .ref (r 33), .ref (r 34), .ref (r 35), .ref (r 36), .int 0, .int 0, .int 0, .ref (r 37), .ref (r 38)]))] [] sz)) (va_Qi (fun (r0 : Int32) (_ : Unit) => r0 = (-2)) (fun _ _ => True) (va_A [(r 0, .inr (8, [.ref (r 1), .ref (r 2), .int 0, .int 0, .int 0, .int (-1), .int 0, .int 0, .int 0, .int 0, .long 0, .ref (r 3), .ref (r 4), .ref (r 5), .ref (r 6), .ref (r 7), .ref (r 8), .ref (r 9), .ref (r 10), .ref (r 11), .ref (r 12), .ref (r 13), .ref (r 14), .ref (r 15), .ref (r 16), .ref (r 17), .ref (r 18), .ref (r 19), .ref (r 20), .ref (r 21), .ref (r 22), .ref (r 23), .ref (r 24), .int 0, .int 0, .int 0, .int 0, .int 0, .int 0, .int 0, .int 0, .int 0, .ref (r 25), .ref (r 26), .ref (r 27), .int 0, .int 0, .ref (r 28), .int 0, .ref (r 29), .ref (r 30), .ref (r 31), .ref (r 32), .ref (r 33), .ref (r 34), .ref (r 35), .ref (r 36), .int 0, .int 0, .int 0, .ref (r 37), .ref (r 38)]))] sz)) 0 0 (va_A [(r 0, .inr (8, [.ref (r 1), .ref (r 2), .int 0, .int 0, .int 0, .int (-1), .int 0, .int 0, .int 0, .int 0, .long 0, .ref (r 3), .ref (r 4), .ref (r 5), .ref (r 6), .ref (r 7), .ref (r 8), .ref (r 9), .ref (r 10), .ref (r 11), .ref (r 12), .ref (r 13), .ref (r 14), .ref (r 15), .ref (r 16), .ref (r 17), .ref (r 18), .ref (r 19), .ref (r 20), .ref (r 21), .ref (r 22), .ref (r 23), .ref (r 24), .int 0, .int 0, .int 0, .int 0, .int 0, .int 0, .int 0, .int 0, .int 0, .ref (r 25), .ref (r 26), .ref (r 27), .int 0, .int 0, .ref (r 28), .int 0, .ref (r 29), .ref (r 30), .ref (r 31), .ref (r 32), .ref (r 33), .ref (r 34), .ref (r 35), .ref (r 36), .int 0, .int 0, .int 0, .ref (r 37), .ref (r 38)]))] sz) := by
  refine Met.ofW (cc := cX9_lies) (maxL := 2) (ret := (some .int)) (by decide) rfl ?_
  intro p e s m args below meth c0 s₁ B hml hv
  obtain ⟨rfl, hsz, hP, hK, hD0⟩ := hv
  have hx := B.exec
  have hb := B.bytes
  have hr := B.returns
  have hts := atoms_spec (ws := .code yX9_lies cX9_lies 2 (some .int) :: GW) B.pre
  have hG : ∀ w ∈ GW, w.before _ s = true := fun w h => hts w (List.mem_cons_of_mem _ h)
  have hown : s.vm.findClass RX9 = some m.cls := findClass_of_methodNamed B.named
  have hlocks := B.notSynchronized
  subst hsz
  have hD := hD0.self (sz := s.heap.size)
  generalize hAe : va_A [(r 0, .inr (8, [.ref (r 1), .ref (r 2), .int 0, .int 0, .int 0, .int (-1), .int 0, .int 0, .int 0, .int 0, .long 0, .ref (r 3), .ref (r 4), .ref (r 5), .ref (r 6), .ref (r 7), .ref (r 8), .ref (r 9), .ref (r 10), .ref (r 11), .ref (r 12), .ref (r 13), .ref (r 14), .ref (r 15), .ref (r 16), .ref (r 17), .ref (r 18), .ref (r 19), .ref (r 20), .ref (r 21), .ref (r 22), .ref (r 23), .ref (r 24), .int 0, .int 0, .int 0, .int 0, .int 0, .int 0, .int 0, .int 0, .int 0, .ref (r 25), .ref (r 26), .ref (r 27), .int 0, .int 0, .ref (r 28), .int 0, .ref (r 29), .ref (r 30), .ref (r 31), .ref (r 32), .ref (r 33), .ref (r 34), .ref (r 35), .ref (r 36), .int 0, .int 0, .int 0, .ref (r 37), .ref (r 38)]))] s.heap.size = A at hD ⊢
  have hA : ∀ q : Nat, s.heap.size ≤ q → A q := fun q h => by rw [← hAe]; exact Or.inr h
  have hS : va_S A s.heap s.heap [] := va_S.rf
  have hP : va_P (dC, dI) vwCl [(r 0, .inr (8, [.ref (r 1), .ref (r 2), .int 0, .int 0, .int 0, .int (-1), .int 0, .int 0, .int 0, .int 0, .long 0, .ref (r 3), .ref (r 4), .ref (r 5), .ref (r 6), .ref (r 7), .ref (r 8), .ref (r 9), .ref (r 10), .ref (r 11), .ref (r 12), .ref (r 13), .ref (r 14), .ref (r 15), .ref (r 16), .ref (r 17), .ref (r 18), .ref (r 19), .ref (r 20), .ref (r 21), .ref (r 22), .ref (r 23), .ref (r 24), .int 0, .int 0, .int 0, .int 0, .int 0, .int 0, .int 0, .int 0, .int 0, .ref (r 25), .ref (r 26), .ref (r 27), .int 0, .int 0, .ref (r 28), .int 0, .ref (r 29), .ref (r 30), .ref (r 31), .ref (r 32), .ref (r 33), .ref (r 34), .ref (r 35), .ref (r 36), .int 0, .int 0, .int 0, .ref (r 37), .ref (r 38)]))] s.heap := hP
  have hl := lv_entry ([.ref (r 0), .int p0]) (n := 2) (Nat.le_of_ble_eq_true rfl)
  rw [lg_entry_eq]
  generalize (lg_sl ([.ref (r 0), .int p0]) ++ List.replicate (2 - (lg_sl ([.ref (r 0), .int p0])).length) Slot.unset).toArray = ls at hl ⊢
  have hl : lv_has ls 2 [(0, .ref (r 0)), (1, .int p0)] := hl
  refine lv_iload_n hx hb dX9_lies_0 rfl (lv_at hl 1 rfl) ?_
  refine lv_iconst (v := 0) hx hb dX9_lies_1 (by decide) ?_
  refine lv_aload_n hx hb dX9_lies_2 rfl (lv_at hl 0 rfl) ?_
  refine va_get (D := (dC, dI)) (ci := 8) (v := .int 0) (C := RX9) (T := TX9) (N := 62) hx hb hG inX9 hown hK hP 0 rfl rfl 48 (by decide) (hG _ gw1219) (fun _ h9 => h9) rfl dX9_lies_3 ?_
  refine lv_iconst (v := 1) hx hb dX9_lies_6 (by decide) ?_
  refine lv_isub hx hb dX9_lies_7 ?_
  refine wt_c (v := (-1)) (by decide) ?_
  have hPc := hP.sub (ws' := []) [] rfl
  have hKc := hK.sub (tys' := []) [] rfl
  refine va_calli (va_runS (As := [.int p0, .int 0, .int (-1)]) (rest := []) ⟨hx, hb, hml, hown, hG⟩ (kX9_isIn l dC dI p0 s.heap.size ) (va_cwS 3 hG (goodS gw1516 gw1517 gw138 gw1518) rfl rfl rfl hd_X9_isIn ⟨(Nat.le_of_ble_eq_true rfl), (Nat.le_of_ble_eq_true rfl)⟩) ⟨fbR, pR_in hPc hKc⟩ rfl rfl hl.1 rfl (lv_room (Nat.le_of_ble_eq_true rfl)) dX9_lies_8 ⟨(Nat.le_of_ble_eq_true rfl), (Nat.le_of_ble_eq_true rfl)⟩) hS (fun q hq h => absurd hq (Nat.not_lt.mpr h)) (fun q h => hA q (Nat.le_trans hS.1 h)) (fun r_2 u t H1 locs ht hvm hw hB hz1 hk1 hS => ?_)
  have hP := wk hP hk1
  refine wt_c (v := 0) hw ?_
  refine lv_if_eq (tgt := 23) hx hb dX9_lies_11 (by decide) (fun c_3 => ?_) (fun c_3 => absurd (by decide) c_3)
  refine lv_bipush (v := (-2)) hx hb dX9_lies_23 (by decide) ?_
  exact W.iret (v := (-2)) hx hb hr (fun t ht hW => ⟨⟨(-2), (), rfl, rfl, trivial⟩, hS.F ht⟩) hS.2.2 dX9_lies_25
