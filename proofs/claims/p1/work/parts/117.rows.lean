set_option maxHeartbeats 4000000 in
set_option maxRecDepth 100000 in
theorem kX9_image (l : Launch) (dC : Nat → ClassId) (dI : Nat → Nat → Nat) (r : Nat → Nat) (c : Nat → ClassId) (f25 : Nat → Int32) (f38 : Nat → Int32) (p0 : Int32) (sz : Nat) (hf25_24 : f25 24 = 0) (hf25_25 : f25 25 = 0) : Met l yX9_image (.code yX9_image cX9_image 3 (some .int) :: GW) { frames := 4, cells := 0, slots := 0, locals := 162 } (va_Pc [.ref (r 0), .int p0] (pW (dC, dI) [(r 0, .inr (8, [.ref (r 1), .ref (r 2), .int 0, .int 0, .int 0, .int (-1), .int 0, .int 0, .int 0, .int 0, .long 0, .ref (r 3), .ref (r 4), .ref (r 5), .ref (r 6), .ref (r 7), .ref (r 8), .ref (r 9), .ref (r 10), .ref (r 11), .ref (r 12), .ref (r 13), .ref (r 14), .ref (r 15), .ref (r 16), .ref (r 17), .ref (r 18), .ref (r 19), .ref (r 20), .ref (r 21), .ref (r 22), .ref (r 23), .ref (r 24), .int 0, .int 0, .int 0, .int 0, .int 0, .int 0, .int 0, .int 0, .int 0, .ref (r 25), .ref (r 26), .ref (r 27), .int 0, .int 0, .ref (r 28), .int 0, .ref (r 29), .ref (r 30), .ref (r 31), .ref (r 32), .ref (r 33), .ref (r 34), .ref (r 35), .ref (r 36), .int 0, .int 0, .int 0, .ref (r 37), .ref (r 38)])), (r 25, .inl ((c 25), 26, .inl f25)), (r 37, .inl ((c 37), 78, .inl (fun _ => 0))), (r 38, .inl ((c 38), 3, .inl f38))] [((c 25), .int), ((c 37), .int), ((c 38), .boolean)] sz)) (va_Qi (fun (r0 : Int32) (u : Nat) => (u = 0 ∧ p0 < 0 ∧ r0 = (-1)) ∨ (u = 1 ∧ ¬ p0 < 0 ∧ 2 < p0 ∧ r0 = (-1)) ∨ (u = 2 ∧ p0 = 0 ∧ r0 = 0) ∨ (u = 3 ∧ p0 = 1 ∧ r0 = 0) ∨ (u = 4 ∧ p0 = 2 ∧ r0 = 0)) (fun _ _ => True) (va_A [(r 0, .inr (8, [.ref (r 1), .ref (r 2), .int 0, .int 0, .int 0, .int (-1), .int 0, .int 0, .int 0, .int 0, .long 0, .ref (r 3), .ref (r 4), .ref (r 5), .ref (r 6), .ref (r 7), .ref (r 8), .ref (r 9), .ref (r 10), .ref (r 11), .ref (r 12), .ref (r 13), .ref (r 14), .ref (r 15), .ref (r 16), .ref (r 17), .ref (r 18), .ref (r 19), .ref (r 20), .ref (r 21), .ref (r 22), .ref (r 23), .ref (r 24), .int 0, .int 0, .int 0, .int 0, .int 0, .int 0, .int 0, .int 0, .int 0, .ref (r 25), .ref (r 26), .ref (r 27), .int 0, .int 0, .ref (r 28), .int 0, .ref (r 29), .ref (r 30), .ref (r 31), .ref (r 32), .ref (r 33), .ref (r 34), .ref (r 35), .ref (r 36), .int 0, .int 0, .int 0, .ref (r 37), .ref (r 38)])), (r 25, .inl ((c 25), 26, .inl f25)), (r 37, .inl ((c 37), 78, .inl (fun _ => 0))), (r 38, .inl ((c 38), 3, .inl f38))] sz)) 0 0 (va_A [(r 0, .inr (8, [.ref (r 1), .ref (r 2), .int 0, .int 0, .int 0, .int (-1), .int 0, .int 0, .int 0, .int 0, .long 0, .ref (r 3), .ref (r 4), .ref (r 5), .ref (r 6), .ref (r 7), .ref (r 8), .ref (r 9), .ref (r 10), .ref (r 11), .ref (r 12), .ref (r 13), .ref (r 14), .ref (r 15), .ref (r 16), .ref (r 17), .ref (r 18), .ref (r 19), .ref (r 20), .ref (r 21), .ref (r 22), .ref (r 23), .ref (r 24), .int 0, .int 0, .int 0, .int 0, .int 0, .int 0, .int 0, .int 0, .int 0, .ref (r 25), .ref (r 26), .ref (r 27), .int 0, .int 0, .ref (r 28), .int 0, .ref (r 29), .ref (r 30), .ref (r 31), .ref (r 32), .ref (r 33), .ref (r 34), .ref (r 35), .ref (r 36), .int 0, .int 0, .int 0, .ref (r 37), .ref (r 38)])), (r 25, .inl ((c 25), 26, .inl f25)), (r 37, .inl ((c 37), 78, .inl (fun _ => 0))), (r 38, .inl ((c 38), 3, .inl f38))] sz) := by
  refine Met.ofW (cc := cX9_image) (maxL := 3) (ret := (some .int)) (by decide) rfl ?_
  intro p e s m args below meth c0 s₁ B hml hv
  obtain ⟨rfl, hsz, hP, hK, hD0⟩ := hv
  have hx := B.exec
  have hb := B.bytes
  have hr := B.returns
  have hts := atoms_spec (ws := .code yX9_image cX9_image 3 (some .int) :: GW) B.pre
  have hG : ∀ w ∈ GW, w.before _ s = true := fun w h => hts w (List.mem_cons_of_mem _ h)
  have hown : s.vm.findClass RX9 = some m.cls := findClass_of_methodNamed B.named
  have hlocks := B.notSynchronized
  subst hsz
  have hD := hD0.self (sz := s.heap.size)
  generalize hAe : va_A [(r 0, .inr (8, [.ref (r 1), .ref (r 2), .int 0, .int 0, .int 0, .int (-1), .int 0, .int 0, .int 0, .int 0, .long 0, .ref (r 3), .ref (r 4), .ref (r 5), .ref (r 6), .ref (r 7), .ref (r 8), .ref (r 9), .ref (r 10), .ref (r 11), .ref (r 12), .ref (r 13), .ref (r 14), .ref (r 15), .ref (r 16), .ref (r 17), .ref (r 18), .ref (r 19), .ref (r 20), .ref (r 21), .ref (r 22), .ref (r 23), .ref (r 24), .int 0, .int 0, .int 0, .int 0, .int 0, .int 0, .int 0, .int 0, .int 0, .ref (r 25), .ref (r 26), .ref (r 27), .int 0, .int 0, .ref (r 28), .int 0, .ref (r 29), .ref (r 30), .ref (r 31), .ref (r 32), .ref (r 33), .ref (r 34), .ref (r 35), .ref (r 36), .int 0, .int 0, .int 0, .ref (r 37), .ref (r 38)])), (r 25, .inl ((c 25), 26, .inl f25)), (r 37, .inl ((c 37), 78, .inl (fun _ => 0))), (r 38, .inl ((c 38), 3, .inl f38))] s.heap.size = A at hD ⊢
  have hA : ∀ q : Nat, s.heap.size ≤ q → A q := fun q h => by rw [← hAe]; exact Or.inr h
  have hS : va_S A s.heap s.heap [] := va_S.rf
  have hP : va_P (dC, dI) vwCl [(r 0, .inr (8, [.ref (r 1), .ref (r 2), .int 0, .int 0, .int 0, .int (-1), .int 0, .int 0, .int 0, .int 0, .long 0, .ref (r 3), .ref (r 4), .ref (r 5), .ref (r 6), .ref (r 7), .ref (r 8), .ref (r 9), .ref (r 10), .ref (r 11), .ref (r 12), .ref (r 13), .ref (r 14), .ref (r 15), .ref (r 16), .ref (r 17), .ref (r 18), .ref (r 19), .ref (r 20), .ref (r 21), .ref (r 22), .ref (r 23), .ref (r 24), .int 0, .int 0, .int 0, .int 0, .int 0, .int 0, .int 0, .int 0, .int 0, .ref (r 25), .ref (r 26), .ref (r 27), .int 0, .int 0, .ref (r 28), .int 0, .ref (r 29), .ref (r 30), .ref (r 31), .ref (r 32), .ref (r 33), .ref (r 34), .ref (r 35), .ref (r 36), .int 0, .int 0, .int 0, .ref (r 37), .ref (r 38)])), (r 25, .inl ((c 25), 26, .inl f25)), (r 37, .inl ((c 37), 78, .inl (fun _ => 0))), (r 38, .inl ((c 38), 3, .inl f38))] s.heap := hP
  have hl := lv_entry ([.ref (r 0), .int p0]) (n := 3) (Nat.le_of_ble_eq_true rfl)
  rw [lg_entry_eq]
  generalize (lg_sl ([.ref (r 0), .int p0]) ++ List.replicate (3 - (lg_sl ([.ref (r 0), .int p0])).length) Slot.unset).toArray = ls at hl ⊢
  have hl : lv_has ls 3 [(0, .ref (r 0)), (1, .int p0)] := hl
  refine lv_iload_n hx hb dX9_image_0 rfl (lv_at hl 1 rfl) ?_
  refine lv_iconst (v := 0) hx hb dX9_image_1 (by decide) ?_
  refine lv_iconst (v := 2) hx hb dX9_image_2 (by decide) ?_
  have hPc := hP.sub (ws' := []) [] rfl
  have hKc := hK.sub (tys' := []) [] rfl
  refine va_calli (va_runS (As := [.int p0, .int 0, .int 2]) (rest := []) ⟨hx, hb, hml, hown, hG⟩ (kX9_isIn_v8 l dC dI p0 s.heap.size ) (va_cwS 3 hG (goodS gw1516 gw1517 gw138 gw1518) rfl rfl rfl hd_X9_isIn ⟨(Nat.le_of_ble_eq_true rfl), (Nat.le_of_ble_eq_true rfl)⟩) ⟨fbR, pR_in hPc hKc⟩ rfl rfl hl.1 rfl (lv_room (Nat.le_of_ble_eq_true rfl)) dX9_image_3 ⟨(Nat.le_of_ble_eq_true rfl), (Nat.le_of_ble_eq_true rfl)⟩) hS (fun q hq h => absurd hq (Nat.not_lt.mpr h)) (fun q h => hA q (Nat.le_trans hS.1 h)) (fun r_2 u t H1 locs ht hvm hw hB hz1 hk1 hS => ?_)
  rcases hw with ⟨rfl, hy3, hw⟩ | ⟨rfl, hy4, hy5, hw⟩ | ⟨rfl, hy6, hy7, hw⟩
  · skip
    have hP := wk hP hk1
    refine wt_c (v := 0) hw ?_
    refine lv_if_ne (tgt := 11) hx hb dX9_image_6 (by decide) (fun c_8 => absurd (by decide) c_8) (fun c_8 => ?_)
    refine lv_iconst (v := (-1)) hx hb dX9_image_9 (by decide) ?_
    exact W.iret (v := (-1)) hx hb hr (fun t ht hW => ⟨⟨(-1), 0, rfl, (Or.inl ⟨rfl, hy3, rfl⟩), trivial⟩, hS.F ht⟩) hS.2.2 dX9_image_10
  · skip
    have hP := wk hP hk1
    refine wt_c (v := 0) hw ?_
    refine lv_if_ne (tgt := 11) hx hb dX9_image_6 (by decide) (fun c_9 => absurd (by decide) c_9) (fun c_9 => ?_)
    refine lv_iconst (v := (-1)) hx hb dX9_image_9 (by decide) ?_
    exact W.iret (v := (-1)) hx hb hr (fun t ht hW => ⟨⟨(-1), 1, rfl, (Or.inr (Or.inl ⟨rfl, hy4, hy5, rfl⟩)), trivial⟩, hS.F ht⟩) hS.2.2 dX9_image_10
  · skip
    have hP := wk hP hk1
    refine wt_c (v := 1) hw ?_
    refine lv_if_ne (tgt := 11) hx hb dX9_image_6 (by decide) (fun c_10 => ?_) (fun c_10 => absurd c_10 (by decide))
    refine lv_iconst (v := 0) hx hb dX9_image_11 (by decide) ?_
    refine lv_istore_n (lv' := [(2, .int 0), (0, .ref (r 0)), (1, .int p0)]) hx hb dX9_image_12 rfl hl (by decide) rfl (fun ls hl => ?_)
    refine lv_iload_n hx hb dX9_image_13 rfl (lv_at hl 0 rfl) ?_
    refine lv_bipush (v := 26) hx hb dX9_image_14 (by decide) ?_
    refine lv_icmp_ge (tgt := 42) hx hb dX9_image_16 (by decide) (fun c_11 => absurd c_11 (by decide)) (fun c_11 => ?_)
    refine lv_aload_n hx hb dX9_image_19 rfl (lv_at hl 1 rfl) ?_
    refine va_get (D := (dC, dI)) (ci := 8) (v := .ref (r 37)) (C := RX9) (T := TX9) (N := 62) hx hb hG inX9 hown hK hP 0 rfl rfl 60 (by decide) (hG _ gw1231) (fun _ h9 => h9) rfl dX9_image_20 ?_
    refine lv_bipush (v := 26) hx hb dX9_image_23 (by decide) ?_
    refine lv_iload_n hx hb dX9_image_25 rfl (lv_at hl 2 rfl) ?_
    have hq : p0 = 0 ∨ p0 = 1 ∨ p0 = 2 := by
      have k0 := q_nlt hy6
      have k1 := q_nlt hy7
      have z0 : (0 : Int32).toInt = 0 := (by decide)
      have z2 : (2 : Int32).toInt = 2 := (by decide)
      have hz : p0.toInt = 0 ∨ p0.toInt = 1 ∨ p0.toInt = 2 := by omega
      rcases hz with hz | hz | hz
      · exact Or.inl (Int32.toInt_inj.mp (hz.trans (by decide)))
      · exact Or.inr (Or.inl (Int32.toInt_inj.mp (hz.trans (by decide))))
      · exact Or.inr (Or.inr ((Int32.toInt_inj.mp (hz.trans (by decide)))))
    rcases hq with rfl | rfl | rfl
    · skip
      refine lv_imul hx hb dX9_image_26 ?_
      refine wt_c (v := 0) (by decide) ?_
      refine lv_iload_n hx hb dX9_image_27 rfl (lv_at hl 0 rfl) ?_
      refine lv_iadd hx hb dX9_image_28 ?_
      refine wt_c (v := 0) (by decide) ?_
      refine lv_aload_n hx hb dX9_image_29 rfl (lv_at hl 1 rfl) ?_
      refine va_get (D := (dC, dI)) (ci := 8) (v := .ref (r 25)) (C := RX9) (T := TX9) (N := 62) hx hb hG inX9 hown hK hP 0 rfl rfl 42 (by decide) (hG _ gw1213) (fun _ h9 => h9) rfl dX9_image_30 ?_
      refine lv_iload_n hx hb dX9_image_33 rfl (lv_at hl 0 rfl) ?_
      refine va_iald hx hb hK hP 1 0 rfl rfl (vin (by decide)) dX9_image_34 ?_
      refine lv_topi (fun x12 ex12 => ?_)
      refine va_iast hx hb hK hP hD hS 2 1 rfl rfl (vin (by decide)) dX9_image_35 (fun H13 locs hP hD hS => ?_)
      obtain ⟨zf14, ezf14⟩ : ∃ z : Nat → Int32, z = upd (fun _ => 0) (0 : Int32).toNatClampNeg x12 := ⟨_, rfl⟩
      have hP : va_P (dC, dI) vwCl [(r 0, .inr (8, [.ref (r 1), .ref (r 2), .int 0, .int 0, .int 0, .int (-1), .int 0, .int 0, .int 0, .int 0, .long 0, .ref (r 3), .ref (r 4), .ref (r 5), .ref (r 6), .ref (r 7), .ref (r 8), .ref (r 9), .ref (r 10), .ref (r 11), .ref (r 12), .ref (r 13), .ref (r 14), .ref (r 15), .ref (r 16), .ref (r 17), .ref (r 18), .ref (r 19), .ref (r 20), .ref (r 21), .ref (r 22), .ref (r 23), .ref (r 24), .int 0, .int 0, .int 0, .int 0, .int 0, .int 0, .int 0, .int 0, .int 0, .ref (r 25), .ref (r 26), .ref (r 27), .int 0, .int 0, .ref (r 28), .int 0, .ref (r 29), .ref (r 30), .ref (r 31), .ref (r 32), .ref (r 33), .ref (r 34), .ref (r 35), .ref (r 36), .int 0, .int 0, .int 0, .ref (r 37), .ref (r 38)])), (r 25, .inl ((c 25), 26, .inl f25)), (r 37, .inl ((c 37), 78, .inl zf14)), (r 38, .inl ((c 38), 3, .inl f38))] H13 := by rw [ezf14]; exact hP
      have hD : va_D A [(r 0, .inr (8, [.ref (r 1), .ref (r 2), .int 0, .int 0, .int 0, .int (-1), .int 0, .int 0, .int 0, .int 0, .long 0, .ref (r 3), .ref (r 4), .ref (r 5), .ref (r 6), .ref (r 7), .ref (r 8), .ref (r 9), .ref (r 10), .ref (r 11), .ref (r 12), .ref (r 13), .ref (r 14), .ref (r 15), .ref (r 16), .ref (r 17), .ref (r 18), .ref (r 19), .ref (r 20), .ref (r 21), .ref (r 22), .ref (r 23), .ref (r 24), .int 0, .int 0, .int 0, .int 0, .int 0, .int 0, .int 0, .int 0, .int 0, .ref (r 25), .ref (r 26), .ref (r 27), .int 0, .int 0, .ref (r 28), .int 0, .ref (r 29), .ref (r 30), .ref (r 31), .ref (r 32), .ref (r 33), .ref (r 34), .ref (r 35), .ref (r 36), .int 0, .int 0, .int 0, .ref (r 37), .ref (r 38)])), (r 25, .inl ((c 25), 26, .inl f25)), (r 37, .inl ((c 37), 78, .inl zf14)), (r 38, .inl ((c 38), 3, .inl f38))] := by rw [ezf14]; exact hD
      refine lv_iinc (v := 1) (lv' := [(2, .int 1), (0, .ref (r 0)), (1, .int 0)]) hx hb dX9_image_36 hl (k := 0) rfl (by decide) (by decide) rfl (fun ls hl => ?_)
      refine lv_goto (tgt := 13) hx hb dX9_image_39 (by decide) ?_
      refine lv_iload_n hx hb dX9_image_13 rfl (lv_at hl 0 rfl) ?_
      refine lv_bipush (v := 26) hx hb dX9_image_14 (by decide) ?_
      refine lv_icmp_ge (tgt := 42) hx hb dX9_image_16 (by decide) (fun c_15 => absurd c_15 (by decide)) (fun c_15 => ?_)
      refine lv_aload_n hx hb dX9_image_19 rfl (lv_at hl 1 rfl) ?_
      refine va_get (D := (dC, dI)) (ci := 8) (v := .ref (r 37)) (C := RX9) (T := TX9) (N := 62) hx hb hG inX9 hown hK hP 0 rfl rfl 60 (by decide) (hG _ gw1231) (fun _ h9 => h9) rfl dX9_image_20 ?_
      refine lv_bipush (v := 26) hx hb dX9_image_23 (by decide) ?_
      refine lv_iload_n hx hb dX9_image_25 rfl (lv_at hl 2 rfl) ?_
      refine lv_imul hx hb dX9_image_26 ?_
      refine wt_c (v := 0) (by decide) ?_
      refine lv_iload_n hx hb dX9_image_27 rfl (lv_at hl 0 rfl) ?_
      refine lv_iadd hx hb dX9_image_28 ?_
      refine wt_c (v := 1) (by decide) ?_
      refine lv_aload_n hx hb dX9_image_29 rfl (lv_at hl 1 rfl) ?_
      refine va_get (D := (dC, dI)) (ci := 8) (v := .ref (r 25)) (C := RX9) (T := TX9) (N := 62) hx hb hG inX9 hown hK hP 0 rfl rfl 42 (by decide) (hG _ gw1213) (fun _ h9 => h9) rfl dX9_image_30 ?_
      refine lv_iload_n hx hb dX9_image_33 rfl (lv_at hl 0 rfl) ?_
      refine va_iald hx hb hK hP 1 0 rfl rfl (vin (by decide)) dX9_image_34 ?_
      refine lv_topi (fun x16 ex16 => ?_)
      refine va_iast hx hb hK hP hD hS 2 1 rfl rfl (vin (by decide)) dX9_image_35 (fun H17 locs hP hD hS => ?_)
      obtain ⟨zf18, ezf18⟩ : ∃ z : Nat → Int32, z = upd zf14 (1 : Int32).toNatClampNeg x16 := ⟨_, rfl⟩
      have hP : va_P (dC, dI) vwCl [(r 0, .inr (8, [.ref (r 1), .ref (r 2), .int 0, .int 0, .int 0, .int (-1), .int 0, .int 0, .int 0, .int 0, .long 0, .ref (r 3), .ref (r 4), .ref (r 5), .ref (r 6), .ref (r 7), .ref (r 8), .ref (r 9), .ref (r 10), .ref (r 11), .ref (r 12), .ref (r 13), .ref (r 14), .ref (r 15), .ref (r 16), .ref (r 17), .ref (r 18), .ref (r 19), .ref (r 20), .ref (r 21), .ref (r 22), .ref (r 23), .ref (r 24), .int 0, .int 0, .int 0, .int 0, .int 0, .int 0, .int 0, .int 0, .int 0, .ref (r 25), .ref (r 26), .ref (r 27), .int 0, .int 0, .ref (r 28), .int 0, .ref (r 29), .ref (r 30), .ref (r 31), .ref (r 32), .ref (r 33), .ref (r 34), .ref (r 35), .ref (r 36), .int 0, .int 0, .int 0, .ref (r 37), .ref (r 38)])), (r 25, .inl ((c 25), 26, .inl f25)), (r 37, .inl ((c 37), 78, .inl zf18)), (r 38, .inl ((c 38), 3, .inl f38))] H17 := by rw [ezf18]; exact hP
      have hD : va_D A [(r 0, .inr (8, [.ref (r 1), .ref (r 2), .int 0, .int 0, .int 0, .int (-1), .int 0, .int 0, .int 0, .int 0, .long 0, .ref (r 3), .ref (r 4), .ref (r 5), .ref (r 6), .ref (r 7), .ref (r 8), .ref (r 9), .ref (r 10), .ref (r 11), .ref (r 12), .ref (r 13), .ref (r 14), .ref (r 15), .ref (r 16), .ref (r 17), .ref (r 18), .ref (r 19), .ref (r 20), .ref (r 21), .ref (r 22), .ref (r 23), .ref (r 24), .int 0, .int 0, .int 0, .int 0, .int 0, .int 0, .int 0, .int 0, .int 0, .ref (r 25), .ref (r 26), .ref (r 27), .int 0, .int 0, .ref (r 28), .int 0, .ref (r 29), .ref (r 30), .ref (r 31), .ref (r 32), .ref (r 33), .ref (r 34), .ref (r 35), .ref (r 36), .int 0, .int 0, .int 0, .ref (r 37), .ref (r 38)])), (r 25, .inl ((c 25), 26, .inl f25)), (r 37, .inl ((c 37), 78, .inl zf18)), (r 38, .inl ((c 38), 3, .inl f38))] := by rw [ezf18]; exact hD
      refine lv_iinc (v := 2) (lv' := [(2, .int 2), (0, .ref (r 0)), (1, .int 0)]) hx hb dX9_image_36 hl (k := 0) rfl (by decide) (by decide) rfl (fun ls hl => ?_)
      refine lv_goto (tgt := 13) hx hb dX9_image_39 (by decide) ?_
      refine lv_iload_n hx hb dX9_image_13 rfl (lv_at hl 0 rfl) ?_
      refine lv_bipush (v := 26) hx hb dX9_image_14 (by decide) ?_
      refine lv_icmp_ge (tgt := 42) hx hb dX9_image_16 (by decide) (fun c_19 => absurd c_19 (by decide)) (fun c_19 => ?_)
      refine lv_aload_n hx hb dX9_image_19 rfl (lv_at hl 1 rfl) ?_
      refine va_get (D := (dC, dI)) (ci := 8) (v := .ref (r 37)) (C := RX9) (T := TX9) (N := 62) hx hb hG inX9 hown hK hP 0 rfl rfl 60 (by decide) (hG _ gw1231) (fun _ h9 => h9) rfl dX9_image_20 ?_
      refine lv_bipush (v := 26) hx hb dX9_image_23 (by decide) ?_
      refine lv_iload_n hx hb dX9_image_25 rfl (lv_at hl 2 rfl) ?_
      refine lv_imul hx hb dX9_image_26 ?_
      refine wt_c (v := 0) (by decide) ?_
      refine lv_iload_n hx hb dX9_image_27 rfl (lv_at hl 0 rfl) ?_
      refine lv_iadd hx hb dX9_image_28 ?_
      refine wt_c (v := 2) (by decide) ?_
      refine lv_aload_n hx hb dX9_image_29 rfl (lv_at hl 1 rfl) ?_
      refine va_get (D := (dC, dI)) (ci := 8) (v := .ref (r 25)) (C := RX9) (T := TX9) (N := 62) hx hb hG inX9 hown hK hP 0 rfl rfl 42 (by decide) (hG _ gw1213) (fun _ h9 => h9) rfl dX9_image_30 ?_
      refine lv_iload_n hx hb dX9_image_33 rfl (lv_at hl 0 rfl) ?_
      refine va_iald hx hb hK hP 1 0 rfl rfl (vin (by decide)) dX9_image_34 ?_
      refine lv_topi (fun x20 ex20 => ?_)
      refine va_iast hx hb hK hP hD hS 2 1 rfl rfl (vin (by decide)) dX9_image_35 (fun H21 locs hP hD hS => ?_)
      obtain ⟨zf22, ezf22⟩ : ∃ z : Nat → Int32, z = upd zf18 (2 : Int32).toNatClampNeg x20 := ⟨_, rfl⟩
      have hP : va_P (dC, dI) vwCl [(r 0, .inr (8, [.ref (r 1), .ref (r 2), .int 0, .int 0, .int 0, .int (-1), .int 0, .int 0, .int 0, .int 0, .long 0, .ref (r 3), .ref (r 4), .ref (r 5), .ref (r 6), .ref (r 7), .ref (r 8), .ref (r 9), .ref (r 10), .ref (r 11), .ref (r 12), .ref (r 13), .ref (r 14), .ref (r 15), .ref (r 16), .ref (r 17), .ref (r 18), .ref (r 19), .ref (r 20), .ref (r 21), .ref (r 22), .ref (r 23), .ref (r 24), .int 0, .int 0, .int 0, .int 0, .int 0, .int 0, .int 0, .int 0, .int 0, .ref (r 25), .ref (r 26), .ref (r 27), .int 0, .int 0, .ref (r 28), .int 0, .ref (r 29), .ref (r 30), .ref (r 31), .ref (r 32), .ref (r 33), .ref (r 34), .ref (r 35), .ref (r 36), .int 0, .int 0, .int 0, .ref (r 37), .ref (r 38)])), (r 25, .inl ((c 25), 26, .inl f25)), (r 37, .inl ((c 37), 78, .inl zf22)), (r 38, .inl ((c 38), 3, .inl f38))] H21 := by rw [ezf22]; exact hP
      have hD : va_D A [(r 0, .inr (8, [.ref (r 1), .ref (r 2), .int 0, .int 0, .int 0, .int (-1), .int 0, .int 0, .int 0, .int 0, .long 0, .ref (r 3), .ref (r 4), .ref (r 5), .ref (r 6), .ref (r 7), .ref (r 8), .ref (r 9), .ref (r 10), .ref (r 11), .ref (r 12), .ref (r 13), .ref (r 14), .ref (r 15), .ref (r 16), .ref (r 17), .ref (r 18), .ref (r 19), .ref (r 20), .ref (r 21), .ref (r 22), .ref (r 23), .ref (r 24), .int 0, .int 0, .int 0, .int 0, .int 0, .int 0, .int 0, .int 0, .int 0, .ref (r 25), .ref (r 26), .ref (r 27), .int 0, .int 0, .ref (r 28), .int 0, .ref (r 29), .ref (r 30), .ref (r 31), .ref (r 32), .ref (r 33), .ref (r 34), .ref (r 35), .ref (r 36), .int 0, .int 0, .int 0, .ref (r 37), .ref (r 38)])), (r 25, .inl ((c 25), 26, .inl f25)), (r 37, .inl ((c 37), 78, .inl zf22)), (r 38, .inl ((c 38), 3, .inl f38))] := by rw [ezf22]; exact hD
      refine lv_iinc (v := 3) (lv' := [(2, .int 3), (0, .ref (r 0)), (1, .int 0)]) hx hb dX9_image_36 hl (k := 0) rfl (by decide) (by decide) rfl (fun ls hl => ?_)
      refine lv_goto (tgt := 13) hx hb dX9_image_39 (by decide) ?_
      refine lv_iload_n hx hb dX9_image_13 rfl (lv_at hl 0 rfl) ?_
      refine lv_bipush (v := 26) hx hb dX9_image_14 (by decide) ?_
      refine lv_icmp_ge (tgt := 42) hx hb dX9_image_16 (by decide) (fun c_23 => absurd c_23 (by decide)) (fun c_23 => ?_)
      refine lv_aload_n hx hb dX9_image_19 rfl (lv_at hl 1 rfl) ?_
      refine va_get (D := (dC, dI)) (ci := 8) (v := .ref (r 37)) (C := RX9) (T := TX9) (N := 62) hx hb hG inX9 hown hK hP 0 rfl rfl 60 (by decide) (hG _ gw1231) (fun _ h9 => h9) rfl dX9_image_20 ?_
      refine lv_bipush (v := 26) hx hb dX9_image_23 (by decide) ?_
      refine lv_iload_n hx hb dX9_image_25 rfl (lv_at hl 2 rfl) ?_
      refine lv_imul hx hb dX9_image_26 ?_
      refine wt_c (v := 0) (by decide) ?_
      refine lv_iload_n hx hb dX9_image_27 rfl (lv_at hl 0 rfl) ?_
      refine lv_iadd hx hb dX9_image_28 ?_
      refine wt_c (v := 3) (by decide) ?_
      refine lv_aload_n hx hb dX9_image_29 rfl (lv_at hl 1 rfl) ?_
      refine va_get (D := (dC, dI)) (ci := 8) (v := .ref (r 25)) (C := RX9) (T := TX9) (N := 62) hx hb hG inX9 hown hK hP 0 rfl rfl 42 (by decide) (hG _ gw1213) (fun _ h9 => h9) rfl dX9_image_30 ?_
      refine lv_iload_n hx hb dX9_image_33 rfl (lv_at hl 0 rfl) ?_
      refine va_iald hx hb hK hP 1 0 rfl rfl (vin (by decide)) dX9_image_34 ?_
      refine lv_topi (fun x24 ex24 => ?_)
      refine va_iast hx hb hK hP hD hS 2 1 rfl rfl (vin (by decide)) dX9_image_35 (fun H25 locs hP hD hS => ?_)
      obtain ⟨zf26, ezf26⟩ : ∃ z : Nat → Int32, z = upd zf22 (3 : Int32).toNatClampNeg x24 := ⟨_, rfl⟩
      have hP : va_P (dC, dI) vwCl [(r 0, .inr (8, [.ref (r 1), .ref (r 2), .int 0, .int 0, .int 0, .int (-1), .int 0, .int 0, .int 0, .int 0, .long 0, .ref (r 3), .ref (r 4), .ref (r 5), .ref (r 6), .ref (r 7), .ref (r 8), .ref (r 9), .ref (r 10), .ref (r 11), .ref (r 12), .ref (r 13), .ref (r 14), .ref (r 15), .ref (r 16), .ref (r 17), .ref (r 18), .ref (r 19), .ref (r 20), .ref (r 21), .ref (r 22), .ref (r 23), .ref (r 24), .int 0, .int 0, .int 0, .int 0, .int 0, .int 0, .int 0, .int 0, .int 0, .ref (r 25), .ref (r 26), .ref (r 27), .int 0, .int 0, .ref (r 28), .int 0, .ref (r 29), .ref (r 30), .ref (r 31), .ref (r 32), .ref (r 33), .ref (r 34), .ref (r 35), .ref (r 36), .int 0, .int 0, .int 0, .ref (r 37), .ref (r 38)])), (r 25, .inl ((c 25), 26, .inl f25)), (r 37, .inl ((c 37), 78, .inl zf26)), (r 38, .inl ((c 38), 3, .inl f38))] H25 := by rw [ezf26]; exact hP
      have hD : va_D A [(r 0, .inr (8, [.ref (r 1), .ref (r 2), .int 0, .int 0, .int 0, .int (-1), .int 0, .int 0, .int 0, .int 0, .long 0, .ref (r 3), .ref (r 4), .ref (r 5), .ref (r 6), .ref (r 7), .ref (r 8), .ref (r 9), .ref (r 10), .ref (r 11), .ref (r 12), .ref (r 13), .ref (r 14), .ref (r 15), .ref (r 16), .ref (r 17), .ref (r 18), .ref (r 19), .ref (r 20), .ref (r 21), .ref (r 22), .ref (r 23), .ref (r 24), .int 0, .int 0, .int 0, .int 0, .int 0, .int 0, .int 0, .int 0, .int 0, .ref (r 25), .ref (r 26), .ref (r 27), .int 0, .int 0, .ref (r 28), .int 0, .ref (r 29), .ref (r 30), .ref (r 31), .ref (r 32), .ref (r 33), .ref (r 34), .ref (r 35), .ref (r 36), .int 0, .int 0, .int 0, .ref (r 37), .ref (r 38)])), (r 25, .inl ((c 25), 26, .inl f25)), (r 37, .inl ((c 37), 78, .inl zf26)), (r 38, .inl ((c 38), 3, .inl f38))] := by rw [ezf26]; exact hD
      refine lv_iinc (v := 4) (lv' := [(2, .int 4), (0, .ref (r 0)), (1, .int 0)]) hx hb dX9_image_36 hl (k := 0) rfl (by decide) (by decide) rfl (fun ls hl => ?_)
      refine lv_goto (tgt := 13) hx hb dX9_image_39 (by decide) ?_
      refine lv_iload_n hx hb dX9_image_13 rfl (lv_at hl 0 rfl) ?_
      refine lv_bipush (v := 26) hx hb dX9_image_14 (by decide) ?_
      refine lv_icmp_ge (tgt := 42) hx hb dX9_image_16 (by decide) (fun c_27 => absurd c_27 (by decide)) (fun c_27 => ?_)
      refine lv_aload_n hx hb dX9_image_19 rfl (lv_at hl 1 rfl) ?_
      refine va_get (D := (dC, dI)) (ci := 8) (v := .ref (r 37)) (C := RX9) (T := TX9) (N := 62) hx hb hG inX9 hown hK hP 0 rfl rfl 60 (by decide) (hG _ gw1231) (fun _ h9 => h9) rfl dX9_image_20 ?_
      refine lv_bipush (v := 26) hx hb dX9_image_23 (by decide) ?_
      refine lv_iload_n hx hb dX9_image_25 rfl (lv_at hl 2 rfl) ?_
      refine lv_imul hx hb dX9_image_26 ?_
      refine wt_c (v := 0) (by decide) ?_
      refine lv_iload_n hx hb dX9_image_27 rfl (lv_at hl 0 rfl) ?_
      refine lv_iadd hx hb dX9_image_28 ?_
      refine wt_c (v := 4) (by decide) ?_
      refine lv_aload_n hx hb dX9_image_29 rfl (lv_at hl 1 rfl) ?_
      refine va_get (D := (dC, dI)) (ci := 8) (v := .ref (r 25)) (C := RX9) (T := TX9) (N := 62) hx hb hG inX9 hown hK hP 0 rfl rfl 42 (by decide) (hG _ gw1213) (fun _ h9 => h9) rfl dX9_image_30 ?_
      refine lv_iload_n hx hb dX9_image_33 rfl (lv_at hl 0 rfl) ?_
      refine va_iald hx hb hK hP 1 0 rfl rfl (vin (by decide)) dX9_image_34 ?_
      refine lv_topi (fun x28 ex28 => ?_)
      refine va_iast hx hb hK hP hD hS 2 1 rfl rfl (vin (by decide)) dX9_image_35 (fun H29 locs hP hD hS => ?_)
      obtain ⟨zf30, ezf30⟩ : ∃ z : Nat → Int32, z = upd zf26 (4 : Int32).toNatClampNeg x28 := ⟨_, rfl⟩
      have hP : va_P (dC, dI) vwCl [(r 0, .inr (8, [.ref (r 1), .ref (r 2), .int 0, .int 0, .int 0, .int (-1), .int 0, .int 0, .int 0, .int 0, .long 0, .ref (r 3), .ref (r 4), .ref (r 5), .ref (r 6), .ref (r 7), .ref (r 8), .ref (r 9), .ref (r 10), .ref (r 11), .ref (r 12), .ref (r 13), .ref (r 14), .ref (r 15), .ref (r 16), .ref (r 17), .ref (r 18), .ref (r 19), .ref (r 20), .ref (r 21), .ref (r 22), .ref (r 23), .ref (r 24), .int 0, .int 0, .int 0, .int 0, .int 0, .int 0, .int 0, .int 0, .int 0, .ref (r 25), .ref (r 26), .ref (r 27), .int 0, .int 0, .ref (r 28), .int 0, .ref (r 29), .ref (r 30), .ref (r 31), .ref (r 32), .ref (r 33), .ref (r 34), .ref (r 35), .ref (r 36), .int 0, .int 0, .int 0, .ref (r 37), .ref (r 38)])), (r 25, .inl ((c 25), 26, .inl f25)), (r 37, .inl ((c 37), 78, .inl zf30)), (r 38, .inl ((c 38), 3, .inl f38))] H29 := by rw [ezf30]; exact hP
      have hD : va_D A [(r 0, .inr (8, [.ref (r 1), .ref (r 2), .int 0, .int 0, .int 0, .int (-1), .int 0, .int 0, .int 0, .int 0, .long 0, .ref (r 3), .ref (r 4), .ref (r 5), .ref (r 6), .ref (r 7), .ref (r 8), .ref (r 9), .ref (r 10), .ref (r 11), .ref (r 12), .ref (r 13), .ref (r 14), .ref (r 15), .ref (r 16), .ref (r 17), .ref (r 18), .ref (r 19), .ref (r 20), .ref (r 21), .ref (r 22), .ref (r 23), .ref (r 24), .int 0, .int 0, .int 0, .int 0, .int 0, .int 0, .int 0, .int 0, .int 0, .ref (r 25), .ref (r 26), .ref (r 27), .int 0, .int 0, .ref (r 28), .int 0, .ref (r 29), .ref (r 30), .ref (r 31), .ref (r 32), .ref (r 33), .ref (r 34), .ref (r 35), .ref (r 36), .int 0, .int 0, .int 0, .ref (r 37), .ref (r 38)])), (r 25, .inl ((c 25), 26, .inl f25)), (r 37, .inl ((c 37), 78, .inl zf30)), (r 38, .inl ((c 38), 3, .inl f38))] := by rw [ezf30]; exact hD
      refine lv_iinc (v := 5) (lv' := [(2, .int 5), (0, .ref (r 0)), (1, .int 0)]) hx hb dX9_image_36 hl (k := 0) rfl (by decide) (by decide) rfl (fun ls hl => ?_)
      refine lv_goto (tgt := 13) hx hb dX9_image_39 (by decide) ?_
      refine lv_iload_n hx hb dX9_image_13 rfl (lv_at hl 0 rfl) ?_
      refine lv_bipush (v := 26) hx hb dX9_image_14 (by decide) ?_
      refine lv_icmp_ge (tgt := 42) hx hb dX9_image_16 (by decide) (fun c_31 => absurd c_31 (by decide)) (fun c_31 => ?_)
      refine lv_aload_n hx hb dX9_image_19 rfl (lv_at hl 1 rfl) ?_
      refine va_get (D := (dC, dI)) (ci := 8) (v := .ref (r 37)) (C := RX9) (T := TX9) (N := 62) hx hb hG inX9 hown hK hP 0 rfl rfl 60 (by decide) (hG _ gw1231) (fun _ h9 => h9) rfl dX9_image_20 ?_
      refine lv_bipush (v := 26) hx hb dX9_image_23 (by decide) ?_
      refine lv_iload_n hx hb dX9_image_25 rfl (lv_at hl 2 rfl) ?_
      refine lv_imul hx hb dX9_image_26 ?_
      refine wt_c (v := 0) (by decide) ?_
      refine lv_iload_n hx hb dX9_image_27 rfl (lv_at hl 0 rfl) ?_
      refine lv_iadd hx hb dX9_image_28 ?_
      refine wt_c (v := 5) (by decide) ?_
      refine lv_aload_n hx hb dX9_image_29 rfl (lv_at hl 1 rfl) ?_
      refine va_get (D := (dC, dI)) (ci := 8) (v := .ref (r 25)) (C := RX9) (T := TX9) (N := 62) hx hb hG inX9 hown hK hP 0 rfl rfl 42 (by decide) (hG _ gw1213) (fun _ h9 => h9) rfl dX9_image_30 ?_
      refine lv_iload_n hx hb dX9_image_33 rfl (lv_at hl 0 rfl) ?_
      refine va_iald hx hb hK hP 1 0 rfl rfl (vin (by decide)) dX9_image_34 ?_
      refine lv_topi (fun x32 ex32 => ?_)
      refine va_iast hx hb hK hP hD hS 2 1 rfl rfl (vin (by decide)) dX9_image_35 (fun H33 locs hP hD hS => ?_)
      obtain ⟨zf34, ezf34⟩ : ∃ z : Nat → Int32, z = upd zf30 (5 : Int32).toNatClampNeg x32 := ⟨_, rfl⟩
      have hP : va_P (dC, dI) vwCl [(r 0, .inr (8, [.ref (r 1), .ref (r 2), .int 0, .int 0, .int 0, .int (-1), .int 0, .int 0, .int 0, .int 0, .long 0, .ref (r 3), .ref (r 4), .ref (r 5), .ref (r 6), .ref (r 7), .ref (r 8), .ref (r 9), .ref (r 10), .ref (r 11), .ref (r 12), .ref (r 13), .ref (r 14), .ref (r 15), .ref (r 16), .ref (r 17), .ref (r 18), .ref (r 19), .ref (r 20), .ref (r 21), .ref (r 22), .ref (r 23), .ref (r 24), .int 0, .int 0, .int 0, .int 0, .int 0, .int 0, .int 0, .int 0, .int 0, .ref (r 25), .ref (r 26), .ref (r 27), .int 0, .int 0, .ref (r 28), .int 0, .ref (r 29), .ref (r 30), .ref (r 31), .ref (r 32), .ref (r 33), .ref (r 34), .ref (r 35), .ref (r 36), .int 0, .int 0, .int 0, .ref (r 37), .ref (r 38)])), (r 25, .inl ((c 25), 26, .inl f25)), (r 37, .inl ((c 37), 78, .inl zf34)), (r 38, .inl ((c 38), 3, .inl f38))] H33 := by rw [ezf34]; exact hP
      have hD : va_D A [(r 0, .inr (8, [.ref (r 1), .ref (r 2), .int 0, .int 0, .int 0, .int (-1), .int 0, .int 0, .int 0, .int 0, .long 0, .ref (r 3), .ref (r 4), .ref (r 5), .ref (r 6), .ref (r 7), .ref (r 8), .ref (r 9), .ref (r 10), .ref (r 11), .ref (r 12), .ref (r 13), .ref (r 14), .ref (r 15), .ref (r 16), .ref (r 17), .ref (r 18), .ref (r 19), .ref (r 20), .ref (r 21), .ref (r 22), .ref (r 23), .ref (r 24), .int 0, .int 0, .int 0, .int 0, .int 0, .int 0, .int 0, .int 0, .int 0, .ref (r 25), .ref (r 26), .ref (r 27), .int 0, .int 0, .ref (r 28), .int 0, .ref (r 29), .ref (r 30), .ref (r 31), .ref (r 32), .ref (r 33), .ref (r 34), .ref (r 35), .ref (r 36), .int 0, .int 0, .int 0, .ref (r 37), .ref (r 38)])), (r 25, .inl ((c 25), 26, .inl f25)), (r 37, .inl ((c 37), 78, .inl zf34)), (r 38, .inl ((c 38), 3, .inl f38))] := by rw [ezf34]; exact hD
      refine lv_iinc (v := 6) (lv' := [(2, .int 6), (0, .ref (r 0)), (1, .int 0)]) hx hb dX9_image_36 hl (k := 0) rfl (by decide) (by decide) rfl (fun ls hl => ?_)
      refine lv_goto (tgt := 13) hx hb dX9_image_39 (by decide) ?_
      refine lv_iload_n hx hb dX9_image_13 rfl (lv_at hl 0 rfl) ?_
      refine lv_bipush (v := 26) hx hb dX9_image_14 (by decide) ?_
      refine lv_icmp_ge (tgt := 42) hx hb dX9_image_16 (by decide) (fun c_35 => absurd c_35 (by decide)) (fun c_35 => ?_)
      refine lv_aload_n hx hb dX9_image_19 rfl (lv_at hl 1 rfl) ?_
      refine va_get (D := (dC, dI)) (ci := 8) (v := .ref (r 37)) (C := RX9) (T := TX9) (N := 62) hx hb hG inX9 hown hK hP 0 rfl rfl 60 (by decide) (hG _ gw1231) (fun _ h9 => h9) rfl dX9_image_20 ?_
      refine lv_bipush (v := 26) hx hb dX9_image_23 (by decide) ?_
      refine lv_iload_n hx hb dX9_image_25 rfl (lv_at hl 2 rfl) ?_
      refine lv_imul hx hb dX9_image_26 ?_
      refine wt_c (v := 0) (by decide) ?_
      refine lv_iload_n hx hb dX9_image_27 rfl (lv_at hl 0 rfl) ?_
      refine lv_iadd hx hb dX9_image_28 ?_
      refine wt_c (v := 6) (by decide) ?_
      refine lv_aload_n hx hb dX9_image_29 rfl (lv_at hl 1 rfl) ?_
      refine va_get (D := (dC, dI)) (ci := 8) (v := .ref (r 25)) (C := RX9) (T := TX9) (N := 62) hx hb hG inX9 hown hK hP 0 rfl rfl 42 (by decide) (hG _ gw1213) (fun _ h9 => h9) rfl dX9_image_30 ?_
      refine lv_iload_n hx hb dX9_image_33 rfl (lv_at hl 0 rfl) ?_
      refine va_iald hx hb hK hP 1 0 rfl rfl (vin (by decide)) dX9_image_34 ?_
      refine lv_topi (fun x36 ex36 => ?_)
      refine va_iast hx hb hK hP hD hS 2 1 rfl rfl (vin (by decide)) dX9_image_35 (fun H37 locs hP hD hS => ?_)
      obtain ⟨zf38, ezf38⟩ : ∃ z : Nat → Int32, z = upd zf34 (6 : Int32).toNatClampNeg x36 := ⟨_, rfl⟩
      have hP : va_P (dC, dI) vwCl [(r 0, .inr (8, [.ref (r 1), .ref (r 2), .int 0, .int 0, .int 0, .int (-1), .int 0, .int 0, .int 0, .int 0, .long 0, .ref (r 3), .ref (r 4), .ref (r 5), .ref (r 6), .ref (r 7), .ref (r 8), .ref (r 9), .ref (r 10), .ref (r 11), .ref (r 12), .ref (r 13), .ref (r 14), .ref (r 15), .ref (r 16), .ref (r 17), .ref (r 18), .ref (r 19), .ref (r 20), .ref (r 21), .ref (r 22), .ref (r 23), .ref (r 24), .int 0, .int 0, .int 0, .int 0, .int 0, .int 0, .int 0, .int 0, .int 0, .ref (r 25), .ref (r 26), .ref (r 27), .int 0, .int 0, .ref (r 28), .int 0, .ref (r 29), .ref (r 30), .ref (r 31), .ref (r 32), .ref (r 33), .ref (r 34), .ref (r 35), .ref (r 36), .int 0, .int 0, .int 0, .ref (r 37), .ref (r 38)])), (r 25, .inl ((c 25), 26, .inl f25)), (r 37, .inl ((c 37), 78, .inl zf38)), (r 38, .inl ((c 38), 3, .inl f38))] H37 := by rw [ezf38]; exact hP
      have hD : va_D A [(r 0, .inr (8, [.ref (r 1), .ref (r 2), .int 0, .int 0, .int 0, .int (-1), .int 0, .int 0, .int 0, .int 0, .long 0, .ref (r 3), .ref (r 4), .ref (r 5), .ref (r 6), .ref (r 7), .ref (r 8), .ref (r 9), .ref (r 10), .ref (r 11), .ref (r 12), .ref (r 13), .ref (r 14), .ref (r 15), .ref (r 16), .ref (r 17), .ref (r 18), .ref (r 19), .ref (r 20), .ref (r 21), .ref (r 22), .ref (r 23), .ref (r 24), .int 0, .int 0, .int 0, .int 0, .int 0, .int 0, .int 0, .int 0, .int 0, .ref (r 25), .ref (r 26), .ref (r 27), .int 0, .int 0, .ref (r 28), .int 0, .ref (r 29), .ref (r 30), .ref (r 31), .ref (r 32), .ref (r 33), .ref (r 34), .ref (r 35), .ref (r 36), .int 0, .int 0, .int 0, .ref (r 37), .ref (r 38)])), (r 25, .inl ((c 25), 26, .inl f25)), (r 37, .inl ((c 37), 78, .inl zf38)), (r 38, .inl ((c 38), 3, .inl f38))] := by rw [ezf38]; exact hD
      refine lv_iinc (v := 7) (lv' := [(2, .int 7), (0, .ref (r 0)), (1, .int 0)]) hx hb dX9_image_36 hl (k := 0) rfl (by decide) (by decide) rfl (fun ls hl => ?_)
      refine lv_goto (tgt := 13) hx hb dX9_image_39 (by decide) ?_
      refine lv_iload_n hx hb dX9_image_13 rfl (lv_at hl 0 rfl) ?_
      refine lv_bipush (v := 26) hx hb dX9_image_14 (by decide) ?_
      refine lv_icmp_ge (tgt := 42) hx hb dX9_image_16 (by decide) (fun c_39 => absurd c_39 (by decide)) (fun c_39 => ?_)
      refine lv_aload_n hx hb dX9_image_19 rfl (lv_at hl 1 rfl) ?_
      refine va_get (D := (dC, dI)) (ci := 8) (v := .ref (r 37)) (C := RX9) (T := TX9) (N := 62) hx hb hG inX9 hown hK hP 0 rfl rfl 60 (by decide) (hG _ gw1231) (fun _ h9 => h9) rfl dX9_image_20 ?_
      refine lv_bipush (v := 26) hx hb dX9_image_23 (by decide) ?_
      refine lv_iload_n hx hb dX9_image_25 rfl (lv_at hl 2 rfl) ?_
      refine lv_imul hx hb dX9_image_26 ?_
      refine wt_c (v := 0) (by decide) ?_
      refine lv_iload_n hx hb dX9_image_27 rfl (lv_at hl 0 rfl) ?_
      refine lv_iadd hx hb dX9_image_28 ?_
      refine wt_c (v := 7) (by decide) ?_
      refine lv_aload_n hx hb dX9_image_29 rfl (lv_at hl 1 rfl) ?_
      refine va_get (D := (dC, dI)) (ci := 8) (v := .ref (r 25)) (C := RX9) (T := TX9) (N := 62) hx hb hG inX9 hown hK hP 0 rfl rfl 42 (by decide) (hG _ gw1213) (fun _ h9 => h9) rfl dX9_image_30 ?_
      refine lv_iload_n hx hb dX9_image_33 rfl (lv_at hl 0 rfl) ?_
      refine va_iald hx hb hK hP 1 0 rfl rfl (vin (by decide)) dX9_image_34 ?_
      refine lv_topi (fun x40 ex40 => ?_)
      refine va_iast hx hb hK hP hD hS 2 1 rfl rfl (vin (by decide)) dX9_image_35 (fun H41 locs hP hD hS => ?_)
      obtain ⟨zf42, ezf42⟩ : ∃ z : Nat → Int32, z = upd zf38 (7 : Int32).toNatClampNeg x40 := ⟨_, rfl⟩
      have hP : va_P (dC, dI) vwCl [(r 0, .inr (8, [.ref (r 1), .ref (r 2), .int 0, .int 0, .int 0, .int (-1), .int 0, .int 0, .int 0, .int 0, .long 0, .ref (r 3), .ref (r 4), .ref (r 5), .ref (r 6), .ref (r 7), .ref (r 8), .ref (r 9), .ref (r 10), .ref (r 11), .ref (r 12), .ref (r 13), .ref (r 14), .ref (r 15), .ref (r 16), .ref (r 17), .ref (r 18), .ref (r 19), .ref (r 20), .ref (r 21), .ref (r 22), .ref (r 23), .ref (r 24), .int 0, .int 0, .int 0, .int 0, .int 0, .int 0, .int 0, .int 0, .int 0, .ref (r 25), .ref (r 26), .ref (r 27), .int 0, .int 0, .ref (r 28), .int 0, .ref (r 29), .ref (r 30), .ref (r 31), .ref (r 32), .ref (r 33), .ref (r 34), .ref (r 35), .ref (r 36), .int 0, .int 0, .int 0, .ref (r 37), .ref (r 38)])), (r 25, .inl ((c 25), 26, .inl f25)), (r 37, .inl ((c 37), 78, .inl zf42)), (r 38, .inl ((c 38), 3, .inl f38))] H41 := by rw [ezf42]; exact hP
      have hD : va_D A [(r 0, .inr (8, [.ref (r 1), .ref (r 2), .int 0, .int 0, .int 0, .int (-1), .int 0, .int 0, .int 0, .int 0, .long 0, .ref (r 3), .ref (r 4), .ref (r 5), .ref (r 6), .ref (r 7), .ref (r 8), .ref (r 9), .ref (r 10), .ref (r 11), .ref (r 12), .ref (r 13), .ref (r 14), .ref (r 15), .ref (r 16), .ref (r 17), .ref (r 18), .ref (r 19), .ref (r 20), .ref (r 21), .ref (r 22), .ref (r 23), .ref (r 24), .int 0, .int 0, .int 0, .int 0, .int 0, .int 0, .int 0, .int 0, .int 0, .ref (r 25), .ref (r 26), .ref (r 27), .int 0, .int 0, .ref (r 28), .int 0, .ref (r 29), .ref (r 30), .ref (r 31), .ref (r 32), .ref (r 33), .ref (r 34), .ref (r 35), .ref (r 36), .int 0, .int 0, .int 0, .ref (r 37), .ref (r 38)])), (r 25, .inl ((c 25), 26, .inl f25)), (r 37, .inl ((c 37), 78, .inl zf42)), (r 38, .inl ((c 38), 3, .inl f38))] := by rw [ezf42]; exact hD
      refine lv_iinc (v := 8) (lv' := [(2, .int 8), (0, .ref (r 0)), (1, .int 0)]) hx hb dX9_image_36 hl (k := 0) rfl (by decide) (by decide) rfl (fun ls hl => ?_)
      refine lv_goto (tgt := 13) hx hb dX9_image_39 (by decide) ?_
      refine lv_iload_n hx hb dX9_image_13 rfl (lv_at hl 0 rfl) ?_
      refine lv_bipush (v := 26) hx hb dX9_image_14 (by decide) ?_
      refine lv_icmp_ge (tgt := 42) hx hb dX9_image_16 (by decide) (fun c_43 => absurd c_43 (by decide)) (fun c_43 => ?_)
      refine lv_aload_n hx hb dX9_image_19 rfl (lv_at hl 1 rfl) ?_
      refine va_get (D := (dC, dI)) (ci := 8) (v := .ref (r 37)) (C := RX9) (T := TX9) (N := 62) hx hb hG inX9 hown hK hP 0 rfl rfl 60 (by decide) (hG _ gw1231) (fun _ h9 => h9) rfl dX9_image_20 ?_
      refine lv_bipush (v := 26) hx hb dX9_image_23 (by decide) ?_
      refine lv_iload_n hx hb dX9_image_25 rfl (lv_at hl 2 rfl) ?_
      refine lv_imul hx hb dX9_image_26 ?_
      refine wt_c (v := 0) (by decide) ?_
      refine lv_iload_n hx hb dX9_image_27 rfl (lv_at hl 0 rfl) ?_
      refine lv_iadd hx hb dX9_image_28 ?_
      refine wt_c (v := 8) (by decide) ?_
      refine lv_aload_n hx hb dX9_image_29 rfl (lv_at hl 1 rfl) ?_
      refine va_get (D := (dC, dI)) (ci := 8) (v := .ref (r 25)) (C := RX9) (T := TX9) (N := 62) hx hb hG inX9 hown hK hP 0 rfl rfl 42 (by decide) (hG _ gw1213) (fun _ h9 => h9) rfl dX9_image_30 ?_
      refine lv_iload_n hx hb dX9_image_33 rfl (lv_at hl 0 rfl) ?_
      refine va_iald hx hb hK hP 1 0 rfl rfl (vin (by decide)) dX9_image_34 ?_
      refine lv_topi (fun x44 ex44 => ?_)
      refine va_iast hx hb hK hP hD hS 2 1 rfl rfl (vin (by decide)) dX9_image_35 (fun H45 locs hP hD hS => ?_)
      obtain ⟨zf46, ezf46⟩ : ∃ z : Nat → Int32, z = upd zf42 (8 : Int32).toNatClampNeg x44 := ⟨_, rfl⟩
      have hP : va_P (dC, dI) vwCl [(r 0, .inr (8, [.ref (r 1), .ref (r 2), .int 0, .int 0, .int 0, .int (-1), .int 0, .int 0, .int 0, .int 0, .long 0, .ref (r 3), .ref (r 4), .ref (r 5), .ref (r 6), .ref (r 7), .ref (r 8), .ref (r 9), .ref (r 10), .ref (r 11), .ref (r 12), .ref (r 13), .ref (r 14), .ref (r 15), .ref (r 16), .ref (r 17), .ref (r 18), .ref (r 19), .ref (r 20), .ref (r 21), .ref (r 22), .ref (r 23), .ref (r 24), .int 0, .int 0, .int 0, .int 0, .int 0, .int 0, .int 0, .int 0, .int 0, .ref (r 25), .ref (r 26), .ref (r 27), .int 0, .int 0, .ref (r 28), .int 0, .ref (r 29), .ref (r 30), .ref (r 31), .ref (r 32), .ref (r 33), .ref (r 34), .ref (r 35), .ref (r 36), .int 0, .int 0, .int 0, .ref (r 37), .ref (r 38)])), (r 25, .inl ((c 25), 26, .inl f25)), (r 37, .inl ((c 37), 78, .inl zf46)), (r 38, .inl ((c 38), 3, .inl f38))] H45 := by rw [ezf46]; exact hP
      have hD : va_D A [(r 0, .inr (8, [.ref (r 1), .ref (r 2), .int 0, .int 0, .int 0, .int (-1), .int 0, .int 0, .int 0, .int 0, .long 0, .ref (r 3), .ref (r 4), .ref (r 5), .ref (r 6), .ref (r 7), .ref (r 8), .ref (r 9), .ref (r 10), .ref (r 11), .ref (r 12), .ref (r 13), .ref (r 14), .ref (r 15), .ref (r 16), .ref (r 17), .ref (r 18), .ref (r 19), .ref (r 20), .ref (r 21), .ref (r 22), .ref (r 23), .ref (r 24), .int 0, .int 0, .int 0, .int 0, .int 0, .int 0, .int 0, .int 0, .int 0, .ref (r 25), .ref (r 26), .ref (r 27), .int 0, .int 0, .ref (r 28), .int 0, .ref (r 29), .ref (r 30), .ref (r 31), .ref (r 32), .ref (r 33), .ref (r 34), .ref (r 35), .ref (r 36), .int 0, .int 0, .int 0, .ref (r 37), .ref (r 38)])), (r 25, .inl ((c 25), 26, .inl f25)), (r 37, .inl ((c 37), 78, .inl zf46)), (r 38, .inl ((c 38), 3, .inl f38))] := by rw [ezf46]; exact hD
      refine lv_iinc (v := 9) (lv' := [(2, .int 9), (0, .ref (r 0)), (1, .int 0)]) hx hb dX9_image_36 hl (k := 0) rfl (by decide) (by decide) rfl (fun ls hl => ?_)
      refine lv_goto (tgt := 13) hx hb dX9_image_39 (by decide) ?_
      refine lv_iload_n hx hb dX9_image_13 rfl (lv_at hl 0 rfl) ?_
      refine lv_bipush (v := 26) hx hb dX9_image_14 (by decide) ?_
      refine lv_icmp_ge (tgt := 42) hx hb dX9_image_16 (by decide) (fun c_47 => absurd c_47 (by decide)) (fun c_47 => ?_)
      refine lv_aload_n hx hb dX9_image_19 rfl (lv_at hl 1 rfl) ?_
      refine va_get (D := (dC, dI)) (ci := 8) (v := .ref (r 37)) (C := RX9) (T := TX9) (N := 62) hx hb hG inX9 hown hK hP 0 rfl rfl 60 (by decide) (hG _ gw1231) (fun _ h9 => h9) rfl dX9_image_20 ?_
      refine lv_bipush (v := 26) hx hb dX9_image_23 (by decide) ?_
      refine lv_iload_n hx hb dX9_image_25 rfl (lv_at hl 2 rfl) ?_
      refine lv_imul hx hb dX9_image_26 ?_
      refine wt_c (v := 0) (by decide) ?_
      refine lv_iload_n hx hb dX9_image_27 rfl (lv_at hl 0 rfl) ?_
      refine lv_iadd hx hb dX9_image_28 ?_
      refine wt_c (v := 9) (by decide) ?_
      refine lv_aload_n hx hb dX9_image_29 rfl (lv_at hl 1 rfl) ?_
      refine va_get (D := (dC, dI)) (ci := 8) (v := .ref (r 25)) (C := RX9) (T := TX9) (N := 62) hx hb hG inX9 hown hK hP 0 rfl rfl 42 (by decide) (hG _ gw1213) (fun _ h9 => h9) rfl dX9_image_30 ?_
      refine lv_iload_n hx hb dX9_image_33 rfl (lv_at hl 0 rfl) ?_
      refine va_iald hx hb hK hP 1 0 rfl rfl (vin (by decide)) dX9_image_34 ?_
      refine lv_topi (fun x48 ex48 => ?_)
      refine va_iast hx hb hK hP hD hS 2 1 rfl rfl (vin (by decide)) dX9_image_35 (fun H49 locs hP hD hS => ?_)
      obtain ⟨zf50, ezf50⟩ : ∃ z : Nat → Int32, z = upd zf46 (9 : Int32).toNatClampNeg x48 := ⟨_, rfl⟩
      have hP : va_P (dC, dI) vwCl [(r 0, .inr (8, [.ref (r 1), .ref (r 2), .int 0, .int 0, .int 0, .int (-1), .int 0, .int 0, .int 0, .int 0, .long 0, .ref (r 3), .ref (r 4), .ref (r 5), .ref (r 6), .ref (r 7), .ref (r 8), .ref (r 9), .ref (r 10), .ref (r 11), .ref (r 12), .ref (r 13), .ref (r 14), .ref (r 15), .ref (r 16), .ref (r 17), .ref (r 18), .ref (r 19), .ref (r 20), .ref (r 21), .ref (r 22), .ref (r 23), .ref (r 24), .int 0, .int 0, .int 0, .int 0, .int 0, .int 0, .int 0, .int 0, .int 0, .ref (r 25), .ref (r 26), .ref (r 27), .int 0, .int 0, .ref (r 28), .int 0, .ref (r 29), .ref (r 30), .ref (r 31), .ref (r 32), .ref (r 33), .ref (r 34), .ref (r 35), .ref (r 36), .int 0, .int 0, .int 0, .ref (r 37), .ref (r 38)])), (r 25, .inl ((c 25), 26, .inl f25)), (r 37, .inl ((c 37), 78, .inl zf50)), (r 38, .inl ((c 38), 3, .inl f38))] H49 := by rw [ezf50]; exact hP
      have hD : va_D A [(r 0, .inr (8, [.ref (r 1), .ref (r 2), .int 0, .int 0, .int 0, .int (-1), .int 0, .int 0, .int 0, .int 0, .long 0, .ref (r 3), .ref (r 4), .ref (r 5), .ref (r 6), .ref (r 7), .ref (r 8), .ref (r 9), .ref (r 10), .ref (r 11), .ref (r 12), .ref (r 13), .ref (r 14), .ref (r 15), .ref (r 16), .ref (r 17), .ref (r 18), .ref (r 19), .ref (r 20), .ref (r 21), .ref (r 22), .ref (r 23), .ref (r 24), .int 0, .int 0, .int 0, .int 0, .int 0, .int 0, .int 0, .int 0, .int 0, .ref (r 25), .ref (r 26), .ref (r 27), .int 0, .int 0, .ref (r 28), .int 0, .ref (r 29), .ref (r 30), .ref (r 31), .ref (r 32), .ref (r 33), .ref (r 34), .ref (r 35), .ref (r 36), .int 0, .int 0, .int 0, .ref (r 37), .ref (r 38)])), (r 25, .inl ((c 25), 26, .inl f25)), (r 37, .inl ((c 37), 78, .inl zf50)), (r 38, .inl ((c 38), 3, .inl f38))] := by rw [ezf50]; exact hD
      refine lv_iinc (v := 10) (lv' := [(2, .int 10), (0, .ref (r 0)), (1, .int 0)]) hx hb dX9_image_36 hl (k := 0) rfl (by decide) (by decide) rfl (fun ls hl => ?_)
      refine lv_goto (tgt := 13) hx hb dX9_image_39 (by decide) ?_
      refine lv_iload_n hx hb dX9_image_13 rfl (lv_at hl 0 rfl) ?_
      refine lv_bipush (v := 26) hx hb dX9_image_14 (by decide) ?_
      refine lv_icmp_ge (tgt := 42) hx hb dX9_image_16 (by decide) (fun c_51 => absurd c_51 (by decide)) (fun c_51 => ?_)
      refine lv_aload_n hx hb dX9_image_19 rfl (lv_at hl 1 rfl) ?_
      refine va_get (D := (dC, dI)) (ci := 8) (v := .ref (r 37)) (C := RX9) (T := TX9) (N := 62) hx hb hG inX9 hown hK hP 0 rfl rfl 60 (by decide) (hG _ gw1231) (fun _ h9 => h9) rfl dX9_image_20 ?_
      refine lv_bipush (v := 26) hx hb dX9_image_23 (by decide) ?_
      refine lv_iload_n hx hb dX9_image_25 rfl (lv_at hl 2 rfl) ?_
      refine lv_imul hx hb dX9_image_26 ?_
      refine wt_c (v := 0) (by decide) ?_
      refine lv_iload_n hx hb dX9_image_27 rfl (lv_at hl 0 rfl) ?_
      refine lv_iadd hx hb dX9_image_28 ?_
      refine wt_c (v := 10) (by decide) ?_
      refine lv_aload_n hx hb dX9_image_29 rfl (lv_at hl 1 rfl) ?_
      refine va_get (D := (dC, dI)) (ci := 8) (v := .ref (r 25)) (C := RX9) (T := TX9) (N := 62) hx hb hG inX9 hown hK hP 0 rfl rfl 42 (by decide) (hG _ gw1213) (fun _ h9 => h9) rfl dX9_image_30 ?_
      refine lv_iload_n hx hb dX9_image_33 rfl (lv_at hl 0 rfl) ?_
      refine va_iald hx hb hK hP 1 0 rfl rfl (vin (by decide)) dX9_image_34 ?_
      refine lv_topi (fun x52 ex52 => ?_)
      refine va_iast hx hb hK hP hD hS 2 1 rfl rfl (vin (by decide)) dX9_image_35 (fun H53 locs hP hD hS => ?_)
      obtain ⟨zf54, ezf54⟩ : ∃ z : Nat → Int32, z = upd zf50 (10 : Int32).toNatClampNeg x52 := ⟨_, rfl⟩
      have hP : va_P (dC, dI) vwCl [(r 0, .inr (8, [.ref (r 1), .ref (r 2), .int 0, .int 0, .int 0, .int (-1), .int 0, .int 0, .int 0, .int 0, .long 0, .ref (r 3), .ref (r 4), .ref (r 5), .ref (r 6), .ref (r 7), .ref (r 8), .ref (r 9), .ref (r 10), .ref (r 11), .ref (r 12), .ref (r 13), .ref (r 14), .ref (r 15), .ref (r 16), .ref (r 17), .ref (r 18), .ref (r 19), .ref (r 20), .ref (r 21), .ref (r 22), .ref (r 23), .ref (r 24), .int 0, .int 0, .int 0, .int 0, .int 0, .int 0, .int 0, .int 0, .int 0, .ref (r 25), .ref (r 26), .ref (r 27), .int 0, .int 0, .ref (r 28), .int 0, .ref (r 29), .ref (r 30), .ref (r 31), .ref (r 32), .ref (r 33), .ref (r 34), .ref (r 35), .ref (r 36), .int 0, .int 0, .int 0, .ref (r 37), .ref (r 38)])), (r 25, .inl ((c 25), 26, .inl f25)), (r 37, .inl ((c 37), 78, .inl zf54)), (r 38, .inl ((c 38), 3, .inl f38))] H53 := by rw [ezf54]; exact hP
      have hD : va_D A [(r 0, .inr (8, [.ref (r 1), .ref (r 2), .int 0, .int 0, .int 0, .int (-1), .int 0, .int 0, .int 0, .int 0, .long 0, .ref (r 3), .ref (r 4), .ref (r 5), .ref (r 6), .ref (r 7), .ref (r 8), .ref (r 9), .ref (r 10), .ref (r 11), .ref (r 12), .ref (r 13), .ref (r 14), .ref (r 15), .ref (r 16), .ref (r 17), .ref (r 18), .ref (r 19), .ref (r 20), .ref (r 21), .ref (r 22), .ref (r 23), .ref (r 24), .int 0, .int 0, .int 0, .int 0, .int 0, .int 0, .int 0, .int 0, .int 0, .ref (r 25), .ref (r 26), .ref (r 27), .int 0, .int 0, .ref (r 28), .int 0, .ref (r 29), .ref (r 30), .ref (r 31), .ref (r 32), .ref (r 33), .ref (r 34), .ref (r 35), .ref (r 36), .int 0, .int 0, .int 0, .ref (r 37), .ref (r 38)])), (r 25, .inl ((c 25), 26, .inl f25)), (r 37, .inl ((c 37), 78, .inl zf54)), (r 38, .inl ((c 38), 3, .inl f38))] := by rw [ezf54]; exact hD
      refine lv_iinc (v := 11) (lv' := [(2, .int 11), (0, .ref (r 0)), (1, .int 0)]) hx hb dX9_image_36 hl (k := 0) rfl (by decide) (by decide) rfl (fun ls hl => ?_)
      refine lv_goto (tgt := 13) hx hb dX9_image_39 (by decide) ?_
      refine lv_iload_n hx hb dX9_image_13 rfl (lv_at hl 0 rfl) ?_
      refine lv_bipush (v := 26) hx hb dX9_image_14 (by decide) ?_
      refine lv_icmp_ge (tgt := 42) hx hb dX9_image_16 (by decide) (fun c_55 => absurd c_55 (by decide)) (fun c_55 => ?_)
      refine lv_aload_n hx hb dX9_image_19 rfl (lv_at hl 1 rfl) ?_
      refine va_get (D := (dC, dI)) (ci := 8) (v := .ref (r 37)) (C := RX9) (T := TX9) (N := 62) hx hb hG inX9 hown hK hP 0 rfl rfl 60 (by decide) (hG _ gw1231) (fun _ h9 => h9) rfl dX9_image_20 ?_
      refine lv_bipush (v := 26) hx hb dX9_image_23 (by decide) ?_
      refine lv_iload_n hx hb dX9_image_25 rfl (lv_at hl 2 rfl) ?_
      refine lv_imul hx hb dX9_image_26 ?_
      refine wt_c (v := 0) (by decide) ?_
      refine lv_iload_n hx hb dX9_image_27 rfl (lv_at hl 0 rfl) ?_
      refine lv_iadd hx hb dX9_image_28 ?_
      refine wt_c (v := 11) (by decide) ?_
      refine lv_aload_n hx hb dX9_image_29 rfl (lv_at hl 1 rfl) ?_
      refine va_get (D := (dC, dI)) (ci := 8) (v := .ref (r 25)) (C := RX9) (T := TX9) (N := 62) hx hb hG inX9 hown hK hP 0 rfl rfl 42 (by decide) (hG _ gw1213) (fun _ h9 => h9) rfl dX9_image_30 ?_
      refine lv_iload_n hx hb dX9_image_33 rfl (lv_at hl 0 rfl) ?_
      refine va_iald hx hb hK hP 1 0 rfl rfl (vin (by decide)) dX9_image_34 ?_
      refine lv_topi (fun x56 ex56 => ?_)
      refine va_iast hx hb hK hP hD hS 2 1 rfl rfl (vin (by decide)) dX9_image_35 (fun H57 locs hP hD hS => ?_)
      obtain ⟨zf58, ezf58⟩ : ∃ z : Nat → Int32, z = upd zf54 (11 : Int32).toNatClampNeg x56 := ⟨_, rfl⟩
      have hP : va_P (dC, dI) vwCl [(r 0, .inr (8, [.ref (r 1), .ref (r 2), .int 0, .int 0, .int 0, .int (-1), .int 0, .int 0, .int 0, .int 0, .long 0, .ref (r 3), .ref (r 4), .ref (r 5), .ref (r 6), .ref (r 7), .ref (r 8), .ref (r 9), .ref (r 10), .ref (r 11), .ref (r 12), .ref (r 13), .ref (r 14), .ref (r 15), .ref (r 16), .ref (r 17), .ref (r 18), .ref (r 19), .ref (r 20), .ref (r 21), .ref (r 22), .ref (r 23), .ref (r 24), .int 0, .int 0, .int 0, .int 0, .int 0, .int 0, .int 0, .int 0, .int 0, .ref (r 25), .ref (r 26), .ref (r 27), .int 0, .int 0, .ref (r 28), .int 0, .ref (r 29), .ref (r 30), .ref (r 31), .ref (r 32), .ref (r 33), .ref (r 34), .ref (r 35), .ref (r 36), .int 0, .int 0, .int 0, .ref (r 37), .ref (r 38)])), (r 25, .inl ((c 25), 26, .inl f25)), (r 37, .inl ((c 37), 78, .inl zf58)), (r 38, .inl ((c 38), 3, .inl f38))] H57 := by rw [ezf58]; exact hP
      have hD : va_D A [(r 0, .inr (8, [.ref (r 1), .ref (r 2), .int 0, .int 0, .int 0, .int (-1), .int 0, .int 0, .int 0, .int 0, .long 0, .ref (r 3), .ref (r 4), .ref (r 5), .ref (r 6), .ref (r 7), .ref (r 8), .ref (r 9), .ref (r 10), .ref (r 11), .ref (r 12), .ref (r 13), .ref (r 14), .ref (r 15), .ref (r 16), .ref (r 17), .ref (r 18), .ref (r 19), .ref (r 20), .ref (r 21), .ref (r 22), .ref (r 23), .ref (r 24), .int 0, .int 0, .int 0, .int 0, .int 0, .int 0, .int 0, .int 0, .int 0, .ref (r 25), .ref (r 26), .ref (r 27), .int 0, .int 0, .ref (r 28), .int 0, .ref (r 29), .ref (r 30), .ref (r 31), .ref (r 32), .ref (r 33), .ref (r 34), .ref (r 35), .ref (r 36), .int 0, .int 0, .int 0, .ref (r 37), .ref (r 38)])), (r 25, .inl ((c 25), 26, .inl f25)), (r 37, .inl ((c 37), 78, .inl zf58)), (r 38, .inl ((c 38), 3, .inl f38))] := by rw [ezf58]; exact hD
      refine lv_iinc (v := 12) (lv' := [(2, .int 12), (0, .ref (r 0)), (1, .int 0)]) hx hb dX9_image_36 hl (k := 0) rfl (by decide) (by decide) rfl (fun ls hl => ?_)
      refine lv_goto (tgt := 13) hx hb dX9_image_39 (by decide) ?_
      refine lv_iload_n hx hb dX9_image_13 rfl (lv_at hl 0 rfl) ?_
      refine lv_bipush (v := 26) hx hb dX9_image_14 (by decide) ?_
      refine lv_icmp_ge (tgt := 42) hx hb dX9_image_16 (by decide) (fun c_59 => absurd c_59 (by decide)) (fun c_59 => ?_)
      refine lv_aload_n hx hb dX9_image_19 rfl (lv_at hl 1 rfl) ?_
      refine va_get (D := (dC, dI)) (ci := 8) (v := .ref (r 37)) (C := RX9) (T := TX9) (N := 62) hx hb hG inX9 hown hK hP 0 rfl rfl 60 (by decide) (hG _ gw1231) (fun _ h9 => h9) rfl dX9_image_20 ?_
      refine lv_bipush (v := 26) hx hb dX9_image_23 (by decide) ?_
      refine lv_iload_n hx hb dX9_image_25 rfl (lv_at hl 2 rfl) ?_
      refine lv_imul hx hb dX9_image_26 ?_
      refine wt_c (v := 0) (by decide) ?_
      refine lv_iload_n hx hb dX9_image_27 rfl (lv_at hl 0 rfl) ?_
      refine lv_iadd hx hb dX9_image_28 ?_
      refine wt_c (v := 12) (by decide) ?_
      refine lv_aload_n hx hb dX9_image_29 rfl (lv_at hl 1 rfl) ?_
      refine va_get (D := (dC, dI)) (ci := 8) (v := .ref (r 25)) (C := RX9) (T := TX9) (N := 62) hx hb hG inX9 hown hK hP 0 rfl rfl 42 (by decide) (hG _ gw1213) (fun _ h9 => h9) rfl dX9_image_30 ?_
      refine lv_iload_n hx hb dX9_image_33 rfl (lv_at hl 0 rfl) ?_
      refine va_iald hx hb hK hP 1 0 rfl rfl (vin (by decide)) dX9_image_34 ?_
      refine lv_topi (fun x60 ex60 => ?_)
      refine va_iast hx hb hK hP hD hS 2 1 rfl rfl (vin (by decide)) dX9_image_35 (fun H61 locs hP hD hS => ?_)
      obtain ⟨zf62, ezf62⟩ : ∃ z : Nat → Int32, z = upd zf58 (12 : Int32).toNatClampNeg x60 := ⟨_, rfl⟩
      have hP : va_P (dC, dI) vwCl [(r 0, .inr (8, [.ref (r 1), .ref (r 2), .int 0, .int 0, .int 0, .int (-1), .int 0, .int 0, .int 0, .int 0, .long 0, .ref (r 3), .ref (r 4), .ref (r 5), .ref (r 6), .ref (r 7), .ref (r 8), .ref (r 9), .ref (r 10), .ref (r 11), .ref (r 12), .ref (r 13), .ref (r 14), .ref (r 15), .ref (r 16), .ref (r 17), .ref (r 18), .ref (r 19), .ref (r 20), .ref (r 21), .ref (r 22), .ref (r 23), .ref (r 24), .int 0, .int 0, .int 0, .int 0, .int 0, .int 0, .int 0, .int 0, .int 0, .ref (r 25), .ref (r 26), .ref (r 27), .int 0, .int 0, .ref (r 28), .int 0, .ref (r 29), .ref (r 30), .ref (r 31), .ref (r 32), .ref (r 33), .ref (r 34), .ref (r 35), .ref (r 36), .int 0, .int 0, .int 0, .ref (r 37), .ref (r 38)])), (r 25, .inl ((c 25), 26, .inl f25)), (r 37, .inl ((c 37), 78, .inl zf62)), (r 38, .inl ((c 38), 3, .inl f38))] H61 := by rw [ezf62]; exact hP
      have hD : va_D A [(r 0, .inr (8, [.ref (r 1), .ref (r 2), .int 0, .int 0, .int 0, .int (-1), .int 0, .int 0, .int 0, .int 0, .long 0, .ref (r 3), .ref (r 4), .ref (r 5), .ref (r 6), .ref (r 7), .ref (r 8), .ref (r 9), .ref (r 10), .ref (r 11), .ref (r 12), .ref (r 13), .ref (r 14), .ref (r 15), .ref (r 16), .ref (r 17), .ref (r 18), .ref (r 19), .ref (r 20), .ref (r 21), .ref (r 22), .ref (r 23), .ref (r 24), .int 0, .int 0, .int 0, .int 0, .int 0, .int 0, .int 0, .int 0, .int 0, .ref (r 25), .ref (r 26), .ref (r 27), .int 0, .int 0, .ref (r 28), .int 0, .ref (r 29), .ref (r 30), .ref (r 31), .ref (r 32), .ref (r 33), .ref (r 34), .ref (r 35), .ref (r 36), .int 0, .int 0, .int 0, .ref (r 37), .ref (r 38)])), (r 25, .inl ((c 25), 26, .inl f25)), (r 37, .inl ((c 37), 78, .inl zf62)), (r 38, .inl ((c 38), 3, .inl f38))] := by rw [ezf62]; exact hD
      refine lv_iinc (v := 13) (lv' := [(2, .int 13), (0, .ref (r 0)), (1, .int 0)]) hx hb dX9_image_36 hl (k := 0) rfl (by decide) (by decide) rfl (fun ls hl => ?_)
      refine lv_goto (tgt := 13) hx hb dX9_image_39 (by decide) ?_
      refine lv_iload_n hx hb dX9_image_13 rfl (lv_at hl 0 rfl) ?_
      refine lv_bipush (v := 26) hx hb dX9_image_14 (by decide) ?_
      refine lv_icmp_ge (tgt := 42) hx hb dX9_image_16 (by decide) (fun c_63 => absurd c_63 (by decide)) (fun c_63 => ?_)
      refine lv_aload_n hx hb dX9_image_19 rfl (lv_at hl 1 rfl) ?_
      refine va_get (D := (dC, dI)) (ci := 8) (v := .ref (r 37)) (C := RX9) (T := TX9) (N := 62) hx hb hG inX9 hown hK hP 0 rfl rfl 60 (by decide) (hG _ gw1231) (fun _ h9 => h9) rfl dX9_image_20 ?_
      refine lv_bipush (v := 26) hx hb dX9_image_23 (by decide) ?_
      refine lv_iload_n hx hb dX9_image_25 rfl (lv_at hl 2 rfl) ?_
      refine lv_imul hx hb dX9_image_26 ?_
      refine wt_c (v := 0) (by decide) ?_
      refine lv_iload_n hx hb dX9_image_27 rfl (lv_at hl 0 rfl) ?_
      refine lv_iadd hx hb dX9_image_28 ?_
      refine wt_c (v := 13) (by decide) ?_
      refine lv_aload_n hx hb dX9_image_29 rfl (lv_at hl 1 rfl) ?_
      refine va_get (D := (dC, dI)) (ci := 8) (v := .ref (r 25)) (C := RX9) (T := TX9) (N := 62) hx hb hG inX9 hown hK hP 0 rfl rfl 42 (by decide) (hG _ gw1213) (fun _ h9 => h9) rfl dX9_image_30 ?_
      refine lv_iload_n hx hb dX9_image_33 rfl (lv_at hl 0 rfl) ?_
      refine va_iald hx hb hK hP 1 0 rfl rfl (vin (by decide)) dX9_image_34 ?_
      refine lv_topi (fun x64 ex64 => ?_)
      refine va_iast hx hb hK hP hD hS 2 1 rfl rfl (vin (by decide)) dX9_image_35 (fun H65 locs hP hD hS => ?_)
      obtain ⟨zf66, ezf66⟩ : ∃ z : Nat → Int32, z = upd zf62 (13 : Int32).toNatClampNeg x64 := ⟨_, rfl⟩
      have hP : va_P (dC, dI) vwCl [(r 0, .inr (8, [.ref (r 1), .ref (r 2), .int 0, .int 0, .int 0, .int (-1), .int 0, .int 0, .int 0, .int 0, .long 0, .ref (r 3), .ref (r 4), .ref (r 5), .ref (r 6), .ref (r 7), .ref (r 8), .ref (r 9), .ref (r 10), .ref (r 11), .ref (r 12), .ref (r 13), .ref (r 14), .ref (r 15), .ref (r 16), .ref (r 17), .ref (r 18), .ref (r 19), .ref (r 20), .ref (r 21), .ref (r 22), .ref (r 23), .ref (r 24), .int 0, .int 0, .int 0, .int 0, .int 0, .int 0, .int 0, .int 0, .int 0, .ref (r 25), .ref (r 26), .ref (r 27), .int 0, .int 0, .ref (r 28), .int 0, .ref (r 29), .ref (r 30), .ref (r 31), .ref (r 32), .ref (r 33), .ref (r 34), .ref (r 35), .ref (r 36), .int 0, .int 0, .int 0, .ref (r 37), .ref (r 38)])), (r 25, .inl ((c 25), 26, .inl f25)), (r 37, .inl ((c 37), 78, .inl zf66)), (r 38, .inl ((c 38), 3, .inl f38))] H65 := by rw [ezf66]; exact hP
      have hD : va_D A [(r 0, .inr (8, [.ref (r 1), .ref (r 2), .int 0, .int 0, .int 0, .int (-1), .int 0, .int 0, .int 0, .int 0, .long 0, .ref (r 3), .ref (r 4), .ref (r 5), .ref (r 6), .ref (r 7), .ref (r 8), .ref (r 9), .ref (r 10), .ref (r 11), .ref (r 12), .ref (r 13), .ref (r 14), .ref (r 15), .ref (r 16), .ref (r 17), .ref (r 18), .ref (r 19), .ref (r 20), .ref (r 21), .ref (r 22), .ref (r 23), .ref (r 24), .int 0, .int 0, .int 0, .int 0, .int 0, .int 0, .int 0, .int 0, .int 0, .ref (r 25), .ref (r 26), .ref (r 27), .int 0, .int 0, .ref (r 28), .int 0, .ref (r 29), .ref (r 30), .ref (r 31), .ref (r 32), .ref (r 33), .ref (r 34), .ref (r 35), .ref (r 36), .int 0, .int 0, .int 0, .ref (r 37), .ref (r 38)])), (r 25, .inl ((c 25), 26, .inl f25)), (r 37, .inl ((c 37), 78, .inl zf66)), (r 38, .inl ((c 38), 3, .inl f38))] := by rw [ezf66]; exact hD
      refine lv_iinc (v := 14) (lv' := [(2, .int 14), (0, .ref (r 0)), (1, .int 0)]) hx hb dX9_image_36 hl (k := 0) rfl (by decide) (by decide) rfl (fun ls hl => ?_)
      refine lv_goto (tgt := 13) hx hb dX9_image_39 (by decide) ?_
      refine lv_iload_n hx hb dX9_image_13 rfl (lv_at hl 0 rfl) ?_
      refine lv_bipush (v := 26) hx hb dX9_image_14 (by decide) ?_
      refine lv_icmp_ge (tgt := 42) hx hb dX9_image_16 (by decide) (fun c_67 => absurd c_67 (by decide)) (fun c_67 => ?_)
      refine lv_aload_n hx hb dX9_image_19 rfl (lv_at hl 1 rfl) ?_
      refine va_get (D := (dC, dI)) (ci := 8) (v := .ref (r 37)) (C := RX9) (T := TX9) (N := 62) hx hb hG inX9 hown hK hP 0 rfl rfl 60 (by decide) (hG _ gw1231) (fun _ h9 => h9) rfl dX9_image_20 ?_
      refine lv_bipush (v := 26) hx hb dX9_image_23 (by decide) ?_
      refine lv_iload_n hx hb dX9_image_25 rfl (lv_at hl 2 rfl) ?_
      refine lv_imul hx hb dX9_image_26 ?_
      refine wt_c (v := 0) (by decide) ?_
      refine lv_iload_n hx hb dX9_image_27 rfl (lv_at hl 0 rfl) ?_
      refine lv_iadd hx hb dX9_image_28 ?_
      refine wt_c (v := 14) (by decide) ?_
      refine lv_aload_n hx hb dX9_image_29 rfl (lv_at hl 1 rfl) ?_
      refine va_get (D := (dC, dI)) (ci := 8) (v := .ref (r 25)) (C := RX9) (T := TX9) (N := 62) hx hb hG inX9 hown hK hP 0 rfl rfl 42 (by decide) (hG _ gw1213) (fun _ h9 => h9) rfl dX9_image_30 ?_
      refine lv_iload_n hx hb dX9_image_33 rfl (lv_at hl 0 rfl) ?_
      refine va_iald hx hb hK hP 1 0 rfl rfl (vin (by decide)) dX9_image_34 ?_
      refine lv_topi (fun x68 ex68 => ?_)
      refine va_iast hx hb hK hP hD hS 2 1 rfl rfl (vin (by decide)) dX9_image_35 (fun H69 locs hP hD hS => ?_)
      obtain ⟨zf70, ezf70⟩ : ∃ z : Nat → Int32, z = upd zf66 (14 : Int32).toNatClampNeg x68 := ⟨_, rfl⟩
      have hP : va_P (dC, dI) vwCl [(r 0, .inr (8, [.ref (r 1), .ref (r 2), .int 0, .int 0, .int 0, .int (-1), .int 0, .int 0, .int 0, .int 0, .long 0, .ref (r 3), .ref (r 4), .ref (r 5), .ref (r 6), .ref (r 7), .ref (r 8), .ref (r 9), .ref (r 10), .ref (r 11), .ref (r 12), .ref (r 13), .ref (r 14), .ref (r 15), .ref (r 16), .ref (r 17), .ref (r 18), .ref (r 19), .ref (r 20), .ref (r 21), .ref (r 22), .ref (r 23), .ref (r 24), .int 0, .int 0, .int 0, .int 0, .int 0, .int 0, .int 0, .int 0, .int 0, .ref (r 25), .ref (r 26), .ref (r 27), .int 0, .int 0, .ref (r 28), .int 0, .ref (r 29), .ref (r 30), .ref (r 31), .ref (r 32), .ref (r 33), .ref (r 34), .ref (r 35), .ref (r 36), .int 0, .int 0, .int 0, .ref (r 37), .ref (r 38)])), (r 25, .inl ((c 25), 26, .inl f25)), (r 37, .inl ((c 37), 78, .inl zf70)), (r 38, .inl ((c 38), 3, .inl f38))] H69 := by rw [ezf70]; exact hP
      have hD : va_D A [(r 0, .inr (8, [.ref (r 1), .ref (r 2), .int 0, .int 0, .int 0, .int (-1), .int 0, .int 0, .int 0, .int 0, .long 0, .ref (r 3), .ref (r 4), .ref (r 5), .ref (r 6), .ref (r 7), .ref (r 8), .ref (r 9), .ref (r 10), .ref (r 11), .ref (r 12), .ref (r 13), .ref (r 14), .ref (r 15), .ref (r 16), .ref (r 17), .ref (r 18), .ref (r 19), .ref (r 20), .ref (r 21), .ref (r 22), .ref (r 23), .ref (r 24), .int 0, .int 0, .int 0, .int 0, .int 0, .int 0, .int 0, .int 0, .int 0, .ref (r 25), .ref (r 26), .ref (r 27), .int 0, .int 0, .ref (r 28), .int 0, .ref (r 29), .ref (r 30), .ref (r 31), .ref (r 32), .ref (r 33), .ref (r 34), .ref (r 35), .ref (r 36), .int 0, .int 0, .int 0, .ref (r 37), .ref (r 38)])), (r 25, .inl ((c 25), 26, .inl f25)), (r 37, .inl ((c 37), 78, .inl zf70)), (r 38, .inl ((c 38), 3, .inl f38))] := by rw [ezf70]; exact hD
      refine lv_iinc (v := 15) (lv' := [(2, .int 15), (0, .ref (r 0)), (1, .int 0)]) hx hb dX9_image_36 hl (k := 0) rfl (by decide) (by decide) rfl (fun ls hl => ?_)
      refine lv_goto (tgt := 13) hx hb dX9_image_39 (by decide) ?_
      refine lv_iload_n hx hb dX9_image_13 rfl (lv_at hl 0 rfl) ?_
      refine lv_bipush (v := 26) hx hb dX9_image_14 (by decide) ?_
      refine lv_icmp_ge (tgt := 42) hx hb dX9_image_16 (by decide) (fun c_71 => absurd c_71 (by decide)) (fun c_71 => ?_)
      refine lv_aload_n hx hb dX9_image_19 rfl (lv_at hl 1 rfl) ?_
      refine va_get (D := (dC, dI)) (ci := 8) (v := .ref (r 37)) (C := RX9) (T := TX9) (N := 62) hx hb hG inX9 hown hK hP 0 rfl rfl 60 (by decide) (hG _ gw1231) (fun _ h9 => h9) rfl dX9_image_20 ?_
      refine lv_bipush (v := 26) hx hb dX9_image_23 (by decide) ?_
      refine lv_iload_n hx hb dX9_image_25 rfl (lv_at hl 2 rfl) ?_
      refine lv_imul hx hb dX9_image_26 ?_
      refine wt_c (v := 0) (by decide) ?_
      refine lv_iload_n hx hb dX9_image_27 rfl (lv_at hl 0 rfl) ?_
      refine lv_iadd hx hb dX9_image_28 ?_
      refine wt_c (v := 15) (by decide) ?_
      refine lv_aload_n hx hb dX9_image_29 rfl (lv_at hl 1 rfl) ?_
      refine va_get (D := (dC, dI)) (ci := 8) (v := .ref (r 25)) (C := RX9) (T := TX9) (N := 62) hx hb hG inX9 hown hK hP 0 rfl rfl 42 (by decide) (hG _ gw1213) (fun _ h9 => h9) rfl dX9_image_30 ?_
      refine lv_iload_n hx hb dX9_image_33 rfl (lv_at hl 0 rfl) ?_
      refine va_iald hx hb hK hP 1 0 rfl rfl (vin (by decide)) dX9_image_34 ?_
      refine lv_topi (fun x72 ex72 => ?_)
      refine va_iast hx hb hK hP hD hS 2 1 rfl rfl (vin (by decide)) dX9_image_35 (fun H73 locs hP hD hS => ?_)
      obtain ⟨zf74, ezf74⟩ : ∃ z : Nat → Int32, z = upd zf70 (15 : Int32).toNatClampNeg x72 := ⟨_, rfl⟩
      have hP : va_P (dC, dI) vwCl [(r 0, .inr (8, [.ref (r 1), .ref (r 2), .int 0, .int 0, .int 0, .int (-1), .int 0, .int 0, .int 0, .int 0, .long 0, .ref (r 3), .ref (r 4), .ref (r 5), .ref (r 6), .ref (r 7), .ref (r 8), .ref (r 9), .ref (r 10), .ref (r 11), .ref (r 12), .ref (r 13), .ref (r 14), .ref (r 15), .ref (r 16), .ref (r 17), .ref (r 18), .ref (r 19), .ref (r 20), .ref (r 21), .ref (r 22), .ref (r 23), .ref (r 24), .int 0, .int 0, .int 0, .int 0, .int 0, .int 0, .int 0, .int 0, .int 0, .ref (r 25), .ref (r 26), .ref (r 27), .int 0, .int 0, .ref (r 28), .int 0, .ref (r 29), .ref (r 30), .ref (r 31), .ref (r 32), .ref (r 33), .ref (r 34), .ref (r 35), .ref (r 36), .int 0, .int 0, .int 0, .ref (r 37), .ref (r 38)])), (r 25, .inl ((c 25), 26, .inl f25)), (r 37, .inl ((c 37), 78, .inl zf74)), (r 38, .inl ((c 38), 3, .inl f38))] H73 := by rw [ezf74]; exact hP
      have hD : va_D A [(r 0, .inr (8, [.ref (r 1), .ref (r 2), .int 0, .int 0, .int 0, .int (-1), .int 0, .int 0, .int 0, .int 0, .long 0, .ref (r 3), .ref (r 4), .ref (r 5), .ref (r 6), .ref (r 7), .ref (r 8), .ref (r 9), .ref (r 10), .ref (r 11), .ref (r 12), .ref (r 13), .ref (r 14), .ref (r 15), .ref (r 16), .ref (r 17), .ref (r 18), .ref (r 19), .ref (r 20), .ref (r 21), .ref (r 22), .ref (r 23), .ref (r 24), .int 0, .int 0, .int 0, .int 0, .int 0, .int 0, .int 0, .int 0, .int 0, .ref (r 25), .ref (r 26), .ref (r 27), .int 0, .int 0, .ref (r 28), .int 0, .ref (r 29), .ref (r 30), .ref (r 31), .ref (r 32), .ref (r 33), .ref (r 34), .ref (r 35), .ref (r 36), .int 0, .int 0, .int 0, .ref (r 37), .ref (r 38)])), (r 25, .inl ((c 25), 26, .inl f25)), (r 37, .inl ((c 37), 78, .inl zf74)), (r 38, .inl ((c 38), 3, .inl f38))] := by rw [ezf74]; exact hD
      refine lv_iinc (v := 16) (lv' := [(2, .int 16), (0, .ref (r 0)), (1, .int 0)]) hx hb dX9_image_36 hl (k := 0) rfl (by decide) (by decide) rfl (fun ls hl => ?_)
      refine lv_goto (tgt := 13) hx hb dX9_image_39 (by decide) ?_
      refine lv_iload_n hx hb dX9_image_13 rfl (lv_at hl 0 rfl) ?_
      refine lv_bipush (v := 26) hx hb dX9_image_14 (by decide) ?_
      refine lv_icmp_ge (tgt := 42) hx hb dX9_image_16 (by decide) (fun c_75 => absurd c_75 (by decide)) (fun c_75 => ?_)
      refine lv_aload_n hx hb dX9_image_19 rfl (lv_at hl 1 rfl) ?_
      refine va_get (D := (dC, dI)) (ci := 8) (v := .ref (r 37)) (C := RX9) (T := TX9) (N := 62) hx hb hG inX9 hown hK hP 0 rfl rfl 60 (by decide) (hG _ gw1231) (fun _ h9 => h9) rfl dX9_image_20 ?_
      refine lv_bipush (v := 26) hx hb dX9_image_23 (by decide) ?_
      refine lv_iload_n hx hb dX9_image_25 rfl (lv_at hl 2 rfl) ?_
      refine lv_imul hx hb dX9_image_26 ?_
      refine wt_c (v := 0) (by decide) ?_
      refine lv_iload_n hx hb dX9_image_27 rfl (lv_at hl 0 rfl) ?_
      refine lv_iadd hx hb dX9_image_28 ?_
      refine wt_c (v := 16) (by decide) ?_
      refine lv_aload_n hx hb dX9_image_29 rfl (lv_at hl 1 rfl) ?_
      refine va_get (D := (dC, dI)) (ci := 8) (v := .ref (r 25)) (C := RX9) (T := TX9) (N := 62) hx hb hG inX9 hown hK hP 0 rfl rfl 42 (by decide) (hG _ gw1213) (fun _ h9 => h9) rfl dX9_image_30 ?_
      refine lv_iload_n hx hb dX9_image_33 rfl (lv_at hl 0 rfl) ?_
      refine va_iald hx hb hK hP 1 0 rfl rfl (vin (by decide)) dX9_image_34 ?_
      refine lv_topi (fun x76 ex76 => ?_)
      refine va_iast hx hb hK hP hD hS 2 1 rfl rfl (vin (by decide)) dX9_image_35 (fun H77 locs hP hD hS => ?_)
      obtain ⟨zf78, ezf78⟩ : ∃ z : Nat → Int32, z = upd zf74 (16 : Int32).toNatClampNeg x76 := ⟨_, rfl⟩
      have hP : va_P (dC, dI) vwCl [(r 0, .inr (8, [.ref (r 1), .ref (r 2), .int 0, .int 0, .int 0, .int (-1), .int 0, .int 0, .int 0, .int 0, .long 0, .ref (r 3), .ref (r 4), .ref (r 5), .ref (r 6), .ref (r 7), .ref (r 8), .ref (r 9), .ref (r 10), .ref (r 11), .ref (r 12), .ref (r 13), .ref (r 14), .ref (r 15), .ref (r 16), .ref (r 17), .ref (r 18), .ref (r 19), .ref (r 20), .ref (r 21), .ref (r 22), .ref (r 23), .ref (r 24), .int 0, .int 0, .int 0, .int 0, .int 0, .int 0, .int 0, .int 0, .int 0, .ref (r 25), .ref (r 26), .ref (r 27), .int 0, .int 0, .ref (r 28), .int 0, .ref (r 29), .ref (r 30), .ref (r 31), .ref (r 32), .ref (r 33), .ref (r 34), .ref (r 35), .ref (r 36), .int 0, .int 0, .int 0, .ref (r 37), .ref (r 38)])), (r 25, .inl ((c 25), 26, .inl f25)), (r 37, .inl ((c 37), 78, .inl zf78)), (r 38, .inl ((c 38), 3, .inl f38))] H77 := by rw [ezf78]; exact hP
      have hD : va_D A [(r 0, .inr (8, [.ref (r 1), .ref (r 2), .int 0, .int 0, .int 0, .int (-1), .int 0, .int 0, .int 0, .int 0, .long 0, .ref (r 3), .ref (r 4), .ref (r 5), .ref (r 6), .ref (r 7), .ref (r 8), .ref (r 9), .ref (r 10), .ref (r 11), .ref (r 12), .ref (r 13), .ref (r 14), .ref (r 15), .ref (r 16), .ref (r 17), .ref (r 18), .ref (r 19), .ref (r 20), .ref (r 21), .ref (r 22), .ref (r 23), .ref (r 24), .int 0, .int 0, .int 0, .int 0, .int 0, .int 0, .int 0, .int 0, .int 0, .ref (r 25), .ref (r 26), .ref (r 27), .int 0, .int 0, .ref (r 28), .int 0, .ref (r 29), .ref (r 30), .ref (r 31), .ref (r 32), .ref (r 33), .ref (r 34), .ref (r 35), .ref (r 36), .int 0, .int 0, .int 0, .ref (r 37), .ref (r 38)])), (r 25, .inl ((c 25), 26, .inl f25)), (r 37, .inl ((c 37), 78, .inl zf78)), (r 38, .inl ((c 38), 3, .inl f38))] := by rw [ezf78]; exact hD
      refine lv_iinc (v := 17) (lv' := [(2, .int 17), (0, .ref (r 0)), (1, .int 0)]) hx hb dX9_image_36 hl (k := 0) rfl (by decide) (by decide) rfl (fun ls hl => ?_)
      refine lv_goto (tgt := 13) hx hb dX9_image_39 (by decide) ?_
      refine lv_iload_n hx hb dX9_image_13 rfl (lv_at hl 0 rfl) ?_
      refine lv_bipush (v := 26) hx hb dX9_image_14 (by decide) ?_
      refine lv_icmp_ge (tgt := 42) hx hb dX9_image_16 (by decide) (fun c_79 => absurd c_79 (by decide)) (fun c_79 => ?_)
      refine lv_aload_n hx hb dX9_image_19 rfl (lv_at hl 1 rfl) ?_
      refine va_get (D := (dC, dI)) (ci := 8) (v := .ref (r 37)) (C := RX9) (T := TX9) (N := 62) hx hb hG inX9 hown hK hP 0 rfl rfl 60 (by decide) (hG _ gw1231) (fun _ h9 => h9) rfl dX9_image_20 ?_
      refine lv_bipush (v := 26) hx hb dX9_image_23 (by decide) ?_
      refine lv_iload_n hx hb dX9_image_25 rfl (lv_at hl 2 rfl) ?_
      refine lv_imul hx hb dX9_image_26 ?_
      refine wt_c (v := 0) (by decide) ?_
      refine lv_iload_n hx hb dX9_image_27 rfl (lv_at hl 0 rfl) ?_
      refine lv_iadd hx hb dX9_image_28 ?_
      refine wt_c (v := 17) (by decide) ?_
      refine lv_aload_n hx hb dX9_image_29 rfl (lv_at hl 1 rfl) ?_
      refine va_get (D := (dC, dI)) (ci := 8) (v := .ref (r 25)) (C := RX9) (T := TX9) (N := 62) hx hb hG inX9 hown hK hP 0 rfl rfl 42 (by decide) (hG _ gw1213) (fun _ h9 => h9) rfl dX9_image_30 ?_
      refine lv_iload_n hx hb dX9_image_33 rfl (lv_at hl 0 rfl) ?_
      refine va_iald hx hb hK hP 1 0 rfl rfl (vin (by decide)) dX9_image_34 ?_
      refine lv_topi (fun x80 ex80 => ?_)
      refine va_iast hx hb hK hP hD hS 2 1 rfl rfl (vin (by decide)) dX9_image_35 (fun H81 locs hP hD hS => ?_)
      obtain ⟨zf82, ezf82⟩ : ∃ z : Nat → Int32, z = upd zf78 (17 : Int32).toNatClampNeg x80 := ⟨_, rfl⟩
      have hP : va_P (dC, dI) vwCl [(r 0, .inr (8, [.ref (r 1), .ref (r 2), .int 0, .int 0, .int 0, .int (-1), .int 0, .int 0, .int 0, .int 0, .long 0, .ref (r 3), .ref (r 4), .ref (r 5), .ref (r 6), .ref (r 7), .ref (r 8), .ref (r 9), .ref (r 10), .ref (r 11), .ref (r 12), .ref (r 13), .ref (r 14), .ref (r 15), .ref (r 16), .ref (r 17), .ref (r 18), .ref (r 19), .ref (r 20), .ref (r 21), .ref (r 22), .ref (r 23), .ref (r 24), .int 0, .int 0, .int 0, .int 0, .int 0, .int 0, .int 0, .int 0, .int 0, .ref (r 25), .ref (r 26), .ref (r 27), .int 0, .int 0, .ref (r 28), .int 0, .ref (r 29), .ref (r 30), .ref (r 31), .ref (r 32), .ref (r 33), .ref (r 34), .ref (r 35), .ref (r 36), .int 0, .int 0, .int 0, .ref (r 37), .ref (r 38)])), (r 25, .inl ((c 25), 26, .inl f25)), (r 37, .inl ((c 37), 78, .inl zf82)), (r 38, .inl ((c 38), 3, .inl f38))] H81 := by rw [ezf82]; exact hP
      have hD : va_D A [(r 0, .inr (8, [.ref (r 1), .ref (r 2), .int 0, .int 0, .int 0, .int (-1), .int 0, .int 0, .int 0, .int 0, .long 0, .ref (r 3), .ref (r 4), .ref (r 5), .ref (r 6), .ref (r 7), .ref (r 8), .ref (r 9), .ref (r 10), .ref (r 11), .ref (r 12), .ref (r 13), .ref (r 14), .ref (r 15), .ref (r 16), .ref (r 17), .ref (r 18), .ref (r 19), .ref (r 20), .ref (r 21), .ref (r 22), .ref (r 23), .ref (r 24), .int 0, .int 0, .int 0, .int 0, .int 0, .int 0, .int 0, .int 0, .int 0, .ref (r 25), .ref (r 26), .ref (r 27), .int 0, .int 0, .ref (r 28), .int 0, .ref (r 29), .ref (r 30), .ref (r 31), .ref (r 32), .ref (r 33), .ref (r 34), .ref (r 35), .ref (r 36), .int 0, .int 0, .int 0, .ref (r 37), .ref (r 38)])), (r 25, .inl ((c 25), 26, .inl f25)), (r 37, .inl ((c 37), 78, .inl zf82)), (r 38, .inl ((c 38), 3, .inl f38))] := by rw [ezf82]; exact hD
      refine lv_iinc (v := 18) (lv' := [(2, .int 18), (0, .ref (r 0)), (1, .int 0)]) hx hb dX9_image_36 hl (k := 0) rfl (by decide) (by decide) rfl (fun ls hl => ?_)
      refine lv_goto (tgt := 13) hx hb dX9_image_39 (by decide) ?_
      refine lv_iload_n hx hb dX9_image_13 rfl (lv_at hl 0 rfl) ?_
      refine lv_bipush (v := 26) hx hb dX9_image_14 (by decide) ?_
      refine lv_icmp_ge (tgt := 42) hx hb dX9_image_16 (by decide) (fun c_83 => absurd c_83 (by decide)) (fun c_83 => ?_)
      refine lv_aload_n hx hb dX9_image_19 rfl (lv_at hl 1 rfl) ?_
      refine va_get (D := (dC, dI)) (ci := 8) (v := .ref (r 37)) (C := RX9) (T := TX9) (N := 62) hx hb hG inX9 hown hK hP 0 rfl rfl 60 (by decide) (hG _ gw1231) (fun _ h9 => h9) rfl dX9_image_20 ?_
      refine lv_bipush (v := 26) hx hb dX9_image_23 (by decide) ?_
      refine lv_iload_n hx hb dX9_image_25 rfl (lv_at hl 2 rfl) ?_
      refine lv_imul hx hb dX9_image_26 ?_
      refine wt_c (v := 0) (by decide) ?_
      refine lv_iload_n hx hb dX9_image_27 rfl (lv_at hl 0 rfl) ?_
      refine lv_iadd hx hb dX9_image_28 ?_
      refine wt_c (v := 18) (by decide) ?_
      refine lv_aload_n hx hb dX9_image_29 rfl (lv_at hl 1 rfl) ?_
      refine va_get (D := (dC, dI)) (ci := 8) (v := .ref (r 25)) (C := RX9) (T := TX9) (N := 62) hx hb hG inX9 hown hK hP 0 rfl rfl 42 (by decide) (hG _ gw1213) (fun _ h9 => h9) rfl dX9_image_30 ?_
      refine lv_iload_n hx hb dX9_image_33 rfl (lv_at hl 0 rfl) ?_
      refine va_iald hx hb hK hP 1 0 rfl rfl (vin (by decide)) dX9_image_34 ?_
      refine lv_topi (fun x84 ex84 => ?_)
      refine va_iast hx hb hK hP hD hS 2 1 rfl rfl (vin (by decide)) dX9_image_35 (fun H85 locs hP hD hS => ?_)
      obtain ⟨zf86, ezf86⟩ : ∃ z : Nat → Int32, z = upd zf82 (18 : Int32).toNatClampNeg x84 := ⟨_, rfl⟩
      have hP : va_P (dC, dI) vwCl [(r 0, .inr (8, [.ref (r 1), .ref (r 2), .int 0, .int 0, .int 0, .int (-1), .int 0, .int 0, .int 0, .int 0, .long 0, .ref (r 3), .ref (r 4), .ref (r 5), .ref (r 6), .ref (r 7), .ref (r 8), .ref (r 9), .ref (r 10), .ref (r 11), .ref (r 12), .ref (r 13), .ref (r 14), .ref (r 15), .ref (r 16), .ref (r 17), .ref (r 18), .ref (r 19), .ref (r 20), .ref (r 21), .ref (r 22), .ref (r 23), .ref (r 24), .int 0, .int 0, .int 0, .int 0, .int 0, .int 0, .int 0, .int 0, .int 0, .ref (r 25), .ref (r 26), .ref (r 27), .int 0, .int 0, .ref (r 28), .int 0, .ref (r 29), .ref (r 30), .ref (r 31), .ref (r 32), .ref (r 33), .ref (r 34), .ref (r 35), .ref (r 36), .int 0, .int 0, .int 0, .ref (r 37), .ref (r 38)])), (r 25, .inl ((c 25), 26, .inl f25)), (r 37, .inl ((c 37), 78, .inl zf86)), (r 38, .inl ((c 38), 3, .inl f38))] H85 := by rw [ezf86]; exact hP
      have hD : va_D A [(r 0, .inr (8, [.ref (r 1), .ref (r 2), .int 0, .int 0, .int 0, .int (-1), .int 0, .int 0, .int 0, .int 0, .long 0, .ref (r 3), .ref (r 4), .ref (r 5), .ref (r 6), .ref (r 7), .ref (r 8), .ref (r 9), .ref (r 10), .ref (r 11), .ref (r 12), .ref (r 13), .ref (r 14), .ref (r 15), .ref (r 16), .ref (r 17), .ref (r 18), .ref (r 19), .ref (r 20), .ref (r 21), .ref (r 22), .ref (r 23), .ref (r 24), .int 0, .int 0, .int 0, .int 0, .int 0, .int 0, .int 0, .int 0, .int 0, .ref (r 25), .ref (r 26), .ref (r 27), .int 0, .int 0, .ref (r 28), .int 0, .ref (r 29), .ref (r 30), .ref (r 31), .ref (r 32), .ref (r 33), .ref (r 34), .ref (r 35), .ref (r 36), .int 0, .int 0, .int 0, .ref (r 37), .ref (r 38)])), (r 25, .inl ((c 25), 26, .inl f25)), (r 37, .inl ((c 37), 78, .inl zf86)), (r 38, .inl ((c 38), 3, .inl f38))] := by rw [ezf86]; exact hD
      refine lv_iinc (v := 19) (lv' := [(2, .int 19), (0, .ref (r 0)), (1, .int 0)]) hx hb dX9_image_36 hl (k := 0) rfl (by decide) (by decide) rfl (fun ls hl => ?_)
      refine lv_goto (tgt := 13) hx hb dX9_image_39 (by decide) ?_
      refine lv_iload_n hx hb dX9_image_13 rfl (lv_at hl 0 rfl) ?_
      refine lv_bipush (v := 26) hx hb dX9_image_14 (by decide) ?_
      refine lv_icmp_ge (tgt := 42) hx hb dX9_image_16 (by decide) (fun c_87 => absurd c_87 (by decide)) (fun c_87 => ?_)
      refine lv_aload_n hx hb dX9_image_19 rfl (lv_at hl 1 rfl) ?_
      refine va_get (D := (dC, dI)) (ci := 8) (v := .ref (r 37)) (C := RX9) (T := TX9) (N := 62) hx hb hG inX9 hown hK hP 0 rfl rfl 60 (by decide) (hG _ gw1231) (fun _ h9 => h9) rfl dX9_image_20 ?_
      refine lv_bipush (v := 26) hx hb dX9_image_23 (by decide) ?_
      refine lv_iload_n hx hb dX9_image_25 rfl (lv_at hl 2 rfl) ?_
      refine lv_imul hx hb dX9_image_26 ?_
      refine wt_c (v := 0) (by decide) ?_
      refine lv_iload_n hx hb dX9_image_27 rfl (lv_at hl 0 rfl) ?_
      refine lv_iadd hx hb dX9_image_28 ?_
      refine wt_c (v := 19) (by decide) ?_
      refine lv_aload_n hx hb dX9_image_29 rfl (lv_at hl 1 rfl) ?_
      refine va_get (D := (dC, dI)) (ci := 8) (v := .ref (r 25)) (C := RX9) (T := TX9) (N := 62) hx hb hG inX9 hown hK hP 0 rfl rfl 42 (by decide) (hG _ gw1213) (fun _ h9 => h9) rfl dX9_image_30 ?_
      refine lv_iload_n hx hb dX9_image_33 rfl (lv_at hl 0 rfl) ?_
      refine va_iald hx hb hK hP 1 0 rfl rfl (vin (by decide)) dX9_image_34 ?_
      refine lv_topi (fun x88 ex88 => ?_)
      refine va_iast hx hb hK hP hD hS 2 1 rfl rfl (vin (by decide)) dX9_image_35 (fun H89 locs hP hD hS => ?_)
      obtain ⟨zf90, ezf90⟩ : ∃ z : Nat → Int32, z = upd zf86 (19 : Int32).toNatClampNeg x88 := ⟨_, rfl⟩
      have hP : va_P (dC, dI) vwCl [(r 0, .inr (8, [.ref (r 1), .ref (r 2), .int 0, .int 0, .int 0, .int (-1), .int 0, .int 0, .int 0, .int 0, .long 0, .ref (r 3), .ref (r 4), .ref (r 5), .ref (r 6), .ref (r 7), .ref (r 8), .ref (r 9), .ref (r 10), .ref (r 11), .ref (r 12), .ref (r 13), .ref (r 14), .ref (r 15), .ref (r 16), .ref (r 17), .ref (r 18), .ref (r 19), .ref (r 20), .ref (r 21), .ref (r 22), .ref (r 23), .ref (r 24), .int 0, .int 0, .int 0, .int 0, .int 0, .int 0, .int 0, .int 0, .int 0, .ref (r 25), .ref (r 26), .ref (r 27), .int 0, .int 0, .ref (r 28), .int 0, .ref (r 29), .ref (r 30), .ref (r 31), .ref (r 32), .ref (r 33), .ref (r 34), .ref (r 35), .ref (r 36), .int 0, .int 0, .int 0, .ref (r 37), .ref (r 38)])), (r 25, .inl ((c 25), 26, .inl f25)), (r 37, .inl ((c 37), 78, .inl zf90)), (r 38, .inl ((c 38), 3, .inl f38))] H89 := by rw [ezf90]; exact hP
      have hD : va_D A [(r 0, .inr (8, [.ref (r 1), .ref (r 2), .int 0, .int 0, .int 0, .int (-1), .int 0, .int 0, .int 0, .int 0, .long 0, .ref (r 3), .ref (r 4), .ref (r 5), .ref (r 6), .ref (r 7), .ref (r 8), .ref (r 9), .ref (r 10), .ref (r 11), .ref (r 12), .ref (r 13), .ref (r 14), .ref (r 15), .ref (r 16), .ref (r 17), .ref (r 18), .ref (r 19), .ref (r 20), .ref (r 21), .ref (r 22), .ref (r 23), .ref (r 24), .int 0, .int 0, .int 0, .int 0, .int 0, .int 0, .int 0, .int 0, .int 0, .ref (r 25), .ref (r 26), .ref (r 27), .int 0, .int 0, .ref (r 28), .int 0, .ref (r 29), .ref (r 30), .ref (r 31), .ref (r 32), .ref (r 33), .ref (r 34), .ref (r 35), .ref (r 36), .int 0, .int 0, .int 0, .ref (r 37), .ref (r 38)])), (r 25, .inl ((c 25), 26, .inl f25)), (r 37, .inl ((c 37), 78, .inl zf90)), (r 38, .inl ((c 38), 3, .inl f38))] := by rw [ezf90]; exact hD
      refine lv_iinc (v := 20) (lv' := [(2, .int 20), (0, .ref (r 0)), (1, .int 0)]) hx hb dX9_image_36 hl (k := 0) rfl (by decide) (by decide) rfl (fun ls hl => ?_)
      refine lv_goto (tgt := 13) hx hb dX9_image_39 (by decide) ?_
      refine lv_iload_n hx hb dX9_image_13 rfl (lv_at hl 0 rfl) ?_
      refine lv_bipush (v := 26) hx hb dX9_image_14 (by decide) ?_
      refine lv_icmp_ge (tgt := 42) hx hb dX9_image_16 (by decide) (fun c_91 => absurd c_91 (by decide)) (fun c_91 => ?_)
      refine lv_aload_n hx hb dX9_image_19 rfl (lv_at hl 1 rfl) ?_
      refine va_get (D := (dC, dI)) (ci := 8) (v := .ref (r 37)) (C := RX9) (T := TX9) (N := 62) hx hb hG inX9 hown hK hP 0 rfl rfl 60 (by decide) (hG _ gw1231) (fun _ h9 => h9) rfl dX9_image_20 ?_
      refine lv_bipush (v := 26) hx hb dX9_image_23 (by decide) ?_
      refine lv_iload_n hx hb dX9_image_25 rfl (lv_at hl 2 rfl) ?_
      refine lv_imul hx hb dX9_image_26 ?_
      refine wt_c (v := 0) (by decide) ?_
      refine lv_iload_n hx hb dX9_image_27 rfl (lv_at hl 0 rfl) ?_
      refine lv_iadd hx hb dX9_image_28 ?_
      refine wt_c (v := 20) (by decide) ?_
      refine lv_aload_n hx hb dX9_image_29 rfl (lv_at hl 1 rfl) ?_
      refine va_get (D := (dC, dI)) (ci := 8) (v := .ref (r 25)) (C := RX9) (T := TX9) (N := 62) hx hb hG inX9 hown hK hP 0 rfl rfl 42 (by decide) (hG _ gw1213) (fun _ h9 => h9) rfl dX9_image_30 ?_
      refine lv_iload_n hx hb dX9_image_33 rfl (lv_at hl 0 rfl) ?_
      refine va_iald hx hb hK hP 1 0 rfl rfl (vin (by decide)) dX9_image_34 ?_
      refine lv_topi (fun x92 ex92 => ?_)
      refine va_iast hx hb hK hP hD hS 2 1 rfl rfl (vin (by decide)) dX9_image_35 (fun H93 locs hP hD hS => ?_)
      obtain ⟨zf94, ezf94⟩ : ∃ z : Nat → Int32, z = upd zf90 (20 : Int32).toNatClampNeg x92 := ⟨_, rfl⟩
      have hP : va_P (dC, dI) vwCl [(r 0, .inr (8, [.ref (r 1), .ref (r 2), .int 0, .int 0, .int 0, .int (-1), .int 0, .int 0, .int 0, .int 0, .long 0, .ref (r 3), .ref (r 4), .ref (r 5), .ref (r 6), .ref (r 7), .ref (r 8), .ref (r 9), .ref (r 10), .ref (r 11), .ref (r 12), .ref (r 13), .ref (r 14), .ref (r 15), .ref (r 16), .ref (r 17), .ref (r 18), .ref (r 19), .ref (r 20), .ref (r 21), .ref (r 22), .ref (r 23), .ref (r 24), .int 0, .int 0, .int 0, .int 0, .int 0, .int 0, .int 0, .int 0, .int 0, .ref (r 25), .ref (r 26), .ref (r 27), .int 0, .int 0, .ref (r 28), .int 0, .ref (r 29), .ref (r 30), .ref (r 31), .ref (r 32), .ref (r 33), .ref (r 34), .ref (r 35), .ref (r 36), .int 0, .int 0, .int 0, .ref (r 37), .ref (r 38)])), (r 25, .inl ((c 25), 26, .inl f25)), (r 37, .inl ((c 37), 78, .inl zf94)), (r 38, .inl ((c 38), 3, .inl f38))] H93 := by rw [ezf94]; exact hP
      have hD : va_D A [(r 0, .inr (8, [.ref (r 1), .ref (r 2), .int 0, .int 0, .int 0, .int (-1), .int 0, .int 0, .int 0, .int 0, .long 0, .ref (r 3), .ref (r 4), .ref (r 5), .ref (r 6), .ref (r 7), .ref (r 8), .ref (r 9), .ref (r 10), .ref (r 11), .ref (r 12), .ref (r 13), .ref (r 14), .ref (r 15), .ref (r 16), .ref (r 17), .ref (r 18), .ref (r 19), .ref (r 20), .ref (r 21), .ref (r 22), .ref (r 23), .ref (r 24), .int 0, .int 0, .int 0, .int 0, .int 0, .int 0, .int 0, .int 0, .int 0, .ref (r 25), .ref (r 26), .ref (r 27), .int 0, .int 0, .ref (r 28), .int 0, .ref (r 29), .ref (r 30), .ref (r 31), .ref (r 32), .ref (r 33), .ref (r 34), .ref (r 35), .ref (r 36), .int 0, .int 0, .int 0, .ref (r 37), .ref (r 38)])), (r 25, .inl ((c 25), 26, .inl f25)), (r 37, .inl ((c 37), 78, .inl zf94)), (r 38, .inl ((c 38), 3, .inl f38))] := by rw [ezf94]; exact hD
      refine lv_iinc (v := 21) (lv' := [(2, .int 21), (0, .ref (r 0)), (1, .int 0)]) hx hb dX9_image_36 hl (k := 0) rfl (by decide) (by decide) rfl (fun ls hl => ?_)
      refine lv_goto (tgt := 13) hx hb dX9_image_39 (by decide) ?_
      refine lv_iload_n hx hb dX9_image_13 rfl (lv_at hl 0 rfl) ?_
      refine lv_bipush (v := 26) hx hb dX9_image_14 (by decide) ?_
      refine lv_icmp_ge (tgt := 42) hx hb dX9_image_16 (by decide) (fun c_95 => absurd c_95 (by decide)) (fun c_95 => ?_)
      refine lv_aload_n hx hb dX9_image_19 rfl (lv_at hl 1 rfl) ?_
      refine va_get (D := (dC, dI)) (ci := 8) (v := .ref (r 37)) (C := RX9) (T := TX9) (N := 62) hx hb hG inX9 hown hK hP 0 rfl rfl 60 (by decide) (hG _ gw1231) (fun _ h9 => h9) rfl dX9_image_20 ?_
      refine lv_bipush (v := 26) hx hb dX9_image_23 (by decide) ?_
      refine lv_iload_n hx hb dX9_image_25 rfl (lv_at hl 2 rfl) ?_
      refine lv_imul hx hb dX9_image_26 ?_
      refine wt_c (v := 0) (by decide) ?_
      refine lv_iload_n hx hb dX9_image_27 rfl (lv_at hl 0 rfl) ?_
      refine lv_iadd hx hb dX9_image_28 ?_
      refine wt_c (v := 21) (by decide) ?_
      refine lv_aload_n hx hb dX9_image_29 rfl (lv_at hl 1 rfl) ?_
      refine va_get (D := (dC, dI)) (ci := 8) (v := .ref (r 25)) (C := RX9) (T := TX9) (N := 62) hx hb hG inX9 hown hK hP 0 rfl rfl 42 (by decide) (hG _ gw1213) (fun _ h9 => h9) rfl dX9_image_30 ?_
      refine lv_iload_n hx hb dX9_image_33 rfl (lv_at hl 0 rfl) ?_
      refine va_iald hx hb hK hP 1 0 rfl rfl (vin (by decide)) dX9_image_34 ?_
      refine lv_topi (fun x96 ex96 => ?_)
      refine va_iast hx hb hK hP hD hS 2 1 rfl rfl (vin (by decide)) dX9_image_35 (fun H97 locs hP hD hS => ?_)
      obtain ⟨zf98, ezf98⟩ : ∃ z : Nat → Int32, z = upd zf94 (21 : Int32).toNatClampNeg x96 := ⟨_, rfl⟩
      have hP : va_P (dC, dI) vwCl [(r 0, .inr (8, [.ref (r 1), .ref (r 2), .int 0, .int 0, .int 0, .int (-1), .int 0, .int 0, .int 0, .int 0, .long 0, .ref (r 3), .ref (r 4), .ref (r 5), .ref (r 6), .ref (r 7), .ref (r 8), .ref (r 9), .ref (r 10), .ref (r 11), .ref (r 12), .ref (r 13), .ref (r 14), .ref (r 15), .ref (r 16), .ref (r 17), .ref (r 18), .ref (r 19), .ref (r 20), .ref (r 21), .ref (r 22), .ref (r 23), .ref (r 24), .int 0, .int 0, .int 0, .int 0, .int 0, .int 0, .int 0, .int 0, .int 0, .ref (r 25), .ref (r 26), .ref (r 27), .int 0, .int 0, .ref (r 28), .int 0, .ref (r 29), .ref (r 30), .ref (r 31), .ref (r 32), .ref (r 33), .ref (r 34), .ref (r 35), .ref (r 36), .int 0, .int 0, .int 0, .ref (r 37), .ref (r 38)])), (r 25, .inl ((c 25), 26, .inl f25)), (r 37, .inl ((c 37), 78, .inl zf98)), (r 38, .inl ((c 38), 3, .inl f38))] H97 := by rw [ezf98]; exact hP
      have hD : va_D A [(r 0, .inr (8, [.ref (r 1), .ref (r 2), .int 0, .int 0, .int 0, .int (-1), .int 0, .int 0, .int 0, .int 0, .long 0, .ref (r 3), .ref (r 4), .ref (r 5), .ref (r 6), .ref (r 7), .ref (r 8), .ref (r 9), .ref (r 10), .ref (r 11), .ref (r 12), .ref (r 13), .ref (r 14), .ref (r 15), .ref (r 16), .ref (r 17), .ref (r 18), .ref (r 19), .ref (r 20), .ref (r 21), .ref (r 22), .ref (r 23), .ref (r 24), .int 0, .int 0, .int 0, .int 0, .int 0, .int 0, .int 0, .int 0, .int 0, .ref (r 25), .ref (r 26), .ref (r 27), .int 0, .int 0, .ref (r 28), .int 0, .ref (r 29), .ref (r 30), .ref (r 31), .ref (r 32), .ref (r 33), .ref (r 34), .ref (r 35), .ref (r 36), .int 0, .int 0, .int 0, .ref (r 37), .ref (r 38)])), (r 25, .inl ((c 25), 26, .inl f25)), (r 37, .inl ((c 37), 78, .inl zf98)), (r 38, .inl ((c 38), 3, .inl f38))] := by rw [ezf98]; exact hD
      refine lv_iinc (v := 22) (lv' := [(2, .int 22), (0, .ref (r 0)), (1, .int 0)]) hx hb dX9_image_36 hl (k := 0) rfl (by decide) (by decide) rfl (fun ls hl => ?_)
      refine lv_goto (tgt := 13) hx hb dX9_image_39 (by decide) ?_
      refine lv_iload_n hx hb dX9_image_13 rfl (lv_at hl 0 rfl) ?_
      refine lv_bipush (v := 26) hx hb dX9_image_14 (by decide) ?_
      refine lv_icmp_ge (tgt := 42) hx hb dX9_image_16 (by decide) (fun c_99 => absurd c_99 (by decide)) (fun c_99 => ?_)
      refine lv_aload_n hx hb dX9_image_19 rfl (lv_at hl 1 rfl) ?_
      refine va_get (D := (dC, dI)) (ci := 8) (v := .ref (r 37)) (C := RX9) (T := TX9) (N := 62) hx hb hG inX9 hown hK hP 0 rfl rfl 60 (by decide) (hG _ gw1231) (fun _ h9 => h9) rfl dX9_image_20 ?_
      refine lv_bipush (v := 26) hx hb dX9_image_23 (by decide) ?_
      refine lv_iload_n hx hb dX9_image_25 rfl (lv_at hl 2 rfl) ?_
      refine lv_imul hx hb dX9_image_26 ?_
      refine wt_c (v := 0) (by decide) ?_
      refine lv_iload_n hx hb dX9_image_27 rfl (lv_at hl 0 rfl) ?_
      refine lv_iadd hx hb dX9_image_28 ?_
      refine wt_c (v := 22) (by decide) ?_
      refine lv_aload_n hx hb dX9_image_29 rfl (lv_at hl 1 rfl) ?_
      refine va_get (D := (dC, dI)) (ci := 8) (v := .ref (r 25)) (C := RX9) (T := TX9) (N := 62) hx hb hG inX9 hown hK hP 0 rfl rfl 42 (by decide) (hG _ gw1213) (fun _ h9 => h9) rfl dX9_image_30 ?_
      refine lv_iload_n hx hb dX9_image_33 rfl (lv_at hl 0 rfl) ?_
      refine va_iald hx hb hK hP 1 0 rfl rfl (vin (by decide)) dX9_image_34 ?_
      refine lv_topi (fun x100 ex100 => ?_)
      refine va_iast hx hb hK hP hD hS 2 1 rfl rfl (vin (by decide)) dX9_image_35 (fun H101 locs hP hD hS => ?_)
      obtain ⟨zf102, ezf102⟩ : ∃ z : Nat → Int32, z = upd zf98 (22 : Int32).toNatClampNeg x100 := ⟨_, rfl⟩
      have hP : va_P (dC, dI) vwCl [(r 0, .inr (8, [.ref (r 1), .ref (r 2), .int 0, .int 0, .int 0, .int (-1), .int 0, .int 0, .int 0, .int 0, .long 0, .ref (r 3), .ref (r 4), .ref (r 5), .ref (r 6), .ref (r 7), .ref (r 8), .ref (r 9), .ref (r 10), .ref (r 11), .ref (r 12), .ref (r 13), .ref (r 14), .ref (r 15), .ref (r 16), .ref (r 17), .ref (r 18), .ref (r 19), .ref (r 20), .ref (r 21), .ref (r 22), .ref (r 23), .ref (r 24), .int 0, .int 0, .int 0, .int 0, .int 0, .int 0, .int 0, .int 0, .int 0, .ref (r 25), .ref (r 26), .ref (r 27), .int 0, .int 0, .ref (r 28), .int 0, .ref (r 29), .ref (r 30), .ref (r 31), .ref (r 32), .ref (r 33), .ref (r 34), .ref (r 35), .ref (r 36), .int 0, .int 0, .int 0, .ref (r 37), .ref (r 38)])), (r 25, .inl ((c 25), 26, .inl f25)), (r 37, .inl ((c 37), 78, .inl zf102)), (r 38, .inl ((c 38), 3, .inl f38))] H101 := by rw [ezf102]; exact hP
      have hD : va_D A [(r 0, .inr (8, [.ref (r 1), .ref (r 2), .int 0, .int 0, .int 0, .int (-1), .int 0, .int 0, .int 0, .int 0, .long 0, .ref (r 3), .ref (r 4), .ref (r 5), .ref (r 6), .ref (r 7), .ref (r 8), .ref (r 9), .ref (r 10), .ref (r 11), .ref (r 12), .ref (r 13), .ref (r 14), .ref (r 15), .ref (r 16), .ref (r 17), .ref (r 18), .ref (r 19), .ref (r 20), .ref (r 21), .ref (r 22), .ref (r 23), .ref (r 24), .int 0, .int 0, .int 0, .int 0, .int 0, .int 0, .int 0, .int 0, .int 0, .ref (r 25), .ref (r 26), .ref (r 27), .int 0, .int 0, .ref (r 28), .int 0, .ref (r 29), .ref (r 30), .ref (r 31), .ref (r 32), .ref (r 33), .ref (r 34), .ref (r 35), .ref (r 36), .int 0, .int 0, .int 0, .ref (r 37), .ref (r 38)])), (r 25, .inl ((c 25), 26, .inl f25)), (r 37, .inl ((c 37), 78, .inl zf102)), (r 38, .inl ((c 38), 3, .inl f38))] := by rw [ezf102]; exact hD
      refine lv_iinc (v := 23) (lv' := [(2, .int 23), (0, .ref (r 0)), (1, .int 0)]) hx hb dX9_image_36 hl (k := 0) rfl (by decide) (by decide) rfl (fun ls hl => ?_)
      refine lv_goto (tgt := 13) hx hb dX9_image_39 (by decide) ?_
      refine lv_iload_n hx hb dX9_image_13 rfl (lv_at hl 0 rfl) ?_
      refine lv_bipush (v := 26) hx hb dX9_image_14 (by decide) ?_
      refine lv_icmp_ge (tgt := 42) hx hb dX9_image_16 (by decide) (fun c_103 => absurd c_103 (by decide)) (fun c_103 => ?_)
      refine lv_aload_n hx hb dX9_image_19 rfl (lv_at hl 1 rfl) ?_
      refine va_get (D := (dC, dI)) (ci := 8) (v := .ref (r 37)) (C := RX9) (T := TX9) (N := 62) hx hb hG inX9 hown hK hP 0 rfl rfl 60 (by decide) (hG _ gw1231) (fun _ h9 => h9) rfl dX9_image_20 ?_
      refine lv_bipush (v := 26) hx hb dX9_image_23 (by decide) ?_
      refine lv_iload_n hx hb dX9_image_25 rfl (lv_at hl 2 rfl) ?_
      refine lv_imul hx hb dX9_image_26 ?_
      refine wt_c (v := 0) (by decide) ?_
      refine lv_iload_n hx hb dX9_image_27 rfl (lv_at hl 0 rfl) ?_
      refine lv_iadd hx hb dX9_image_28 ?_
      refine wt_c (v := 23) (by decide) ?_
      refine lv_aload_n hx hb dX9_image_29 rfl (lv_at hl 1 rfl) ?_
      refine va_get (D := (dC, dI)) (ci := 8) (v := .ref (r 25)) (C := RX9) (T := TX9) (N := 62) hx hb hG inX9 hown hK hP 0 rfl rfl 42 (by decide) (hG _ gw1213) (fun _ h9 => h9) rfl dX9_image_30 ?_
      refine lv_iload_n hx hb dX9_image_33 rfl (lv_at hl 0 rfl) ?_
      refine va_iald hx hb hK hP 1 0 rfl rfl (vin (by decide)) dX9_image_34 ?_
      refine lv_topi (fun x104 ex104 => ?_)
      refine va_iast hx hb hK hP hD hS 2 1 rfl rfl (vin (by decide)) dX9_image_35 (fun H105 locs hP hD hS => ?_)
      obtain ⟨zf106, ezf106⟩ : ∃ z : Nat → Int32, z = upd zf102 (23 : Int32).toNatClampNeg x104 := ⟨_, rfl⟩
      have hP : va_P (dC, dI) vwCl [(r 0, .inr (8, [.ref (r 1), .ref (r 2), .int 0, .int 0, .int 0, .int (-1), .int 0, .int 0, .int 0, .int 0, .long 0, .ref (r 3), .ref (r 4), .ref (r 5), .ref (r 6), .ref (r 7), .ref (r 8), .ref (r 9), .ref (r 10), .ref (r 11), .ref (r 12), .ref (r 13), .ref (r 14), .ref (r 15), .ref (r 16), .ref (r 17), .ref (r 18), .ref (r 19), .ref (r 20), .ref (r 21), .ref (r 22), .ref (r 23), .ref (r 24), .int 0, .int 0, .int 0, .int 0, .int 0, .int 0, .int 0, .int 0, .int 0, .ref (r 25), .ref (r 26), .ref (r 27), .int 0, .int 0, .ref (r 28), .int 0, .ref (r 29), .ref (r 30), .ref (r 31), .ref (r 32), .ref (r 33), .ref (r 34), .ref (r 35), .ref (r 36), .int 0, .int 0, .int 0, .ref (r 37), .ref (r 38)])), (r 25, .inl ((c 25), 26, .inl f25)), (r 37, .inl ((c 37), 78, .inl zf106)), (r 38, .inl ((c 38), 3, .inl f38))] H105 := by rw [ezf106]; exact hP
      have hD : va_D A [(r 0, .inr (8, [.ref (r 1), .ref (r 2), .int 0, .int 0, .int 0, .int (-1), .int 0, .int 0, .int 0, .int 0, .long 0, .ref (r 3), .ref (r 4), .ref (r 5), .ref (r 6), .ref (r 7), .ref (r 8), .ref (r 9), .ref (r 10), .ref (r 11), .ref (r 12), .ref (r 13), .ref (r 14), .ref (r 15), .ref (r 16), .ref (r 17), .ref (r 18), .ref (r 19), .ref (r 20), .ref (r 21), .ref (r 22), .ref (r 23), .ref (r 24), .int 0, .int 0, .int 0, .int 0, .int 0, .int 0, .int 0, .int 0, .int 0, .ref (r 25), .ref (r 26), .ref (r 27), .int 0, .int 0, .ref (r 28), .int 0, .ref (r 29), .ref (r 30), .ref (r 31), .ref (r 32), .ref (r 33), .ref (r 34), .ref (r 35), .ref (r 36), .int 0, .int 0, .int 0, .ref (r 37), .ref (r 38)])), (r 25, .inl ((c 25), 26, .inl f25)), (r 37, .inl ((c 37), 78, .inl zf106)), (r 38, .inl ((c 38), 3, .inl f38))] := by rw [ezf106]; exact hD
      refine lv_iinc (v := 24) (lv' := [(2, .int 24), (0, .ref (r 0)), (1, .int 0)]) hx hb dX9_image_36 hl (k := 0) rfl (by decide) (by decide) rfl (fun ls hl => ?_)
      refine lv_goto (tgt := 13) hx hb dX9_image_39 (by decide) ?_
      refine lv_iload_n hx hb dX9_image_13 rfl (lv_at hl 0 rfl) ?_
      refine lv_bipush (v := 26) hx hb dX9_image_14 (by decide) ?_
      refine lv_icmp_ge (tgt := 42) hx hb dX9_image_16 (by decide) (fun c_107 => absurd c_107 (by decide)) (fun c_107 => ?_)
      refine lv_aload_n hx hb dX9_image_19 rfl (lv_at hl 1 rfl) ?_
      refine va_get (D := (dC, dI)) (ci := 8) (v := .ref (r 37)) (C := RX9) (T := TX9) (N := 62) hx hb hG inX9 hown hK hP 0 rfl rfl 60 (by decide) (hG _ gw1231) (fun _ h9 => h9) rfl dX9_image_20 ?_
      refine lv_bipush (v := 26) hx hb dX9_image_23 (by decide) ?_
      refine lv_iload_n hx hb dX9_image_25 rfl (lv_at hl 2 rfl) ?_
      refine lv_imul hx hb dX9_image_26 ?_
      refine wt_c (v := 0) (by decide) ?_
      refine lv_iload_n hx hb dX9_image_27 rfl (lv_at hl 0 rfl) ?_
      refine lv_iadd hx hb dX9_image_28 ?_
      refine wt_c (v := 24) (by decide) ?_
      refine lv_aload_n hx hb dX9_image_29 rfl (lv_at hl 1 rfl) ?_
      refine va_get (D := (dC, dI)) (ci := 8) (v := .ref (r 25)) (C := RX9) (T := TX9) (N := 62) hx hb hG inX9 hown hK hP 0 rfl rfl 42 (by decide) (hG _ gw1213) (fun _ h9 => h9) rfl dX9_image_30 ?_
      refine lv_iload_n hx hb dX9_image_33 rfl (lv_at hl 0 rfl) ?_
      refine va_iald hx hb hK hP 1 0 rfl rfl (vin (by decide)) dX9_image_34 ?_
      refine wt_c (v := 0) hf25_24 ?_
      refine va_iast hx hb hK hP hD hS 2 1 rfl rfl (vin (by decide)) dX9_image_35 (fun H108 locs hP hD hS => ?_)
      obtain ⟨zf109, ezf109⟩ : ∃ z : Nat → Int32, z = upd zf106 (24 : Int32).toNatClampNeg 0 := ⟨_, rfl⟩
      have hP : va_P (dC, dI) vwCl [(r 0, .inr (8, [.ref (r 1), .ref (r 2), .int 0, .int 0, .int 0, .int (-1), .int 0, .int 0, .int 0, .int 0, .long 0, .ref (r 3), .ref (r 4), .ref (r 5), .ref (r 6), .ref (r 7), .ref (r 8), .ref (r 9), .ref (r 10), .ref (r 11), .ref (r 12), .ref (r 13), .ref (r 14), .ref (r 15), .ref (r 16), .ref (r 17), .ref (r 18), .ref (r 19), .ref (r 20), .ref (r 21), .ref (r 22), .ref (r 23), .ref (r 24), .int 0, .int 0, .int 0, .int 0, .int 0, .int 0, .int 0, .int 0, .int 0, .ref (r 25), .ref (r 26), .ref (r 27), .int 0, .int 0, .ref (r 28), .int 0, .ref (r 29), .ref (r 30), .ref (r 31), .ref (r 32), .ref (r 33), .ref (r 34), .ref (r 35), .ref (r 36), .int 0, .int 0, .int 0, .ref (r 37), .ref (r 38)])), (r 25, .inl ((c 25), 26, .inl f25)), (r 37, .inl ((c 37), 78, .inl zf109)), (r 38, .inl ((c 38), 3, .inl f38))] H108 := by rw [ezf109]; exact hP
      have hD : va_D A [(r 0, .inr (8, [.ref (r 1), .ref (r 2), .int 0, .int 0, .int 0, .int (-1), .int 0, .int 0, .int 0, .int 0, .long 0, .ref (r 3), .ref (r 4), .ref (r 5), .ref (r 6), .ref (r 7), .ref (r 8), .ref (r 9), .ref (r 10), .ref (r 11), .ref (r 12), .ref (r 13), .ref (r 14), .ref (r 15), .ref (r 16), .ref (r 17), .ref (r 18), .ref (r 19), .ref (r 20), .ref (r 21), .ref (r 22), .ref (r 23), .ref (r 24), .int 0, .int 0, .int 0, .int 0, .int 0, .int 0, .int 0, .int 0, .int 0, .ref (r 25), .ref (r 26), .ref (r 27), .int 0, .int 0, .ref (r 28), .int 0, .ref (r 29), .ref (r 30), .ref (r 31), .ref (r 32), .ref (r 33), .ref (r 34), .ref (r 35), .ref (r 36), .int 0, .int 0, .int 0, .ref (r 37), .ref (r 38)])), (r 25, .inl ((c 25), 26, .inl f25)), (r 37, .inl ((c 37), 78, .inl zf109)), (r 38, .inl ((c 38), 3, .inl f38))] := by rw [ezf109]; exact hD
      refine lv_iinc (v := 25) (lv' := [(2, .int 25), (0, .ref (r 0)), (1, .int 0)]) hx hb dX9_image_36 hl (k := 0) rfl (by decide) (by decide) rfl (fun ls hl => ?_)
      refine lv_goto (tgt := 13) hx hb dX9_image_39 (by decide) ?_
      refine lv_iload_n hx hb dX9_image_13 rfl (lv_at hl 0 rfl) ?_
      refine lv_bipush (v := 26) hx hb dX9_image_14 (by decide) ?_
      refine lv_icmp_ge (tgt := 42) hx hb dX9_image_16 (by decide) (fun c_110 => absurd c_110 (by decide)) (fun c_110 => ?_)
      refine lv_aload_n hx hb dX9_image_19 rfl (lv_at hl 1 rfl) ?_
      refine va_get (D := (dC, dI)) (ci := 8) (v := .ref (r 37)) (C := RX9) (T := TX9) (N := 62) hx hb hG inX9 hown hK hP 0 rfl rfl 60 (by decide) (hG _ gw1231) (fun _ h9 => h9) rfl dX9_image_20 ?_
      refine lv_bipush (v := 26) hx hb dX9_image_23 (by decide) ?_
      refine lv_iload_n hx hb dX9_image_25 rfl (lv_at hl 2 rfl) ?_
      refine lv_imul hx hb dX9_image_26 ?_
      refine wt_c (v := 0) (by decide) ?_
      refine lv_iload_n hx hb dX9_image_27 rfl (lv_at hl 0 rfl) ?_
      refine lv_iadd hx hb dX9_image_28 ?_
      refine wt_c (v := 25) (by decide) ?_
      refine lv_aload_n hx hb dX9_image_29 rfl (lv_at hl 1 rfl) ?_
      refine va_get (D := (dC, dI)) (ci := 8) (v := .ref (r 25)) (C := RX9) (T := TX9) (N := 62) hx hb hG inX9 hown hK hP 0 rfl rfl 42 (by decide) (hG _ gw1213) (fun _ h9 => h9) rfl dX9_image_30 ?_
      refine lv_iload_n hx hb dX9_image_33 rfl (lv_at hl 0 rfl) ?_
      refine va_iald hx hb hK hP 1 0 rfl rfl (vin (by decide)) dX9_image_34 ?_
      refine wt_c (v := 0) hf25_25 ?_
      refine va_iast hx hb hK hP hD hS 2 1 rfl rfl (vin (by decide)) dX9_image_35 (fun H111 locs hP hD hS => ?_)
      obtain ⟨zf112, ezf112⟩ : ∃ z : Nat → Int32, z = upd zf109 (25 : Int32).toNatClampNeg 0 := ⟨_, rfl⟩
      have hP : va_P (dC, dI) vwCl [(r 0, .inr (8, [.ref (r 1), .ref (r 2), .int 0, .int 0, .int 0, .int (-1), .int 0, .int 0, .int 0, .int 0, .long 0, .ref (r 3), .ref (r 4), .ref (r 5), .ref (r 6), .ref (r 7), .ref (r 8), .ref (r 9), .ref (r 10), .ref (r 11), .ref (r 12), .ref (r 13), .ref (r 14), .ref (r 15), .ref (r 16), .ref (r 17), .ref (r 18), .ref (r 19), .ref (r 20), .ref (r 21), .ref (r 22), .ref (r 23), .ref (r 24), .int 0, .int 0, .int 0, .int 0, .int 0, .int 0, .int 0, .int 0, .int 0, .ref (r 25), .ref (r 26), .ref (r 27), .int 0, .int 0, .ref (r 28), .int 0, .ref (r 29), .ref (r 30), .ref (r 31), .ref (r 32), .ref (r 33), .ref (r 34), .ref (r 35), .ref (r 36), .int 0, .int 0, .int 0, .ref (r 37), .ref (r 38)])), (r 25, .inl ((c 25), 26, .inl f25)), (r 37, .inl ((c 37), 78, .inl zf112)), (r 38, .inl ((c 38), 3, .inl f38))] H111 := by rw [ezf112]; exact hP
      have hD : va_D A [(r 0, .inr (8, [.ref (r 1), .ref (r 2), .int 0, .int 0, .int 0, .int (-1), .int 0, .int 0, .int 0, .int 0, .long 0, .ref (r 3), .ref (r 4), .ref (r 5), .ref (r 6), .ref (r 7), .ref (r 8), .ref (r 9), .ref (r 10), .ref (r 11), .ref (r 12), .ref (r 13), .ref (r 14), .ref (r 15), .ref (r 16), .ref (r 17), .ref (r 18), .ref (r 19), .ref (r 20), .ref (r 21), .ref (r 22), .ref (r 23), .ref (r 24), .int 0, .int 0, .int 0, .int 0, .int 0, .int 0, .int 0, .int 0, .int 0, .ref (r 25), .ref (r 26), .ref (r 27), .int 0, .int 0, .ref (r 28), .int 0, .ref (r 29), .ref (r 30), .ref (r 31), .ref (r 32), .ref (r 33), .ref (r 34), .ref (r 35), .ref (r 36), .int 0, .int 0, .int 0, .ref (r 37), .ref (r 38)])), (r 25, .inl ((c 25), 26, .inl f25)), (r 37, .inl ((c 37), 78, .inl zf112)), (r 38, .inl ((c 38), 3, .inl f38))] := by rw [ezf112]; exact hD
      refine lv_iinc (v := 26) (lv' := [(2, .int 26), (0, .ref (r 0)), (1, .int 0)]) hx hb dX9_image_36 hl (k := 0) rfl (by decide) (by decide) rfl (fun ls hl => ?_)
      refine lv_goto (tgt := 13) hx hb dX9_image_39 (by decide) ?_
      refine lv_iload_n hx hb dX9_image_13 rfl (lv_at hl 0 rfl) ?_
      refine lv_bipush (v := 26) hx hb dX9_image_14 (by decide) ?_
      refine lv_icmp_ge (tgt := 42) hx hb dX9_image_16 (by decide) (fun c_113 => ?_) (fun c_113 => absurd (by decide) c_113)
      refine lv_aload_n hx hb dX9_image_42 rfl (lv_at hl 1 rfl) ?_
      refine va_get (D := (dC, dI)) (ci := 8) (v := .ref (r 38)) (C := RX9) (T := TX9) (N := 62) hx hb hG inX9 hown hK hP 0 rfl rfl 61 (by decide) (hG _ gw1232) (fun _ h9 => h9) rfl dX9_image_43 ?_
      refine lv_iload_n hx hb dX9_image_46 rfl (lv_at hl 2 rfl) ?_
      refine lv_iconst (v := 1) hx hb dX9_image_47 (by decide) ?_
      refine va_zast hx hb hK hP hD hS 3 2 rfl rfl (vin (by decide)) dX9_image_48 (fun H114 locs hP hD hS => ?_)
      obtain ⟨zf115, ezf115⟩ : ∃ z : Nat → Int32, z = upd f38 (0 : Int32).toNatClampNeg (vp_nar .boolean 1) := ⟨_, rfl⟩
      have hP : va_P (dC, dI) vwCl [(r 0, .inr (8, [.ref (r 1), .ref (r 2), .int 0, .int 0, .int 0, .int (-1), .int 0, .int 0, .int 0, .int 0, .long 0, .ref (r 3), .ref (r 4), .ref (r 5), .ref (r 6), .ref (r 7), .ref (r 8), .ref (r 9), .ref (r 10), .ref (r 11), .ref (r 12), .ref (r 13), .ref (r 14), .ref (r 15), .ref (r 16), .ref (r 17), .ref (r 18), .ref (r 19), .ref (r 20), .ref (r 21), .ref (r 22), .ref (r 23), .ref (r 24), .int 0, .int 0, .int 0, .int 0, .int 0, .int 0, .int 0, .int 0, .int 0, .ref (r 25), .ref (r 26), .ref (r 27), .int 0, .int 0, .ref (r 28), .int 0, .ref (r 29), .ref (r 30), .ref (r 31), .ref (r 32), .ref (r 33), .ref (r 34), .ref (r 35), .ref (r 36), .int 0, .int 0, .int 0, .ref (r 37), .ref (r 38)])), (r 25, .inl ((c 25), 26, .inl f25)), (r 37, .inl ((c 37), 78, .inl zf112)), (r 38, .inl ((c 38), 3, .inl zf115))] H114 := by rw [ezf115]; exact hP
      have hD : va_D A [(r 0, .inr (8, [.ref (r 1), .ref (r 2), .int 0, .int 0, .int 0, .int (-1), .int 0, .int 0, .int 0, .int 0, .long 0, .ref (r 3), .ref (r 4), .ref (r 5), .ref (r 6), .ref (r 7), .ref (r 8), .ref (r 9), .ref (r 10), .ref (r 11), .ref (r 12), .ref (r 13), .ref (r 14), .ref (r 15), .ref (r 16), .ref (r 17), .ref (r 18), .ref (r 19), .ref (r 20), .ref (r 21), .ref (r 22), .ref (r 23), .ref (r 24), .int 0, .int 0, .int 0, .int 0, .int 0, .int 0, .int 0, .int 0, .int 0, .ref (r 25), .ref (r 26), .ref (r 27), .int 0, .int 0, .ref (r 28), .int 0, .ref (r 29), .ref (r 30), .ref (r 31), .ref (r 32), .ref (r 33), .ref (r 34), .ref (r 35), .ref (r 36), .int 0, .int 0, .int 0, .ref (r 37), .ref (r 38)])), (r 25, .inl ((c 25), 26, .inl f25)), (r 37, .inl ((c 37), 78, .inl zf112)), (r 38, .inl ((c 38), 3, .inl zf115))] := by rw [ezf115]; exact hD
      have g116 : zf115 0 = 1 := ((congrFun ezf115 0).trans ((upd_eq1 (by decide)).trans (by decide)))
      refine lv_aload_n hx hb dX9_image_49 rfl (lv_at hl 1 rfl) ?_
      refine va_get (D := (dC, dI)) (ci := 8) (v := .ref (r 25)) (C := RX9) (T := TX9) (N := 62) hx hb hG inX9 hown hK hP 0 rfl rfl 42 (by decide) (hG _ gw1213) (fun _ h9 => h9) rfl dX9_image_50 ?_
      refine lv_bipush (v := 24) hx hb dX9_image_53 (by decide) ?_
      refine va_iald hx hb hK hP 1 0 rfl rfl (vin (by decide)) dX9_image_55 ?_
      refine wt_c (v := 0) hf25_24 ?_
      exact W.iret (v := 0) hx hb hr (fun t ht hW => ⟨⟨0, 2, rfl, (Or.inr (Or.inr (Or.inl ⟨rfl, rfl, rfl⟩))), trivial⟩, hS.F ht⟩) hS.2.2 dX9_image_56
    · skip
      refine lv_imul hx hb dX9_image_26 ?_
      refine wt_c (v := 26) (by decide) ?_
      refine lv_iload_n hx hb dX9_image_27 rfl (lv_at hl 0 rfl) ?_
      refine lv_iadd hx hb dX9_image_28 ?_
      refine wt_c (v := 26) (by decide) ?_
      refine lv_aload_n hx hb dX9_image_29 rfl (lv_at hl 1 rfl) ?_
      refine va_get (D := (dC, dI)) (ci := 8) (v := .ref (r 25)) (C := RX9) (T := TX9) (N := 62) hx hb hG inX9 hown hK hP 0 rfl rfl 42 (by decide) (hG _ gw1213) (fun _ h9 => h9) rfl dX9_image_30 ?_
      refine lv_iload_n hx hb dX9_image_33 rfl (lv_at hl 0 rfl) ?_
      refine va_iald hx hb hK hP 1 0 rfl rfl (vin (by decide)) dX9_image_34 ?_
      refine lv_topi (fun x117 ex117 => ?_)
      refine va_iast hx hb hK hP hD hS 2 1 rfl rfl (vin (by decide)) dX9_image_35 (fun H118 locs hP hD hS => ?_)
      obtain ⟨zf119, ezf119⟩ : ∃ z : Nat → Int32, z = upd (fun _ => 0) (26 : Int32).toNatClampNeg x117 := ⟨_, rfl⟩
      have hP : va_P (dC, dI) vwCl [(r 0, .inr (8, [.ref (r 1), .ref (r 2), .int 0, .int 0, .int 0, .int (-1), .int 0, .int 0, .int 0, .int 0, .long 0, .ref (r 3), .ref (r 4), .ref (r 5), .ref (r 6), .ref (r 7), .ref (r 8), .ref (r 9), .ref (r 10), .ref (r 11), .ref (r 12), .ref (r 13), .ref (r 14), .ref (r 15), .ref (r 16), .ref (r 17), .ref (r 18), .ref (r 19), .ref (r 20), .ref (r 21), .ref (r 22), .ref (r 23), .ref (r 24), .int 0, .int 0, .int 0, .int 0, .int 0, .int 0, .int 0, .int 0, .int 0, .ref (r 25), .ref (r 26), .ref (r 27), .int 0, .int 0, .ref (r 28), .int 0, .ref (r 29), .ref (r 30), .ref (r 31), .ref (r 32), .ref (r 33), .ref (r 34), .ref (r 35), .ref (r 36), .int 0, .int 0, .int 0, .ref (r 37), .ref (r 38)])), (r 25, .inl ((c 25), 26, .inl f25)), (r 37, .inl ((c 37), 78, .inl zf119)), (r 38, .inl ((c 38), 3, .inl f38))] H118 := by rw [ezf119]; exact hP
      have hD : va_D A [(r 0, .inr (8, [.ref (r 1), .ref (r 2), .int 0, .int 0, .int 0, .int (-1), .int 0, .int 0, .int 0, .int 0, .long 0, .ref (r 3), .ref (r 4), .ref (r 5), .ref (r 6), .ref (r 7), .ref (r 8), .ref (r 9), .ref (r 10), .ref (r 11), .ref (r 12), .ref (r 13), .ref (r 14), .ref (r 15), .ref (r 16), .ref (r 17), .ref (r 18), .ref (r 19), .ref (r 20), .ref (r 21), .ref (r 22), .ref (r 23), .ref (r 24), .int 0, .int 0, .int 0, .int 0, .int 0, .int 0, .int 0, .int 0, .int 0, .ref (r 25), .ref (r 26), .ref (r 27), .int 0, .int 0, .ref (r 28), .int 0, .ref (r 29), .ref (r 30), .ref (r 31), .ref (r 32), .ref (r 33), .ref (r 34), .ref (r 35), .ref (r 36), .int 0, .int 0, .int 0, .ref (r 37), .ref (r 38)])), (r 25, .inl ((c 25), 26, .inl f25)), (r 37, .inl ((c 37), 78, .inl zf119)), (r 38, .inl ((c 38), 3, .inl f38))] := by rw [ezf119]; exact hD
      refine lv_iinc (v := 1) (lv' := [(2, .int 1), (0, .ref (r 0)), (1, .int 1)]) hx hb dX9_image_36 hl (k := 0) rfl (by decide) (by decide) rfl (fun ls hl => ?_)
      refine lv_goto (tgt := 13) hx hb dX9_image_39 (by decide) ?_
      refine lv_iload_n hx hb dX9_image_13 rfl (lv_at hl 0 rfl) ?_
      refine lv_bipush (v := 26) hx hb dX9_image_14 (by decide) ?_
      refine lv_icmp_ge (tgt := 42) hx hb dX9_image_16 (by decide) (fun c_120 => absurd c_120 (by decide)) (fun c_120 => ?_)
      refine lv_aload_n hx hb dX9_image_19 rfl (lv_at hl 1 rfl) ?_
      refine va_get (D := (dC, dI)) (ci := 8) (v := .ref (r 37)) (C := RX9) (T := TX9) (N := 62) hx hb hG inX9 hown hK hP 0 rfl rfl 60 (by decide) (hG _ gw1231) (fun _ h9 => h9) rfl dX9_image_20 ?_
      refine lv_bipush (v := 26) hx hb dX9_image_23 (by decide) ?_
      refine lv_iload_n hx hb dX9_image_25 rfl (lv_at hl 2 rfl) ?_
      refine lv_imul hx hb dX9_image_26 ?_
      refine wt_c (v := 26) (by decide) ?_
      refine lv_iload_n hx hb dX9_image_27 rfl (lv_at hl 0 rfl) ?_
      refine lv_iadd hx hb dX9_image_28 ?_
      refine wt_c (v := 27) (by decide) ?_
      refine lv_aload_n hx hb dX9_image_29 rfl (lv_at hl 1 rfl) ?_
      refine va_get (D := (dC, dI)) (ci := 8) (v := .ref (r 25)) (C := RX9) (T := TX9) (N := 62) hx hb hG inX9 hown hK hP 0 rfl rfl 42 (by decide) (hG _ gw1213) (fun _ h9 => h9) rfl dX9_image_30 ?_
      refine lv_iload_n hx hb dX9_image_33 rfl (lv_at hl 0 rfl) ?_
      refine va_iald hx hb hK hP 1 0 rfl rfl (vin (by decide)) dX9_image_34 ?_
      refine lv_topi (fun x121 ex121 => ?_)
      refine va_iast hx hb hK hP hD hS 2 1 rfl rfl (vin (by decide)) dX9_image_35 (fun H122 locs hP hD hS => ?_)
      obtain ⟨zf123, ezf123⟩ : ∃ z : Nat → Int32, z = upd zf119 (27 : Int32).toNatClampNeg x121 := ⟨_, rfl⟩
      have hP : va_P (dC, dI) vwCl [(r 0, .inr (8, [.ref (r 1), .ref (r 2), .int 0, .int 0, .int 0, .int (-1), .int 0, .int 0, .int 0, .int 0, .long 0, .ref (r 3), .ref (r 4), .ref (r 5), .ref (r 6), .ref (r 7), .ref (r 8), .ref (r 9), .ref (r 10), .ref (r 11), .ref (r 12), .ref (r 13), .ref (r 14), .ref (r 15), .ref (r 16), .ref (r 17), .ref (r 18), .ref (r 19), .ref (r 20), .ref (r 21), .ref (r 22), .ref (r 23), .ref (r 24), .int 0, .int 0, .int 0, .int 0, .int 0, .int 0, .int 0, .int 0, .int 0, .ref (r 25), .ref (r 26), .ref (r 27), .int 0, .int 0, .ref (r 28), .int 0, .ref (r 29), .ref (r 30), .ref (r 31), .ref (r 32), .ref (r 33), .ref (r 34), .ref (r 35), .ref (r 36), .int 0, .int 0, .int 0, .ref (r 37), .ref (r 38)])), (r 25, .inl ((c 25), 26, .inl f25)), (r 37, .inl ((c 37), 78, .inl zf123)), (r 38, .inl ((c 38), 3, .inl f38))] H122 := by rw [ezf123]; exact hP
      have hD : va_D A [(r 0, .inr (8, [.ref (r 1), .ref (r 2), .int 0, .int 0, .int 0, .int (-1), .int 0, .int 0, .int 0, .int 0, .long 0, .ref (r 3), .ref (r 4), .ref (r 5), .ref (r 6), .ref (r 7), .ref (r 8), .ref (r 9), .ref (r 10), .ref (r 11), .ref (r 12), .ref (r 13), .ref (r 14), .ref (r 15), .ref (r 16), .ref (r 17), .ref (r 18), .ref (r 19), .ref (r 20), .ref (r 21), .ref (r 22), .ref (r 23), .ref (r 24), .int 0, .int 0, .int 0, .int 0, .int 0, .int 0, .int 0, .int 0, .int 0, .ref (r 25), .ref (r 26), .ref (r 27), .int 0, .int 0, .ref (r 28), .int 0, .ref (r 29), .ref (r 30), .ref (r 31), .ref (r 32), .ref (r 33), .ref (r 34), .ref (r 35), .ref (r 36), .int 0, .int 0, .int 0, .ref (r 37), .ref (r 38)])), (r 25, .inl ((c 25), 26, .inl f25)), (r 37, .inl ((c 37), 78, .inl zf123)), (r 38, .inl ((c 38), 3, .inl f38))] := by rw [ezf123]; exact hD
      refine lv_iinc (v := 2) (lv' := [(2, .int 2), (0, .ref (r 0)), (1, .int 1)]) hx hb dX9_image_36 hl (k := 0) rfl (by decide) (by decide) rfl (fun ls hl => ?_)
      refine lv_goto (tgt := 13) hx hb dX9_image_39 (by decide) ?_
      refine lv_iload_n hx hb dX9_image_13 rfl (lv_at hl 0 rfl) ?_
      refine lv_bipush (v := 26) hx hb dX9_image_14 (by decide) ?_
      refine lv_icmp_ge (tgt := 42) hx hb dX9_image_16 (by decide) (fun c_124 => absurd c_124 (by decide)) (fun c_124 => ?_)
      refine lv_aload_n hx hb dX9_image_19 rfl (lv_at hl 1 rfl) ?_
      refine va_get (D := (dC, dI)) (ci := 8) (v := .ref (r 37)) (C := RX9) (T := TX9) (N := 62) hx hb hG inX9 hown hK hP 0 rfl rfl 60 (by decide) (hG _ gw1231) (fun _ h9 => h9) rfl dX9_image_20 ?_
      refine lv_bipush (v := 26) hx hb dX9_image_23 (by decide) ?_
      refine lv_iload_n hx hb dX9_image_25 rfl (lv_at hl 2 rfl) ?_
      refine lv_imul hx hb dX9_image_26 ?_
      refine wt_c (v := 26) (by decide) ?_
      refine lv_iload_n hx hb dX9_image_27 rfl (lv_at hl 0 rfl) ?_
      refine lv_iadd hx hb dX9_image_28 ?_
      refine wt_c (v := 28) (by decide) ?_
      refine lv_aload_n hx hb dX9_image_29 rfl (lv_at hl 1 rfl) ?_
      refine va_get (D := (dC, dI)) (ci := 8) (v := .ref (r 25)) (C := RX9) (T := TX9) (N := 62) hx hb hG inX9 hown hK hP 0 rfl rfl 42 (by decide) (hG _ gw1213) (fun _ h9 => h9) rfl dX9_image_30 ?_
      refine lv_iload_n hx hb dX9_image_33 rfl (lv_at hl 0 rfl) ?_
      refine va_iald hx hb hK hP 1 0 rfl rfl (vin (by decide)) dX9_image_34 ?_
      refine lv_topi (fun x125 ex125 => ?_)
      refine va_iast hx hb hK hP hD hS 2 1 rfl rfl (vin (by decide)) dX9_image_35 (fun H126 locs hP hD hS => ?_)
      obtain ⟨zf127, ezf127⟩ : ∃ z : Nat → Int32, z = upd zf123 (28 : Int32).toNatClampNeg x125 := ⟨_, rfl⟩
      have hP : va_P (dC, dI) vwCl [(r 0, .inr (8, [.ref (r 1), .ref (r 2), .int 0, .int 0, .int 0, .int (-1), .int 0, .int 0, .int 0, .int 0, .long 0, .ref (r 3), .ref (r 4), .ref (r 5), .ref (r 6), .ref (r 7), .ref (r 8), .ref (r 9), .ref (r 10), .ref (r 11), .ref (r 12), .ref (r 13), .ref (r 14), .ref (r 15), .ref (r 16), .ref (r 17), .ref (r 18), .ref (r 19), .ref (r 20), .ref (r 21), .ref (r 22), .ref (r 23), .ref (r 24), .int 0, .int 0, .int 0, .int 0, .int 0, .int 0, .int 0, .int 0, .int 0, .ref (r 25), .ref (r 26), .ref (r 27), .int 0, .int 0, .ref (r 28), .int 0, .ref (r 29), .ref (r 30), .ref (r 31), .ref (r 32), .ref (r 33), .ref (r 34), .ref (r 35), .ref (r 36), .int 0, .int 0, .int 0, .ref (r 37), .ref (r 38)])), (r 25, .inl ((c 25), 26, .inl f25)), (r 37, .inl ((c 37), 78, .inl zf127)), (r 38, .inl ((c 38), 3, .inl f38))] H126 := by rw [ezf127]; exact hP
      have hD : va_D A [(r 0, .inr (8, [.ref (r 1), .ref (r 2), .int 0, .int 0, .int 0, .int (-1), .int 0, .int 0, .int 0, .int 0, .long 0, .ref (r 3), .ref (r 4), .ref (r 5), .ref (r 6), .ref (r 7), .ref (r 8), .ref (r 9), .ref (r 10), .ref (r 11), .ref (r 12), .ref (r 13), .ref (r 14), .ref (r 15), .ref (r 16), .ref (r 17), .ref (r 18), .ref (r 19), .ref (r 20), .ref (r 21), .ref (r 22), .ref (r 23), .ref (r 24), .int 0, .int 0, .int 0, .int 0, .int 0, .int 0, .int 0, .int 0, .int 0, .ref (r 25), .ref (r 26), .ref (r 27), .int 0, .int 0, .ref (r 28), .int 0, .ref (r 29), .ref (r 30), .ref (r 31), .ref (r 32), .ref (r 33), .ref (r 34), .ref (r 35), .ref (r 36), .int 0, .int 0, .int 0, .ref (r 37), .ref (r 38)])), (r 25, .inl ((c 25), 26, .inl f25)), (r 37, .inl ((c 37), 78, .inl zf127)), (r 38, .inl ((c 38), 3, .inl f38))] := by rw [ezf127]; exact hD
      refine lv_iinc (v := 3) (lv' := [(2, .int 3), (0, .ref (r 0)), (1, .int 1)]) hx hb dX9_image_36 hl (k := 0) rfl (by decide) (by decide) rfl (fun ls hl => ?_)
      refine lv_goto (tgt := 13) hx hb dX9_image_39 (by decide) ?_
      refine lv_iload_n hx hb dX9_image_13 rfl (lv_at hl 0 rfl) ?_
      refine lv_bipush (v := 26) hx hb dX9_image_14 (by decide) ?_
      refine lv_icmp_ge (tgt := 42) hx hb dX9_image_16 (by decide) (fun c_128 => absurd c_128 (by decide)) (fun c_128 => ?_)
      refine lv_aload_n hx hb dX9_image_19 rfl (lv_at hl 1 rfl) ?_
      refine va_get (D := (dC, dI)) (ci := 8) (v := .ref (r 37)) (C := RX9) (T := TX9) (N := 62) hx hb hG inX9 hown hK hP 0 rfl rfl 60 (by decide) (hG _ gw1231) (fun _ h9 => h9) rfl dX9_image_20 ?_
      refine lv_bipush (v := 26) hx hb dX9_image_23 (by decide) ?_
      refine lv_iload_n hx hb dX9_image_25 rfl (lv_at hl 2 rfl) ?_
      refine lv_imul hx hb dX9_image_26 ?_
      refine wt_c (v := 26) (by decide) ?_
      refine lv_iload_n hx hb dX9_image_27 rfl (lv_at hl 0 rfl) ?_
      refine lv_iadd hx hb dX9_image_28 ?_
      refine wt_c (v := 29) (by decide) ?_
      refine lv_aload_n hx hb dX9_image_29 rfl (lv_at hl 1 rfl) ?_
      refine va_get (D := (dC, dI)) (ci := 8) (v := .ref (r 25)) (C := RX9) (T := TX9) (N := 62) hx hb hG inX9 hown hK hP 0 rfl rfl 42 (by decide) (hG _ gw1213) (fun _ h9 => h9) rfl dX9_image_30 ?_
      refine lv_iload_n hx hb dX9_image_33 rfl (lv_at hl 0 rfl) ?_
      refine va_iald hx hb hK hP 1 0 rfl rfl (vin (by decide)) dX9_image_34 ?_
      refine lv_topi (fun x129 ex129 => ?_)
      refine va_iast hx hb hK hP hD hS 2 1 rfl rfl (vin (by decide)) dX9_image_35 (fun H130 locs hP hD hS => ?_)
      obtain ⟨zf131, ezf131⟩ : ∃ z : Nat → Int32, z = upd zf127 (29 : Int32).toNatClampNeg x129 := ⟨_, rfl⟩
      have hP : va_P (dC, dI) vwCl [(r 0, .inr (8, [.ref (r 1), .ref (r 2), .int 0, .int 0, .int 0, .int (-1), .int 0, .int 0, .int 0, .int 0, .long 0, .ref (r 3), .ref (r 4), .ref (r 5), .ref (r 6), .ref (r 7), .ref (r 8), .ref (r 9), .ref (r 10), .ref (r 11), .ref (r 12), .ref (r 13), .ref (r 14), .ref (r 15), .ref (r 16), .ref (r 17), .ref (r 18), .ref (r 19), .ref (r 20), .ref (r 21), .ref (r 22), .ref (r 23), .ref (r 24), .int 0, .int 0, .int 0, .int 0, .int 0, .int 0, .int 0, .int 0, .int 0, .ref (r 25), .ref (r 26), .ref (r 27), .int 0, .int 0, .ref (r 28), .int 0, .ref (r 29), .ref (r 30), .ref (r 31), .ref (r 32), .ref (r 33), .ref (r 34), .ref (r 35), .ref (r 36), .int 0, .int 0, .int 0, .ref (r 37), .ref (r 38)])), (r 25, .inl ((c 25), 26, .inl f25)), (r 37, .inl ((c 37), 78, .inl zf131)), (r 38, .inl ((c 38), 3, .inl f38))] H130 := by rw [ezf131]; exact hP
      have hD : va_D A [(r 0, .inr (8, [.ref (r 1), .ref (r 2), .int 0, .int 0, .int 0, .int (-1), .int 0, .int 0, .int 0, .int 0, .long 0, .ref (r 3), .ref (r 4), .ref (r 5), .ref (r 6), .ref (r 7), .ref (r 8), .ref (r 9), .ref (r 10), .ref (r 11), .ref (r 12), .ref (r 13), .ref (r 14), .ref (r 15), .ref (r 16), .ref (r 17), .ref (r 18), .ref (r 19), .ref (r 20), .ref (r 21), .ref (r 22), .ref (r 23), .ref (r 24), .int 0, .int 0, .int 0, .int 0, .int 0, .int 0, .int 0, .int 0, .int 0, .ref (r 25), .ref (r 26), .ref (r 27), .int 0, .int 0, .ref (r 28), .int 0, .ref (r 29), .ref (r 30), .ref (r 31), .ref (r 32), .ref (r 33), .ref (r 34), .ref (r 35), .ref (r 36), .int 0, .int 0, .int 0, .ref (r 37), .ref (r 38)])), (r 25, .inl ((c 25), 26, .inl f25)), (r 37, .inl ((c 37), 78, .inl zf131)), (r 38, .inl ((c 38), 3, .inl f38))] := by rw [ezf131]; exact hD
      refine lv_iinc (v := 4) (lv' := [(2, .int 4), (0, .ref (r 0)), (1, .int 1)]) hx hb dX9_image_36 hl (k := 0) rfl (by decide) (by decide) rfl (fun ls hl => ?_)
      refine lv_goto (tgt := 13) hx hb dX9_image_39 (by decide) ?_
      refine lv_iload_n hx hb dX9_image_13 rfl (lv_at hl 0 rfl) ?_
      refine lv_bipush (v := 26) hx hb dX9_image_14 (by decide) ?_
      refine lv_icmp_ge (tgt := 42) hx hb dX9_image_16 (by decide) (fun c_132 => absurd c_132 (by decide)) (fun c_132 => ?_)
      refine lv_aload_n hx hb dX9_image_19 rfl (lv_at hl 1 rfl) ?_
      refine va_get (D := (dC, dI)) (ci := 8) (v := .ref (r 37)) (C := RX9) (T := TX9) (N := 62) hx hb hG inX9 hown hK hP 0 rfl rfl 60 (by decide) (hG _ gw1231) (fun _ h9 => h9) rfl dX9_image_20 ?_
      refine lv_bipush (v := 26) hx hb dX9_image_23 (by decide) ?_
      refine lv_iload_n hx hb dX9_image_25 rfl (lv_at hl 2 rfl) ?_
      refine lv_imul hx hb dX9_image_26 ?_
      refine wt_c (v := 26) (by decide) ?_
      refine lv_iload_n hx hb dX9_image_27 rfl (lv_at hl 0 rfl) ?_
      refine lv_iadd hx hb dX9_image_28 ?_
      refine wt_c (v := 30) (by decide) ?_
      refine lv_aload_n hx hb dX9_image_29 rfl (lv_at hl 1 rfl) ?_
      refine va_get (D := (dC, dI)) (ci := 8) (v := .ref (r 25)) (C := RX9) (T := TX9) (N := 62) hx hb hG inX9 hown hK hP 0 rfl rfl 42 (by decide) (hG _ gw1213) (fun _ h9 => h9) rfl dX9_image_30 ?_
      refine lv_iload_n hx hb dX9_image_33 rfl (lv_at hl 0 rfl) ?_
      refine va_iald hx hb hK hP 1 0 rfl rfl (vin (by decide)) dX9_image_34 ?_
      refine lv_topi (fun x133 ex133 => ?_)
      refine va_iast hx hb hK hP hD hS 2 1 rfl rfl (vin (by decide)) dX9_image_35 (fun H134 locs hP hD hS => ?_)
      obtain ⟨zf135, ezf135⟩ : ∃ z : Nat → Int32, z = upd zf131 (30 : Int32).toNatClampNeg x133 := ⟨_, rfl⟩
      have hP : va_P (dC, dI) vwCl [(r 0, .inr (8, [.ref (r 1), .ref (r 2), .int 0, .int 0, .int 0, .int (-1), .int 0, .int 0, .int 0, .int 0, .long 0, .ref (r 3), .ref (r 4), .ref (r 5), .ref (r 6), .ref (r 7), .ref (r 8), .ref (r 9), .ref (r 10), .ref (r 11), .ref (r 12), .ref (r 13), .ref (r 14), .ref (r 15), .ref (r 16), .ref (r 17), .ref (r 18), .ref (r 19), .ref (r 20), .ref (r 21), .ref (r 22), .ref (r 23), .ref (r 24), .int 0, .int 0, .int 0, .int 0, .int 0, .int 0, .int 0, .int 0, .int 0, .ref (r 25), .ref (r 26), .ref (r 27), .int 0, .int 0, .ref (r 28), .int 0, .ref (r 29), .ref (r 30), .ref (r 31), .ref (r 32), .ref (r 33), .ref (r 34), .ref (r 35), .ref (r 36), .int 0, .int 0, .int 0, .ref (r 37), .ref (r 38)])), (r 25, .inl ((c 25), 26, .inl f25)), (r 37, .inl ((c 37), 78, .inl zf135)), (r 38, .inl ((c 38), 3, .inl f38))] H134 := by rw [ezf135]; exact hP
      have hD : va_D A [(r 0, .inr (8, [.ref (r 1), .ref (r 2), .int 0, .int 0, .int 0, .int (-1), .int 0, .int 0, .int 0, .int 0, .long 0, .ref (r 3), .ref (r 4), .ref (r 5), .ref (r 6), .ref (r 7), .ref (r 8), .ref (r 9), .ref (r 10), .ref (r 11), .ref (r 12), .ref (r 13), .ref (r 14), .ref (r 15), .ref (r 16), .ref (r 17), .ref (r 18), .ref (r 19), .ref (r 20), .ref (r 21), .ref (r 22), .ref (r 23), .ref (r 24), .int 0, .int 0, .int 0, .int 0, .int 0, .int 0, .int 0, .int 0, .int 0, .ref (r 25), .ref (r 26), .ref (r 27), .int 0, .int 0, .ref (r 28), .int 0, .ref (r 29), .ref (r 30), .ref (r 31), .ref (r 32), .ref (r 33), .ref (r 34), .ref (r 35), .ref (r 36), .int 0, .int 0, .int 0, .ref (r 37), .ref (r 38)])), (r 25, .inl ((c 25), 26, .inl f25)), (r 37, .inl ((c 37), 78, .inl zf135)), (r 38, .inl ((c 38), 3, .inl f38))] := by rw [ezf135]; exact hD
      refine lv_iinc (v := 5) (lv' := [(2, .int 5), (0, .ref (r 0)), (1, .int 1)]) hx hb dX9_image_36 hl (k := 0) rfl (by decide) (by decide) rfl (fun ls hl => ?_)
      refine lv_goto (tgt := 13) hx hb dX9_image_39 (by decide) ?_
      refine lv_iload_n hx hb dX9_image_13 rfl (lv_at hl 0 rfl) ?_
      refine lv_bipush (v := 26) hx hb dX9_image_14 (by decide) ?_
      refine lv_icmp_ge (tgt := 42) hx hb dX9_image_16 (by decide) (fun c_136 => absurd c_136 (by decide)) (fun c_136 => ?_)
      refine lv_aload_n hx hb dX9_image_19 rfl (lv_at hl 1 rfl) ?_
      refine va_get (D := (dC, dI)) (ci := 8) (v := .ref (r 37)) (C := RX9) (T := TX9) (N := 62) hx hb hG inX9 hown hK hP 0 rfl rfl 60 (by decide) (hG _ gw1231) (fun _ h9 => h9) rfl dX9_image_20 ?_
      refine lv_bipush (v := 26) hx hb dX9_image_23 (by decide) ?_
      refine lv_iload_n hx hb dX9_image_25 rfl (lv_at hl 2 rfl) ?_
      refine lv_imul hx hb dX9_image_26 ?_
      refine wt_c (v := 26) (by decide) ?_
      refine lv_iload_n hx hb dX9_image_27 rfl (lv_at hl 0 rfl) ?_
      refine lv_iadd hx hb dX9_image_28 ?_
      refine wt_c (v := 31) (by decide) ?_
      refine lv_aload_n hx hb dX9_image_29 rfl (lv_at hl 1 rfl) ?_
      refine va_get (D := (dC, dI)) (ci := 8) (v := .ref (r 25)) (C := RX9) (T := TX9) (N := 62) hx hb hG inX9 hown hK hP 0 rfl rfl 42 (by decide) (hG _ gw1213) (fun _ h9 => h9) rfl dX9_image_30 ?_
      refine lv_iload_n hx hb dX9_image_33 rfl (lv_at hl 0 rfl) ?_
      refine va_iald hx hb hK hP 1 0 rfl rfl (vin (by decide)) dX9_image_34 ?_
      refine lv_topi (fun x137 ex137 => ?_)
      refine va_iast hx hb hK hP hD hS 2 1 rfl rfl (vin (by decide)) dX9_image_35 (fun H138 locs hP hD hS => ?_)
      obtain ⟨zf139, ezf139⟩ : ∃ z : Nat → Int32, z = upd zf135 (31 : Int32).toNatClampNeg x137 := ⟨_, rfl⟩
      have hP : va_P (dC, dI) vwCl [(r 0, .inr (8, [.ref (r 1), .ref (r 2), .int 0, .int 0, .int 0, .int (-1), .int 0, .int 0, .int 0, .int 0, .long 0, .ref (r 3), .ref (r 4), .ref (r 5), .ref (r 6), .ref (r 7), .ref (r 8), .ref (r 9), .ref (r 10), .ref (r 11), .ref (r 12), .ref (r 13), .ref (r 14), .ref (r 15), .ref (r 16), .ref (r 17), .ref (r 18), .ref (r 19), .ref (r 20), .ref (r 21), .ref (r 22), .ref (r 23), .ref (r 24), .int 0, .int 0, .int 0, .int 0, .int 0, .int 0, .int 0, .int 0, .int 0, .ref (r 25), .ref (r 26), .ref (r 27), .int 0, .int 0, .ref (r 28), .int 0, .ref (r 29), .ref (r 30), .ref (r 31), .ref (r 32), .ref (r 33), .ref (r 34), .ref (r 35), .ref (r 36), .int 0, .int 0, .int 0, .ref (r 37), .ref (r 38)])), (r 25, .inl ((c 25), 26, .inl f25)), (r 37, .inl ((c 37), 78, .inl zf139)), (r 38, .inl ((c 38), 3, .inl f38))] H138 := by rw [ezf139]; exact hP
      have hD : va_D A [(r 0, .inr (8, [.ref (r 1), .ref (r 2), .int 0, .int 0, .int 0, .int (-1), .int 0, .int 0, .int 0, .int 0, .long 0, .ref (r 3), .ref (r 4), .ref (r 5), .ref (r 6), .ref (r 7), .ref (r 8), .ref (r 9), .ref (r 10), .ref (r 11), .ref (r 12), .ref (r 13), .ref (r 14), .ref (r 15), .ref (r 16), .ref (r 17), .ref (r 18), .ref (r 19), .ref (r 20), .ref (r 21), .ref (r 22), .ref (r 23), .ref (r 24), .int 0, .int 0, .int 0, .int 0, .int 0, .int 0, .int 0, .int 0, .int 0, .ref (r 25), .ref (r 26), .ref (r 27), .int 0, .int 0, .ref (r 28), .int 0, .ref (r 29), .ref (r 30), .ref (r 31), .ref (r 32), .ref (r 33), .ref (r 34), .ref (r 35), .ref (r 36), .int 0, .int 0, .int 0, .ref (r 37), .ref (r 38)])), (r 25, .inl ((c 25), 26, .inl f25)), (r 37, .inl ((c 37), 78, .inl zf139)), (r 38, .inl ((c 38), 3, .inl f38))] := by rw [ezf139]; exact hD
      refine lv_iinc (v := 6) (lv' := [(2, .int 6), (0, .ref (r 0)), (1, .int 1)]) hx hb dX9_image_36 hl (k := 0) rfl (by decide) (by decide) rfl (fun ls hl => ?_)
      refine lv_goto (tgt := 13) hx hb dX9_image_39 (by decide) ?_
      refine lv_iload_n hx hb dX9_image_13 rfl (lv_at hl 0 rfl) ?_
      refine lv_bipush (v := 26) hx hb dX9_image_14 (by decide) ?_
      refine lv_icmp_ge (tgt := 42) hx hb dX9_image_16 (by decide) (fun c_140 => absurd c_140 (by decide)) (fun c_140 => ?_)
      refine lv_aload_n hx hb dX9_image_19 rfl (lv_at hl 1 rfl) ?_
      refine va_get (D := (dC, dI)) (ci := 8) (v := .ref (r 37)) (C := RX9) (T := TX9) (N := 62) hx hb hG inX9 hown hK hP 0 rfl rfl 60 (by decide) (hG _ gw1231) (fun _ h9 => h9) rfl dX9_image_20 ?_
      refine lv_bipush (v := 26) hx hb dX9_image_23 (by decide) ?_
      refine lv_iload_n hx hb dX9_image_25 rfl (lv_at hl 2 rfl) ?_
      refine lv_imul hx hb dX9_image_26 ?_
      refine wt_c (v := 26) (by decide) ?_
      refine lv_iload_n hx hb dX9_image_27 rfl (lv_at hl 0 rfl) ?_
      refine lv_iadd hx hb dX9_image_28 ?_
      refine wt_c (v := 32) (by decide) ?_
      refine lv_aload_n hx hb dX9_image_29 rfl (lv_at hl 1 rfl) ?_
      refine va_get (D := (dC, dI)) (ci := 8) (v := .ref (r 25)) (C := RX9) (T := TX9) (N := 62) hx hb hG inX9 hown hK hP 0 rfl rfl 42 (by decide) (hG _ gw1213) (fun _ h9 => h9) rfl dX9_image_30 ?_
      refine lv_iload_n hx hb dX9_image_33 rfl (lv_at hl 0 rfl) ?_
      refine va_iald hx hb hK hP 1 0 rfl rfl (vin (by decide)) dX9_image_34 ?_
      refine lv_topi (fun x141 ex141 => ?_)
      refine va_iast hx hb hK hP hD hS 2 1 rfl rfl (vin (by decide)) dX9_image_35 (fun H142 locs hP hD hS => ?_)
      obtain ⟨zf143, ezf143⟩ : ∃ z : Nat → Int32, z = upd zf139 (32 : Int32).toNatClampNeg x141 := ⟨_, rfl⟩
      have hP : va_P (dC, dI) vwCl [(r 0, .inr (8, [.ref (r 1), .ref (r 2), .int 0, .int 0, .int 0, .int (-1), .int 0, .int 0, .int 0, .int 0, .long 0, .ref (r 3), .ref (r 4), .ref (r 5), .ref (r 6), .ref (r 7), .ref (r 8), .ref (r 9), .ref (r 10), .ref (r 11), .ref (r 12), .ref (r 13), .ref (r 14), .ref (r 15), .ref (r 16), .ref (r 17), .ref (r 18), .ref (r 19), .ref (r 20), .ref (r 21), .ref (r 22), .ref (r 23), .ref (r 24), .int 0, .int 0, .int 0, .int 0, .int 0, .int 0, .int 0, .int 0, .int 0, .ref (r 25), .ref (r 26), .ref (r 27), .int 0, .int 0, .ref (r 28), .int 0, .ref (r 29), .ref (r 30), .ref (r 31), .ref (r 32), .ref (r 33), .ref (r 34), .ref (r 35), .ref (r 36), .int 0, .int 0, .int 0, .ref (r 37), .ref (r 38)])), (r 25, .inl ((c 25), 26, .inl f25)), (r 37, .inl ((c 37), 78, .inl zf143)), (r 38, .inl ((c 38), 3, .inl f38))] H142 := by rw [ezf143]; exact hP
      have hD : va_D A [(r 0, .inr (8, [.ref (r 1), .ref (r 2), .int 0, .int 0, .int 0, .int (-1), .int 0, .int 0, .int 0, .int 0, .long 0, .ref (r 3), .ref (r 4), .ref (r 5), .ref (r 6), .ref (r 7), .ref (r 8), .ref (r 9), .ref (r 10), .ref (r 11), .ref (r 12), .ref (r 13), .ref (r 14), .ref (r 15), .ref (r 16), .ref (r 17), .ref (r 18), .ref (r 19), .ref (r 20), .ref (r 21), .ref (r 22), .ref (r 23), .ref (r 24), .int 0, .int 0, .int 0, .int 0, .int 0, .int 0, .int 0, .int 0, .int 0, .ref (r 25), .ref (r 26), .ref (r 27), .int 0, .int 0, .ref (r 28), .int 0, .ref (r 29), .ref (r 30), .ref (r 31), .ref (r 32), .ref (r 33), .ref (r 34), .ref (r 35), .ref (r 36), .int 0, .int 0, .int 0, .ref (r 37), .ref (r 38)])), (r 25, .inl ((c 25), 26, .inl f25)), (r 37, .inl ((c 37), 78, .inl zf143)), (r 38, .inl ((c 38), 3, .inl f38))] := by rw [ezf143]; exact hD
      refine lv_iinc (v := 7) (lv' := [(2, .int 7), (0, .ref (r 0)), (1, .int 1)]) hx hb dX9_image_36 hl (k := 0) rfl (by decide) (by decide) rfl (fun ls hl => ?_)
      refine lv_goto (tgt := 13) hx hb dX9_image_39 (by decide) ?_
      refine lv_iload_n hx hb dX9_image_13 rfl (lv_at hl 0 rfl) ?_
      refine lv_bipush (v := 26) hx hb dX9_image_14 (by decide) ?_
      refine lv_icmp_ge (tgt := 42) hx hb dX9_image_16 (by decide) (fun c_144 => absurd c_144 (by decide)) (fun c_144 => ?_)
      refine lv_aload_n hx hb dX9_image_19 rfl (lv_at hl 1 rfl) ?_
      refine va_get (D := (dC, dI)) (ci := 8) (v := .ref (r 37)) (C := RX9) (T := TX9) (N := 62) hx hb hG inX9 hown hK hP 0 rfl rfl 60 (by decide) (hG _ gw1231) (fun _ h9 => h9) rfl dX9_image_20 ?_
      refine lv_bipush (v := 26) hx hb dX9_image_23 (by decide) ?_
      refine lv_iload_n hx hb dX9_image_25 rfl (lv_at hl 2 rfl) ?_
      refine lv_imul hx hb dX9_image_26 ?_
      refine wt_c (v := 26) (by decide) ?_
      refine lv_iload_n hx hb dX9_image_27 rfl (lv_at hl 0 rfl) ?_
      refine lv_iadd hx hb dX9_image_28 ?_
      refine wt_c (v := 33) (by decide) ?_
      refine lv_aload_n hx hb dX9_image_29 rfl (lv_at hl 1 rfl) ?_
      refine va_get (D := (dC, dI)) (ci := 8) (v := .ref (r 25)) (C := RX9) (T := TX9) (N := 62) hx hb hG inX9 hown hK hP 0 rfl rfl 42 (by decide) (hG _ gw1213) (fun _ h9 => h9) rfl dX9_image_30 ?_
      refine lv_iload_n hx hb dX9_image_33 rfl (lv_at hl 0 rfl) ?_
      refine va_iald hx hb hK hP 1 0 rfl rfl (vin (by decide)) dX9_image_34 ?_
      refine lv_topi (fun x145 ex145 => ?_)
      refine va_iast hx hb hK hP hD hS 2 1 rfl rfl (vin (by decide)) dX9_image_35 (fun H146 locs hP hD hS => ?_)
      obtain ⟨zf147, ezf147⟩ : ∃ z : Nat → Int32, z = upd zf143 (33 : Int32).toNatClampNeg x145 := ⟨_, rfl⟩
      have hP : va_P (dC, dI) vwCl [(r 0, .inr (8, [.ref (r 1), .ref (r 2), .int 0, .int 0, .int 0, .int (-1), .int 0, .int 0, .int 0, .int 0, .long 0, .ref (r 3), .ref (r 4), .ref (r 5), .ref (r 6), .ref (r 7), .ref (r 8), .ref (r 9), .ref (r 10), .ref (r 11), .ref (r 12), .ref (r 13), .ref (r 14), .ref (r 15), .ref (r 16), .ref (r 17), .ref (r 18), .ref (r 19), .ref (r 20), .ref (r 21), .ref (r 22), .ref (r 23), .ref (r 24), .int 0, .int 0, .int 0, .int 0, .int 0, .int 0, .int 0, .int 0, .int 0, .ref (r 25), .ref (r 26), .ref (r 27), .int 0, .int 0, .ref (r 28), .int 0, .ref (r 29), .ref (r 30), .ref (r 31), .ref (r 32), .ref (r 33), .ref (r 34), .ref (r 35), .ref (r 36), .int 0, .int 0, .int 0, .ref (r 37), .ref (r 38)])), (r 25, .inl ((c 25), 26, .inl f25)), (r 37, .inl ((c 37), 78, .inl zf147)), (r 38, .inl ((c 38), 3, .inl f38))] H146 := by rw [ezf147]; exact hP
      have hD : va_D A [(r 0, .inr (8, [.ref (r 1), .ref (r 2), .int 0, .int 0, .int 0, .int (-1), .int 0, .int 0, .int 0, .int 0, .long 0, .ref (r 3), .ref (r 4), .ref (r 5), .ref (r 6), .ref (r 7), .ref (r 8), .ref (r 9), .ref (r 10), .ref (r 11), .ref (r 12), .ref (r 13), .ref (r 14), .ref (r 15), .ref (r 16), .ref (r 17), .ref (r 18), .ref (r 19), .ref (r 20), .ref (r 21), .ref (r 22), .ref (r 23), .ref (r 24), .int 0, .int 0, .int 0, .int 0, .int 0, .int 0, .int 0, .int 0, .int 0, .ref (r 25), .ref (r 26), .ref (r 27), .int 0, .int 0, .ref (r 28), .int 0, .ref (r 29), .ref (r 30), .ref (r 31), .ref (r 32), .ref (r 33), .ref (r 34), .ref (r 35), .ref (r 36), .int 0, .int 0, .int 0, .ref (r 37), .ref (r 38)])), (r 25, .inl ((c 25), 26, .inl f25)), (r 37, .inl ((c 37), 78, .inl zf147)), (r 38, .inl ((c 38), 3, .inl f38))] := by rw [ezf147]; exact hD
      refine lv_iinc (v := 8) (lv' := [(2, .int 8), (0, .ref (r 0)), (1, .int 1)]) hx hb dX9_image_36 hl (k := 0) rfl (by decide) (by decide) rfl (fun ls hl => ?_)
      refine lv_goto (tgt := 13) hx hb dX9_image_39 (by decide) ?_
      refine lv_iload_n hx hb dX9_image_13 rfl (lv_at hl 0 rfl) ?_
      refine lv_bipush (v := 26) hx hb dX9_image_14 (by decide) ?_
      refine lv_icmp_ge (tgt := 42) hx hb dX9_image_16 (by decide) (fun c_148 => absurd c_148 (by decide)) (fun c_148 => ?_)
      refine lv_aload_n hx hb dX9_image_19 rfl (lv_at hl 1 rfl) ?_
      refine va_get (D := (dC, dI)) (ci := 8) (v := .ref (r 37)) (C := RX9) (T := TX9) (N := 62) hx hb hG inX9 hown hK hP 0 rfl rfl 60 (by decide) (hG _ gw1231) (fun _ h9 => h9) rfl dX9_image_20 ?_
      refine lv_bipush (v := 26) hx hb dX9_image_23 (by decide) ?_
      refine lv_iload_n hx hb dX9_image_25 rfl (lv_at hl 2 rfl) ?_
      refine lv_imul hx hb dX9_image_26 ?_
      refine wt_c (v := 26) (by decide) ?_
      refine lv_iload_n hx hb dX9_image_27 rfl (lv_at hl 0 rfl) ?_
      refine lv_iadd hx hb dX9_image_28 ?_
      refine wt_c (v := 34) (by decide) ?_
      refine lv_aload_n hx hb dX9_image_29 rfl (lv_at hl 1 rfl) ?_
      refine va_get (D := (dC, dI)) (ci := 8) (v := .ref (r 25)) (C := RX9) (T := TX9) (N := 62) hx hb hG inX9 hown hK hP 0 rfl rfl 42 (by decide) (hG _ gw1213) (fun _ h9 => h9) rfl dX9_image_30 ?_
      refine lv_iload_n hx hb dX9_image_33 rfl (lv_at hl 0 rfl) ?_
      refine va_iald hx hb hK hP 1 0 rfl rfl (vin (by decide)) dX9_image_34 ?_
      refine lv_topi (fun x149 ex149 => ?_)
      refine va_iast hx hb hK hP hD hS 2 1 rfl rfl (vin (by decide)) dX9_image_35 (fun H150 locs hP hD hS => ?_)
      obtain ⟨zf151, ezf151⟩ : ∃ z : Nat → Int32, z = upd zf147 (34 : Int32).toNatClampNeg x149 := ⟨_, rfl⟩
      have hP : va_P (dC, dI) vwCl [(r 0, .inr (8, [.ref (r 1), .ref (r 2), .int 0, .int 0, .int 0, .int (-1), .int 0, .int 0, .int 0, .int 0, .long 0, .ref (r 3), .ref (r 4), .ref (r 5), .ref (r 6), .ref (r 7), .ref (r 8), .ref (r 9), .ref (r 10), .ref (r 11), .ref (r 12), .ref (r 13), .ref (r 14), .ref (r 15), .ref (r 16), .ref (r 17), .ref (r 18), .ref (r 19), .ref (r 20), .ref (r 21), .ref (r 22), .ref (r 23), .ref (r 24), .int 0, .int 0, .int 0, .int 0, .int 0, .int 0, .int 0, .int 0, .int 0, .ref (r 25), .ref (r 26), .ref (r 27), .int 0, .int 0, .ref (r 28), .int 0, .ref (r 29), .ref (r 30), .ref (r 31), .ref (r 32), .ref (r 33), .ref (r 34), .ref (r 35), .ref (r 36), .int 0, .int 0, .int 0, .ref (r 37), .ref (r 38)])), (r 25, .inl ((c 25), 26, .inl f25)), (r 37, .inl ((c 37), 78, .inl zf151)), (r 38, .inl ((c 38), 3, .inl f38))] H150 := by rw [ezf151]; exact hP
      have hD : va_D A [(r 0, .inr (8, [.ref (r 1), .ref (r 2), .int 0, .int 0, .int 0, .int (-1), .int 0, .int 0, .int 0, .int 0, .long 0, .ref (r 3), .ref (r 4), .ref (r 5), .ref (r 6), .ref (r 7), .ref (r 8), .ref (r 9), .ref (r 10), .ref (r 11), .ref (r 12), .ref (r 13), .ref (r 14), .ref (r 15), .ref (r 16), .ref (r 17), .ref (r 18), .ref (r 19), .ref (r 20), .ref (r 21), .ref (r 22), .ref (r 23), .ref (r 24), .int 0, .int 0, .int 0, .int 0, .int 0, .int 0, .int 0, .int 0, .int 0, .ref (r 25), .ref (r 26), .ref (r 27), .int 0, .int 0, .ref (r 28), .int 0, .ref (r 29), .ref (r 30), .ref (r 31), .ref (r 32), .ref (r 33), .ref (r 34), .ref (r 35), .ref (r 36), .int 0, .int 0, .int 0, .ref (r 37), .ref (r 38)])), (r 25, .inl ((c 25), 26, .inl f25)), (r 37, .inl ((c 37), 78, .inl zf151)), (r 38, .inl ((c 38), 3, .inl f38))] := by rw [ezf151]; exact hD
      refine lv_iinc (v := 9) (lv' := [(2, .int 9), (0, .ref (r 0)), (1, .int 1)]) hx hb dX9_image_36 hl (k := 0) rfl (by decide) (by decide) rfl (fun ls hl => ?_)
      refine lv_goto (tgt := 13) hx hb dX9_image_39 (by decide) ?_
      refine lv_iload_n hx hb dX9_image_13 rfl (lv_at hl 0 rfl) ?_
      refine lv_bipush (v := 26) hx hb dX9_image_14 (by decide) ?_
      refine lv_icmp_ge (tgt := 42) hx hb dX9_image_16 (by decide) (fun c_152 => absurd c_152 (by decide)) (fun c_152 => ?_)
      refine lv_aload_n hx hb dX9_image_19 rfl (lv_at hl 1 rfl) ?_
      refine va_get (D := (dC, dI)) (ci := 8) (v := .ref (r 37)) (C := RX9) (T := TX9) (N := 62) hx hb hG inX9 hown hK hP 0 rfl rfl 60 (by decide) (hG _ gw1231) (fun _ h9 => h9) rfl dX9_image_20 ?_
      refine lv_bipush (v := 26) hx hb dX9_image_23 (by decide) ?_
      refine lv_iload_n hx hb dX9_image_25 rfl (lv_at hl 2 rfl) ?_
      refine lv_imul hx hb dX9_image_26 ?_
      refine wt_c (v := 26) (by decide) ?_
      refine lv_iload_n hx hb dX9_image_27 rfl (lv_at hl 0 rfl) ?_
      refine lv_iadd hx hb dX9_image_28 ?_
      refine wt_c (v := 35) (by decide) ?_
      refine lv_aload_n hx hb dX9_image_29 rfl (lv_at hl 1 rfl) ?_
      refine va_get (D := (dC, dI)) (ci := 8) (v := .ref (r 25)) (C := RX9) (T := TX9) (N := 62) hx hb hG inX9 hown hK hP 0 rfl rfl 42 (by decide) (hG _ gw1213) (fun _ h9 => h9) rfl dX9_image_30 ?_
      refine lv_iload_n hx hb dX9_image_33 rfl (lv_at hl 0 rfl) ?_
      refine va_iald hx hb hK hP 1 0 rfl rfl (vin (by decide)) dX9_image_34 ?_
      refine lv_topi (fun x153 ex153 => ?_)
      refine va_iast hx hb hK hP hD hS 2 1 rfl rfl (vin (by decide)) dX9_image_35 (fun H154 locs hP hD hS => ?_)
      obtain ⟨zf155, ezf155⟩ : ∃ z : Nat → Int32, z = upd zf151 (35 : Int32).toNatClampNeg x153 := ⟨_, rfl⟩
      have hP : va_P (dC, dI) vwCl [(r 0, .inr (8, [.ref (r 1), .ref (r 2), .int 0, .int 0, .int 0, .int (-1), .int 0, .int 0, .int 0, .int 0, .long 0, .ref (r 3), .ref (r 4), .ref (r 5), .ref (r 6), .ref (r 7), .ref (r 8), .ref (r 9), .ref (r 10), .ref (r 11), .ref (r 12), .ref (r 13), .ref (r 14), .ref (r 15), .ref (r 16), .ref (r 17), .ref (r 18), .ref (r 19), .ref (r 20), .ref (r 21), .ref (r 22), .ref (r 23), .ref (r 24), .int 0, .int 0, .int 0, .int 0, .int 0, .int 0, .int 0, .int 0, .int 0, .ref (r 25), .ref (r 26), .ref (r 27), .int 0, .int 0, .ref (r 28), .int 0, .ref (r 29), .ref (r 30), .ref (r 31), .ref (r 32), .ref (r 33), .ref (r 34), .ref (r 35), .ref (r 36), .int 0, .int 0, .int 0, .ref (r 37), .ref (r 38)])), (r 25, .inl ((c 25), 26, .inl f25)), (r 37, .inl ((c 37), 78, .inl zf155)), (r 38, .inl ((c 38), 3, .inl f38))] H154 := by rw [ezf155]; exact hP
      have hD : va_D A [(r 0, .inr (8, [.ref (r 1), .ref (r 2), .int 0, .int 0, .int 0, .int (-1), .int 0, .int 0, .int 0, .int 0, .long 0, .ref (r 3), .ref (r 4), .ref (r 5), .ref (r 6), .ref (r 7), .ref (r 8), .ref (r 9), .ref (r 10), .ref (r 11), .ref (r 12), .ref (r 13), .ref (r 14), .ref (r 15), .ref (r 16), .ref (r 17), .ref (r 18), .ref (r 19), .ref (r 20), .ref (r 21), .ref (r 22), .ref (r 23), .ref (r 24), .int 0, .int 0, .int 0, .int 0, .int 0, .int 0, .int 0, .int 0, .int 0, .ref (r 25), .ref (r 26), .ref (r 27), .int 0, .int 0, .ref (r 28), .int 0, .ref (r 29), .ref (r 30), .ref (r 31), .ref (r 32), .ref (r 33), .ref (r 34), .ref (r 35), .ref (r 36), .int 0, .int 0, .int 0, .ref (r 37), .ref (r 38)])), (r 25, .inl ((c 25), 26, .inl f25)), (r 37, .inl ((c 37), 78, .inl zf155)), (r 38, .inl ((c 38), 3, .inl f38))] := by rw [ezf155]; exact hD
      refine lv_iinc (v := 10) (lv' := [(2, .int 10), (0, .ref (r 0)), (1, .int 1)]) hx hb dX9_image_36 hl (k := 0) rfl (by decide) (by decide) rfl (fun ls hl => ?_)
      refine lv_goto (tgt := 13) hx hb dX9_image_39 (by decide) ?_
      refine lv_iload_n hx hb dX9_image_13 rfl (lv_at hl 0 rfl) ?_
      refine lv_bipush (v := 26) hx hb dX9_image_14 (by decide) ?_
      refine lv_icmp_ge (tgt := 42) hx hb dX9_image_16 (by decide) (fun c_156 => absurd c_156 (by decide)) (fun c_156 => ?_)
      refine lv_aload_n hx hb dX9_image_19 rfl (lv_at hl 1 rfl) ?_
      refine va_get (D := (dC, dI)) (ci := 8) (v := .ref (r 37)) (C := RX9) (T := TX9) (N := 62) hx hb hG inX9 hown hK hP 0 rfl rfl 60 (by decide) (hG _ gw1231) (fun _ h9 => h9) rfl dX9_image_20 ?_
      refine lv_bipush (v := 26) hx hb dX9_image_23 (by decide) ?_
      refine lv_iload_n hx hb dX9_image_25 rfl (lv_at hl 2 rfl) ?_
      refine lv_imul hx hb dX9_image_26 ?_
      refine wt_c (v := 26) (by decide) ?_
      refine lv_iload_n hx hb dX9_image_27 rfl (lv_at hl 0 rfl) ?_
      refine lv_iadd hx hb dX9_image_28 ?_
      refine wt_c (v := 36) (by decide) ?_
      refine lv_aload_n hx hb dX9_image_29 rfl (lv_at hl 1 rfl) ?_
      refine va_get (D := (dC, dI)) (ci := 8) (v := .ref (r 25)) (C := RX9) (T := TX9) (N := 62) hx hb hG inX9 hown hK hP 0 rfl rfl 42 (by decide) (hG _ gw1213) (fun _ h9 => h9) rfl dX9_image_30 ?_
      refine lv_iload_n hx hb dX9_image_33 rfl (lv_at hl 0 rfl) ?_
      refine va_iald hx hb hK hP 1 0 rfl rfl (vin (by decide)) dX9_image_34 ?_
      refine lv_topi (fun x157 ex157 => ?_)
      refine va_iast hx hb hK hP hD hS 2 1 rfl rfl (vin (by decide)) dX9_image_35 (fun H158 locs hP hD hS => ?_)
      obtain ⟨zf159, ezf159⟩ : ∃ z : Nat → Int32, z = upd zf155 (36 : Int32).toNatClampNeg x157 := ⟨_, rfl⟩
      have hP : va_P (dC, dI) vwCl [(r 0, .inr (8, [.ref (r 1), .ref (r 2), .int 0, .int 0, .int 0, .int (-1), .int 0, .int 0, .int 0, .int 0, .long 0, .ref (r 3), .ref (r 4), .ref (r 5), .ref (r 6), .ref (r 7), .ref (r 8), .ref (r 9), .ref (r 10), .ref (r 11), .ref (r 12), .ref (r 13), .ref (r 14), .ref (r 15), .ref (r 16), .ref (r 17), .ref (r 18), .ref (r 19), .ref (r 20), .ref (r 21), .ref (r 22), .ref (r 23), .ref (r 24), .int 0, .int 0, .int 0, .int 0, .int 0, .int 0, .int 0, .int 0, .int 0, .ref (r 25), .ref (r 26), .ref (r 27), .int 0, .int 0, .ref (r 28), .int 0, .ref (r 29), .ref (r 30), .ref (r 31), .ref (r 32), .ref (r 33), .ref (r 34), .ref (r 35), .ref (r 36), .int 0, .int 0, .int 0, .ref (r 37), .ref (r 38)])), (r 25, .inl ((c 25), 26, .inl f25)), (r 37, .inl ((c 37), 78, .inl zf159)), (r 38, .inl ((c 38), 3, .inl f38))] H158 := by rw [ezf159]; exact hP
      have hD : va_D A [(r 0, .inr (8, [.ref (r 1), .ref (r 2), .int 0, .int 0, .int 0, .int (-1), .int 0, .int 0, .int 0, .int 0, .long 0, .ref (r 3), .ref (r 4), .ref (r 5), .ref (r 6), .ref (r 7), .ref (r 8), .ref (r 9), .ref (r 10), .ref (r 11), .ref (r 12), .ref (r 13), .ref (r 14), .ref (r 15), .ref (r 16), .ref (r 17), .ref (r 18), .ref (r 19), .ref (r 20), .ref (r 21), .ref (r 22), .ref (r 23), .ref (r 24), .int 0, .int 0, .int 0, .int 0, .int 0, .int 0, .int 0, .int 0, .int 0, .ref (r 25), .ref (r 26), .ref (r 27), .int 0, .int 0, .ref (r 28), .int 0, .ref (r 29), .ref (r 30), .ref (r 31), .ref (r 32), .ref (r 33), .ref (r 34), .ref (r 35), .ref (r 36), .int 0, .int 0, .int 0, .ref (r 37), .ref (r 38)])), (r 25, .inl ((c 25), 26, .inl f25)), (r 37, .inl ((c 37), 78, .inl zf159)), (r 38, .inl ((c 38), 3, .inl f38))] := by rw [ezf159]; exact hD
      refine lv_iinc (v := 11) (lv' := [(2, .int 11), (0, .ref (r 0)), (1, .int 1)]) hx hb dX9_image_36 hl (k := 0) rfl (by decide) (by decide) rfl (fun ls hl => ?_)
      refine lv_goto (tgt := 13) hx hb dX9_image_39 (by decide) ?_
      refine lv_iload_n hx hb dX9_image_13 rfl (lv_at hl 0 rfl) ?_
      refine lv_bipush (v := 26) hx hb dX9_image_14 (by decide) ?_
      refine lv_icmp_ge (tgt := 42) hx hb dX9_image_16 (by decide) (fun c_160 => absurd c_160 (by decide)) (fun c_160 => ?_)
      refine lv_aload_n hx hb dX9_image_19 rfl (lv_at hl 1 rfl) ?_
      refine va_get (D := (dC, dI)) (ci := 8) (v := .ref (r 37)) (C := RX9) (T := TX9) (N := 62) hx hb hG inX9 hown hK hP 0 rfl rfl 60 (by decide) (hG _ gw1231) (fun _ h9 => h9) rfl dX9_image_20 ?_
      refine lv_bipush (v := 26) hx hb dX9_image_23 (by decide) ?_
      refine lv_iload_n hx hb dX9_image_25 rfl (lv_at hl 2 rfl) ?_
      refine lv_imul hx hb dX9_image_26 ?_
      refine wt_c (v := 26) (by decide) ?_
      refine lv_iload_n hx hb dX9_image_27 rfl (lv_at hl 0 rfl) ?_
      refine lv_iadd hx hb dX9_image_28 ?_
      refine wt_c (v := 37) (by decide) ?_
      refine lv_aload_n hx hb dX9_image_29 rfl (lv_at hl 1 rfl) ?_
      refine va_get (D := (dC, dI)) (ci := 8) (v := .ref (r 25)) (C := RX9) (T := TX9) (N := 62) hx hb hG inX9 hown hK hP 0 rfl rfl 42 (by decide) (hG _ gw1213) (fun _ h9 => h9) rfl dX9_image_30 ?_
      refine lv_iload_n hx hb dX9_image_33 rfl (lv_at hl 0 rfl) ?_
      refine va_iald hx hb hK hP 1 0 rfl rfl (vin (by decide)) dX9_image_34 ?_
      refine lv_topi (fun x161 ex161 => ?_)
      refine va_iast hx hb hK hP hD hS 2 1 rfl rfl (vin (by decide)) dX9_image_35 (fun H162 locs hP hD hS => ?_)
      obtain ⟨zf163, ezf163⟩ : ∃ z : Nat → Int32, z = upd zf159 (37 : Int32).toNatClampNeg x161 := ⟨_, rfl⟩
      have hP : va_P (dC, dI) vwCl [(r 0, .inr (8, [.ref (r 1), .ref (r 2), .int 0, .int 0, .int 0, .int (-1), .int 0, .int 0, .int 0, .int 0, .long 0, .ref (r 3), .ref (r 4), .ref (r 5), .ref (r 6), .ref (r 7), .ref (r 8), .ref (r 9), .ref (r 10), .ref (r 11), .ref (r 12), .ref (r 13), .ref (r 14), .ref (r 15), .ref (r 16), .ref (r 17), .ref (r 18), .ref (r 19), .ref (r 20), .ref (r 21), .ref (r 22), .ref (r 23), .ref (r 24), .int 0, .int 0, .int 0, .int 0, .int 0, .int 0, .int 0, .int 0, .int 0, .ref (r 25), .ref (r 26), .ref (r 27), .int 0, .int 0, .ref (r 28), .int 0, .ref (r 29), .ref (r 30), .ref (r 31), .ref (r 32), .ref (r 33), .ref (r 34), .ref (r 35), .ref (r 36), .int 0, .int 0, .int 0, .ref (r 37), .ref (r 38)])), (r 25, .inl ((c 25), 26, .inl f25)), (r 37, .inl ((c 37), 78, .inl zf163)), (r 38, .inl ((c 38), 3, .inl f38))] H162 := by rw [ezf163]; exact hP
      have hD : va_D A [(r 0, .inr (8, [.ref (r 1), .ref (r 2), .int 0, .int 0, .int 0, .int (-1), .int 0, .int 0, .int 0, .int 0, .long 0, .ref (r 3), .ref (r 4), .ref (r 5), .ref (r 6), .ref (r 7), .ref (r 8), .ref (r 9), .ref (r 10), .ref (r 11), .ref (r 12), .ref (r 13), .ref (r 14), .ref (r 15), .ref (r 16), .ref (r 17), .ref (r 18), .ref (r 19), .ref (r 20), .ref (r 21), .ref (r 22), .ref (r 23), .ref (r 24), .int 0, .int 0, .int 0, .int 0, .int 0, .int 0, .int 0, .int 0, .int 0, .ref (r 25), .ref (r 26), .ref (r 27), .int 0, .int 0, .ref (r 28), .int 0, .ref (r 29), .ref (r 30), .ref (r 31), .ref (r 32), .ref (r 33), .ref (r 34), .ref (r 35), .ref (r 36), .int 0, .int 0, .int 0, .ref (r 37), .ref (r 38)])), (r 25, .inl ((c 25), 26, .inl f25)), (r 37, .inl ((c 37), 78, .inl zf163)), (r 38, .inl ((c 38), 3, .inl f38))] := by rw [ezf163]; exact hD
      refine lv_iinc (v := 12) (lv' := [(2, .int 12), (0, .ref (r 0)), (1, .int 1)]) hx hb dX9_image_36 hl (k := 0) rfl (by decide) (by decide) rfl (fun ls hl => ?_)
      refine lv_goto (tgt := 13) hx hb dX9_image_39 (by decide) ?_
      refine lv_iload_n hx hb dX9_image_13 rfl (lv_at hl 0 rfl) ?_
      refine lv_bipush (v := 26) hx hb dX9_image_14 (by decide) ?_
      refine lv_icmp_ge (tgt := 42) hx hb dX9_image_16 (by decide) (fun c_164 => absurd c_164 (by decide)) (fun c_164 => ?_)
      refine lv_aload_n hx hb dX9_image_19 rfl (lv_at hl 1 rfl) ?_
      refine va_get (D := (dC, dI)) (ci := 8) (v := .ref (r 37)) (C := RX9) (T := TX9) (N := 62) hx hb hG inX9 hown hK hP 0 rfl rfl 60 (by decide) (hG _ gw1231) (fun _ h9 => h9) rfl dX9_image_20 ?_
      refine lv_bipush (v := 26) hx hb dX9_image_23 (by decide) ?_
      refine lv_iload_n hx hb dX9_image_25 rfl (lv_at hl 2 rfl) ?_
      refine lv_imul hx hb dX9_image_26 ?_
      refine wt_c (v := 26) (by decide) ?_
      refine lv_iload_n hx hb dX9_image_27 rfl (lv_at hl 0 rfl) ?_
      refine lv_iadd hx hb dX9_image_28 ?_
      refine wt_c (v := 38) (by decide) ?_
      refine lv_aload_n hx hb dX9_image_29 rfl (lv_at hl 1 rfl) ?_
      refine va_get (D := (dC, dI)) (ci := 8) (v := .ref (r 25)) (C := RX9) (T := TX9) (N := 62) hx hb hG inX9 hown hK hP 0 rfl rfl 42 (by decide) (hG _ gw1213) (fun _ h9 => h9) rfl dX9_image_30 ?_
      refine lv_iload_n hx hb dX9_image_33 rfl (lv_at hl 0 rfl) ?_
      refine va_iald hx hb hK hP 1 0 rfl rfl (vin (by decide)) dX9_image_34 ?_
      refine lv_topi (fun x165 ex165 => ?_)
      refine va_iast hx hb hK hP hD hS 2 1 rfl rfl (vin (by decide)) dX9_image_35 (fun H166 locs hP hD hS => ?_)
      obtain ⟨zf167, ezf167⟩ : ∃ z : Nat → Int32, z = upd zf163 (38 : Int32).toNatClampNeg x165 := ⟨_, rfl⟩
      have hP : va_P (dC, dI) vwCl [(r 0, .inr (8, [.ref (r 1), .ref (r 2), .int 0, .int 0, .int 0, .int (-1), .int 0, .int 0, .int 0, .int 0, .long 0, .ref (r 3), .ref (r 4), .ref (r 5), .ref (r 6), .ref (r 7), .ref (r 8), .ref (r 9), .ref (r 10), .ref (r 11), .ref (r 12), .ref (r 13), .ref (r 14), .ref (r 15), .ref (r 16), .ref (r 17), .ref (r 18), .ref (r 19), .ref (r 20), .ref (r 21), .ref (r 22), .ref (r 23), .ref (r 24), .int 0, .int 0, .int 0, .int 0, .int 0, .int 0, .int 0, .int 0, .int 0, .ref (r 25), .ref (r 26), .ref (r 27), .int 0, .int 0, .ref (r 28), .int 0, .ref (r 29), .ref (r 30), .ref (r 31), .ref (r 32), .ref (r 33), .ref (r 34), .ref (r 35), .ref (r 36), .int 0, .int 0, .int 0, .ref (r 37), .ref (r 38)])), (r 25, .inl ((c 25), 26, .inl f25)), (r 37, .inl ((c 37), 78, .inl zf167)), (r 38, .inl ((c 38), 3, .inl f38))] H166 := by rw [ezf167]; exact hP
      have hD : va_D A [(r 0, .inr (8, [.ref (r 1), .ref (r 2), .int 0, .int 0, .int 0, .int (-1), .int 0, .int 0, .int 0, .int 0, .long 0, .ref (r 3), .ref (r 4), .ref (r 5), .ref (r 6), .ref (r 7), .ref (r 8), .ref (r 9), .ref (r 10), .ref (r 11), .ref (r 12), .ref (r 13), .ref (r 14), .ref (r 15), .ref (r 16), .ref (r 17), .ref (r 18), .ref (r 19), .ref (r 20), .ref (r 21), .ref (r 22), .ref (r 23), .ref (r 24), .int 0, .int 0, .int 0, .int 0, .int 0, .int 0, .int 0, .int 0, .int 0, .ref (r 25), .ref (r 26), .ref (r 27), .int 0, .int 0, .ref (r 28), .int 0, .ref (r 29), .ref (r 30), .ref (r 31), .ref (r 32), .ref (r 33), .ref (r 34), .ref (r 35), .ref (r 36), .int 0, .int 0, .int 0, .ref (r 37), .ref (r 38)])), (r 25, .inl ((c 25), 26, .inl f25)), (r 37, .inl ((c 37), 78, .inl zf167)), (r 38, .inl ((c 38), 3, .inl f38))] := by rw [ezf167]; exact hD
      refine lv_iinc (v := 13) (lv' := [(2, .int 13), (0, .ref (r 0)), (1, .int 1)]) hx hb dX9_image_36 hl (k := 0) rfl (by decide) (by decide) rfl (fun ls hl => ?_)
      refine lv_goto (tgt := 13) hx hb dX9_image_39 (by decide) ?_
      refine lv_iload_n hx hb dX9_image_13 rfl (lv_at hl 0 rfl) ?_
      refine lv_bipush (v := 26) hx hb dX9_image_14 (by decide) ?_
      refine lv_icmp_ge (tgt := 42) hx hb dX9_image_16 (by decide) (fun c_168 => absurd c_168 (by decide)) (fun c_168 => ?_)
      refine lv_aload_n hx hb dX9_image_19 rfl (lv_at hl 1 rfl) ?_
      refine va_get (D := (dC, dI)) (ci := 8) (v := .ref (r 37)) (C := RX9) (T := TX9) (N := 62) hx hb hG inX9 hown hK hP 0 rfl rfl 60 (by decide) (hG _ gw1231) (fun _ h9 => h9) rfl dX9_image_20 ?_
      refine lv_bipush (v := 26) hx hb dX9_image_23 (by decide) ?_
      refine lv_iload_n hx hb dX9_image_25 rfl (lv_at hl 2 rfl) ?_
      refine lv_imul hx hb dX9_image_26 ?_
      refine wt_c (v := 26) (by decide) ?_
      refine lv_iload_n hx hb dX9_image_27 rfl (lv_at hl 0 rfl) ?_
      refine lv_iadd hx hb dX9_image_28 ?_
      refine wt_c (v := 39) (by decide) ?_
      refine lv_aload_n hx hb dX9_image_29 rfl (lv_at hl 1 rfl) ?_
      refine va_get (D := (dC, dI)) (ci := 8) (v := .ref (r 25)) (C := RX9) (T := TX9) (N := 62) hx hb hG inX9 hown hK hP 0 rfl rfl 42 (by decide) (hG _ gw1213) (fun _ h9 => h9) rfl dX9_image_30 ?_
      refine lv_iload_n hx hb dX9_image_33 rfl (lv_at hl 0 rfl) ?_
      refine va_iald hx hb hK hP 1 0 rfl rfl (vin (by decide)) dX9_image_34 ?_
      refine lv_topi (fun x169 ex169 => ?_)
      refine va_iast hx hb hK hP hD hS 2 1 rfl rfl (vin (by decide)) dX9_image_35 (fun H170 locs hP hD hS => ?_)
      obtain ⟨zf171, ezf171⟩ : ∃ z : Nat → Int32, z = upd zf167 (39 : Int32).toNatClampNeg x169 := ⟨_, rfl⟩
      have hP : va_P (dC, dI) vwCl [(r 0, .inr (8, [.ref (r 1), .ref (r 2), .int 0, .int 0, .int 0, .int (-1), .int 0, .int 0, .int 0, .int 0, .long 0, .ref (r 3), .ref (r 4), .ref (r 5), .ref (r 6), .ref (r 7), .ref (r 8), .ref (r 9), .ref (r 10), .ref (r 11), .ref (r 12), .ref (r 13), .ref (r 14), .ref (r 15), .ref (r 16), .ref (r 17), .ref (r 18), .ref (r 19), .ref (r 20), .ref (r 21), .ref (r 22), .ref (r 23), .ref (r 24), .int 0, .int 0, .int 0, .int 0, .int 0, .int 0, .int 0, .int 0, .int 0, .ref (r 25), .ref (r 26), .ref (r 27), .int 0, .int 0, .ref (r 28), .int 0, .ref (r 29), .ref (r 30), .ref (r 31), .ref (r 32), .ref (r 33), .ref (r 34), .ref (r 35), .ref (r 36), .int 0, .int 0, .int 0, .ref (r 37), .ref (r 38)])), (r 25, .inl ((c 25), 26, .inl f25)), (r 37, .inl ((c 37), 78, .inl zf171)), (r 38, .inl ((c 38), 3, .inl f38))] H170 := by rw [ezf171]; exact hP
      have hD : va_D A [(r 0, .inr (8, [.ref (r 1), .ref (r 2), .int 0, .int 0, .int 0, .int (-1), .int 0, .int 0, .int 0, .int 0, .long 0, .ref (r 3), .ref (r 4), .ref (r 5), .ref (r 6), .ref (r 7), .ref (r 8), .ref (r 9), .ref (r 10), .ref (r 11), .ref (r 12), .ref (r 13), .ref (r 14), .ref (r 15), .ref (r 16), .ref (r 17), .ref (r 18), .ref (r 19), .ref (r 20), .ref (r 21), .ref (r 22), .ref (r 23), .ref (r 24), .int 0, .int 0, .int 0, .int 0, .int 0, .int 0, .int 0, .int 0, .int 0, .ref (r 25), .ref (r 26), .ref (r 27), .int 0, .int 0, .ref (r 28), .int 0, .ref (r 29), .ref (r 30), .ref (r 31), .ref (r 32), .ref (r 33), .ref (r 34), .ref (r 35), .ref (r 36), .int 0, .int 0, .int 0, .ref (r 37), .ref (r 38)])), (r 25, .inl ((c 25), 26, .inl f25)), (r 37, .inl ((c 37), 78, .inl zf171)), (r 38, .inl ((c 38), 3, .inl f38))] := by rw [ezf171]; exact hD
      refine lv_iinc (v := 14) (lv' := [(2, .int 14), (0, .ref (r 0)), (1, .int 1)]) hx hb dX9_image_36 hl (k := 0) rfl (by decide) (by decide) rfl (fun ls hl => ?_)
      refine lv_goto (tgt := 13) hx hb dX9_image_39 (by decide) ?_
      refine lv_iload_n hx hb dX9_image_13 rfl (lv_at hl 0 rfl) ?_
      refine lv_bipush (v := 26) hx hb dX9_image_14 (by decide) ?_
      refine lv_icmp_ge (tgt := 42) hx hb dX9_image_16 (by decide) (fun c_172 => absurd c_172 (by decide)) (fun c_172 => ?_)
      refine lv_aload_n hx hb dX9_image_19 rfl (lv_at hl 1 rfl) ?_
      refine va_get (D := (dC, dI)) (ci := 8) (v := .ref (r 37)) (C := RX9) (T := TX9) (N := 62) hx hb hG inX9 hown hK hP 0 rfl rfl 60 (by decide) (hG _ gw1231) (fun _ h9 => h9) rfl dX9_image_20 ?_
      refine lv_bipush (v := 26) hx hb dX9_image_23 (by decide) ?_
      refine lv_iload_n hx hb dX9_image_25 rfl (lv_at hl 2 rfl) ?_
      refine lv_imul hx hb dX9_image_26 ?_
      refine wt_c (v := 26) (by decide) ?_
      refine lv_iload_n hx hb dX9_image_27 rfl (lv_at hl 0 rfl) ?_
      refine lv_iadd hx hb dX9_image_28 ?_
      refine wt_c (v := 40) (by decide) ?_
      refine lv_aload_n hx hb dX9_image_29 rfl (lv_at hl 1 rfl) ?_
      refine va_get (D := (dC, dI)) (ci := 8) (v := .ref (r 25)) (C := RX9) (T := TX9) (N := 62) hx hb hG inX9 hown hK hP 0 rfl rfl 42 (by decide) (hG _ gw1213) (fun _ h9 => h9) rfl dX9_image_30 ?_
      refine lv_iload_n hx hb dX9_image_33 rfl (lv_at hl 0 rfl) ?_
      refine va_iald hx hb hK hP 1 0 rfl rfl (vin (by decide)) dX9_image_34 ?_
      refine lv_topi (fun x173 ex173 => ?_)
      refine va_iast hx hb hK hP hD hS 2 1 rfl rfl (vin (by decide)) dX9_image_35 (fun H174 locs hP hD hS => ?_)
      obtain ⟨zf175, ezf175⟩ : ∃ z : Nat → Int32, z = upd zf171 (40 : Int32).toNatClampNeg x173 := ⟨_, rfl⟩
      have hP : va_P (dC, dI) vwCl [(r 0, .inr (8, [.ref (r 1), .ref (r 2), .int 0, .int 0, .int 0, .int (-1), .int 0, .int 0, .int 0, .int 0, .long 0, .ref (r 3), .ref (r 4), .ref (r 5), .ref (r 6), .ref (r 7), .ref (r 8), .ref (r 9), .ref (r 10), .ref (r 11), .ref (r 12), .ref (r 13), .ref (r 14), .ref (r 15), .ref (r 16), .ref (r 17), .ref (r 18), .ref (r 19), .ref (r 20), .ref (r 21), .ref (r 22), .ref (r 23), .ref (r 24), .int 0, .int 0, .int 0, .int 0, .int 0, .int 0, .int 0, .int 0, .int 0, .ref (r 25), .ref (r 26), .ref (r 27), .int 0, .int 0, .ref (r 28), .int 0, .ref (r 29), .ref (r 30), .ref (r 31), .ref (r 32), .ref (r 33), .ref (r 34), .ref (r 35), .ref (r 36), .int 0, .int 0, .int 0, .ref (r 37), .ref (r 38)])), (r 25, .inl ((c 25), 26, .inl f25)), (r 37, .inl ((c 37), 78, .inl zf175)), (r 38, .inl ((c 38), 3, .inl f38))] H174 := by rw [ezf175]; exact hP
      have hD : va_D A [(r 0, .inr (8, [.ref (r 1), .ref (r 2), .int 0, .int 0, .int 0, .int (-1), .int 0, .int 0, .int 0, .int 0, .long 0, .ref (r 3), .ref (r 4), .ref (r 5), .ref (r 6), .ref (r 7), .ref (r 8), .ref (r 9), .ref (r 10), .ref (r 11), .ref (r 12), .ref (r 13), .ref (r 14), .ref (r 15), .ref (r 16), .ref (r 17), .ref (r 18), .ref (r 19), .ref (r 20), .ref (r 21), .ref (r 22), .ref (r 23), .ref (r 24), .int 0, .int 0, .int 0, .int 0, .int 0, .int 0, .int 0, .int 0, .int 0, .ref (r 25), .ref (r 26), .ref (r 27), .int 0, .int 0, .ref (r 28), .int 0, .ref (r 29), .ref (r 30), .ref (r 31), .ref (r 32), .ref (r 33), .ref (r 34), .ref (r 35), .ref (r 36), .int 0, .int 0, .int 0, .ref (r 37), .ref (r 38)])), (r 25, .inl ((c 25), 26, .inl f25)), (r 37, .inl ((c 37), 78, .inl zf175)), (r 38, .inl ((c 38), 3, .inl f38))] := by rw [ezf175]; exact hD
      refine lv_iinc (v := 15) (lv' := [(2, .int 15), (0, .ref (r 0)), (1, .int 1)]) hx hb dX9_image_36 hl (k := 0) rfl (by decide) (by decide) rfl (fun ls hl => ?_)
      refine lv_goto (tgt := 13) hx hb dX9_image_39 (by decide) ?_
      refine lv_iload_n hx hb dX9_image_13 rfl (lv_at hl 0 rfl) ?_
      refine lv_bipush (v := 26) hx hb dX9_image_14 (by decide) ?_
      refine lv_icmp_ge (tgt := 42) hx hb dX9_image_16 (by decide) (fun c_176 => absurd c_176 (by decide)) (fun c_176 => ?_)
      refine lv_aload_n hx hb dX9_image_19 rfl (lv_at hl 1 rfl) ?_
      refine va_get (D := (dC, dI)) (ci := 8) (v := .ref (r 37)) (C := RX9) (T := TX9) (N := 62) hx hb hG inX9 hown hK hP 0 rfl rfl 60 (by decide) (hG _ gw1231) (fun _ h9 => h9) rfl dX9_image_20 ?_
      refine lv_bipush (v := 26) hx hb dX9_image_23 (by decide) ?_
      refine lv_iload_n hx hb dX9_image_25 rfl (lv_at hl 2 rfl) ?_
      refine lv_imul hx hb dX9_image_26 ?_
      refine wt_c (v := 26) (by decide) ?_
      refine lv_iload_n hx hb dX9_image_27 rfl (lv_at hl 0 rfl) ?_
      refine lv_iadd hx hb dX9_image_28 ?_
      refine wt_c (v := 41) (by decide) ?_
      refine lv_aload_n hx hb dX9_image_29 rfl (lv_at hl 1 rfl) ?_
      refine va_get (D := (dC, dI)) (ci := 8) (v := .ref (r 25)) (C := RX9) (T := TX9) (N := 62) hx hb hG inX9 hown hK hP 0 rfl rfl 42 (by decide) (hG _ gw1213) (fun _ h9 => h9) rfl dX9_image_30 ?_
      refine lv_iload_n hx hb dX9_image_33 rfl (lv_at hl 0 rfl) ?_
      refine va_iald hx hb hK hP 1 0 rfl rfl (vin (by decide)) dX9_image_34 ?_
      refine lv_topi (fun x177 ex177 => ?_)
      refine va_iast hx hb hK hP hD hS 2 1 rfl rfl (vin (by decide)) dX9_image_35 (fun H178 locs hP hD hS => ?_)
      obtain ⟨zf179, ezf179⟩ : ∃ z : Nat → Int32, z = upd zf175 (41 : Int32).toNatClampNeg x177 := ⟨_, rfl⟩
      have hP : va_P (dC, dI) vwCl [(r 0, .inr (8, [.ref (r 1), .ref (r 2), .int 0, .int 0, .int 0, .int (-1), .int 0, .int 0, .int 0, .int 0, .long 0, .ref (r 3), .ref (r 4), .ref (r 5), .ref (r 6), .ref (r 7), .ref (r 8), .ref (r 9), .ref (r 10), .ref (r 11), .ref (r 12), .ref (r 13), .ref (r 14), .ref (r 15), .ref (r 16), .ref (r 17), .ref (r 18), .ref (r 19), .ref (r 20), .ref (r 21), .ref (r 22), .ref (r 23), .ref (r 24), .int 0, .int 0, .int 0, .int 0, .int 0, .int 0, .int 0, .int 0, .int 0, .ref (r 25), .ref (r 26), .ref (r 27), .int 0, .int 0, .ref (r 28), .int 0, .ref (r 29), .ref (r 30), .ref (r 31), .ref (r 32), .ref (r 33), .ref (r 34), .ref (r 35), .ref (r 36), .int 0, .int 0, .int 0, .ref (r 37), .ref (r 38)])), (r 25, .inl ((c 25), 26, .inl f25)), (r 37, .inl ((c 37), 78, .inl zf179)), (r 38, .inl ((c 38), 3, .inl f38))] H178 := by rw [ezf179]; exact hP
      have hD : va_D A [(r 0, .inr (8, [.ref (r 1), .ref (r 2), .int 0, .int 0, .int 0, .int (-1), .int 0, .int 0, .int 0, .int 0, .long 0, .ref (r 3), .ref (r 4), .ref (r 5), .ref (r 6), .ref (r 7), .ref (r 8), .ref (r 9), .ref (r 10), .ref (r 11), .ref (r 12), .ref (r 13), .ref (r 14), .ref (r 15), .ref (r 16), .ref (r 17), .ref (r 18), .ref (r 19), .ref (r 20), .ref (r 21), .ref (r 22), .ref (r 23), .ref (r 24), .int 0, .int 0, .int 0, .int 0, .int 0, .int 0, .int 0, .int 0, .int 0, .ref (r 25), .ref (r 26), .ref (r 27), .int 0, .int 0, .ref (r 28), .int 0, .ref (r 29), .ref (r 30), .ref (r 31), .ref (r 32), .ref (r 33), .ref (r 34), .ref (r 35), .ref (r 36), .int 0, .int 0, .int 0, .ref (r 37), .ref (r 38)])), (r 25, .inl ((c 25), 26, .inl f25)), (r 37, .inl ((c 37), 78, .inl zf179)), (r 38, .inl ((c 38), 3, .inl f38))] := by rw [ezf179]; exact hD
      refine lv_iinc (v := 16) (lv' := [(2, .int 16), (0, .ref (r 0)), (1, .int 1)]) hx hb dX9_image_36 hl (k := 0) rfl (by decide) (by decide) rfl (fun ls hl => ?_)
      refine lv_goto (tgt := 13) hx hb dX9_image_39 (by decide) ?_
      refine lv_iload_n hx hb dX9_image_13 rfl (lv_at hl 0 rfl) ?_
      refine lv_bipush (v := 26) hx hb dX9_image_14 (by decide) ?_
      refine lv_icmp_ge (tgt := 42) hx hb dX9_image_16 (by decide) (fun c_180 => absurd c_180 (by decide)) (fun c_180 => ?_)
      refine lv_aload_n hx hb dX9_image_19 rfl (lv_at hl 1 rfl) ?_
      refine va_get (D := (dC, dI)) (ci := 8) (v := .ref (r 37)) (C := RX9) (T := TX9) (N := 62) hx hb hG inX9 hown hK hP 0 rfl rfl 60 (by decide) (hG _ gw1231) (fun _ h9 => h9) rfl dX9_image_20 ?_
      refine lv_bipush (v := 26) hx hb dX9_image_23 (by decide) ?_
      refine lv_iload_n hx hb dX9_image_25 rfl (lv_at hl 2 rfl) ?_
      refine lv_imul hx hb dX9_image_26 ?_
      refine wt_c (v := 26) (by decide) ?_
      refine lv_iload_n hx hb dX9_image_27 rfl (lv_at hl 0 rfl) ?_
      refine lv_iadd hx hb dX9_image_28 ?_
      refine wt_c (v := 42) (by decide) ?_
      refine lv_aload_n hx hb dX9_image_29 rfl (lv_at hl 1 rfl) ?_
      refine va_get (D := (dC, dI)) (ci := 8) (v := .ref (r 25)) (C := RX9) (T := TX9) (N := 62) hx hb hG inX9 hown hK hP 0 rfl rfl 42 (by decide) (hG _ gw1213) (fun _ h9 => h9) rfl dX9_image_30 ?_
      refine lv_iload_n hx hb dX9_image_33 rfl (lv_at hl 0 rfl) ?_
      refine va_iald hx hb hK hP 1 0 rfl rfl (vin (by decide)) dX9_image_34 ?_
      refine lv_topi (fun x181 ex181 => ?_)
      refine va_iast hx hb hK hP hD hS 2 1 rfl rfl (vin (by decide)) dX9_image_35 (fun H182 locs hP hD hS => ?_)
      obtain ⟨zf183, ezf183⟩ : ∃ z : Nat → Int32, z = upd zf179 (42 : Int32).toNatClampNeg x181 := ⟨_, rfl⟩
      have hP : va_P (dC, dI) vwCl [(r 0, .inr (8, [.ref (r 1), .ref (r 2), .int 0, .int 0, .int 0, .int (-1), .int 0, .int 0, .int 0, .int 0, .long 0, .ref (r 3), .ref (r 4), .ref (r 5), .ref (r 6), .ref (r 7), .ref (r 8), .ref (r 9), .ref (r 10), .ref (r 11), .ref (r 12), .ref (r 13), .ref (r 14), .ref (r 15), .ref (r 16), .ref (r 17), .ref (r 18), .ref (r 19), .ref (r 20), .ref (r 21), .ref (r 22), .ref (r 23), .ref (r 24), .int 0, .int 0, .int 0, .int 0, .int 0, .int 0, .int 0, .int 0, .int 0, .ref (r 25), .ref (r 26), .ref (r 27), .int 0, .int 0, .ref (r 28), .int 0, .ref (r 29), .ref (r 30), .ref (r 31), .ref (r 32), .ref (r 33), .ref (r 34), .ref (r 35), .ref (r 36), .int 0, .int 0, .int 0, .ref (r 37), .ref (r 38)])), (r 25, .inl ((c 25), 26, .inl f25)), (r 37, .inl ((c 37), 78, .inl zf183)), (r 38, .inl ((c 38), 3, .inl f38))] H182 := by rw [ezf183]; exact hP
      have hD : va_D A [(r 0, .inr (8, [.ref (r 1), .ref (r 2), .int 0, .int 0, .int 0, .int (-1), .int 0, .int 0, .int 0, .int 0, .long 0, .ref (r 3), .ref (r 4), .ref (r 5), .ref (r 6), .ref (r 7), .ref (r 8), .ref (r 9), .ref (r 10), .ref (r 11), .ref (r 12), .ref (r 13), .ref (r 14), .ref (r 15), .ref (r 16), .ref (r 17), .ref (r 18), .ref (r 19), .ref (r 20), .ref (r 21), .ref (r 22), .ref (r 23), .ref (r 24), .int 0, .int 0, .int 0, .int 0, .int 0, .int 0, .int 0, .int 0, .int 0, .ref (r 25), .ref (r 26), .ref (r 27), .int 0, .int 0, .ref (r 28), .int 0, .ref (r 29), .ref (r 30), .ref (r 31), .ref (r 32), .ref (r 33), .ref (r 34), .ref (r 35), .ref (r 36), .int 0, .int 0, .int 0, .ref (r 37), .ref (r 38)])), (r 25, .inl ((c 25), 26, .inl f25)), (r 37, .inl ((c 37), 78, .inl zf183)), (r 38, .inl ((c 38), 3, .inl f38))] := by rw [ezf183]; exact hD
      refine lv_iinc (v := 17) (lv' := [(2, .int 17), (0, .ref (r 0)), (1, .int 1)]) hx hb dX9_image_36 hl (k := 0) rfl (by decide) (by decide) rfl (fun ls hl => ?_)
      refine lv_goto (tgt := 13) hx hb dX9_image_39 (by decide) ?_
      refine lv_iload_n hx hb dX9_image_13 rfl (lv_at hl 0 rfl) ?_
      refine lv_bipush (v := 26) hx hb dX9_image_14 (by decide) ?_
      refine lv_icmp_ge (tgt := 42) hx hb dX9_image_16 (by decide) (fun c_184 => absurd c_184 (by decide)) (fun c_184 => ?_)
      refine lv_aload_n hx hb dX9_image_19 rfl (lv_at hl 1 rfl) ?_
      refine va_get (D := (dC, dI)) (ci := 8) (v := .ref (r 37)) (C := RX9) (T := TX9) (N := 62) hx hb hG inX9 hown hK hP 0 rfl rfl 60 (by decide) (hG _ gw1231) (fun _ h9 => h9) rfl dX9_image_20 ?_
      refine lv_bipush (v := 26) hx hb dX9_image_23 (by decide) ?_
      refine lv_iload_n hx hb dX9_image_25 rfl (lv_at hl 2 rfl) ?_
      refine lv_imul hx hb dX9_image_26 ?_
      refine wt_c (v := 26) (by decide) ?_
      refine lv_iload_n hx hb dX9_image_27 rfl (lv_at hl 0 rfl) ?_
      refine lv_iadd hx hb dX9_image_28 ?_
      refine wt_c (v := 43) (by decide) ?_
      refine lv_aload_n hx hb dX9_image_29 rfl (lv_at hl 1 rfl) ?_
      refine va_get (D := (dC, dI)) (ci := 8) (v := .ref (r 25)) (C := RX9) (T := TX9) (N := 62) hx hb hG inX9 hown hK hP 0 rfl rfl 42 (by decide) (hG _ gw1213) (fun _ h9 => h9) rfl dX9_image_30 ?_
      refine lv_iload_n hx hb dX9_image_33 rfl (lv_at hl 0 rfl) ?_
      refine va_iald hx hb hK hP 1 0 rfl rfl (vin (by decide)) dX9_image_34 ?_
      refine lv_topi (fun x185 ex185 => ?_)
      refine va_iast hx hb hK hP hD hS 2 1 rfl rfl (vin (by decide)) dX9_image_35 (fun H186 locs hP hD hS => ?_)
      obtain ⟨zf187, ezf187⟩ : ∃ z : Nat → Int32, z = upd zf183 (43 : Int32).toNatClampNeg x185 := ⟨_, rfl⟩
      have hP : va_P (dC, dI) vwCl [(r 0, .inr (8, [.ref (r 1), .ref (r 2), .int 0, .int 0, .int 0, .int (-1), .int 0, .int 0, .int 0, .int 0, .long 0, .ref (r 3), .ref (r 4), .ref (r 5), .ref (r 6), .ref (r 7), .ref (r 8), .ref (r 9), .ref (r 10), .ref (r 11), .ref (r 12), .ref (r 13), .ref (r 14), .ref (r 15), .ref (r 16), .ref (r 17), .ref (r 18), .ref (r 19), .ref (r 20), .ref (r 21), .ref (r 22), .ref (r 23), .ref (r 24), .int 0, .int 0, .int 0, .int 0, .int 0, .int 0, .int 0, .int 0, .int 0, .ref (r 25), .ref (r 26), .ref (r 27), .int 0, .int 0, .ref (r 28), .int 0, .ref (r 29), .ref (r 30), .ref (r 31), .ref (r 32), .ref (r 33), .ref (r 34), .ref (r 35), .ref (r 36), .int 0, .int 0, .int 0, .ref (r 37), .ref (r 38)])), (r 25, .inl ((c 25), 26, .inl f25)), (r 37, .inl ((c 37), 78, .inl zf187)), (r 38, .inl ((c 38), 3, .inl f38))] H186 := by rw [ezf187]; exact hP
      have hD : va_D A [(r 0, .inr (8, [.ref (r 1), .ref (r 2), .int 0, .int 0, .int 0, .int (-1), .int 0, .int 0, .int 0, .int 0, .long 0, .ref (r 3), .ref (r 4), .ref (r 5), .ref (r 6), .ref (r 7), .ref (r 8), .ref (r 9), .ref (r 10), .ref (r 11), .ref (r 12), .ref (r 13), .ref (r 14), .ref (r 15), .ref (r 16), .ref (r 17), .ref (r 18), .ref (r 19), .ref (r 20), .ref (r 21), .ref (r 22), .ref (r 23), .ref (r 24), .int 0, .int 0, .int 0, .int 0, .int 0, .int 0, .int 0, .int 0, .int 0, .ref (r 25), .ref (r 26), .ref (r 27), .int 0, .int 0, .ref (r 28), .int 0, .ref (r 29), .ref (r 30), .ref (r 31), .ref (r 32), .ref (r 33), .ref (r 34), .ref (r 35), .ref (r 36), .int 0, .int 0, .int 0, .ref (r 37), .ref (r 38)])), (r 25, .inl ((c 25), 26, .inl f25)), (r 37, .inl ((c 37), 78, .inl zf187)), (r 38, .inl ((c 38), 3, .inl f38))] := by rw [ezf187]; exact hD
      refine lv_iinc (v := 18) (lv' := [(2, .int 18), (0, .ref (r 0)), (1, .int 1)]) hx hb dX9_image_36 hl (k := 0) rfl (by decide) (by decide) rfl (fun ls hl => ?_)
      refine lv_goto (tgt := 13) hx hb dX9_image_39 (by decide) ?_
      refine lv_iload_n hx hb dX9_image_13 rfl (lv_at hl 0 rfl) ?_
      refine lv_bipush (v := 26) hx hb dX9_image_14 (by decide) ?_
      refine lv_icmp_ge (tgt := 42) hx hb dX9_image_16 (by decide) (fun c_188 => absurd c_188 (by decide)) (fun c_188 => ?_)
      refine lv_aload_n hx hb dX9_image_19 rfl (lv_at hl 1 rfl) ?_
      refine va_get (D := (dC, dI)) (ci := 8) (v := .ref (r 37)) (C := RX9) (T := TX9) (N := 62) hx hb hG inX9 hown hK hP 0 rfl rfl 60 (by decide) (hG _ gw1231) (fun _ h9 => h9) rfl dX9_image_20 ?_
      refine lv_bipush (v := 26) hx hb dX9_image_23 (by decide) ?_
      refine lv_iload_n hx hb dX9_image_25 rfl (lv_at hl 2 rfl) ?_
      refine lv_imul hx hb dX9_image_26 ?_
      refine wt_c (v := 26) (by decide) ?_
      refine lv_iload_n hx hb dX9_image_27 rfl (lv_at hl 0 rfl) ?_
      refine lv_iadd hx hb dX9_image_28 ?_
      refine wt_c (v := 44) (by decide) ?_
      refine lv_aload_n hx hb dX9_image_29 rfl (lv_at hl 1 rfl) ?_
      refine va_get (D := (dC, dI)) (ci := 8) (v := .ref (r 25)) (C := RX9) (T := TX9) (N := 62) hx hb hG inX9 hown hK hP 0 rfl rfl 42 (by decide) (hG _ gw1213) (fun _ h9 => h9) rfl dX9_image_30 ?_
      refine lv_iload_n hx hb dX9_image_33 rfl (lv_at hl 0 rfl) ?_
      refine va_iald hx hb hK hP 1 0 rfl rfl (vin (by decide)) dX9_image_34 ?_
      refine lv_topi (fun x189 ex189 => ?_)
      refine va_iast hx hb hK hP hD hS 2 1 rfl rfl (vin (by decide)) dX9_image_35 (fun H190 locs hP hD hS => ?_)
      obtain ⟨zf191, ezf191⟩ : ∃ z : Nat → Int32, z = upd zf187 (44 : Int32).toNatClampNeg x189 := ⟨_, rfl⟩
      have hP : va_P (dC, dI) vwCl [(r 0, .inr (8, [.ref (r 1), .ref (r 2), .int 0, .int 0, .int 0, .int (-1), .int 0, .int 0, .int 0, .int 0, .long 0, .ref (r 3), .ref (r 4), .ref (r 5), .ref (r 6), .ref (r 7), .ref (r 8), .ref (r 9), .ref (r 10), .ref (r 11), .ref (r 12), .ref (r 13), .ref (r 14), .ref (r 15), .ref (r 16), .ref (r 17), .ref (r 18), .ref (r 19), .ref (r 20), .ref (r 21), .ref (r 22), .ref (r 23), .ref (r 24), .int 0, .int 0, .int 0, .int 0, .int 0, .int 0, .int 0, .int 0, .int 0, .ref (r 25), .ref (r 26), .ref (r 27), .int 0, .int 0, .ref (r 28), .int 0, .ref (r 29), .ref (r 30), .ref (r 31), .ref (r 32), .ref (r 33), .ref (r 34), .ref (r 35), .ref (r 36), .int 0, .int 0, .int 0, .ref (r 37), .ref (r 38)])), (r 25, .inl ((c 25), 26, .inl f25)), (r 37, .inl ((c 37), 78, .inl zf191)), (r 38, .inl ((c 38), 3, .inl f38))] H190 := by rw [ezf191]; exact hP
      have hD : va_D A [(r 0, .inr (8, [.ref (r 1), .ref (r 2), .int 0, .int 0, .int 0, .int (-1), .int 0, .int 0, .int 0, .int 0, .long 0, .ref (r 3), .ref (r 4), .ref (r 5), .ref (r 6), .ref (r 7), .ref (r 8), .ref (r 9), .ref (r 10), .ref (r 11), .ref (r 12), .ref (r 13), .ref (r 14), .ref (r 15), .ref (r 16), .ref (r 17), .ref (r 18), .ref (r 19), .ref (r 20), .ref (r 21), .ref (r 22), .ref (r 23), .ref (r 24), .int 0, .int 0, .int 0, .int 0, .int 0, .int 0, .int 0, .int 0, .int 0, .ref (r 25), .ref (r 26), .ref (r 27), .int 0, .int 0, .ref (r 28), .int 0, .ref (r 29), .ref (r 30), .ref (r 31), .ref (r 32), .ref (r 33), .ref (r 34), .ref (r 35), .ref (r 36), .int 0, .int 0, .int 0, .ref (r 37), .ref (r 38)])), (r 25, .inl ((c 25), 26, .inl f25)), (r 37, .inl ((c 37), 78, .inl zf191)), (r 38, .inl ((c 38), 3, .inl f38))] := by rw [ezf191]; exact hD
      refine lv_iinc (v := 19) (lv' := [(2, .int 19), (0, .ref (r 0)), (1, .int 1)]) hx hb dX9_image_36 hl (k := 0) rfl (by decide) (by decide) rfl (fun ls hl => ?_)
      refine lv_goto (tgt := 13) hx hb dX9_image_39 (by decide) ?_
      refine lv_iload_n hx hb dX9_image_13 rfl (lv_at hl 0 rfl) ?_
      refine lv_bipush (v := 26) hx hb dX9_image_14 (by decide) ?_
      refine lv_icmp_ge (tgt := 42) hx hb dX9_image_16 (by decide) (fun c_192 => absurd c_192 (by decide)) (fun c_192 => ?_)
      refine lv_aload_n hx hb dX9_image_19 rfl (lv_at hl 1 rfl) ?_
      refine va_get (D := (dC, dI)) (ci := 8) (v := .ref (r 37)) (C := RX9) (T := TX9) (N := 62) hx hb hG inX9 hown hK hP 0 rfl rfl 60 (by decide) (hG _ gw1231) (fun _ h9 => h9) rfl dX9_image_20 ?_
      refine lv_bipush (v := 26) hx hb dX9_image_23 (by decide) ?_
      refine lv_iload_n hx hb dX9_image_25 rfl (lv_at hl 2 rfl) ?_
      refine lv_imul hx hb dX9_image_26 ?_
      refine wt_c (v := 26) (by decide) ?_
      refine lv_iload_n hx hb dX9_image_27 rfl (lv_at hl 0 rfl) ?_
      refine lv_iadd hx hb dX9_image_28 ?_
      refine wt_c (v := 45) (by decide) ?_
      refine lv_aload_n hx hb dX9_image_29 rfl (lv_at hl 1 rfl) ?_
      refine va_get (D := (dC, dI)) (ci := 8) (v := .ref (r 25)) (C := RX9) (T := TX9) (N := 62) hx hb hG inX9 hown hK hP 0 rfl rfl 42 (by decide) (hG _ gw1213) (fun _ h9 => h9) rfl dX9_image_30 ?_
      refine lv_iload_n hx hb dX9_image_33 rfl (lv_at hl 0 rfl) ?_
      refine va_iald hx hb hK hP 1 0 rfl rfl (vin (by decide)) dX9_image_34 ?_
      refine lv_topi (fun x193 ex193 => ?_)
      refine va_iast hx hb hK hP hD hS 2 1 rfl rfl (vin (by decide)) dX9_image_35 (fun H194 locs hP hD hS => ?_)
      obtain ⟨zf195, ezf195⟩ : ∃ z : Nat → Int32, z = upd zf191 (45 : Int32).toNatClampNeg x193 := ⟨_, rfl⟩
      have hP : va_P (dC, dI) vwCl [(r 0, .inr (8, [.ref (r 1), .ref (r 2), .int 0, .int 0, .int 0, .int (-1), .int 0, .int 0, .int 0, .int 0, .long 0, .ref (r 3), .ref (r 4), .ref (r 5), .ref (r 6), .ref (r 7), .ref (r 8), .ref (r 9), .ref (r 10), .ref (r 11), .ref (r 12), .ref (r 13), .ref (r 14), .ref (r 15), .ref (r 16), .ref (r 17), .ref (r 18), .ref (r 19), .ref (r 20), .ref (r 21), .ref (r 22), .ref (r 23), .ref (r 24), .int 0, .int 0, .int 0, .int 0, .int 0, .int 0, .int 0, .int 0, .int 0, .ref (r 25), .ref (r 26), .ref (r 27), .int 0, .int 0, .ref (r 28), .int 0, .ref (r 29), .ref (r 30), .ref (r 31), .ref (r 32), .ref (r 33), .ref (r 34), .ref (r 35), .ref (r 36), .int 0, .int 0, .int 0, .ref (r 37), .ref (r 38)])), (r 25, .inl ((c 25), 26, .inl f25)), (r 37, .inl ((c 37), 78, .inl zf195)), (r 38, .inl ((c 38), 3, .inl f38))] H194 := by rw [ezf195]; exact hP
      have hD : va_D A [(r 0, .inr (8, [.ref (r 1), .ref (r 2), .int 0, .int 0, .int 0, .int (-1), .int 0, .int 0, .int 0, .int 0, .long 0, .ref (r 3), .ref (r 4), .ref (r 5), .ref (r 6), .ref (r 7), .ref (r 8), .ref (r 9), .ref (r 10), .ref (r 11), .ref (r 12), .ref (r 13), .ref (r 14), .ref (r 15), .ref (r 16), .ref (r 17), .ref (r 18), .ref (r 19), .ref (r 20), .ref (r 21), .ref (r 22), .ref (r 23), .ref (r 24), .int 0, .int 0, .int 0, .int 0, .int 0, .int 0, .int 0, .int 0, .int 0, .ref (r 25), .ref (r 26), .ref (r 27), .int 0, .int 0, .ref (r 28), .int 0, .ref (r 29), .ref (r 30), .ref (r 31), .ref (r 32), .ref (r 33), .ref (r 34), .ref (r 35), .ref (r 36), .int 0, .int 0, .int 0, .ref (r 37), .ref (r 38)])), (r 25, .inl ((c 25), 26, .inl f25)), (r 37, .inl ((c 37), 78, .inl zf195)), (r 38, .inl ((c 38), 3, .inl f38))] := by rw [ezf195]; exact hD
      refine lv_iinc (v := 20) (lv' := [(2, .int 20), (0, .ref (r 0)), (1, .int 1)]) hx hb dX9_image_36 hl (k := 0) rfl (by decide) (by decide) rfl (fun ls hl => ?_)
      refine lv_goto (tgt := 13) hx hb dX9_image_39 (by decide) ?_
      refine lv_iload_n hx hb dX9_image_13 rfl (lv_at hl 0 rfl) ?_
      refine lv_bipush (v := 26) hx hb dX9_image_14 (by decide) ?_
      refine lv_icmp_ge (tgt := 42) hx hb dX9_image_16 (by decide) (fun c_196 => absurd c_196 (by decide)) (fun c_196 => ?_)
      refine lv_aload_n hx hb dX9_image_19 rfl (lv_at hl 1 rfl) ?_
      refine va_get (D := (dC, dI)) (ci := 8) (v := .ref (r 37)) (C := RX9) (T := TX9) (N := 62) hx hb hG inX9 hown hK hP 0 rfl rfl 60 (by decide) (hG _ gw1231) (fun _ h9 => h9) rfl dX9_image_20 ?_
      refine lv_bipush (v := 26) hx hb dX9_image_23 (by decide) ?_
      refine lv_iload_n hx hb dX9_image_25 rfl (lv_at hl 2 rfl) ?_
      refine lv_imul hx hb dX9_image_26 ?_
      refine wt_c (v := 26) (by decide) ?_
      refine lv_iload_n hx hb dX9_image_27 rfl (lv_at hl 0 rfl) ?_
      refine lv_iadd hx hb dX9_image_28 ?_
      refine wt_c (v := 46) (by decide) ?_
      refine lv_aload_n hx hb dX9_image_29 rfl (lv_at hl 1 rfl) ?_
      refine va_get (D := (dC, dI)) (ci := 8) (v := .ref (r 25)) (C := RX9) (T := TX9) (N := 62) hx hb hG inX9 hown hK hP 0 rfl rfl 42 (by decide) (hG _ gw1213) (fun _ h9 => h9) rfl dX9_image_30 ?_
      refine lv_iload_n hx hb dX9_image_33 rfl (lv_at hl 0 rfl) ?_
      refine va_iald hx hb hK hP 1 0 rfl rfl (vin (by decide)) dX9_image_34 ?_
      refine lv_topi (fun x197 ex197 => ?_)
      refine va_iast hx hb hK hP hD hS 2 1 rfl rfl (vin (by decide)) dX9_image_35 (fun H198 locs hP hD hS => ?_)
      obtain ⟨zf199, ezf199⟩ : ∃ z : Nat → Int32, z = upd zf195 (46 : Int32).toNatClampNeg x197 := ⟨_, rfl⟩
      have hP : va_P (dC, dI) vwCl [(r 0, .inr (8, [.ref (r 1), .ref (r 2), .int 0, .int 0, .int 0, .int (-1), .int 0, .int 0, .int 0, .int 0, .long 0, .ref (r 3), .ref (r 4), .ref (r 5), .ref (r 6), .ref (r 7), .ref (r 8), .ref (r 9), .ref (r 10), .ref (r 11), .ref (r 12), .ref (r 13), .ref (r 14), .ref (r 15), .ref (r 16), .ref (r 17), .ref (r 18), .ref (r 19), .ref (r 20), .ref (r 21), .ref (r 22), .ref (r 23), .ref (r 24), .int 0, .int 0, .int 0, .int 0, .int 0, .int 0, .int 0, .int 0, .int 0, .ref (r 25), .ref (r 26), .ref (r 27), .int 0, .int 0, .ref (r 28), .int 0, .ref (r 29), .ref (r 30), .ref (r 31), .ref (r 32), .ref (r 33), .ref (r 34), .ref (r 35), .ref (r 36), .int 0, .int 0, .int 0, .ref (r 37), .ref (r 38)])), (r 25, .inl ((c 25), 26, .inl f25)), (r 37, .inl ((c 37), 78, .inl zf199)), (r 38, .inl ((c 38), 3, .inl f38))] H198 := by rw [ezf199]; exact hP
      have hD : va_D A [(r 0, .inr (8, [.ref (r 1), .ref (r 2), .int 0, .int 0, .int 0, .int (-1), .int 0, .int 0, .int 0, .int 0, .long 0, .ref (r 3), .ref (r 4), .ref (r 5), .ref (r 6), .ref (r 7), .ref (r 8), .ref (r 9), .ref (r 10), .ref (r 11), .ref (r 12), .ref (r 13), .ref (r 14), .ref (r 15), .ref (r 16), .ref (r 17), .ref (r 18), .ref (r 19), .ref (r 20), .ref (r 21), .ref (r 22), .ref (r 23), .ref (r 24), .int 0, .int 0, .int 0, .int 0, .int 0, .int 0, .int 0, .int 0, .int 0, .ref (r 25), .ref (r 26), .ref (r 27), .int 0, .int 0, .ref (r 28), .int 0, .ref (r 29), .ref (r 30), .ref (r 31), .ref (r 32), .ref (r 33), .ref (r 34), .ref (r 35), .ref (r 36), .int 0, .int 0, .int 0, .ref (r 37), .ref (r 38)])), (r 25, .inl ((c 25), 26, .inl f25)), (r 37, .inl ((c 37), 78, .inl zf199)), (r 38, .inl ((c 38), 3, .inl f38))] := by rw [ezf199]; exact hD
      refine lv_iinc (v := 21) (lv' := [(2, .int 21), (0, .ref (r 0)), (1, .int 1)]) hx hb dX9_image_36 hl (k := 0) rfl (by decide) (by decide) rfl (fun ls hl => ?_)
      refine lv_goto (tgt := 13) hx hb dX9_image_39 (by decide) ?_
      refine lv_iload_n hx hb dX9_image_13 rfl (lv_at hl 0 rfl) ?_
      refine lv_bipush (v := 26) hx hb dX9_image_14 (by decide) ?_
      refine lv_icmp_ge (tgt := 42) hx hb dX9_image_16 (by decide) (fun c_200 => absurd c_200 (by decide)) (fun c_200 => ?_)
      refine lv_aload_n hx hb dX9_image_19 rfl (lv_at hl 1 rfl) ?_
      refine va_get (D := (dC, dI)) (ci := 8) (v := .ref (r 37)) (C := RX9) (T := TX9) (N := 62) hx hb hG inX9 hown hK hP 0 rfl rfl 60 (by decide) (hG _ gw1231) (fun _ h9 => h9) rfl dX9_image_20 ?_
      refine lv_bipush (v := 26) hx hb dX9_image_23 (by decide) ?_
      refine lv_iload_n hx hb dX9_image_25 rfl (lv_at hl 2 rfl) ?_
      refine lv_imul hx hb dX9_image_26 ?_
      refine wt_c (v := 26) (by decide) ?_
      refine lv_iload_n hx hb dX9_image_27 rfl (lv_at hl 0 rfl) ?_
      refine lv_iadd hx hb dX9_image_28 ?_
      refine wt_c (v := 47) (by decide) ?_
      refine lv_aload_n hx hb dX9_image_29 rfl (lv_at hl 1 rfl) ?_
      refine va_get (D := (dC, dI)) (ci := 8) (v := .ref (r 25)) (C := RX9) (T := TX9) (N := 62) hx hb hG inX9 hown hK hP 0 rfl rfl 42 (by decide) (hG _ gw1213) (fun _ h9 => h9) rfl dX9_image_30 ?_
      refine lv_iload_n hx hb dX9_image_33 rfl (lv_at hl 0 rfl) ?_
      refine va_iald hx hb hK hP 1 0 rfl rfl (vin (by decide)) dX9_image_34 ?_
      refine lv_topi (fun x201 ex201 => ?_)
      refine va_iast hx hb hK hP hD hS 2 1 rfl rfl (vin (by decide)) dX9_image_35 (fun H202 locs hP hD hS => ?_)
      obtain ⟨zf203, ezf203⟩ : ∃ z : Nat → Int32, z = upd zf199 (47 : Int32).toNatClampNeg x201 := ⟨_, rfl⟩
      have hP : va_P (dC, dI) vwCl [(r 0, .inr (8, [.ref (r 1), .ref (r 2), .int 0, .int 0, .int 0, .int (-1), .int 0, .int 0, .int 0, .int 0, .long 0, .ref (r 3), .ref (r 4), .ref (r 5), .ref (r 6), .ref (r 7), .ref (r 8), .ref (r 9), .ref (r 10), .ref (r 11), .ref (r 12), .ref (r 13), .ref (r 14), .ref (r 15), .ref (r 16), .ref (r 17), .ref (r 18), .ref (r 19), .ref (r 20), .ref (r 21), .ref (r 22), .ref (r 23), .ref (r 24), .int 0, .int 0, .int 0, .int 0, .int 0, .int 0, .int 0, .int 0, .int 0, .ref (r 25), .ref (r 26), .ref (r 27), .int 0, .int 0, .ref (r 28), .int 0, .ref (r 29), .ref (r 30), .ref (r 31), .ref (r 32), .ref (r 33), .ref (r 34), .ref (r 35), .ref (r 36), .int 0, .int 0, .int 0, .ref (r 37), .ref (r 38)])), (r 25, .inl ((c 25), 26, .inl f25)), (r 37, .inl ((c 37), 78, .inl zf203)), (r 38, .inl ((c 38), 3, .inl f38))] H202 := by rw [ezf203]; exact hP
      have hD : va_D A [(r 0, .inr (8, [.ref (r 1), .ref (r 2), .int 0, .int 0, .int 0, .int (-1), .int 0, .int 0, .int 0, .int 0, .long 0, .ref (r 3), .ref (r 4), .ref (r 5), .ref (r 6), .ref (r 7), .ref (r 8), .ref (r 9), .ref (r 10), .ref (r 11), .ref (r 12), .ref (r 13), .ref (r 14), .ref (r 15), .ref (r 16), .ref (r 17), .ref (r 18), .ref (r 19), .ref (r 20), .ref (r 21), .ref (r 22), .ref (r 23), .ref (r 24), .int 0, .int 0, .int 0, .int 0, .int 0, .int 0, .int 0, .int 0, .int 0, .ref (r 25), .ref (r 26), .ref (r 27), .int 0, .int 0, .ref (r 28), .int 0, .ref (r 29), .ref (r 30), .ref (r 31), .ref (r 32), .ref (r 33), .ref (r 34), .ref (r 35), .ref (r 36), .int 0, .int 0, .int 0, .ref (r 37), .ref (r 38)])), (r 25, .inl ((c 25), 26, .inl f25)), (r 37, .inl ((c 37), 78, .inl zf203)), (r 38, .inl ((c 38), 3, .inl f38))] := by rw [ezf203]; exact hD
      refine lv_iinc (v := 22) (lv' := [(2, .int 22), (0, .ref (r 0)), (1, .int 1)]) hx hb dX9_image_36 hl (k := 0) rfl (by decide) (by decide) rfl (fun ls hl => ?_)
      refine lv_goto (tgt := 13) hx hb dX9_image_39 (by decide) ?_
      refine lv_iload_n hx hb dX9_image_13 rfl (lv_at hl 0 rfl) ?_
      refine lv_bipush (v := 26) hx hb dX9_image_14 (by decide) ?_
      refine lv_icmp_ge (tgt := 42) hx hb dX9_image_16 (by decide) (fun c_204 => absurd c_204 (by decide)) (fun c_204 => ?_)
      refine lv_aload_n hx hb dX9_image_19 rfl (lv_at hl 1 rfl) ?_
      refine va_get (D := (dC, dI)) (ci := 8) (v := .ref (r 37)) (C := RX9) (T := TX9) (N := 62) hx hb hG inX9 hown hK hP 0 rfl rfl 60 (by decide) (hG _ gw1231) (fun _ h9 => h9) rfl dX9_image_20 ?_
      refine lv_bipush (v := 26) hx hb dX9_image_23 (by decide) ?_
      refine lv_iload_n hx hb dX9_image_25 rfl (lv_at hl 2 rfl) ?_
      refine lv_imul hx hb dX9_image_26 ?_
      refine wt_c (v := 26) (by decide) ?_
      refine lv_iload_n hx hb dX9_image_27 rfl (lv_at hl 0 rfl) ?_
      refine lv_iadd hx hb dX9_image_28 ?_
      refine wt_c (v := 48) (by decide) ?_
      refine lv_aload_n hx hb dX9_image_29 rfl (lv_at hl 1 rfl) ?_
      refine va_get (D := (dC, dI)) (ci := 8) (v := .ref (r 25)) (C := RX9) (T := TX9) (N := 62) hx hb hG inX9 hown hK hP 0 rfl rfl 42 (by decide) (hG _ gw1213) (fun _ h9 => h9) rfl dX9_image_30 ?_
      refine lv_iload_n hx hb dX9_image_33 rfl (lv_at hl 0 rfl) ?_
      refine va_iald hx hb hK hP 1 0 rfl rfl (vin (by decide)) dX9_image_34 ?_
      refine lv_topi (fun x205 ex205 => ?_)
      refine va_iast hx hb hK hP hD hS 2 1 rfl rfl (vin (by decide)) dX9_image_35 (fun H206 locs hP hD hS => ?_)
      obtain ⟨zf207, ezf207⟩ : ∃ z : Nat → Int32, z = upd zf203 (48 : Int32).toNatClampNeg x205 := ⟨_, rfl⟩
      have hP : va_P (dC, dI) vwCl [(r 0, .inr (8, [.ref (r 1), .ref (r 2), .int 0, .int 0, .int 0, .int (-1), .int 0, .int 0, .int 0, .int 0, .long 0, .ref (r 3), .ref (r 4), .ref (r 5), .ref (r 6), .ref (r 7), .ref (r 8), .ref (r 9), .ref (r 10), .ref (r 11), .ref (r 12), .ref (r 13), .ref (r 14), .ref (r 15), .ref (r 16), .ref (r 17), .ref (r 18), .ref (r 19), .ref (r 20), .ref (r 21), .ref (r 22), .ref (r 23), .ref (r 24), .int 0, .int 0, .int 0, .int 0, .int 0, .int 0, .int 0, .int 0, .int 0, .ref (r 25), .ref (r 26), .ref (r 27), .int 0, .int 0, .ref (r 28), .int 0, .ref (r 29), .ref (r 30), .ref (r 31), .ref (r 32), .ref (r 33), .ref (r 34), .ref (r 35), .ref (r 36), .int 0, .int 0, .int 0, .ref (r 37), .ref (r 38)])), (r 25, .inl ((c 25), 26, .inl f25)), (r 37, .inl ((c 37), 78, .inl zf207)), (r 38, .inl ((c 38), 3, .inl f38))] H206 := by rw [ezf207]; exact hP
      have hD : va_D A [(r 0, .inr (8, [.ref (r 1), .ref (r 2), .int 0, .int 0, .int 0, .int (-1), .int 0, .int 0, .int 0, .int 0, .long 0, .ref (r 3), .ref (r 4), .ref (r 5), .ref (r 6), .ref (r 7), .ref (r 8), .ref (r 9), .ref (r 10), .ref (r 11), .ref (r 12), .ref (r 13), .ref (r 14), .ref (r 15), .ref (r 16), .ref (r 17), .ref (r 18), .ref (r 19), .ref (r 20), .ref (r 21), .ref (r 22), .ref (r 23), .ref (r 24), .int 0, .int 0, .int 0, .int 0, .int 0, .int 0, .int 0, .int 0, .int 0, .ref (r 25), .ref (r 26), .ref (r 27), .int 0, .int 0, .ref (r 28), .int 0, .ref (r 29), .ref (r 30), .ref (r 31), .ref (r 32), .ref (r 33), .ref (r 34), .ref (r 35), .ref (r 36), .int 0, .int 0, .int 0, .ref (r 37), .ref (r 38)])), (r 25, .inl ((c 25), 26, .inl f25)), (r 37, .inl ((c 37), 78, .inl zf207)), (r 38, .inl ((c 38), 3, .inl f38))] := by rw [ezf207]; exact hD
      refine lv_iinc (v := 23) (lv' := [(2, .int 23), (0, .ref (r 0)), (1, .int 1)]) hx hb dX9_image_36 hl (k := 0) rfl (by decide) (by decide) rfl (fun ls hl => ?_)
      refine lv_goto (tgt := 13) hx hb dX9_image_39 (by decide) ?_
      refine lv_iload_n hx hb dX9_image_13 rfl (lv_at hl 0 rfl) ?_
      refine lv_bipush (v := 26) hx hb dX9_image_14 (by decide) ?_
      refine lv_icmp_ge (tgt := 42) hx hb dX9_image_16 (by decide) (fun c_208 => absurd c_208 (by decide)) (fun c_208 => ?_)
      refine lv_aload_n hx hb dX9_image_19 rfl (lv_at hl 1 rfl) ?_
      refine va_get (D := (dC, dI)) (ci := 8) (v := .ref (r 37)) (C := RX9) (T := TX9) (N := 62) hx hb hG inX9 hown hK hP 0 rfl rfl 60 (by decide) (hG _ gw1231) (fun _ h9 => h9) rfl dX9_image_20 ?_
      refine lv_bipush (v := 26) hx hb dX9_image_23 (by decide) ?_
      refine lv_iload_n hx hb dX9_image_25 rfl (lv_at hl 2 rfl) ?_
      refine lv_imul hx hb dX9_image_26 ?_
      refine wt_c (v := 26) (by decide) ?_
      refine lv_iload_n hx hb dX9_image_27 rfl (lv_at hl 0 rfl) ?_
      refine lv_iadd hx hb dX9_image_28 ?_
      refine wt_c (v := 49) (by decide) ?_
      refine lv_aload_n hx hb dX9_image_29 rfl (lv_at hl 1 rfl) ?_
      refine va_get (D := (dC, dI)) (ci := 8) (v := .ref (r 25)) (C := RX9) (T := TX9) (N := 62) hx hb hG inX9 hown hK hP 0 rfl rfl 42 (by decide) (hG _ gw1213) (fun _ h9 => h9) rfl dX9_image_30 ?_
      refine lv_iload_n hx hb dX9_image_33 rfl (lv_at hl 0 rfl) ?_
      refine va_iald hx hb hK hP 1 0 rfl rfl (vin (by decide)) dX9_image_34 ?_
      refine lv_topi (fun x209 ex209 => ?_)
      refine va_iast hx hb hK hP hD hS 2 1 rfl rfl (vin (by decide)) dX9_image_35 (fun H210 locs hP hD hS => ?_)
      obtain ⟨zf211, ezf211⟩ : ∃ z : Nat → Int32, z = upd zf207 (49 : Int32).toNatClampNeg x209 := ⟨_, rfl⟩
      have hP : va_P (dC, dI) vwCl [(r 0, .inr (8, [.ref (r 1), .ref (r 2), .int 0, .int 0, .int 0, .int (-1), .int 0, .int 0, .int 0, .int 0, .long 0, .ref (r 3), .ref (r 4), .ref (r 5), .ref (r 6), .ref (r 7), .ref (r 8), .ref (r 9), .ref (r 10), .ref (r 11), .ref (r 12), .ref (r 13), .ref (r 14), .ref (r 15), .ref (r 16), .ref (r 17), .ref (r 18), .ref (r 19), .ref (r 20), .ref (r 21), .ref (r 22), .ref (r 23), .ref (r 24), .int 0, .int 0, .int 0, .int 0, .int 0, .int 0, .int 0, .int 0, .int 0, .ref (r 25), .ref (r 26), .ref (r 27), .int 0, .int 0, .ref (r 28), .int 0, .ref (r 29), .ref (r 30), .ref (r 31), .ref (r 32), .ref (r 33), .ref (r 34), .ref (r 35), .ref (r 36), .int 0, .int 0, .int 0, .ref (r 37), .ref (r 38)])), (r 25, .inl ((c 25), 26, .inl f25)), (r 37, .inl ((c 37), 78, .inl zf211)), (r 38, .inl ((c 38), 3, .inl f38))] H210 := by rw [ezf211]; exact hP
      have hD : va_D A [(r 0, .inr (8, [.ref (r 1), .ref (r 2), .int 0, .int 0, .int 0, .int (-1), .int 0, .int 0, .int 0, .int 0, .long 0, .ref (r 3), .ref (r 4), .ref (r 5), .ref (r 6), .ref (r 7), .ref (r 8), .ref (r 9), .ref (r 10), .ref (r 11), .ref (r 12), .ref (r 13), .ref (r 14), .ref (r 15), .ref (r 16), .ref (r 17), .ref (r 18), .ref (r 19), .ref (r 20), .ref (r 21), .ref (r 22), .ref (r 23), .ref (r 24), .int 0, .int 0, .int 0, .int 0, .int 0, .int 0, .int 0, .int 0, .int 0, .ref (r 25), .ref (r 26), .ref (r 27), .int 0, .int 0, .ref (r 28), .int 0, .ref (r 29), .ref (r 30), .ref (r 31), .ref (r 32), .ref (r 33), .ref (r 34), .ref (r 35), .ref (r 36), .int 0, .int 0, .int 0, .ref (r 37), .ref (r 38)])), (r 25, .inl ((c 25), 26, .inl f25)), (r 37, .inl ((c 37), 78, .inl zf211)), (r 38, .inl ((c 38), 3, .inl f38))] := by rw [ezf211]; exact hD
      refine lv_iinc (v := 24) (lv' := [(2, .int 24), (0, .ref (r 0)), (1, .int 1)]) hx hb dX9_image_36 hl (k := 0) rfl (by decide) (by decide) rfl (fun ls hl => ?_)
      refine lv_goto (tgt := 13) hx hb dX9_image_39 (by decide) ?_
      refine lv_iload_n hx hb dX9_image_13 rfl (lv_at hl 0 rfl) ?_
      refine lv_bipush (v := 26) hx hb dX9_image_14 (by decide) ?_
      refine lv_icmp_ge (tgt := 42) hx hb dX9_image_16 (by decide) (fun c_212 => absurd c_212 (by decide)) (fun c_212 => ?_)
      refine lv_aload_n hx hb dX9_image_19 rfl (lv_at hl 1 rfl) ?_
      refine va_get (D := (dC, dI)) (ci := 8) (v := .ref (r 37)) (C := RX9) (T := TX9) (N := 62) hx hb hG inX9 hown hK hP 0 rfl rfl 60 (by decide) (hG _ gw1231) (fun _ h9 => h9) rfl dX9_image_20 ?_
      refine lv_bipush (v := 26) hx hb dX9_image_23 (by decide) ?_
      refine lv_iload_n hx hb dX9_image_25 rfl (lv_at hl 2 rfl) ?_
      refine lv_imul hx hb dX9_image_26 ?_
      refine wt_c (v := 26) (by decide) ?_
      refine lv_iload_n hx hb dX9_image_27 rfl (lv_at hl 0 rfl) ?_
      refine lv_iadd hx hb dX9_image_28 ?_
      refine wt_c (v := 50) (by decide) ?_
      refine lv_aload_n hx hb dX9_image_29 rfl (lv_at hl 1 rfl) ?_
      refine va_get (D := (dC, dI)) (ci := 8) (v := .ref (r 25)) (C := RX9) (T := TX9) (N := 62) hx hb hG inX9 hown hK hP 0 rfl rfl 42 (by decide) (hG _ gw1213) (fun _ h9 => h9) rfl dX9_image_30 ?_
      refine lv_iload_n hx hb dX9_image_33 rfl (lv_at hl 0 rfl) ?_
      refine va_iald hx hb hK hP 1 0 rfl rfl (vin (by decide)) dX9_image_34 ?_
      refine wt_c (v := 0) hf25_24 ?_
      refine va_iast hx hb hK hP hD hS 2 1 rfl rfl (vin (by decide)) dX9_image_35 (fun H213 locs hP hD hS => ?_)
      obtain ⟨zf214, ezf214⟩ : ∃ z : Nat → Int32, z = upd zf211 (50 : Int32).toNatClampNeg 0 := ⟨_, rfl⟩
      have hP : va_P (dC, dI) vwCl [(r 0, .inr (8, [.ref (r 1), .ref (r 2), .int 0, .int 0, .int 0, .int (-1), .int 0, .int 0, .int 0, .int 0, .long 0, .ref (r 3), .ref (r 4), .ref (r 5), .ref (r 6), .ref (r 7), .ref (r 8), .ref (r 9), .ref (r 10), .ref (r 11), .ref (r 12), .ref (r 13), .ref (r 14), .ref (r 15), .ref (r 16), .ref (r 17), .ref (r 18), .ref (r 19), .ref (r 20), .ref (r 21), .ref (r 22), .ref (r 23), .ref (r 24), .int 0, .int 0, .int 0, .int 0, .int 0, .int 0, .int 0, .int 0, .int 0, .ref (r 25), .ref (r 26), .ref (r 27), .int 0, .int 0, .ref (r 28), .int 0, .ref (r 29), .ref (r 30), .ref (r 31), .ref (r 32), .ref (r 33), .ref (r 34), .ref (r 35), .ref (r 36), .int 0, .int 0, .int 0, .ref (r 37), .ref (r 38)])), (r 25, .inl ((c 25), 26, .inl f25)), (r 37, .inl ((c 37), 78, .inl zf214)), (r 38, .inl ((c 38), 3, .inl f38))] H213 := by rw [ezf214]; exact hP
      have hD : va_D A [(r 0, .inr (8, [.ref (r 1), .ref (r 2), .int 0, .int 0, .int 0, .int (-1), .int 0, .int 0, .int 0, .int 0, .long 0, .ref (r 3), .ref (r 4), .ref (r 5), .ref (r 6), .ref (r 7), .ref (r 8), .ref (r 9), .ref (r 10), .ref (r 11), .ref (r 12), .ref (r 13), .ref (r 14), .ref (r 15), .ref (r 16), .ref (r 17), .ref (r 18), .ref (r 19), .ref (r 20), .ref (r 21), .ref (r 22), .ref (r 23), .ref (r 24), .int 0, .int 0, .int 0, .int 0, .int 0, .int 0, .int 0, .int 0, .int 0, .ref (r 25), .ref (r 26), .ref (r 27), .int 0, .int 0, .ref (r 28), .int 0, .ref (r 29), .ref (r 30), .ref (r 31), .ref (r 32), .ref (r 33), .ref (r 34), .ref (r 35), .ref (r 36), .int 0, .int 0, .int 0, .ref (r 37), .ref (r 38)])), (r 25, .inl ((c 25), 26, .inl f25)), (r 37, .inl ((c 37), 78, .inl zf214)), (r 38, .inl ((c 38), 3, .inl f38))] := by rw [ezf214]; exact hD
      refine lv_iinc (v := 25) (lv' := [(2, .int 25), (0, .ref (r 0)), (1, .int 1)]) hx hb dX9_image_36 hl (k := 0) rfl (by decide) (by decide) rfl (fun ls hl => ?_)
      refine lv_goto (tgt := 13) hx hb dX9_image_39 (by decide) ?_
      refine lv_iload_n hx hb dX9_image_13 rfl (lv_at hl 0 rfl) ?_
      refine lv_bipush (v := 26) hx hb dX9_image_14 (by decide) ?_
      refine lv_icmp_ge (tgt := 42) hx hb dX9_image_16 (by decide) (fun c_215 => absurd c_215 (by decide)) (fun c_215 => ?_)
      refine lv_aload_n hx hb dX9_image_19 rfl (lv_at hl 1 rfl) ?_
      refine va_get (D := (dC, dI)) (ci := 8) (v := .ref (r 37)) (C := RX9) (T := TX9) (N := 62) hx hb hG inX9 hown hK hP 0 rfl rfl 60 (by decide) (hG _ gw1231) (fun _ h9 => h9) rfl dX9_image_20 ?_
      refine lv_bipush (v := 26) hx hb dX9_image_23 (by decide) ?_
      refine lv_iload_n hx hb dX9_image_25 rfl (lv_at hl 2 rfl) ?_
      refine lv_imul hx hb dX9_image_26 ?_
      refine wt_c (v := 26) (by decide) ?_
      refine lv_iload_n hx hb dX9_image_27 rfl (lv_at hl 0 rfl) ?_
      refine lv_iadd hx hb dX9_image_28 ?_
      refine wt_c (v := 51) (by decide) ?_
      refine lv_aload_n hx hb dX9_image_29 rfl (lv_at hl 1 rfl) ?_
      refine va_get (D := (dC, dI)) (ci := 8) (v := .ref (r 25)) (C := RX9) (T := TX9) (N := 62) hx hb hG inX9 hown hK hP 0 rfl rfl 42 (by decide) (hG _ gw1213) (fun _ h9 => h9) rfl dX9_image_30 ?_
      refine lv_iload_n hx hb dX9_image_33 rfl (lv_at hl 0 rfl) ?_
      refine va_iald hx hb hK hP 1 0 rfl rfl (vin (by decide)) dX9_image_34 ?_
      refine wt_c (v := 0) hf25_25 ?_
      refine va_iast hx hb hK hP hD hS 2 1 rfl rfl (vin (by decide)) dX9_image_35 (fun H216 locs hP hD hS => ?_)
      obtain ⟨zf217, ezf217⟩ : ∃ z : Nat → Int32, z = upd zf214 (51 : Int32).toNatClampNeg 0 := ⟨_, rfl⟩
      have hP : va_P (dC, dI) vwCl [(r 0, .inr (8, [.ref (r 1), .ref (r 2), .int 0, .int 0, .int 0, .int (-1), .int 0, .int 0, .int 0, .int 0, .long 0, .ref (r 3), .ref (r 4), .ref (r 5), .ref (r 6), .ref (r 7), .ref (r 8), .ref (r 9), .ref (r 10), .ref (r 11), .ref (r 12), .ref (r 13), .ref (r 14), .ref (r 15), .ref (r 16), .ref (r 17), .ref (r 18), .ref (r 19), .ref (r 20), .ref (r 21), .ref (r 22), .ref (r 23), .ref (r 24), .int 0, .int 0, .int 0, .int 0, .int 0, .int 0, .int 0, .int 0, .int 0, .ref (r 25), .ref (r 26), .ref (r 27), .int 0, .int 0, .ref (r 28), .int 0, .ref (r 29), .ref (r 30), .ref (r 31), .ref (r 32), .ref (r 33), .ref (r 34), .ref (r 35), .ref (r 36), .int 0, .int 0, .int 0, .ref (r 37), .ref (r 38)])), (r 25, .inl ((c 25), 26, .inl f25)), (r 37, .inl ((c 37), 78, .inl zf217)), (r 38, .inl ((c 38), 3, .inl f38))] H216 := by rw [ezf217]; exact hP
      have hD : va_D A [(r 0, .inr (8, [.ref (r 1), .ref (r 2), .int 0, .int 0, .int 0, .int (-1), .int 0, .int 0, .int 0, .int 0, .long 0, .ref (r 3), .ref (r 4), .ref (r 5), .ref (r 6), .ref (r 7), .ref (r 8), .ref (r 9), .ref (r 10), .ref (r 11), .ref (r 12), .ref (r 13), .ref (r 14), .ref (r 15), .ref (r 16), .ref (r 17), .ref (r 18), .ref (r 19), .ref (r 20), .ref (r 21), .ref (r 22), .ref (r 23), .ref (r 24), .int 0, .int 0, .int 0, .int 0, .int 0, .int 0, .int 0, .int 0, .int 0, .ref (r 25), .ref (r 26), .ref (r 27), .int 0, .int 0, .ref (r 28), .int 0, .ref (r 29), .ref (r 30), .ref (r 31), .ref (r 32), .ref (r 33), .ref (r 34), .ref (r 35), .ref (r 36), .int 0, .int 0, .int 0, .ref (r 37), .ref (r 38)])), (r 25, .inl ((c 25), 26, .inl f25)), (r 37, .inl ((c 37), 78, .inl zf217)), (r 38, .inl ((c 38), 3, .inl f38))] := by rw [ezf217]; exact hD
      refine lv_iinc (v := 26) (lv' := [(2, .int 26), (0, .ref (r 0)), (1, .int 1)]) hx hb dX9_image_36 hl (k := 0) rfl (by decide) (by decide) rfl (fun ls hl => ?_)
      refine lv_goto (tgt := 13) hx hb dX9_image_39 (by decide) ?_
      refine lv_iload_n hx hb dX9_image_13 rfl (lv_at hl 0 rfl) ?_
      refine lv_bipush (v := 26) hx hb dX9_image_14 (by decide) ?_
      refine lv_icmp_ge (tgt := 42) hx hb dX9_image_16 (by decide) (fun c_218 => ?_) (fun c_218 => absurd (by decide) c_218)
      refine lv_aload_n hx hb dX9_image_42 rfl (lv_at hl 1 rfl) ?_
      refine va_get (D := (dC, dI)) (ci := 8) (v := .ref (r 38)) (C := RX9) (T := TX9) (N := 62) hx hb hG inX9 hown hK hP 0 rfl rfl 61 (by decide) (hG _ gw1232) (fun _ h9 => h9) rfl dX9_image_43 ?_
      refine lv_iload_n hx hb dX9_image_46 rfl (lv_at hl 2 rfl) ?_
      refine lv_iconst (v := 1) hx hb dX9_image_47 (by decide) ?_
      refine va_zast hx hb hK hP hD hS 3 2 rfl rfl (vin (by decide)) dX9_image_48 (fun H219 locs hP hD hS => ?_)
      obtain ⟨zf220, ezf220⟩ : ∃ z : Nat → Int32, z = upd f38 (1 : Int32).toNatClampNeg (vp_nar .boolean 1) := ⟨_, rfl⟩
      have hP : va_P (dC, dI) vwCl [(r 0, .inr (8, [.ref (r 1), .ref (r 2), .int 0, .int 0, .int 0, .int (-1), .int 0, .int 0, .int 0, .int 0, .long 0, .ref (r 3), .ref (r 4), .ref (r 5), .ref (r 6), .ref (r 7), .ref (r 8), .ref (r 9), .ref (r 10), .ref (r 11), .ref (r 12), .ref (r 13), .ref (r 14), .ref (r 15), .ref (r 16), .ref (r 17), .ref (r 18), .ref (r 19), .ref (r 20), .ref (r 21), .ref (r 22), .ref (r 23), .ref (r 24), .int 0, .int 0, .int 0, .int 0, .int 0, .int 0, .int 0, .int 0, .int 0, .ref (r 25), .ref (r 26), .ref (r 27), .int 0, .int 0, .ref (r 28), .int 0, .ref (r 29), .ref (r 30), .ref (r 31), .ref (r 32), .ref (r 33), .ref (r 34), .ref (r 35), .ref (r 36), .int 0, .int 0, .int 0, .ref (r 37), .ref (r 38)])), (r 25, .inl ((c 25), 26, .inl f25)), (r 37, .inl ((c 37), 78, .inl zf217)), (r 38, .inl ((c 38), 3, .inl zf220))] H219 := by rw [ezf220]; exact hP
      have hD : va_D A [(r 0, .inr (8, [.ref (r 1), .ref (r 2), .int 0, .int 0, .int 0, .int (-1), .int 0, .int 0, .int 0, .int 0, .long 0, .ref (r 3), .ref (r 4), .ref (r 5), .ref (r 6), .ref (r 7), .ref (r 8), .ref (r 9), .ref (r 10), .ref (r 11), .ref (r 12), .ref (r 13), .ref (r 14), .ref (r 15), .ref (r 16), .ref (r 17), .ref (r 18), .ref (r 19), .ref (r 20), .ref (r 21), .ref (r 22), .ref (r 23), .ref (r 24), .int 0, .int 0, .int 0, .int 0, .int 0, .int 0, .int 0, .int 0, .int 0, .ref (r 25), .ref (r 26), .ref (r 27), .int 0, .int 0, .ref (r 28), .int 0, .ref (r 29), .ref (r 30), .ref (r 31), .ref (r 32), .ref (r 33), .ref (r 34), .ref (r 35), .ref (r 36), .int 0, .int 0, .int 0, .ref (r 37), .ref (r 38)])), (r 25, .inl ((c 25), 26, .inl f25)), (r 37, .inl ((c 37), 78, .inl zf217)), (r 38, .inl ((c 38), 3, .inl zf220))] := by rw [ezf220]; exact hD
      have g221 : zf220 1 = 1 := ((congrFun ezf220 1).trans ((upd_eq1 (by decide)).trans (by decide)))
      refine lv_aload_n hx hb dX9_image_49 rfl (lv_at hl 1 rfl) ?_
      refine va_get (D := (dC, dI)) (ci := 8) (v := .ref (r 25)) (C := RX9) (T := TX9) (N := 62) hx hb hG inX9 hown hK hP 0 rfl rfl 42 (by decide) (hG _ gw1213) (fun _ h9 => h9) rfl dX9_image_50 ?_
      refine lv_bipush (v := 24) hx hb dX9_image_53 (by decide) ?_
      refine va_iald hx hb hK hP 1 0 rfl rfl (vin (by decide)) dX9_image_55 ?_
      refine wt_c (v := 0) hf25_24 ?_
      exact W.iret (v := 0) hx hb hr (fun t ht hW => ⟨⟨0, 3, rfl, (Or.inr (Or.inr (Or.inr (Or.inl ⟨rfl, rfl, rfl⟩)))), trivial⟩, hS.F ht⟩) hS.2.2 dX9_image_56
    · skip
      refine lv_imul hx hb dX9_image_26 ?_
      refine wt_c (v := 52) (by decide) ?_
      refine lv_iload_n hx hb dX9_image_27 rfl (lv_at hl 0 rfl) ?_
      refine lv_iadd hx hb dX9_image_28 ?_
      refine wt_c (v := 52) (by decide) ?_
      refine lv_aload_n hx hb dX9_image_29 rfl (lv_at hl 1 rfl) ?_
      refine va_get (D := (dC, dI)) (ci := 8) (v := .ref (r 25)) (C := RX9) (T := TX9) (N := 62) hx hb hG inX9 hown hK hP 0 rfl rfl 42 (by decide) (hG _ gw1213) (fun _ h9 => h9) rfl dX9_image_30 ?_
      refine lv_iload_n hx hb dX9_image_33 rfl (lv_at hl 0 rfl) ?_
      refine va_iald hx hb hK hP 1 0 rfl rfl (vin (by decide)) dX9_image_34 ?_
      refine lv_topi (fun x222 ex222 => ?_)
      refine va_iast hx hb hK hP hD hS 2 1 rfl rfl (vin (by decide)) dX9_image_35 (fun H223 locs hP hD hS => ?_)
      obtain ⟨zf224, ezf224⟩ : ∃ z : Nat → Int32, z = upd (fun _ => 0) (52 : Int32).toNatClampNeg x222 := ⟨_, rfl⟩
      have hP : va_P (dC, dI) vwCl [(r 0, .inr (8, [.ref (r 1), .ref (r 2), .int 0, .int 0, .int 0, .int (-1), .int 0, .int 0, .int 0, .int 0, .long 0, .ref (r 3), .ref (r 4), .ref (r 5), .ref (r 6), .ref (r 7), .ref (r 8), .ref (r 9), .ref (r 10), .ref (r 11), .ref (r 12), .ref (r 13), .ref (r 14), .ref (r 15), .ref (r 16), .ref (r 17), .ref (r 18), .ref (r 19), .ref (r 20), .ref (r 21), .ref (r 22), .ref (r 23), .ref (r 24), .int 0, .int 0, .int 0, .int 0, .int 0, .int 0, .int 0, .int 0, .int 0, .ref (r 25), .ref (r 26), .ref (r 27), .int 0, .int 0, .ref (r 28), .int 0, .ref (r 29), .ref (r 30), .ref (r 31), .ref (r 32), .ref (r 33), .ref (r 34), .ref (r 35), .ref (r 36), .int 0, .int 0, .int 0, .ref (r 37), .ref (r 38)])), (r 25, .inl ((c 25), 26, .inl f25)), (r 37, .inl ((c 37), 78, .inl zf224)), (r 38, .inl ((c 38), 3, .inl f38))] H223 := by rw [ezf224]; exact hP
      have hD : va_D A [(r 0, .inr (8, [.ref (r 1), .ref (r 2), .int 0, .int 0, .int 0, .int (-1), .int 0, .int 0, .int 0, .int 0, .long 0, .ref (r 3), .ref (r 4), .ref (r 5), .ref (r 6), .ref (r 7), .ref (r 8), .ref (r 9), .ref (r 10), .ref (r 11), .ref (r 12), .ref (r 13), .ref (r 14), .ref (r 15), .ref (r 16), .ref (r 17), .ref (r 18), .ref (r 19), .ref (r 20), .ref (r 21), .ref (r 22), .ref (r 23), .ref (r 24), .int 0, .int 0, .int 0, .int 0, .int 0, .int 0, .int 0, .int 0, .int 0, .ref (r 25), .ref (r 26), .ref (r 27), .int 0, .int 0, .ref (r 28), .int 0, .ref (r 29), .ref (r 30), .ref (r 31), .ref (r 32), .ref (r 33), .ref (r 34), .ref (r 35), .ref (r 36), .int 0, .int 0, .int 0, .ref (r 37), .ref (r 38)])), (r 25, .inl ((c 25), 26, .inl f25)), (r 37, .inl ((c 37), 78, .inl zf224)), (r 38, .inl ((c 38), 3, .inl f38))] := by rw [ezf224]; exact hD
      refine lv_iinc (v := 1) (lv' := [(2, .int 1), (0, .ref (r 0)), (1, .int 2)]) hx hb dX9_image_36 hl (k := 0) rfl (by decide) (by decide) rfl (fun ls hl => ?_)
      refine lv_goto (tgt := 13) hx hb dX9_image_39 (by decide) ?_
      refine lv_iload_n hx hb dX9_image_13 rfl (lv_at hl 0 rfl) ?_
      refine lv_bipush (v := 26) hx hb dX9_image_14 (by decide) ?_
      refine lv_icmp_ge (tgt := 42) hx hb dX9_image_16 (by decide) (fun c_225 => absurd c_225 (by decide)) (fun c_225 => ?_)
      refine lv_aload_n hx hb dX9_image_19 rfl (lv_at hl 1 rfl) ?_
      refine va_get (D := (dC, dI)) (ci := 8) (v := .ref (r 37)) (C := RX9) (T := TX9) (N := 62) hx hb hG inX9 hown hK hP 0 rfl rfl 60 (by decide) (hG _ gw1231) (fun _ h9 => h9) rfl dX9_image_20 ?_
      refine lv_bipush (v := 26) hx hb dX9_image_23 (by decide) ?_
      refine lv_iload_n hx hb dX9_image_25 rfl (lv_at hl 2 rfl) ?_
      refine lv_imul hx hb dX9_image_26 ?_
      refine wt_c (v := 52) (by decide) ?_
      refine lv_iload_n hx hb dX9_image_27 rfl (lv_at hl 0 rfl) ?_
      refine lv_iadd hx hb dX9_image_28 ?_
      refine wt_c (v := 53) (by decide) ?_
      refine lv_aload_n hx hb dX9_image_29 rfl (lv_at hl 1 rfl) ?_
      refine va_get (D := (dC, dI)) (ci := 8) (v := .ref (r 25)) (C := RX9) (T := TX9) (N := 62) hx hb hG inX9 hown hK hP 0 rfl rfl 42 (by decide) (hG _ gw1213) (fun _ h9 => h9) rfl dX9_image_30 ?_
      refine lv_iload_n hx hb dX9_image_33 rfl (lv_at hl 0 rfl) ?_
      refine va_iald hx hb hK hP 1 0 rfl rfl (vin (by decide)) dX9_image_34 ?_
      refine lv_topi (fun x226 ex226 => ?_)
      refine va_iast hx hb hK hP hD hS 2 1 rfl rfl (vin (by decide)) dX9_image_35 (fun H227 locs hP hD hS => ?_)
      obtain ⟨zf228, ezf228⟩ : ∃ z : Nat → Int32, z = upd zf224 (53 : Int32).toNatClampNeg x226 := ⟨_, rfl⟩
      have hP : va_P (dC, dI) vwCl [(r 0, .inr (8, [.ref (r 1), .ref (r 2), .int 0, .int 0, .int 0, .int (-1), .int 0, .int 0, .int 0, .int 0, .long 0, .ref (r 3), .ref (r 4), .ref (r 5), .ref (r 6), .ref (r 7), .ref (r 8), .ref (r 9), .ref (r 10), .ref (r 11), .ref (r 12), .ref (r 13), .ref (r 14), .ref (r 15), .ref (r 16), .ref (r 17), .ref (r 18), .ref (r 19), .ref (r 20), .ref (r 21), .ref (r 22), .ref (r 23), .ref (r 24), .int 0, .int 0, .int 0, .int 0, .int 0, .int 0, .int 0, .int 0, .int 0, .ref (r 25), .ref (r 26), .ref (r 27), .int 0, .int 0, .ref (r 28), .int 0, .ref (r 29), .ref (r 30), .ref (r 31), .ref (r 32), .ref (r 33), .ref (r 34), .ref (r 35), .ref (r 36), .int 0, .int 0, .int 0, .ref (r 37), .ref (r 38)])), (r 25, .inl ((c 25), 26, .inl f25)), (r 37, .inl ((c 37), 78, .inl zf228)), (r 38, .inl ((c 38), 3, .inl f38))] H227 := by rw [ezf228]; exact hP
      have hD : va_D A [(r 0, .inr (8, [.ref (r 1), .ref (r 2), .int 0, .int 0, .int 0, .int (-1), .int 0, .int 0, .int 0, .int 0, .long 0, .ref (r 3), .ref (r 4), .ref (r 5), .ref (r 6), .ref (r 7), .ref (r 8), .ref (r 9), .ref (r 10), .ref (r 11), .ref (r 12), .ref (r 13), .ref (r 14), .ref (r 15), .ref (r 16), .ref (r 17), .ref (r 18), .ref (r 19), .ref (r 20), .ref (r 21), .ref (r 22), .ref (r 23), .ref (r 24), .int 0, .int 0, .int 0, .int 0, .int 0, .int 0, .int 0, .int 0, .int 0, .ref (r 25), .ref (r 26), .ref (r 27), .int 0, .int 0, .ref (r 28), .int 0, .ref (r 29), .ref (r 30), .ref (r 31), .ref (r 32), .ref (r 33), .ref (r 34), .ref (r 35), .ref (r 36), .int 0, .int 0, .int 0, .ref (r 37), .ref (r 38)])), (r 25, .inl ((c 25), 26, .inl f25)), (r 37, .inl ((c 37), 78, .inl zf228)), (r 38, .inl ((c 38), 3, .inl f38))] := by rw [ezf228]; exact hD
      refine lv_iinc (v := 2) (lv' := [(2, .int 2), (0, .ref (r 0)), (1, .int 2)]) hx hb dX9_image_36 hl (k := 0) rfl (by decide) (by decide) rfl (fun ls hl => ?_)
      refine lv_goto (tgt := 13) hx hb dX9_image_39 (by decide) ?_
      refine lv_iload_n hx hb dX9_image_13 rfl (lv_at hl 0 rfl) ?_
      refine lv_bipush (v := 26) hx hb dX9_image_14 (by decide) ?_
      refine lv_icmp_ge (tgt := 42) hx hb dX9_image_16 (by decide) (fun c_229 => absurd c_229 (by decide)) (fun c_229 => ?_)
      refine lv_aload_n hx hb dX9_image_19 rfl (lv_at hl 1 rfl) ?_
      refine va_get (D := (dC, dI)) (ci := 8) (v := .ref (r 37)) (C := RX9) (T := TX9) (N := 62) hx hb hG inX9 hown hK hP 0 rfl rfl 60 (by decide) (hG _ gw1231) (fun _ h9 => h9) rfl dX9_image_20 ?_
      refine lv_bipush (v := 26) hx hb dX9_image_23 (by decide) ?_
      refine lv_iload_n hx hb dX9_image_25 rfl (lv_at hl 2 rfl) ?_
      refine lv_imul hx hb dX9_image_26 ?_
      refine wt_c (v := 52) (by decide) ?_
      refine lv_iload_n hx hb dX9_image_27 rfl (lv_at hl 0 rfl) ?_
      refine lv_iadd hx hb dX9_image_28 ?_
      refine wt_c (v := 54) (by decide) ?_
      refine lv_aload_n hx hb dX9_image_29 rfl (lv_at hl 1 rfl) ?_
      refine va_get (D := (dC, dI)) (ci := 8) (v := .ref (r 25)) (C := RX9) (T := TX9) (N := 62) hx hb hG inX9 hown hK hP 0 rfl rfl 42 (by decide) (hG _ gw1213) (fun _ h9 => h9) rfl dX9_image_30 ?_
      refine lv_iload_n hx hb dX9_image_33 rfl (lv_at hl 0 rfl) ?_
      refine va_iald hx hb hK hP 1 0 rfl rfl (vin (by decide)) dX9_image_34 ?_
      refine lv_topi (fun x230 ex230 => ?_)
      refine va_iast hx hb hK hP hD hS 2 1 rfl rfl (vin (by decide)) dX9_image_35 (fun H231 locs hP hD hS => ?_)
      obtain ⟨zf232, ezf232⟩ : ∃ z : Nat → Int32, z = upd zf228 (54 : Int32).toNatClampNeg x230 := ⟨_, rfl⟩
      have hP : va_P (dC, dI) vwCl [(r 0, .inr (8, [.ref (r 1), .ref (r 2), .int 0, .int 0, .int 0, .int (-1), .int 0, .int 0, .int 0, .int 0, .long 0, .ref (r 3), .ref (r 4), .ref (r 5), .ref (r 6), .ref (r 7), .ref (r 8), .ref (r 9), .ref (r 10), .ref (r 11), .ref (r 12), .ref (r 13), .ref (r 14), .ref (r 15), .ref (r 16), .ref (r 17), .ref (r 18), .ref (r 19), .ref (r 20), .ref (r 21), .ref (r 22), .ref (r 23), .ref (r 24), .int 0, .int 0, .int 0, .int 0, .int 0, .int 0, .int 0, .int 0, .int 0, .ref (r 25), .ref (r 26), .ref (r 27), .int 0, .int 0, .ref (r 28), .int 0, .ref (r 29), .ref (r 30), .ref (r 31), .ref (r 32), .ref (r 33), .ref (r 34), .ref (r 35), .ref (r 36), .int 0, .int 0, .int 0, .ref (r 37), .ref (r 38)])), (r 25, .inl ((c 25), 26, .inl f25)), (r 37, .inl ((c 37), 78, .inl zf232)), (r 38, .inl ((c 38), 3, .inl f38))] H231 := by rw [ezf232]; exact hP
      have hD : va_D A [(r 0, .inr (8, [.ref (r 1), .ref (r 2), .int 0, .int 0, .int 0, .int (-1), .int 0, .int 0, .int 0, .int 0, .long 0, .ref (r 3), .ref (r 4), .ref (r 5), .ref (r 6), .ref (r 7), .ref (r 8), .ref (r 9), .ref (r 10), .ref (r 11), .ref (r 12), .ref (r 13), .ref (r 14), .ref (r 15), .ref (r 16), .ref (r 17), .ref (r 18), .ref (r 19), .ref (r 20), .ref (r 21), .ref (r 22), .ref (r 23), .ref (r 24), .int 0, .int 0, .int 0, .int 0, .int 0, .int 0, .int 0, .int 0, .int 0, .ref (r 25), .ref (r 26), .ref (r 27), .int 0, .int 0, .ref (r 28), .int 0, .ref (r 29), .ref (r 30), .ref (r 31), .ref (r 32), .ref (r 33), .ref (r 34), .ref (r 35), .ref (r 36), .int 0, .int 0, .int 0, .ref (r 37), .ref (r 38)])), (r 25, .inl ((c 25), 26, .inl f25)), (r 37, .inl ((c 37), 78, .inl zf232)), (r 38, .inl ((c 38), 3, .inl f38))] := by rw [ezf232]; exact hD
      refine lv_iinc (v := 3) (lv' := [(2, .int 3), (0, .ref (r 0)), (1, .int 2)]) hx hb dX9_image_36 hl (k := 0) rfl (by decide) (by decide) rfl (fun ls hl => ?_)
      refine lv_goto (tgt := 13) hx hb dX9_image_39 (by decide) ?_
      refine lv_iload_n hx hb dX9_image_13 rfl (lv_at hl 0 rfl) ?_
      refine lv_bipush (v := 26) hx hb dX9_image_14 (by decide) ?_
      refine lv_icmp_ge (tgt := 42) hx hb dX9_image_16 (by decide) (fun c_233 => absurd c_233 (by decide)) (fun c_233 => ?_)
      refine lv_aload_n hx hb dX9_image_19 rfl (lv_at hl 1 rfl) ?_
      refine va_get (D := (dC, dI)) (ci := 8) (v := .ref (r 37)) (C := RX9) (T := TX9) (N := 62) hx hb hG inX9 hown hK hP 0 rfl rfl 60 (by decide) (hG _ gw1231) (fun _ h9 => h9) rfl dX9_image_20 ?_
      refine lv_bipush (v := 26) hx hb dX9_image_23 (by decide) ?_
      refine lv_iload_n hx hb dX9_image_25 rfl (lv_at hl 2 rfl) ?_
      refine lv_imul hx hb dX9_image_26 ?_
      refine wt_c (v := 52) (by decide) ?_
      refine lv_iload_n hx hb dX9_image_27 rfl (lv_at hl 0 rfl) ?_
      refine lv_iadd hx hb dX9_image_28 ?_
      refine wt_c (v := 55) (by decide) ?_
      refine lv_aload_n hx hb dX9_image_29 rfl (lv_at hl 1 rfl) ?_
      refine va_get (D := (dC, dI)) (ci := 8) (v := .ref (r 25)) (C := RX9) (T := TX9) (N := 62) hx hb hG inX9 hown hK hP 0 rfl rfl 42 (by decide) (hG _ gw1213) (fun _ h9 => h9) rfl dX9_image_30 ?_
      refine lv_iload_n hx hb dX9_image_33 rfl (lv_at hl 0 rfl) ?_
      refine va_iald hx hb hK hP 1 0 rfl rfl (vin (by decide)) dX9_image_34 ?_
      refine lv_topi (fun x234 ex234 => ?_)
      refine va_iast hx hb hK hP hD hS 2 1 rfl rfl (vin (by decide)) dX9_image_35 (fun H235 locs hP hD hS => ?_)
      obtain ⟨zf236, ezf236⟩ : ∃ z : Nat → Int32, z = upd zf232 (55 : Int32).toNatClampNeg x234 := ⟨_, rfl⟩
      have hP : va_P (dC, dI) vwCl [(r 0, .inr (8, [.ref (r 1), .ref (r 2), .int 0, .int 0, .int 0, .int (-1), .int 0, .int 0, .int 0, .int 0, .long 0, .ref (r 3), .ref (r 4), .ref (r 5), .ref (r 6), .ref (r 7), .ref (r 8), .ref (r 9), .ref (r 10), .ref (r 11), .ref (r 12), .ref (r 13), .ref (r 14), .ref (r 15), .ref (r 16), .ref (r 17), .ref (r 18), .ref (r 19), .ref (r 20), .ref (r 21), .ref (r 22), .ref (r 23), .ref (r 24), .int 0, .int 0, .int 0, .int 0, .int 0, .int 0, .int 0, .int 0, .int 0, .ref (r 25), .ref (r 26), .ref (r 27), .int 0, .int 0, .ref (r 28), .int 0, .ref (r 29), .ref (r 30), .ref (r 31), .ref (r 32), .ref (r 33), .ref (r 34), .ref (r 35), .ref (r 36), .int 0, .int 0, .int 0, .ref (r 37), .ref (r 38)])), (r 25, .inl ((c 25), 26, .inl f25)), (r 37, .inl ((c 37), 78, .inl zf236)), (r 38, .inl ((c 38), 3, .inl f38))] H235 := by rw [ezf236]; exact hP
      have hD : va_D A [(r 0, .inr (8, [.ref (r 1), .ref (r 2), .int 0, .int 0, .int 0, .int (-1), .int 0, .int 0, .int 0, .int 0, .long 0, .ref (r 3), .ref (r 4), .ref (r 5), .ref (r 6), .ref (r 7), .ref (r 8), .ref (r 9), .ref (r 10), .ref (r 11), .ref (r 12), .ref (r 13), .ref (r 14), .ref (r 15), .ref (r 16), .ref (r 17), .ref (r 18), .ref (r 19), .ref (r 20), .ref (r 21), .ref (r 22), .ref (r 23), .ref (r 24), .int 0, .int 0, .int 0, .int 0, .int 0, .int 0, .int 0, .int 0, .int 0, .ref (r 25), .ref (r 26), .ref (r 27), .int 0, .int 0, .ref (r 28), .int 0, .ref (r 29), .ref (r 30), .ref (r 31), .ref (r 32), .ref (r 33), .ref (r 34), .ref (r 35), .ref (r 36), .int 0, .int 0, .int 0, .ref (r 37), .ref (r 38)])), (r 25, .inl ((c 25), 26, .inl f25)), (r 37, .inl ((c 37), 78, .inl zf236)), (r 38, .inl ((c 38), 3, .inl f38))] := by rw [ezf236]; exact hD
      refine lv_iinc (v := 4) (lv' := [(2, .int 4), (0, .ref (r 0)), (1, .int 2)]) hx hb dX9_image_36 hl (k := 0) rfl (by decide) (by decide) rfl (fun ls hl => ?_)
      refine lv_goto (tgt := 13) hx hb dX9_image_39 (by decide) ?_
      refine lv_iload_n hx hb dX9_image_13 rfl (lv_at hl 0 rfl) ?_
      refine lv_bipush (v := 26) hx hb dX9_image_14 (by decide) ?_
      refine lv_icmp_ge (tgt := 42) hx hb dX9_image_16 (by decide) (fun c_237 => absurd c_237 (by decide)) (fun c_237 => ?_)
      refine lv_aload_n hx hb dX9_image_19 rfl (lv_at hl 1 rfl) ?_
      refine va_get (D := (dC, dI)) (ci := 8) (v := .ref (r 37)) (C := RX9) (T := TX9) (N := 62) hx hb hG inX9 hown hK hP 0 rfl rfl 60 (by decide) (hG _ gw1231) (fun _ h9 => h9) rfl dX9_image_20 ?_
      refine lv_bipush (v := 26) hx hb dX9_image_23 (by decide) ?_
      refine lv_iload_n hx hb dX9_image_25 rfl (lv_at hl 2 rfl) ?_
      refine lv_imul hx hb dX9_image_26 ?_
      refine wt_c (v := 52) (by decide) ?_
      refine lv_iload_n hx hb dX9_image_27 rfl (lv_at hl 0 rfl) ?_
      refine lv_iadd hx hb dX9_image_28 ?_
      refine wt_c (v := 56) (by decide) ?_
      refine lv_aload_n hx hb dX9_image_29 rfl (lv_at hl 1 rfl) ?_
      refine va_get (D := (dC, dI)) (ci := 8) (v := .ref (r 25)) (C := RX9) (T := TX9) (N := 62) hx hb hG inX9 hown hK hP 0 rfl rfl 42 (by decide) (hG _ gw1213) (fun _ h9 => h9) rfl dX9_image_30 ?_
      refine lv_iload_n hx hb dX9_image_33 rfl (lv_at hl 0 rfl) ?_
      refine va_iald hx hb hK hP 1 0 rfl rfl (vin (by decide)) dX9_image_34 ?_
      refine lv_topi (fun x238 ex238 => ?_)
      refine va_iast hx hb hK hP hD hS 2 1 rfl rfl (vin (by decide)) dX9_image_35 (fun H239 locs hP hD hS => ?_)
      obtain ⟨zf240, ezf240⟩ : ∃ z : Nat → Int32, z = upd zf236 (56 : Int32).toNatClampNeg x238 := ⟨_, rfl⟩
      have hP : va_P (dC, dI) vwCl [(r 0, .inr (8, [.ref (r 1), .ref (r 2), .int 0, .int 0, .int 0, .int (-1), .int 0, .int 0, .int 0, .int 0, .long 0, .ref (r 3), .ref (r 4), .ref (r 5), .ref (r 6), .ref (r 7), .ref (r 8), .ref (r 9), .ref (r 10), .ref (r 11), .ref (r 12), .ref (r 13), .ref (r 14), .ref (r 15), .ref (r 16), .ref (r 17), .ref (r 18), .ref (r 19), .ref (r 20), .ref (r 21), .ref (r 22), .ref (r 23), .ref (r 24), .int 0, .int 0, .int 0, .int 0, .int 0, .int 0, .int 0, .int 0, .int 0, .ref (r 25), .ref (r 26), .ref (r 27), .int 0, .int 0, .ref (r 28), .int 0, .ref (r 29), .ref (r 30), .ref (r 31), .ref (r 32), .ref (r 33), .ref (r 34), .ref (r 35), .ref (r 36), .int 0, .int 0, .int 0, .ref (r 37), .ref (r 38)])), (r 25, .inl ((c 25), 26, .inl f25)), (r 37, .inl ((c 37), 78, .inl zf240)), (r 38, .inl ((c 38), 3, .inl f38))] H239 := by rw [ezf240]; exact hP
      have hD : va_D A [(r 0, .inr (8, [.ref (r 1), .ref (r 2), .int 0, .int 0, .int 0, .int (-1), .int 0, .int 0, .int 0, .int 0, .long 0, .ref (r 3), .ref (r 4), .ref (r 5), .ref (r 6), .ref (r 7), .ref (r 8), .ref (r 9), .ref (r 10), .ref (r 11), .ref (r 12), .ref (r 13), .ref (r 14), .ref (r 15), .ref (r 16), .ref (r 17), .ref (r 18), .ref (r 19), .ref (r 20), .ref (r 21), .ref (r 22), .ref (r 23), .ref (r 24), .int 0, .int 0, .int 0, .int 0, .int 0, .int 0, .int 0, .int 0, .int 0, .ref (r 25), .ref (r 26), .ref (r 27), .int 0, .int 0, .ref (r 28), .int 0, .ref (r 29), .ref (r 30), .ref (r 31), .ref (r 32), .ref (r 33), .ref (r 34), .ref (r 35), .ref (r 36), .int 0, .int 0, .int 0, .ref (r 37), .ref (r 38)])), (r 25, .inl ((c 25), 26, .inl f25)), (r 37, .inl ((c 37), 78, .inl zf240)), (r 38, .inl ((c 38), 3, .inl f38))] := by rw [ezf240]; exact hD
      refine lv_iinc (v := 5) (lv' := [(2, .int 5), (0, .ref (r 0)), (1, .int 2)]) hx hb dX9_image_36 hl (k := 0) rfl (by decide) (by decide) rfl (fun ls hl => ?_)
      refine lv_goto (tgt := 13) hx hb dX9_image_39 (by decide) ?_
      refine lv_iload_n hx hb dX9_image_13 rfl (lv_at hl 0 rfl) ?_
      refine lv_bipush (v := 26) hx hb dX9_image_14 (by decide) ?_
      refine lv_icmp_ge (tgt := 42) hx hb dX9_image_16 (by decide) (fun c_241 => absurd c_241 (by decide)) (fun c_241 => ?_)
      refine lv_aload_n hx hb dX9_image_19 rfl (lv_at hl 1 rfl) ?_
      refine va_get (D := (dC, dI)) (ci := 8) (v := .ref (r 37)) (C := RX9) (T := TX9) (N := 62) hx hb hG inX9 hown hK hP 0 rfl rfl 60 (by decide) (hG _ gw1231) (fun _ h9 => h9) rfl dX9_image_20 ?_
      refine lv_bipush (v := 26) hx hb dX9_image_23 (by decide) ?_
      refine lv_iload_n hx hb dX9_image_25 rfl (lv_at hl 2 rfl) ?_
      refine lv_imul hx hb dX9_image_26 ?_
      refine wt_c (v := 52) (by decide) ?_
      refine lv_iload_n hx hb dX9_image_27 rfl (lv_at hl 0 rfl) ?_
      refine lv_iadd hx hb dX9_image_28 ?_
      refine wt_c (v := 57) (by decide) ?_
      refine lv_aload_n hx hb dX9_image_29 rfl (lv_at hl 1 rfl) ?_
      refine va_get (D := (dC, dI)) (ci := 8) (v := .ref (r 25)) (C := RX9) (T := TX9) (N := 62) hx hb hG inX9 hown hK hP 0 rfl rfl 42 (by decide) (hG _ gw1213) (fun _ h9 => h9) rfl dX9_image_30 ?_
      refine lv_iload_n hx hb dX9_image_33 rfl (lv_at hl 0 rfl) ?_
      refine va_iald hx hb hK hP 1 0 rfl rfl (vin (by decide)) dX9_image_34 ?_
      refine lv_topi (fun x242 ex242 => ?_)
      refine va_iast hx hb hK hP hD hS 2 1 rfl rfl (vin (by decide)) dX9_image_35 (fun H243 locs hP hD hS => ?_)
      obtain ⟨zf244, ezf244⟩ : ∃ z : Nat → Int32, z = upd zf240 (57 : Int32).toNatClampNeg x242 := ⟨_, rfl⟩
      have hP : va_P (dC, dI) vwCl [(r 0, .inr (8, [.ref (r 1), .ref (r 2), .int 0, .int 0, .int 0, .int (-1), .int 0, .int 0, .int 0, .int 0, .long 0, .ref (r 3), .ref (r 4), .ref (r 5), .ref (r 6), .ref (r 7), .ref (r 8), .ref (r 9), .ref (r 10), .ref (r 11), .ref (r 12), .ref (r 13), .ref (r 14), .ref (r 15), .ref (r 16), .ref (r 17), .ref (r 18), .ref (r 19), .ref (r 20), .ref (r 21), .ref (r 22), .ref (r 23), .ref (r 24), .int 0, .int 0, .int 0, .int 0, .int 0, .int 0, .int 0, .int 0, .int 0, .ref (r 25), .ref (r 26), .ref (r 27), .int 0, .int 0, .ref (r 28), .int 0, .ref (r 29), .ref (r 30), .ref (r 31), .ref (r 32), .ref (r 33), .ref (r 34), .ref (r 35), .ref (r 36), .int 0, .int 0, .int 0, .ref (r 37), .ref (r 38)])), (r 25, .inl ((c 25), 26, .inl f25)), (r 37, .inl ((c 37), 78, .inl zf244)), (r 38, .inl ((c 38), 3, .inl f38))] H243 := by rw [ezf244]; exact hP
      have hD : va_D A [(r 0, .inr (8, [.ref (r 1), .ref (r 2), .int 0, .int 0, .int 0, .int (-1), .int 0, .int 0, .int 0, .int 0, .long 0, .ref (r 3), .ref (r 4), .ref (r 5), .ref (r 6), .ref (r 7), .ref (r 8), .ref (r 9), .ref (r 10), .ref (r 11), .ref (r 12), .ref (r 13), .ref (r 14), .ref (r 15), .ref (r 16), .ref (r 17), .ref (r 18), .ref (r 19), .ref (r 20), .ref (r 21), .ref (r 22), .ref (r 23), .ref (r 24), .int 0, .int 0, .int 0, .int 0, .int 0, .int 0, .int 0, .int 0, .int 0, .ref (r 25), .ref (r 26), .ref (r 27), .int 0, .int 0, .ref (r 28), .int 0, .ref (r 29), .ref (r 30), .ref (r 31), .ref (r 32), .ref (r 33), .ref (r 34), .ref (r 35), .ref (r 36), .int 0, .int 0, .int 0, .ref (r 37), .ref (r 38)])), (r 25, .inl ((c 25), 26, .inl f25)), (r 37, .inl ((c 37), 78, .inl zf244)), (r 38, .inl ((c 38), 3, .inl f38))] := by rw [ezf244]; exact hD
      refine lv_iinc (v := 6) (lv' := [(2, .int 6), (0, .ref (r 0)), (1, .int 2)]) hx hb dX9_image_36 hl (k := 0) rfl (by decide) (by decide) rfl (fun ls hl => ?_)
      refine lv_goto (tgt := 13) hx hb dX9_image_39 (by decide) ?_
      refine lv_iload_n hx hb dX9_image_13 rfl (lv_at hl 0 rfl) ?_
      refine lv_bipush (v := 26) hx hb dX9_image_14 (by decide) ?_
      refine lv_icmp_ge (tgt := 42) hx hb dX9_image_16 (by decide) (fun c_245 => absurd c_245 (by decide)) (fun c_245 => ?_)
      refine lv_aload_n hx hb dX9_image_19 rfl (lv_at hl 1 rfl) ?_
      refine va_get (D := (dC, dI)) (ci := 8) (v := .ref (r 37)) (C := RX9) (T := TX9) (N := 62) hx hb hG inX9 hown hK hP 0 rfl rfl 60 (by decide) (hG _ gw1231) (fun _ h9 => h9) rfl dX9_image_20 ?_
      refine lv_bipush (v := 26) hx hb dX9_image_23 (by decide) ?_
      refine lv_iload_n hx hb dX9_image_25 rfl (lv_at hl 2 rfl) ?_
      refine lv_imul hx hb dX9_image_26 ?_
      refine wt_c (v := 52) (by decide) ?_
      refine lv_iload_n hx hb dX9_image_27 rfl (lv_at hl 0 rfl) ?_
      refine lv_iadd hx hb dX9_image_28 ?_
      refine wt_c (v := 58) (by decide) ?_
      refine lv_aload_n hx hb dX9_image_29 rfl (lv_at hl 1 rfl) ?_
      refine va_get (D := (dC, dI)) (ci := 8) (v := .ref (r 25)) (C := RX9) (T := TX9) (N := 62) hx hb hG inX9 hown hK hP 0 rfl rfl 42 (by decide) (hG _ gw1213) (fun _ h9 => h9) rfl dX9_image_30 ?_
      refine lv_iload_n hx hb dX9_image_33 rfl (lv_at hl 0 rfl) ?_
      refine va_iald hx hb hK hP 1 0 rfl rfl (vin (by decide)) dX9_image_34 ?_
      refine lv_topi (fun x246 ex246 => ?_)
      refine va_iast hx hb hK hP hD hS 2 1 rfl rfl (vin (by decide)) dX9_image_35 (fun H247 locs hP hD hS => ?_)
      obtain ⟨zf248, ezf248⟩ : ∃ z : Nat → Int32, z = upd zf244 (58 : Int32).toNatClampNeg x246 := ⟨_, rfl⟩
      have hP : va_P (dC, dI) vwCl [(r 0, .inr (8, [.ref (r 1), .ref (r 2), .int 0, .int 0, .int 0, .int (-1), .int 0, .int 0, .int 0, .int 0, .long 0, .ref (r 3), .ref (r 4), .ref (r 5), .ref (r 6), .ref (r 7), .ref (r 8), .ref (r 9), .ref (r 10), .ref (r 11), .ref (r 12), .ref (r 13), .ref (r 14), .ref (r 15), .ref (r 16), .ref (r 17), .ref (r 18), .ref (r 19), .ref (r 20), .ref (r 21), .ref (r 22), .ref (r 23), .ref (r 24), .int 0, .int 0, .int 0, .int 0, .int 0, .int 0, .int 0, .int 0, .int 0, .ref (r 25), .ref (r 26), .ref (r 27), .int 0, .int 0, .ref (r 28), .int 0, .ref (r 29), .ref (r 30), .ref (r 31), .ref (r 32), .ref (r 33), .ref (r 34), .ref (r 35), .ref (r 36), .int 0, .int 0, .int 0, .ref (r 37), .ref (r 38)])), (r 25, .inl ((c 25), 26, .inl f25)), (r 37, .inl ((c 37), 78, .inl zf248)), (r 38, .inl ((c 38), 3, .inl f38))] H247 := by rw [ezf248]; exact hP
      have hD : va_D A [(r 0, .inr (8, [.ref (r 1), .ref (r 2), .int 0, .int 0, .int 0, .int (-1), .int 0, .int 0, .int 0, .int 0, .long 0, .ref (r 3), .ref (r 4), .ref (r 5), .ref (r 6), .ref (r 7), .ref (r 8), .ref (r 9), .ref (r 10), .ref (r 11), .ref (r 12), .ref (r 13), .ref (r 14), .ref (r 15), .ref (r 16), .ref (r 17), .ref (r 18), .ref (r 19), .ref (r 20), .ref (r 21), .ref (r 22), .ref (r 23), .ref (r 24), .int 0, .int 0, .int 0, .int 0, .int 0, .int 0, .int 0, .int 0, .int 0, .ref (r 25), .ref (r 26), .ref (r 27), .int 0, .int 0, .ref (r 28), .int 0, .ref (r 29), .ref (r 30), .ref (r 31), .ref (r 32), .ref (r 33), .ref (r 34), .ref (r 35), .ref (r 36), .int 0, .int 0, .int 0, .ref (r 37), .ref (r 38)])), (r 25, .inl ((c 25), 26, .inl f25)), (r 37, .inl ((c 37), 78, .inl zf248)), (r 38, .inl ((c 38), 3, .inl f38))] := by rw [ezf248]; exact hD
      refine lv_iinc (v := 7) (lv' := [(2, .int 7), (0, .ref (r 0)), (1, .int 2)]) hx hb dX9_image_36 hl (k := 0) rfl (by decide) (by decide) rfl (fun ls hl => ?_)
      refine lv_goto (tgt := 13) hx hb dX9_image_39 (by decide) ?_
      refine lv_iload_n hx hb dX9_image_13 rfl (lv_at hl 0 rfl) ?_
      refine lv_bipush (v := 26) hx hb dX9_image_14 (by decide) ?_
      refine lv_icmp_ge (tgt := 42) hx hb dX9_image_16 (by decide) (fun c_249 => absurd c_249 (by decide)) (fun c_249 => ?_)
      refine lv_aload_n hx hb dX9_image_19 rfl (lv_at hl 1 rfl) ?_
      refine va_get (D := (dC, dI)) (ci := 8) (v := .ref (r 37)) (C := RX9) (T := TX9) (N := 62) hx hb hG inX9 hown hK hP 0 rfl rfl 60 (by decide) (hG _ gw1231) (fun _ h9 => h9) rfl dX9_image_20 ?_
      refine lv_bipush (v := 26) hx hb dX9_image_23 (by decide) ?_
      refine lv_iload_n hx hb dX9_image_25 rfl (lv_at hl 2 rfl) ?_
      refine lv_imul hx hb dX9_image_26 ?_
      refine wt_c (v := 52) (by decide) ?_
      refine lv_iload_n hx hb dX9_image_27 rfl (lv_at hl 0 rfl) ?_
      refine lv_iadd hx hb dX9_image_28 ?_
      refine wt_c (v := 59) (by decide) ?_
      refine lv_aload_n hx hb dX9_image_29 rfl (lv_at hl 1 rfl) ?_
      refine va_get (D := (dC, dI)) (ci := 8) (v := .ref (r 25)) (C := RX9) (T := TX9) (N := 62) hx hb hG inX9 hown hK hP 0 rfl rfl 42 (by decide) (hG _ gw1213) (fun _ h9 => h9) rfl dX9_image_30 ?_
      refine lv_iload_n hx hb dX9_image_33 rfl (lv_at hl 0 rfl) ?_
      refine va_iald hx hb hK hP 1 0 rfl rfl (vin (by decide)) dX9_image_34 ?_
      refine lv_topi (fun x250 ex250 => ?_)
      refine va_iast hx hb hK hP hD hS 2 1 rfl rfl (vin (by decide)) dX9_image_35 (fun H251 locs hP hD hS => ?_)
      obtain ⟨zf252, ezf252⟩ : ∃ z : Nat → Int32, z = upd zf248 (59 : Int32).toNatClampNeg x250 := ⟨_, rfl⟩
      have hP : va_P (dC, dI) vwCl [(r 0, .inr (8, [.ref (r 1), .ref (r 2), .int 0, .int 0, .int 0, .int (-1), .int 0, .int 0, .int 0, .int 0, .long 0, .ref (r 3), .ref (r 4), .ref (r 5), .ref (r 6), .ref (r 7), .ref (r 8), .ref (r 9), .ref (r 10), .ref (r 11), .ref (r 12), .ref (r 13), .ref (r 14), .ref (r 15), .ref (r 16), .ref (r 17), .ref (r 18), .ref (r 19), .ref (r 20), .ref (r 21), .ref (r 22), .ref (r 23), .ref (r 24), .int 0, .int 0, .int 0, .int 0, .int 0, .int 0, .int 0, .int 0, .int 0, .ref (r 25), .ref (r 26), .ref (r 27), .int 0, .int 0, .ref (r 28), .int 0, .ref (r 29), .ref (r 30), .ref (r 31), .ref (r 32), .ref (r 33), .ref (r 34), .ref (r 35), .ref (r 36), .int 0, .int 0, .int 0, .ref (r 37), .ref (r 38)])), (r 25, .inl ((c 25), 26, .inl f25)), (r 37, .inl ((c 37), 78, .inl zf252)), (r 38, .inl ((c 38), 3, .inl f38))] H251 := by rw [ezf252]; exact hP
      have hD : va_D A [(r 0, .inr (8, [.ref (r 1), .ref (r 2), .int 0, .int 0, .int 0, .int (-1), .int 0, .int 0, .int 0, .int 0, .long 0, .ref (r 3), .ref (r 4), .ref (r 5), .ref (r 6), .ref (r 7), .ref (r 8), .ref (r 9), .ref (r 10), .ref (r 11), .ref (r 12), .ref (r 13), .ref (r 14), .ref (r 15), .ref (r 16), .ref (r 17), .ref (r 18), .ref (r 19), .ref (r 20), .ref (r 21), .ref (r 22), .ref (r 23), .ref (r 24), .int 0, .int 0, .int 0, .int 0, .int 0, .int 0, .int 0, .int 0, .int 0, .ref (r 25), .ref (r 26), .ref (r 27), .int 0, .int 0, .ref (r 28), .int 0, .ref (r 29), .ref (r 30), .ref (r 31), .ref (r 32), .ref (r 33), .ref (r 34), .ref (r 35), .ref (r 36), .int 0, .int 0, .int 0, .ref (r 37), .ref (r 38)])), (r 25, .inl ((c 25), 26, .inl f25)), (r 37, .inl ((c 37), 78, .inl zf252)), (r 38, .inl ((c 38), 3, .inl f38))] := by rw [ezf252]; exact hD
      refine lv_iinc (v := 8) (lv' := [(2, .int 8), (0, .ref (r 0)), (1, .int 2)]) hx hb dX9_image_36 hl (k := 0) rfl (by decide) (by decide) rfl (fun ls hl => ?_)
      refine lv_goto (tgt := 13) hx hb dX9_image_39 (by decide) ?_
      refine lv_iload_n hx hb dX9_image_13 rfl (lv_at hl 0 rfl) ?_
      refine lv_bipush (v := 26) hx hb dX9_image_14 (by decide) ?_
      refine lv_icmp_ge (tgt := 42) hx hb dX9_image_16 (by decide) (fun c_253 => absurd c_253 (by decide)) (fun c_253 => ?_)
      refine lv_aload_n hx hb dX9_image_19 rfl (lv_at hl 1 rfl) ?_
      refine va_get (D := (dC, dI)) (ci := 8) (v := .ref (r 37)) (C := RX9) (T := TX9) (N := 62) hx hb hG inX9 hown hK hP 0 rfl rfl 60 (by decide) (hG _ gw1231) (fun _ h9 => h9) rfl dX9_image_20 ?_
      refine lv_bipush (v := 26) hx hb dX9_image_23 (by decide) ?_
      refine lv_iload_n hx hb dX9_image_25 rfl (lv_at hl 2 rfl) ?_
      refine lv_imul hx hb dX9_image_26 ?_
      refine wt_c (v := 52) (by decide) ?_
      refine lv_iload_n hx hb dX9_image_27 rfl (lv_at hl 0 rfl) ?_
      refine lv_iadd hx hb dX9_image_28 ?_
      refine wt_c (v := 60) (by decide) ?_
      refine lv_aload_n hx hb dX9_image_29 rfl (lv_at hl 1 rfl) ?_
      refine va_get (D := (dC, dI)) (ci := 8) (v := .ref (r 25)) (C := RX9) (T := TX9) (N := 62) hx hb hG inX9 hown hK hP 0 rfl rfl 42 (by decide) (hG _ gw1213) (fun _ h9 => h9) rfl dX9_image_30 ?_
      refine lv_iload_n hx hb dX9_image_33 rfl (lv_at hl 0 rfl) ?_
      refine va_iald hx hb hK hP 1 0 rfl rfl (vin (by decide)) dX9_image_34 ?_
      refine lv_topi (fun x254 ex254 => ?_)
      refine va_iast hx hb hK hP hD hS 2 1 rfl rfl (vin (by decide)) dX9_image_35 (fun H255 locs hP hD hS => ?_)
      obtain ⟨zf256, ezf256⟩ : ∃ z : Nat → Int32, z = upd zf252 (60 : Int32).toNatClampNeg x254 := ⟨_, rfl⟩
      have hP : va_P (dC, dI) vwCl [(r 0, .inr (8, [.ref (r 1), .ref (r 2), .int 0, .int 0, .int 0, .int (-1), .int 0, .int 0, .int 0, .int 0, .long 0, .ref (r 3), .ref (r 4), .ref (r 5), .ref (r 6), .ref (r 7), .ref (r 8), .ref (r 9), .ref (r 10), .ref (r 11), .ref (r 12), .ref (r 13), .ref (r 14), .ref (r 15), .ref (r 16), .ref (r 17), .ref (r 18), .ref (r 19), .ref (r 20), .ref (r 21), .ref (r 22), .ref (r 23), .ref (r 24), .int 0, .int 0, .int 0, .int 0, .int 0, .int 0, .int 0, .int 0, .int 0, .ref (r 25), .ref (r 26), .ref (r 27), .int 0, .int 0, .ref (r 28), .int 0, .ref (r 29), .ref (r 30), .ref (r 31), .ref (r 32), .ref (r 33), .ref (r 34), .ref (r 35), .ref (r 36), .int 0, .int 0, .int 0, .ref (r 37), .ref (r 38)])), (r 25, .inl ((c 25), 26, .inl f25)), (r 37, .inl ((c 37), 78, .inl zf256)), (r 38, .inl ((c 38), 3, .inl f38))] H255 := by rw [ezf256]; exact hP
      have hD : va_D A [(r 0, .inr (8, [.ref (r 1), .ref (r 2), .int 0, .int 0, .int 0, .int (-1), .int 0, .int 0, .int 0, .int 0, .long 0, .ref (r 3), .ref (r 4), .ref (r 5), .ref (r 6), .ref (r 7), .ref (r 8), .ref (r 9), .ref (r 10), .ref (r 11), .ref (r 12), .ref (r 13), .ref (r 14), .ref (r 15), .ref (r 16), .ref (r 17), .ref (r 18), .ref (r 19), .ref (r 20), .ref (r 21), .ref (r 22), .ref (r 23), .ref (r 24), .int 0, .int 0, .int 0, .int 0, .int 0, .int 0, .int 0, .int 0, .int 0, .ref (r 25), .ref (r 26), .ref (r 27), .int 0, .int 0, .ref (r 28), .int 0, .ref (r 29), .ref (r 30), .ref (r 31), .ref (r 32), .ref (r 33), .ref (r 34), .ref (r 35), .ref (r 36), .int 0, .int 0, .int 0, .ref (r 37), .ref (r 38)])), (r 25, .inl ((c 25), 26, .inl f25)), (r 37, .inl ((c 37), 78, .inl zf256)), (r 38, .inl ((c 38), 3, .inl f38))] := by rw [ezf256]; exact hD
      refine lv_iinc (v := 9) (lv' := [(2, .int 9), (0, .ref (r 0)), (1, .int 2)]) hx hb dX9_image_36 hl (k := 0) rfl (by decide) (by decide) rfl (fun ls hl => ?_)
      refine lv_goto (tgt := 13) hx hb dX9_image_39 (by decide) ?_
      refine lv_iload_n hx hb dX9_image_13 rfl (lv_at hl 0 rfl) ?_
      refine lv_bipush (v := 26) hx hb dX9_image_14 (by decide) ?_
      refine lv_icmp_ge (tgt := 42) hx hb dX9_image_16 (by decide) (fun c_257 => absurd c_257 (by decide)) (fun c_257 => ?_)
      refine lv_aload_n hx hb dX9_image_19 rfl (lv_at hl 1 rfl) ?_
      refine va_get (D := (dC, dI)) (ci := 8) (v := .ref (r 37)) (C := RX9) (T := TX9) (N := 62) hx hb hG inX9 hown hK hP 0 rfl rfl 60 (by decide) (hG _ gw1231) (fun _ h9 => h9) rfl dX9_image_20 ?_
      refine lv_bipush (v := 26) hx hb dX9_image_23 (by decide) ?_
      refine lv_iload_n hx hb dX9_image_25 rfl (lv_at hl 2 rfl) ?_
      refine lv_imul hx hb dX9_image_26 ?_
      refine wt_c (v := 52) (by decide) ?_
      refine lv_iload_n hx hb dX9_image_27 rfl (lv_at hl 0 rfl) ?_
      refine lv_iadd hx hb dX9_image_28 ?_
      refine wt_c (v := 61) (by decide) ?_
      refine lv_aload_n hx hb dX9_image_29 rfl (lv_at hl 1 rfl) ?_
      refine va_get (D := (dC, dI)) (ci := 8) (v := .ref (r 25)) (C := RX9) (T := TX9) (N := 62) hx hb hG inX9 hown hK hP 0 rfl rfl 42 (by decide) (hG _ gw1213) (fun _ h9 => h9) rfl dX9_image_30 ?_
      refine lv_iload_n hx hb dX9_image_33 rfl (lv_at hl 0 rfl) ?_
      refine va_iald hx hb hK hP 1 0 rfl rfl (vin (by decide)) dX9_image_34 ?_
      refine lv_topi (fun x258 ex258 => ?_)
      refine va_iast hx hb hK hP hD hS 2 1 rfl rfl (vin (by decide)) dX9_image_35 (fun H259 locs hP hD hS => ?_)
      obtain ⟨zf260, ezf260⟩ : ∃ z : Nat → Int32, z = upd zf256 (61 : Int32).toNatClampNeg x258 := ⟨_, rfl⟩
      have hP : va_P (dC, dI) vwCl [(r 0, .inr (8, [.ref (r 1), .ref (r 2), .int 0, .int 0, .int 0, .int (-1), .int 0, .int 0, .int 0, .int 0, .long 0, .ref (r 3), .ref (r 4), .ref (r 5), .ref (r 6), .ref (r 7), .ref (r 8), .ref (r 9), .ref (r 10), .ref (r 11), .ref (r 12), .ref (r 13), .ref (r 14), .ref (r 15), .ref (r 16), .ref (r 17), .ref (r 18), .ref (r 19), .ref (r 20), .ref (r 21), .ref (r 22), .ref (r 23), .ref (r 24), .int 0, .int 0, .int 0, .int 0, .int 0, .int 0, .int 0, .int 0, .int 0, .ref (r 25), .ref (r 26), .ref (r 27), .int 0, .int 0, .ref (r 28), .int 0, .ref (r 29), .ref (r 30), .ref (r 31), .ref (r 32), .ref (r 33), .ref (r 34), .ref (r 35), .ref (r 36), .int 0, .int 0, .int 0, .ref (r 37), .ref (r 38)])), (r 25, .inl ((c 25), 26, .inl f25)), (r 37, .inl ((c 37), 78, .inl zf260)), (r 38, .inl ((c 38), 3, .inl f38))] H259 := by rw [ezf260]; exact hP
      have hD : va_D A [(r 0, .inr (8, [.ref (r 1), .ref (r 2), .int 0, .int 0, .int 0, .int (-1), .int 0, .int 0, .int 0, .int 0, .long 0, .ref (r 3), .ref (r 4), .ref (r 5), .ref (r 6), .ref (r 7), .ref (r 8), .ref (r 9), .ref (r 10), .ref (r 11), .ref (r 12), .ref (r 13), .ref (r 14), .ref (r 15), .ref (r 16), .ref (r 17), .ref (r 18), .ref (r 19), .ref (r 20), .ref (r 21), .ref (r 22), .ref (r 23), .ref (r 24), .int 0, .int 0, .int 0, .int 0, .int 0, .int 0, .int 0, .int 0, .int 0, .ref (r 25), .ref (r 26), .ref (r 27), .int 0, .int 0, .ref (r 28), .int 0, .ref (r 29), .ref (r 30), .ref (r 31), .ref (r 32), .ref (r 33), .ref (r 34), .ref (r 35), .ref (r 36), .int 0, .int 0, .int 0, .ref (r 37), .ref (r 38)])), (r 25, .inl ((c 25), 26, .inl f25)), (r 37, .inl ((c 37), 78, .inl zf260)), (r 38, .inl ((c 38), 3, .inl f38))] := by rw [ezf260]; exact hD
      refine lv_iinc (v := 10) (lv' := [(2, .int 10), (0, .ref (r 0)), (1, .int 2)]) hx hb dX9_image_36 hl (k := 0) rfl (by decide) (by decide) rfl (fun ls hl => ?_)
      refine lv_goto (tgt := 13) hx hb dX9_image_39 (by decide) ?_
      refine lv_iload_n hx hb dX9_image_13 rfl (lv_at hl 0 rfl) ?_
      refine lv_bipush (v := 26) hx hb dX9_image_14 (by decide) ?_
      refine lv_icmp_ge (tgt := 42) hx hb dX9_image_16 (by decide) (fun c_261 => absurd c_261 (by decide)) (fun c_261 => ?_)
      refine lv_aload_n hx hb dX9_image_19 rfl (lv_at hl 1 rfl) ?_
      refine va_get (D := (dC, dI)) (ci := 8) (v := .ref (r 37)) (C := RX9) (T := TX9) (N := 62) hx hb hG inX9 hown hK hP 0 rfl rfl 60 (by decide) (hG _ gw1231) (fun _ h9 => h9) rfl dX9_image_20 ?_
      refine lv_bipush (v := 26) hx hb dX9_image_23 (by decide) ?_
      refine lv_iload_n hx hb dX9_image_25 rfl (lv_at hl 2 rfl) ?_
      refine lv_imul hx hb dX9_image_26 ?_
      refine wt_c (v := 52) (by decide) ?_
      refine lv_iload_n hx hb dX9_image_27 rfl (lv_at hl 0 rfl) ?_
      refine lv_iadd hx hb dX9_image_28 ?_
      refine wt_c (v := 62) (by decide) ?_
      refine lv_aload_n hx hb dX9_image_29 rfl (lv_at hl 1 rfl) ?_
      refine va_get (D := (dC, dI)) (ci := 8) (v := .ref (r 25)) (C := RX9) (T := TX9) (N := 62) hx hb hG inX9 hown hK hP 0 rfl rfl 42 (by decide) (hG _ gw1213) (fun _ h9 => h9) rfl dX9_image_30 ?_
      refine lv_iload_n hx hb dX9_image_33 rfl (lv_at hl 0 rfl) ?_
      refine va_iald hx hb hK hP 1 0 rfl rfl (vin (by decide)) dX9_image_34 ?_
      refine lv_topi (fun x262 ex262 => ?_)
      refine va_iast hx hb hK hP hD hS 2 1 rfl rfl (vin (by decide)) dX9_image_35 (fun H263 locs hP hD hS => ?_)
      obtain ⟨zf264, ezf264⟩ : ∃ z : Nat → Int32, z = upd zf260 (62 : Int32).toNatClampNeg x262 := ⟨_, rfl⟩
      have hP : va_P (dC, dI) vwCl [(r 0, .inr (8, [.ref (r 1), .ref (r 2), .int 0, .int 0, .int 0, .int (-1), .int 0, .int 0, .int 0, .int 0, .long 0, .ref (r 3), .ref (r 4), .ref (r 5), .ref (r 6), .ref (r 7), .ref (r 8), .ref (r 9), .ref (r 10), .ref (r 11), .ref (r 12), .ref (r 13), .ref (r 14), .ref (r 15), .ref (r 16), .ref (r 17), .ref (r 18), .ref (r 19), .ref (r 20), .ref (r 21), .ref (r 22), .ref (r 23), .ref (r 24), .int 0, .int 0, .int 0, .int 0, .int 0, .int 0, .int 0, .int 0, .int 0, .ref (r 25), .ref (r 26), .ref (r 27), .int 0, .int 0, .ref (r 28), .int 0, .ref (r 29), .ref (r 30), .ref (r 31), .ref (r 32), .ref (r 33), .ref (r 34), .ref (r 35), .ref (r 36), .int 0, .int 0, .int 0, .ref (r 37), .ref (r 38)])), (r 25, .inl ((c 25), 26, .inl f25)), (r 37, .inl ((c 37), 78, .inl zf264)), (r 38, .inl ((c 38), 3, .inl f38))] H263 := by rw [ezf264]; exact hP
      have hD : va_D A [(r 0, .inr (8, [.ref (r 1), .ref (r 2), .int 0, .int 0, .int 0, .int (-1), .int 0, .int 0, .int 0, .int 0, .long 0, .ref (r 3), .ref (r 4), .ref (r 5), .ref (r 6), .ref (r 7), .ref (r 8), .ref (r 9), .ref (r 10), .ref (r 11), .ref (r 12), .ref (r 13), .ref (r 14), .ref (r 15), .ref (r 16), .ref (r 17), .ref (r 18), .ref (r 19), .ref (r 20), .ref (r 21), .ref (r 22), .ref (r 23), .ref (r 24), .int 0, .int 0, .int 0, .int 0, .int 0, .int 0, .int 0, .int 0, .int 0, .ref (r 25), .ref (r 26), .ref (r 27), .int 0, .int 0, .ref (r 28), .int 0, .ref (r 29), .ref (r 30), .ref (r 31), .ref (r 32), .ref (r 33), .ref (r 34), .ref (r 35), .ref (r 36), .int 0, .int 0, .int 0, .ref (r 37), .ref (r 38)])), (r 25, .inl ((c 25), 26, .inl f25)), (r 37, .inl ((c 37), 78, .inl zf264)), (r 38, .inl ((c 38), 3, .inl f38))] := by rw [ezf264]; exact hD
      refine lv_iinc (v := 11) (lv' := [(2, .int 11), (0, .ref (r 0)), (1, .int 2)]) hx hb dX9_image_36 hl (k := 0) rfl (by decide) (by decide) rfl (fun ls hl => ?_)
      refine lv_goto (tgt := 13) hx hb dX9_image_39 (by decide) ?_
      refine lv_iload_n hx hb dX9_image_13 rfl (lv_at hl 0 rfl) ?_
      refine lv_bipush (v := 26) hx hb dX9_image_14 (by decide) ?_
      refine lv_icmp_ge (tgt := 42) hx hb dX9_image_16 (by decide) (fun c_265 => absurd c_265 (by decide)) (fun c_265 => ?_)
      refine lv_aload_n hx hb dX9_image_19 rfl (lv_at hl 1 rfl) ?_
      refine va_get (D := (dC, dI)) (ci := 8) (v := .ref (r 37)) (C := RX9) (T := TX9) (N := 62) hx hb hG inX9 hown hK hP 0 rfl rfl 60 (by decide) (hG _ gw1231) (fun _ h9 => h9) rfl dX9_image_20 ?_
      refine lv_bipush (v := 26) hx hb dX9_image_23 (by decide) ?_
      refine lv_iload_n hx hb dX9_image_25 rfl (lv_at hl 2 rfl) ?_
      refine lv_imul hx hb dX9_image_26 ?_
      refine wt_c (v := 52) (by decide) ?_
      refine lv_iload_n hx hb dX9_image_27 rfl (lv_at hl 0 rfl) ?_
      refine lv_iadd hx hb dX9_image_28 ?_
      refine wt_c (v := 63) (by decide) ?_
      refine lv_aload_n hx hb dX9_image_29 rfl (lv_at hl 1 rfl) ?_
      refine va_get (D := (dC, dI)) (ci := 8) (v := .ref (r 25)) (C := RX9) (T := TX9) (N := 62) hx hb hG inX9 hown hK hP 0 rfl rfl 42 (by decide) (hG _ gw1213) (fun _ h9 => h9) rfl dX9_image_30 ?_
      refine lv_iload_n hx hb dX9_image_33 rfl (lv_at hl 0 rfl) ?_
      refine va_iald hx hb hK hP 1 0 rfl rfl (vin (by decide)) dX9_image_34 ?_
      refine lv_topi (fun x266 ex266 => ?_)
      refine va_iast hx hb hK hP hD hS 2 1 rfl rfl (vin (by decide)) dX9_image_35 (fun H267 locs hP hD hS => ?_)
      obtain ⟨zf268, ezf268⟩ : ∃ z : Nat → Int32, z = upd zf264 (63 : Int32).toNatClampNeg x266 := ⟨_, rfl⟩
      have hP : va_P (dC, dI) vwCl [(r 0, .inr (8, [.ref (r 1), .ref (r 2), .int 0, .int 0, .int 0, .int (-1), .int 0, .int 0, .int 0, .int 0, .long 0, .ref (r 3), .ref (r 4), .ref (r 5), .ref (r 6), .ref (r 7), .ref (r 8), .ref (r 9), .ref (r 10), .ref (r 11), .ref (r 12), .ref (r 13), .ref (r 14), .ref (r 15), .ref (r 16), .ref (r 17), .ref (r 18), .ref (r 19), .ref (r 20), .ref (r 21), .ref (r 22), .ref (r 23), .ref (r 24), .int 0, .int 0, .int 0, .int 0, .int 0, .int 0, .int 0, .int 0, .int 0, .ref (r 25), .ref (r 26), .ref (r 27), .int 0, .int 0, .ref (r 28), .int 0, .ref (r 29), .ref (r 30), .ref (r 31), .ref (r 32), .ref (r 33), .ref (r 34), .ref (r 35), .ref (r 36), .int 0, .int 0, .int 0, .ref (r 37), .ref (r 38)])), (r 25, .inl ((c 25), 26, .inl f25)), (r 37, .inl ((c 37), 78, .inl zf268)), (r 38, .inl ((c 38), 3, .inl f38))] H267 := by rw [ezf268]; exact hP
      have hD : va_D A [(r 0, .inr (8, [.ref (r 1), .ref (r 2), .int 0, .int 0, .int 0, .int (-1), .int 0, .int 0, .int 0, .int 0, .long 0, .ref (r 3), .ref (r 4), .ref (r 5), .ref (r 6), .ref (r 7), .ref (r 8), .ref (r 9), .ref (r 10), .ref (r 11), .ref (r 12), .ref (r 13), .ref (r 14), .ref (r 15), .ref (r 16), .ref (r 17), .ref (r 18), .ref (r 19), .ref (r 20), .ref (r 21), .ref (r 22), .ref (r 23), .ref (r 24), .int 0, .int 0, .int 0, .int 0, .int 0, .int 0, .int 0, .int 0, .int 0, .ref (r 25), .ref (r 26), .ref (r 27), .int 0, .int 0, .ref (r 28), .int 0, .ref (r 29), .ref (r 30), .ref (r 31), .ref (r 32), .ref (r 33), .ref (r 34), .ref (r 35), .ref (r 36), .int 0, .int 0, .int 0, .ref (r 37), .ref (r 38)])), (r 25, .inl ((c 25), 26, .inl f25)), (r 37, .inl ((c 37), 78, .inl zf268)), (r 38, .inl ((c 38), 3, .inl f38))] := by rw [ezf268]; exact hD
      refine lv_iinc (v := 12) (lv' := [(2, .int 12), (0, .ref (r 0)), (1, .int 2)]) hx hb dX9_image_36 hl (k := 0) rfl (by decide) (by decide) rfl (fun ls hl => ?_)
      refine lv_goto (tgt := 13) hx hb dX9_image_39 (by decide) ?_
      refine lv_iload_n hx hb dX9_image_13 rfl (lv_at hl 0 rfl) ?_
      refine lv_bipush (v := 26) hx hb dX9_image_14 (by decide) ?_
      refine lv_icmp_ge (tgt := 42) hx hb dX9_image_16 (by decide) (fun c_269 => absurd c_269 (by decide)) (fun c_269 => ?_)
      refine lv_aload_n hx hb dX9_image_19 rfl (lv_at hl 1 rfl) ?_
      refine va_get (D := (dC, dI)) (ci := 8) (v := .ref (r 37)) (C := RX9) (T := TX9) (N := 62) hx hb hG inX9 hown hK hP 0 rfl rfl 60 (by decide) (hG _ gw1231) (fun _ h9 => h9) rfl dX9_image_20 ?_
      refine lv_bipush (v := 26) hx hb dX9_image_23 (by decide) ?_
      refine lv_iload_n hx hb dX9_image_25 rfl (lv_at hl 2 rfl) ?_
      refine lv_imul hx hb dX9_image_26 ?_
      refine wt_c (v := 52) (by decide) ?_
      refine lv_iload_n hx hb dX9_image_27 rfl (lv_at hl 0 rfl) ?_
      refine lv_iadd hx hb dX9_image_28 ?_
      refine wt_c (v := 64) (by decide) ?_
      refine lv_aload_n hx hb dX9_image_29 rfl (lv_at hl 1 rfl) ?_
      refine va_get (D := (dC, dI)) (ci := 8) (v := .ref (r 25)) (C := RX9) (T := TX9) (N := 62) hx hb hG inX9 hown hK hP 0 rfl rfl 42 (by decide) (hG _ gw1213) (fun _ h9 => h9) rfl dX9_image_30 ?_
      refine lv_iload_n hx hb dX9_image_33 rfl (lv_at hl 0 rfl) ?_
      refine va_iald hx hb hK hP 1 0 rfl rfl (vin (by decide)) dX9_image_34 ?_
      refine lv_topi (fun x270 ex270 => ?_)
      refine va_iast hx hb hK hP hD hS 2 1 rfl rfl (vin (by decide)) dX9_image_35 (fun H271 locs hP hD hS => ?_)
      obtain ⟨zf272, ezf272⟩ : ∃ z : Nat → Int32, z = upd zf268 (64 : Int32).toNatClampNeg x270 := ⟨_, rfl⟩
      have hP : va_P (dC, dI) vwCl [(r 0, .inr (8, [.ref (r 1), .ref (r 2), .int 0, .int 0, .int 0, .int (-1), .int 0, .int 0, .int 0, .int 0, .long 0, .ref (r 3), .ref (r 4), .ref (r 5), .ref (r 6), .ref (r 7), .ref (r 8), .ref (r 9), .ref (r 10), .ref (r 11), .ref (r 12), .ref (r 13), .ref (r 14), .ref (r 15), .ref (r 16), .ref (r 17), .ref (r 18), .ref (r 19), .ref (r 20), .ref (r 21), .ref (r 22), .ref (r 23), .ref (r 24), .int 0, .int 0, .int 0, .int 0, .int 0, .int 0, .int 0, .int 0, .int 0, .ref (r 25), .ref (r 26), .ref (r 27), .int 0, .int 0, .ref (r 28), .int 0, .ref (r 29), .ref (r 30), .ref (r 31), .ref (r 32), .ref (r 33), .ref (r 34), .ref (r 35), .ref (r 36), .int 0, .int 0, .int 0, .ref (r 37), .ref (r 38)])), (r 25, .inl ((c 25), 26, .inl f25)), (r 37, .inl ((c 37), 78, .inl zf272)), (r 38, .inl ((c 38), 3, .inl f38))] H271 := by rw [ezf272]; exact hP
      have hD : va_D A [(r 0, .inr (8, [.ref (r 1), .ref (r 2), .int 0, .int 0, .int 0, .int (-1), .int 0, .int 0, .int 0, .int 0, .long 0, .ref (r 3), .ref (r 4), .ref (r 5), .ref (r 6), .ref (r 7), .ref (r 8), .ref (r 9), .ref (r 10), .ref (r 11), .ref (r 12), .ref (r 13), .ref (r 14), .ref (r 15), .ref (r 16), .ref (r 17), .ref (r 18), .ref (r 19), .ref (r 20), .ref (r 21), .ref (r 22), .ref (r 23), .ref (r 24), .int 0, .int 0, .int 0, .int 0, .int 0, .int 0, .int 0, .int 0, .int 0, .ref (r 25), .ref (r 26), .ref (r 27), .int 0, .int 0, .ref (r 28), .int 0, .ref (r 29), .ref (r 30), .ref (r 31), .ref (r 32), .ref (r 33), .ref (r 34), .ref (r 35), .ref (r 36), .int 0, .int 0, .int 0, .ref (r 37), .ref (r 38)])), (r 25, .inl ((c 25), 26, .inl f25)), (r 37, .inl ((c 37), 78, .inl zf272)), (r 38, .inl ((c 38), 3, .inl f38))] := by rw [ezf272]; exact hD
      refine lv_iinc (v := 13) (lv' := [(2, .int 13), (0, .ref (r 0)), (1, .int 2)]) hx hb dX9_image_36 hl (k := 0) rfl (by decide) (by decide) rfl (fun ls hl => ?_)
      refine lv_goto (tgt := 13) hx hb dX9_image_39 (by decide) ?_
      refine lv_iload_n hx hb dX9_image_13 rfl (lv_at hl 0 rfl) ?_
      refine lv_bipush (v := 26) hx hb dX9_image_14 (by decide) ?_
      refine lv_icmp_ge (tgt := 42) hx hb dX9_image_16 (by decide) (fun c_273 => absurd c_273 (by decide)) (fun c_273 => ?_)
      refine lv_aload_n hx hb dX9_image_19 rfl (lv_at hl 1 rfl) ?_
      refine va_get (D := (dC, dI)) (ci := 8) (v := .ref (r 37)) (C := RX9) (T := TX9) (N := 62) hx hb hG inX9 hown hK hP 0 rfl rfl 60 (by decide) (hG _ gw1231) (fun _ h9 => h9) rfl dX9_image_20 ?_
      refine lv_bipush (v := 26) hx hb dX9_image_23 (by decide) ?_
      refine lv_iload_n hx hb dX9_image_25 rfl (lv_at hl 2 rfl) ?_
      refine lv_imul hx hb dX9_image_26 ?_
      refine wt_c (v := 52) (by decide) ?_
      refine lv_iload_n hx hb dX9_image_27 rfl (lv_at hl 0 rfl) ?_
      refine lv_iadd hx hb dX9_image_28 ?_
      refine wt_c (v := 65) (by decide) ?_
      refine lv_aload_n hx hb dX9_image_29 rfl (lv_at hl 1 rfl) ?_
      refine va_get (D := (dC, dI)) (ci := 8) (v := .ref (r 25)) (C := RX9) (T := TX9) (N := 62) hx hb hG inX9 hown hK hP 0 rfl rfl 42 (by decide) (hG _ gw1213) (fun _ h9 => h9) rfl dX9_image_30 ?_
      refine lv_iload_n hx hb dX9_image_33 rfl (lv_at hl 0 rfl) ?_
      refine va_iald hx hb hK hP 1 0 rfl rfl (vin (by decide)) dX9_image_34 ?_
      refine lv_topi (fun x274 ex274 => ?_)
      refine va_iast hx hb hK hP hD hS 2 1 rfl rfl (vin (by decide)) dX9_image_35 (fun H275 locs hP hD hS => ?_)
      obtain ⟨zf276, ezf276⟩ : ∃ z : Nat → Int32, z = upd zf272 (65 : Int32).toNatClampNeg x274 := ⟨_, rfl⟩
      have hP : va_P (dC, dI) vwCl [(r 0, .inr (8, [.ref (r 1), .ref (r 2), .int 0, .int 0, .int 0, .int (-1), .int 0, .int 0, .int 0, .int 0, .long 0, .ref (r 3), .ref (r 4), .ref (r 5), .ref (r 6), .ref (r 7), .ref (r 8), .ref (r 9), .ref (r 10), .ref (r 11), .ref (r 12), .ref (r 13), .ref (r 14), .ref (r 15), .ref (r 16), .ref (r 17), .ref (r 18), .ref (r 19), .ref (r 20), .ref (r 21), .ref (r 22), .ref (r 23), .ref (r 24), .int 0, .int 0, .int 0, .int 0, .int 0, .int 0, .int 0, .int 0, .int 0, .ref (r 25), .ref (r 26), .ref (r 27), .int 0, .int 0, .ref (r 28), .int 0, .ref (r 29), .ref (r 30), .ref (r 31), .ref (r 32), .ref (r 33), .ref (r 34), .ref (r 35), .ref (r 36), .int 0, .int 0, .int 0, .ref (r 37), .ref (r 38)])), (r 25, .inl ((c 25), 26, .inl f25)), (r 37, .inl ((c 37), 78, .inl zf276)), (r 38, .inl ((c 38), 3, .inl f38))] H275 := by rw [ezf276]; exact hP
      have hD : va_D A [(r 0, .inr (8, [.ref (r 1), .ref (r 2), .int 0, .int 0, .int 0, .int (-1), .int 0, .int 0, .int 0, .int 0, .long 0, .ref (r 3), .ref (r 4), .ref (r 5), .ref (r 6), .ref (r 7), .ref (r 8), .ref (r 9), .ref (r 10), .ref (r 11), .ref (r 12), .ref (r 13), .ref (r 14), .ref (r 15), .ref (r 16), .ref (r 17), .ref (r 18), .ref (r 19), .ref (r 20), .ref (r 21), .ref (r 22), .ref (r 23), .ref (r 24), .int 0, .int 0, .int 0, .int 0, .int 0, .int 0, .int 0, .int 0, .int 0, .ref (r 25), .ref (r 26), .ref (r 27), .int 0, .int 0, .ref (r 28), .int 0, .ref (r 29), .ref (r 30), .ref (r 31), .ref (r 32), .ref (r 33), .ref (r 34), .ref (r 35), .ref (r 36), .int 0, .int 0, .int 0, .ref (r 37), .ref (r 38)])), (r 25, .inl ((c 25), 26, .inl f25)), (r 37, .inl ((c 37), 78, .inl zf276)), (r 38, .inl ((c 38), 3, .inl f38))] := by rw [ezf276]; exact hD
      refine lv_iinc (v := 14) (lv' := [(2, .int 14), (0, .ref (r 0)), (1, .int 2)]) hx hb dX9_image_36 hl (k := 0) rfl (by decide) (by decide) rfl (fun ls hl => ?_)
      refine lv_goto (tgt := 13) hx hb dX9_image_39 (by decide) ?_
      refine lv_iload_n hx hb dX9_image_13 rfl (lv_at hl 0 rfl) ?_
      refine lv_bipush (v := 26) hx hb dX9_image_14 (by decide) ?_
      refine lv_icmp_ge (tgt := 42) hx hb dX9_image_16 (by decide) (fun c_277 => absurd c_277 (by decide)) (fun c_277 => ?_)
      refine lv_aload_n hx hb dX9_image_19 rfl (lv_at hl 1 rfl) ?_
      refine va_get (D := (dC, dI)) (ci := 8) (v := .ref (r 37)) (C := RX9) (T := TX9) (N := 62) hx hb hG inX9 hown hK hP 0 rfl rfl 60 (by decide) (hG _ gw1231) (fun _ h9 => h9) rfl dX9_image_20 ?_
      refine lv_bipush (v := 26) hx hb dX9_image_23 (by decide) ?_
      refine lv_iload_n hx hb dX9_image_25 rfl (lv_at hl 2 rfl) ?_
      refine lv_imul hx hb dX9_image_26 ?_
      refine wt_c (v := 52) (by decide) ?_
      refine lv_iload_n hx hb dX9_image_27 rfl (lv_at hl 0 rfl) ?_
      refine lv_iadd hx hb dX9_image_28 ?_
      refine wt_c (v := 66) (by decide) ?_
      refine lv_aload_n hx hb dX9_image_29 rfl (lv_at hl 1 rfl) ?_
      refine va_get (D := (dC, dI)) (ci := 8) (v := .ref (r 25)) (C := RX9) (T := TX9) (N := 62) hx hb hG inX9 hown hK hP 0 rfl rfl 42 (by decide) (hG _ gw1213) (fun _ h9 => h9) rfl dX9_image_30 ?_
      refine lv_iload_n hx hb dX9_image_33 rfl (lv_at hl 0 rfl) ?_
      refine va_iald hx hb hK hP 1 0 rfl rfl (vin (by decide)) dX9_image_34 ?_
      refine lv_topi (fun x278 ex278 => ?_)
      refine va_iast hx hb hK hP hD hS 2 1 rfl rfl (vin (by decide)) dX9_image_35 (fun H279 locs hP hD hS => ?_)
      obtain ⟨zf280, ezf280⟩ : ∃ z : Nat → Int32, z = upd zf276 (66 : Int32).toNatClampNeg x278 := ⟨_, rfl⟩
      have hP : va_P (dC, dI) vwCl [(r 0, .inr (8, [.ref (r 1), .ref (r 2), .int 0, .int 0, .int 0, .int (-1), .int 0, .int 0, .int 0, .int 0, .long 0, .ref (r 3), .ref (r 4), .ref (r 5), .ref (r 6), .ref (r 7), .ref (r 8), .ref (r 9), .ref (r 10), .ref (r 11), .ref (r 12), .ref (r 13), .ref (r 14), .ref (r 15), .ref (r 16), .ref (r 17), .ref (r 18), .ref (r 19), .ref (r 20), .ref (r 21), .ref (r 22), .ref (r 23), .ref (r 24), .int 0, .int 0, .int 0, .int 0, .int 0, .int 0, .int 0, .int 0, .int 0, .ref (r 25), .ref (r 26), .ref (r 27), .int 0, .int 0, .ref (r 28), .int 0, .ref (r 29), .ref (r 30), .ref (r 31), .ref (r 32), .ref (r 33), .ref (r 34), .ref (r 35), .ref (r 36), .int 0, .int 0, .int 0, .ref (r 37), .ref (r 38)])), (r 25, .inl ((c 25), 26, .inl f25)), (r 37, .inl ((c 37), 78, .inl zf280)), (r 38, .inl ((c 38), 3, .inl f38))] H279 := by rw [ezf280]; exact hP
      have hD : va_D A [(r 0, .inr (8, [.ref (r 1), .ref (r 2), .int 0, .int 0, .int 0, .int (-1), .int 0, .int 0, .int 0, .int 0, .long 0, .ref (r 3), .ref (r 4), .ref (r 5), .ref (r 6), .ref (r 7), .ref (r 8), .ref (r 9), .ref (r 10), .ref (r 11), .ref (r 12), .ref (r 13), .ref (r 14), .ref (r 15), .ref (r 16), .ref (r 17), .ref (r 18), .ref (r 19), .ref (r 20), .ref (r 21), .ref (r 22), .ref (r 23), .ref (r 24), .int 0, .int 0, .int 0, .int 0, .int 0, .int 0, .int 0, .int 0, .int 0, .ref (r 25), .ref (r 26), .ref (r 27), .int 0, .int 0, .ref (r 28), .int 0, .ref (r 29), .ref (r 30), .ref (r 31), .ref (r 32), .ref (r 33), .ref (r 34), .ref (r 35), .ref (r 36), .int 0, .int 0, .int 0, .ref (r 37), .ref (r 38)])), (r 25, .inl ((c 25), 26, .inl f25)), (r 37, .inl ((c 37), 78, .inl zf280)), (r 38, .inl ((c 38), 3, .inl f38))] := by rw [ezf280]; exact hD
      refine lv_iinc (v := 15) (lv' := [(2, .int 15), (0, .ref (r 0)), (1, .int 2)]) hx hb dX9_image_36 hl (k := 0) rfl (by decide) (by decide) rfl (fun ls hl => ?_)
      refine lv_goto (tgt := 13) hx hb dX9_image_39 (by decide) ?_
      refine lv_iload_n hx hb dX9_image_13 rfl (lv_at hl 0 rfl) ?_
      refine lv_bipush (v := 26) hx hb dX9_image_14 (by decide) ?_
      refine lv_icmp_ge (tgt := 42) hx hb dX9_image_16 (by decide) (fun c_281 => absurd c_281 (by decide)) (fun c_281 => ?_)
      refine lv_aload_n hx hb dX9_image_19 rfl (lv_at hl 1 rfl) ?_
      refine va_get (D := (dC, dI)) (ci := 8) (v := .ref (r 37)) (C := RX9) (T := TX9) (N := 62) hx hb hG inX9 hown hK hP 0 rfl rfl 60 (by decide) (hG _ gw1231) (fun _ h9 => h9) rfl dX9_image_20 ?_
      refine lv_bipush (v := 26) hx hb dX9_image_23 (by decide) ?_
      refine lv_iload_n hx hb dX9_image_25 rfl (lv_at hl 2 rfl) ?_
      refine lv_imul hx hb dX9_image_26 ?_
      refine wt_c (v := 52) (by decide) ?_
      refine lv_iload_n hx hb dX9_image_27 rfl (lv_at hl 0 rfl) ?_
      refine lv_iadd hx hb dX9_image_28 ?_
      refine wt_c (v := 67) (by decide) ?_
      refine lv_aload_n hx hb dX9_image_29 rfl (lv_at hl 1 rfl) ?_
      refine va_get (D := (dC, dI)) (ci := 8) (v := .ref (r 25)) (C := RX9) (T := TX9) (N := 62) hx hb hG inX9 hown hK hP 0 rfl rfl 42 (by decide) (hG _ gw1213) (fun _ h9 => h9) rfl dX9_image_30 ?_
      refine lv_iload_n hx hb dX9_image_33 rfl (lv_at hl 0 rfl) ?_
      refine va_iald hx hb hK hP 1 0 rfl rfl (vin (by decide)) dX9_image_34 ?_
      refine lv_topi (fun x282 ex282 => ?_)
      refine va_iast hx hb hK hP hD hS 2 1 rfl rfl (vin (by decide)) dX9_image_35 (fun H283 locs hP hD hS => ?_)
      obtain ⟨zf284, ezf284⟩ : ∃ z : Nat → Int32, z = upd zf280 (67 : Int32).toNatClampNeg x282 := ⟨_, rfl⟩
      have hP : va_P (dC, dI) vwCl [(r 0, .inr (8, [.ref (r 1), .ref (r 2), .int 0, .int 0, .int 0, .int (-1), .int 0, .int 0, .int 0, .int 0, .long 0, .ref (r 3), .ref (r 4), .ref (r 5), .ref (r 6), .ref (r 7), .ref (r 8), .ref (r 9), .ref (r 10), .ref (r 11), .ref (r 12), .ref (r 13), .ref (r 14), .ref (r 15), .ref (r 16), .ref (r 17), .ref (r 18), .ref (r 19), .ref (r 20), .ref (r 21), .ref (r 22), .ref (r 23), .ref (r 24), .int 0, .int 0, .int 0, .int 0, .int 0, .int 0, .int 0, .int 0, .int 0, .ref (r 25), .ref (r 26), .ref (r 27), .int 0, .int 0, .ref (r 28), .int 0, .ref (r 29), .ref (r 30), .ref (r 31), .ref (r 32), .ref (r 33), .ref (r 34), .ref (r 35), .ref (r 36), .int 0, .int 0, .int 0, .ref (r 37), .ref (r 38)])), (r 25, .inl ((c 25), 26, .inl f25)), (r 37, .inl ((c 37), 78, .inl zf284)), (r 38, .inl ((c 38), 3, .inl f38))] H283 := by rw [ezf284]; exact hP
      have hD : va_D A [(r 0, .inr (8, [.ref (r 1), .ref (r 2), .int 0, .int 0, .int 0, .int (-1), .int 0, .int 0, .int 0, .int 0, .long 0, .ref (r 3), .ref (r 4), .ref (r 5), .ref (r 6), .ref (r 7), .ref (r 8), .ref (r 9), .ref (r 10), .ref (r 11), .ref (r 12), .ref (r 13), .ref (r 14), .ref (r 15), .ref (r 16), .ref (r 17), .ref (r 18), .ref (r 19), .ref (r 20), .ref (r 21), .ref (r 22), .ref (r 23), .ref (r 24), .int 0, .int 0, .int 0, .int 0, .int 0, .int 0, .int 0, .int 0, .int 0, .ref (r 25), .ref (r 26), .ref (r 27), .int 0, .int 0, .ref (r 28), .int 0, .ref (r 29), .ref (r 30), .ref (r 31), .ref (r 32), .ref (r 33), .ref (r 34), .ref (r 35), .ref (r 36), .int 0, .int 0, .int 0, .ref (r 37), .ref (r 38)])), (r 25, .inl ((c 25), 26, .inl f25)), (r 37, .inl ((c 37), 78, .inl zf284)), (r 38, .inl ((c 38), 3, .inl f38))] := by rw [ezf284]; exact hD
      refine lv_iinc (v := 16) (lv' := [(2, .int 16), (0, .ref (r 0)), (1, .int 2)]) hx hb dX9_image_36 hl (k := 0) rfl (by decide) (by decide) rfl (fun ls hl => ?_)
      refine lv_goto (tgt := 13) hx hb dX9_image_39 (by decide) ?_
      refine lv_iload_n hx hb dX9_image_13 rfl (lv_at hl 0 rfl) ?_
      refine lv_bipush (v := 26) hx hb dX9_image_14 (by decide) ?_
      refine lv_icmp_ge (tgt := 42) hx hb dX9_image_16 (by decide) (fun c_285 => absurd c_285 (by decide)) (fun c_285 => ?_)
      refine lv_aload_n hx hb dX9_image_19 rfl (lv_at hl 1 rfl) ?_
      refine va_get (D := (dC, dI)) (ci := 8) (v := .ref (r 37)) (C := RX9) (T := TX9) (N := 62) hx hb hG inX9 hown hK hP 0 rfl rfl 60 (by decide) (hG _ gw1231) (fun _ h9 => h9) rfl dX9_image_20 ?_
      refine lv_bipush (v := 26) hx hb dX9_image_23 (by decide) ?_
      refine lv_iload_n hx hb dX9_image_25 rfl (lv_at hl 2 rfl) ?_
      refine lv_imul hx hb dX9_image_26 ?_
      refine wt_c (v := 52) (by decide) ?_
      refine lv_iload_n hx hb dX9_image_27 rfl (lv_at hl 0 rfl) ?_
      refine lv_iadd hx hb dX9_image_28 ?_
      refine wt_c (v := 68) (by decide) ?_
      refine lv_aload_n hx hb dX9_image_29 rfl (lv_at hl 1 rfl) ?_
      refine va_get (D := (dC, dI)) (ci := 8) (v := .ref (r 25)) (C := RX9) (T := TX9) (N := 62) hx hb hG inX9 hown hK hP 0 rfl rfl 42 (by decide) (hG _ gw1213) (fun _ h9 => h9) rfl dX9_image_30 ?_
      refine lv_iload_n hx hb dX9_image_33 rfl (lv_at hl 0 rfl) ?_
      refine va_iald hx hb hK hP 1 0 rfl rfl (vin (by decide)) dX9_image_34 ?_
      refine lv_topi (fun x286 ex286 => ?_)
      refine va_iast hx hb hK hP hD hS 2 1 rfl rfl (vin (by decide)) dX9_image_35 (fun H287 locs hP hD hS => ?_)
      obtain ⟨zf288, ezf288⟩ : ∃ z : Nat → Int32, z = upd zf284 (68 : Int32).toNatClampNeg x286 := ⟨_, rfl⟩
      have hP : va_P (dC, dI) vwCl [(r 0, .inr (8, [.ref (r 1), .ref (r 2), .int 0, .int 0, .int 0, .int (-1), .int 0, .int 0, .int 0, .int 0, .long 0, .ref (r 3), .ref (r 4), .ref (r 5), .ref (r 6), .ref (r 7), .ref (r 8), .ref (r 9), .ref (r 10), .ref (r 11), .ref (r 12), .ref (r 13), .ref (r 14), .ref (r 15), .ref (r 16), .ref (r 17), .ref (r 18), .ref (r 19), .ref (r 20), .ref (r 21), .ref (r 22), .ref (r 23), .ref (r 24), .int 0, .int 0, .int 0, .int 0, .int 0, .int 0, .int 0, .int 0, .int 0, .ref (r 25), .ref (r 26), .ref (r 27), .int 0, .int 0, .ref (r 28), .int 0, .ref (r 29), .ref (r 30), .ref (r 31), .ref (r 32), .ref (r 33), .ref (r 34), .ref (r 35), .ref (r 36), .int 0, .int 0, .int 0, .ref (r 37), .ref (r 38)])), (r 25, .inl ((c 25), 26, .inl f25)), (r 37, .inl ((c 37), 78, .inl zf288)), (r 38, .inl ((c 38), 3, .inl f38))] H287 := by rw [ezf288]; exact hP
      have hD : va_D A [(r 0, .inr (8, [.ref (r 1), .ref (r 2), .int 0, .int 0, .int 0, .int (-1), .int 0, .int 0, .int 0, .int 0, .long 0, .ref (r 3), .ref (r 4), .ref (r 5), .ref (r 6), .ref (r 7), .ref (r 8), .ref (r 9), .ref (r 10), .ref (r 11), .ref (r 12), .ref (r 13), .ref (r 14), .ref (r 15), .ref (r 16), .ref (r 17), .ref (r 18), .ref (r 19), .ref (r 20), .ref (r 21), .ref (r 22), .ref (r 23), .ref (r 24), .int 0, .int 0, .int 0, .int 0, .int 0, .int 0, .int 0, .int 0, .int 0, .ref (r 25), .ref (r 26), .ref (r 27), .int 0, .int 0, .ref (r 28), .int 0, .ref (r 29), .ref (r 30), .ref (r 31), .ref (r 32), .ref (r 33), .ref (r 34), .ref (r 35), .ref (r 36), .int 0, .int 0, .int 0, .ref (r 37), .ref (r 38)])), (r 25, .inl ((c 25), 26, .inl f25)), (r 37, .inl ((c 37), 78, .inl zf288)), (r 38, .inl ((c 38), 3, .inl f38))] := by rw [ezf288]; exact hD
      refine lv_iinc (v := 17) (lv' := [(2, .int 17), (0, .ref (r 0)), (1, .int 2)]) hx hb dX9_image_36 hl (k := 0) rfl (by decide) (by decide) rfl (fun ls hl => ?_)
      refine lv_goto (tgt := 13) hx hb dX9_image_39 (by decide) ?_
      refine lv_iload_n hx hb dX9_image_13 rfl (lv_at hl 0 rfl) ?_
      refine lv_bipush (v := 26) hx hb dX9_image_14 (by decide) ?_
      refine lv_icmp_ge (tgt := 42) hx hb dX9_image_16 (by decide) (fun c_289 => absurd c_289 (by decide)) (fun c_289 => ?_)
      refine lv_aload_n hx hb dX9_image_19 rfl (lv_at hl 1 rfl) ?_
      refine va_get (D := (dC, dI)) (ci := 8) (v := .ref (r 37)) (C := RX9) (T := TX9) (N := 62) hx hb hG inX9 hown hK hP 0 rfl rfl 60 (by decide) (hG _ gw1231) (fun _ h9 => h9) rfl dX9_image_20 ?_
      refine lv_bipush (v := 26) hx hb dX9_image_23 (by decide) ?_
      refine lv_iload_n hx hb dX9_image_25 rfl (lv_at hl 2 rfl) ?_
      refine lv_imul hx hb dX9_image_26 ?_
      refine wt_c (v := 52) (by decide) ?_
      refine lv_iload_n hx hb dX9_image_27 rfl (lv_at hl 0 rfl) ?_
      refine lv_iadd hx hb dX9_image_28 ?_
      refine wt_c (v := 69) (by decide) ?_
      refine lv_aload_n hx hb dX9_image_29 rfl (lv_at hl 1 rfl) ?_
      refine va_get (D := (dC, dI)) (ci := 8) (v := .ref (r 25)) (C := RX9) (T := TX9) (N := 62) hx hb hG inX9 hown hK hP 0 rfl rfl 42 (by decide) (hG _ gw1213) (fun _ h9 => h9) rfl dX9_image_30 ?_
      refine lv_iload_n hx hb dX9_image_33 rfl (lv_at hl 0 rfl) ?_
      refine va_iald hx hb hK hP 1 0 rfl rfl (vin (by decide)) dX9_image_34 ?_
      refine lv_topi (fun x290 ex290 => ?_)
      refine va_iast hx hb hK hP hD hS 2 1 rfl rfl (vin (by decide)) dX9_image_35 (fun H291 locs hP hD hS => ?_)
      obtain ⟨zf292, ezf292⟩ : ∃ z : Nat → Int32, z = upd zf288 (69 : Int32).toNatClampNeg x290 := ⟨_, rfl⟩
      have hP : va_P (dC, dI) vwCl [(r 0, .inr (8, [.ref (r 1), .ref (r 2), .int 0, .int 0, .int 0, .int (-1), .int 0, .int 0, .int 0, .int 0, .long 0, .ref (r 3), .ref (r 4), .ref (r 5), .ref (r 6), .ref (r 7), .ref (r 8), .ref (r 9), .ref (r 10), .ref (r 11), .ref (r 12), .ref (r 13), .ref (r 14), .ref (r 15), .ref (r 16), .ref (r 17), .ref (r 18), .ref (r 19), .ref (r 20), .ref (r 21), .ref (r 22), .ref (r 23), .ref (r 24), .int 0, .int 0, .int 0, .int 0, .int 0, .int 0, .int 0, .int 0, .int 0, .ref (r 25), .ref (r 26), .ref (r 27), .int 0, .int 0, .ref (r 28), .int 0, .ref (r 29), .ref (r 30), .ref (r 31), .ref (r 32), .ref (r 33), .ref (r 34), .ref (r 35), .ref (r 36), .int 0, .int 0, .int 0, .ref (r 37), .ref (r 38)])), (r 25, .inl ((c 25), 26, .inl f25)), (r 37, .inl ((c 37), 78, .inl zf292)), (r 38, .inl ((c 38), 3, .inl f38))] H291 := by rw [ezf292]; exact hP
      have hD : va_D A [(r 0, .inr (8, [.ref (r 1), .ref (r 2), .int 0, .int 0, .int 0, .int (-1), .int 0, .int 0, .int 0, .int 0, .long 0, .ref (r 3), .ref (r 4), .ref (r 5), .ref (r 6), .ref (r 7), .ref (r 8), .ref (r 9), .ref (r 10), .ref (r 11), .ref (r 12), .ref (r 13), .ref (r 14), .ref (r 15), .ref (r 16), .ref (r 17), .ref (r 18), .ref (r 19), .ref (r 20), .ref (r 21), .ref (r 22), .ref (r 23), .ref (r 24), .int 0, .int 0, .int 0, .int 0, .int 0, .int 0, .int 0, .int 0, .int 0, .ref (r 25), .ref (r 26), .ref (r 27), .int 0, .int 0, .ref (r 28), .int 0, .ref (r 29), .ref (r 30), .ref (r 31), .ref (r 32), .ref (r 33), .ref (r 34), .ref (r 35), .ref (r 36), .int 0, .int 0, .int 0, .ref (r 37), .ref (r 38)])), (r 25, .inl ((c 25), 26, .inl f25)), (r 37, .inl ((c 37), 78, .inl zf292)), (r 38, .inl ((c 38), 3, .inl f38))] := by rw [ezf292]; exact hD
      refine lv_iinc (v := 18) (lv' := [(2, .int 18), (0, .ref (r 0)), (1, .int 2)]) hx hb dX9_image_36 hl (k := 0) rfl (by decide) (by decide) rfl (fun ls hl => ?_)
      refine lv_goto (tgt := 13) hx hb dX9_image_39 (by decide) ?_
      refine lv_iload_n hx hb dX9_image_13 rfl (lv_at hl 0 rfl) ?_
      refine lv_bipush (v := 26) hx hb dX9_image_14 (by decide) ?_
      refine lv_icmp_ge (tgt := 42) hx hb dX9_image_16 (by decide) (fun c_293 => absurd c_293 (by decide)) (fun c_293 => ?_)
      refine lv_aload_n hx hb dX9_image_19 rfl (lv_at hl 1 rfl) ?_
      refine va_get (D := (dC, dI)) (ci := 8) (v := .ref (r 37)) (C := RX9) (T := TX9) (N := 62) hx hb hG inX9 hown hK hP 0 rfl rfl 60 (by decide) (hG _ gw1231) (fun _ h9 => h9) rfl dX9_image_20 ?_
      refine lv_bipush (v := 26) hx hb dX9_image_23 (by decide) ?_
      refine lv_iload_n hx hb dX9_image_25 rfl (lv_at hl 2 rfl) ?_
      refine lv_imul hx hb dX9_image_26 ?_
      refine wt_c (v := 52) (by decide) ?_
      refine lv_iload_n hx hb dX9_image_27 rfl (lv_at hl 0 rfl) ?_
      refine lv_iadd hx hb dX9_image_28 ?_
      refine wt_c (v := 70) (by decide) ?_
      refine lv_aload_n hx hb dX9_image_29 rfl (lv_at hl 1 rfl) ?_
      refine va_get (D := (dC, dI)) (ci := 8) (v := .ref (r 25)) (C := RX9) (T := TX9) (N := 62) hx hb hG inX9 hown hK hP 0 rfl rfl 42 (by decide) (hG _ gw1213) (fun _ h9 => h9) rfl dX9_image_30 ?_
      refine lv_iload_n hx hb dX9_image_33 rfl (lv_at hl 0 rfl) ?_
      refine va_iald hx hb hK hP 1 0 rfl rfl (vin (by decide)) dX9_image_34 ?_
      refine lv_topi (fun x294 ex294 => ?_)
      refine va_iast hx hb hK hP hD hS 2 1 rfl rfl (vin (by decide)) dX9_image_35 (fun H295 locs hP hD hS => ?_)
      obtain ⟨zf296, ezf296⟩ : ∃ z : Nat → Int32, z = upd zf292 (70 : Int32).toNatClampNeg x294 := ⟨_, rfl⟩
      have hP : va_P (dC, dI) vwCl [(r 0, .inr (8, [.ref (r 1), .ref (r 2), .int 0, .int 0, .int 0, .int (-1), .int 0, .int 0, .int 0, .int 0, .long 0, .ref (r 3), .ref (r 4), .ref (r 5), .ref (r 6), .ref (r 7), .ref (r 8), .ref (r 9), .ref (r 10), .ref (r 11), .ref (r 12), .ref (r 13), .ref (r 14), .ref (r 15), .ref (r 16), .ref (r 17), .ref (r 18), .ref (r 19), .ref (r 20), .ref (r 21), .ref (r 22), .ref (r 23), .ref (r 24), .int 0, .int 0, .int 0, .int 0, .int 0, .int 0, .int 0, .int 0, .int 0, .ref (r 25), .ref (r 26), .ref (r 27), .int 0, .int 0, .ref (r 28), .int 0, .ref (r 29), .ref (r 30), .ref (r 31), .ref (r 32), .ref (r 33), .ref (r 34), .ref (r 35), .ref (r 36), .int 0, .int 0, .int 0, .ref (r 37), .ref (r 38)])), (r 25, .inl ((c 25), 26, .inl f25)), (r 37, .inl ((c 37), 78, .inl zf296)), (r 38, .inl ((c 38), 3, .inl f38))] H295 := by rw [ezf296]; exact hP
      have hD : va_D A [(r 0, .inr (8, [.ref (r 1), .ref (r 2), .int 0, .int 0, .int 0, .int (-1), .int 0, .int 0, .int 0, .int 0, .long 0, .ref (r 3), .ref (r 4), .ref (r 5), .ref (r 6), .ref (r 7), .ref (r 8), .ref (r 9), .ref (r 10), .ref (r 11), .ref (r 12), .ref (r 13), .ref (r 14), .ref (r 15), .ref (r 16), .ref (r 17), .ref (r 18), .ref (r 19), .ref (r 20), .ref (r 21), .ref (r 22), .ref (r 23), .ref (r 24), .int 0, .int 0, .int 0, .int 0, .int 0, .int 0, .int 0, .int 0, .int 0, .ref (r 25), .ref (r 26), .ref (r 27), .int 0, .int 0, .ref (r 28), .int 0, .ref (r 29), .ref (r 30), .ref (r 31), .ref (r 32), .ref (r 33), .ref (r 34), .ref (r 35), .ref (r 36), .int 0, .int 0, .int 0, .ref (r 37), .ref (r 38)])), (r 25, .inl ((c 25), 26, .inl f25)), (r 37, .inl ((c 37), 78, .inl zf296)), (r 38, .inl ((c 38), 3, .inl f38))] := by rw [ezf296]; exact hD
      refine lv_iinc (v := 19) (lv' := [(2, .int 19), (0, .ref (r 0)), (1, .int 2)]) hx hb dX9_image_36 hl (k := 0) rfl (by decide) (by decide) rfl (fun ls hl => ?_)
      refine lv_goto (tgt := 13) hx hb dX9_image_39 (by decide) ?_
      refine lv_iload_n hx hb dX9_image_13 rfl (lv_at hl 0 rfl) ?_
      refine lv_bipush (v := 26) hx hb dX9_image_14 (by decide) ?_
      refine lv_icmp_ge (tgt := 42) hx hb dX9_image_16 (by decide) (fun c_297 => absurd c_297 (by decide)) (fun c_297 => ?_)
      refine lv_aload_n hx hb dX9_image_19 rfl (lv_at hl 1 rfl) ?_
      refine va_get (D := (dC, dI)) (ci := 8) (v := .ref (r 37)) (C := RX9) (T := TX9) (N := 62) hx hb hG inX9 hown hK hP 0 rfl rfl 60 (by decide) (hG _ gw1231) (fun _ h9 => h9) rfl dX9_image_20 ?_
      refine lv_bipush (v := 26) hx hb dX9_image_23 (by decide) ?_
      refine lv_iload_n hx hb dX9_image_25 rfl (lv_at hl 2 rfl) ?_
      refine lv_imul hx hb dX9_image_26 ?_
      refine wt_c (v := 52) (by decide) ?_
      refine lv_iload_n hx hb dX9_image_27 rfl (lv_at hl 0 rfl) ?_
      refine lv_iadd hx hb dX9_image_28 ?_
      refine wt_c (v := 71) (by decide) ?_
      refine lv_aload_n hx hb dX9_image_29 rfl (lv_at hl 1 rfl) ?_
      refine va_get (D := (dC, dI)) (ci := 8) (v := .ref (r 25)) (C := RX9) (T := TX9) (N := 62) hx hb hG inX9 hown hK hP 0 rfl rfl 42 (by decide) (hG _ gw1213) (fun _ h9 => h9) rfl dX9_image_30 ?_
      refine lv_iload_n hx hb dX9_image_33 rfl (lv_at hl 0 rfl) ?_
      refine va_iald hx hb hK hP 1 0 rfl rfl (vin (by decide)) dX9_image_34 ?_
      refine lv_topi (fun x298 ex298 => ?_)
      refine va_iast hx hb hK hP hD hS 2 1 rfl rfl (vin (by decide)) dX9_image_35 (fun H299 locs hP hD hS => ?_)
      obtain ⟨zf300, ezf300⟩ : ∃ z : Nat → Int32, z = upd zf296 (71 : Int32).toNatClampNeg x298 := ⟨_, rfl⟩
      have hP : va_P (dC, dI) vwCl [(r 0, .inr (8, [.ref (r 1), .ref (r 2), .int 0, .int 0, .int 0, .int (-1), .int 0, .int 0, .int 0, .int 0, .long 0, .ref (r 3), .ref (r 4), .ref (r 5), .ref (r 6), .ref (r 7), .ref (r 8), .ref (r 9), .ref (r 10), .ref (r 11), .ref (r 12), .ref (r 13), .ref (r 14), .ref (r 15), .ref (r 16), .ref (r 17), .ref (r 18), .ref (r 19), .ref (r 20), .ref (r 21), .ref (r 22), .ref (r 23), .ref (r 24), .int 0, .int 0, .int 0, .int 0, .int 0, .int 0, .int 0, .int 0, .int 0, .ref (r 25), .ref (r 26), .ref (r 27), .int 0, .int 0, .ref (r 28), .int 0, .ref (r 29), .ref (r 30), .ref (r 31), .ref (r 32), .ref (r 33), .ref (r 34), .ref (r 35), .ref (r 36), .int 0, .int 0, .int 0, .ref (r 37), .ref (r 38)])), (r 25, .inl ((c 25), 26, .inl f25)), (r 37, .inl ((c 37), 78, .inl zf300)), (r 38, .inl ((c 38), 3, .inl f38))] H299 := by rw [ezf300]; exact hP
      have hD : va_D A [(r 0, .inr (8, [.ref (r 1), .ref (r 2), .int 0, .int 0, .int 0, .int (-1), .int 0, .int 0, .int 0, .int 0, .long 0, .ref (r 3), .ref (r 4), .ref (r 5), .ref (r 6), .ref (r 7), .ref (r 8), .ref (r 9), .ref (r 10), .ref (r 11), .ref (r 12), .ref (r 13), .ref (r 14), .ref (r 15), .ref (r 16), .ref (r 17), .ref (r 18), .ref (r 19), .ref (r 20), .ref (r 21), .ref (r 22), .ref (r 23), .ref (r 24), .int 0, .int 0, .int 0, .int 0, .int 0, .int 0, .int 0, .int 0, .int 0, .ref (r 25), .ref (r 26), .ref (r 27), .int 0, .int 0, .ref (r 28), .int 0, .ref (r 29), .ref (r 30), .ref (r 31), .ref (r 32), .ref (r 33), .ref (r 34), .ref (r 35), .ref (r 36), .int 0, .int 0, .int 0, .ref (r 37), .ref (r 38)])), (r 25, .inl ((c 25), 26, .inl f25)), (r 37, .inl ((c 37), 78, .inl zf300)), (r 38, .inl ((c 38), 3, .inl f38))] := by rw [ezf300]; exact hD
      refine lv_iinc (v := 20) (lv' := [(2, .int 20), (0, .ref (r 0)), (1, .int 2)]) hx hb dX9_image_36 hl (k := 0) rfl (by decide) (by decide) rfl (fun ls hl => ?_)
      refine lv_goto (tgt := 13) hx hb dX9_image_39 (by decide) ?_
      refine lv_iload_n hx hb dX9_image_13 rfl (lv_at hl 0 rfl) ?_
      refine lv_bipush (v := 26) hx hb dX9_image_14 (by decide) ?_
      refine lv_icmp_ge (tgt := 42) hx hb dX9_image_16 (by decide) (fun c_301 => absurd c_301 (by decide)) (fun c_301 => ?_)
      refine lv_aload_n hx hb dX9_image_19 rfl (lv_at hl 1 rfl) ?_
      refine va_get (D := (dC, dI)) (ci := 8) (v := .ref (r 37)) (C := RX9) (T := TX9) (N := 62) hx hb hG inX9 hown hK hP 0 rfl rfl 60 (by decide) (hG _ gw1231) (fun _ h9 => h9) rfl dX9_image_20 ?_
      refine lv_bipush (v := 26) hx hb dX9_image_23 (by decide) ?_
      refine lv_iload_n hx hb dX9_image_25 rfl (lv_at hl 2 rfl) ?_
      refine lv_imul hx hb dX9_image_26 ?_
      refine wt_c (v := 52) (by decide) ?_
      refine lv_iload_n hx hb dX9_image_27 rfl (lv_at hl 0 rfl) ?_
      refine lv_iadd hx hb dX9_image_28 ?_
      refine wt_c (v := 72) (by decide) ?_
      refine lv_aload_n hx hb dX9_image_29 rfl (lv_at hl 1 rfl) ?_
      refine va_get (D := (dC, dI)) (ci := 8) (v := .ref (r 25)) (C := RX9) (T := TX9) (N := 62) hx hb hG inX9 hown hK hP 0 rfl rfl 42 (by decide) (hG _ gw1213) (fun _ h9 => h9) rfl dX9_image_30 ?_
      refine lv_iload_n hx hb dX9_image_33 rfl (lv_at hl 0 rfl) ?_
      refine va_iald hx hb hK hP 1 0 rfl rfl (vin (by decide)) dX9_image_34 ?_
      refine lv_topi (fun x302 ex302 => ?_)
      refine va_iast hx hb hK hP hD hS 2 1 rfl rfl (vin (by decide)) dX9_image_35 (fun H303 locs hP hD hS => ?_)
      obtain ⟨zf304, ezf304⟩ : ∃ z : Nat → Int32, z = upd zf300 (72 : Int32).toNatClampNeg x302 := ⟨_, rfl⟩
      have hP : va_P (dC, dI) vwCl [(r 0, .inr (8, [.ref (r 1), .ref (r 2), .int 0, .int 0, .int 0, .int (-1), .int 0, .int 0, .int 0, .int 0, .long 0, .ref (r 3), .ref (r 4), .ref (r 5), .ref (r 6), .ref (r 7), .ref (r 8), .ref (r 9), .ref (r 10), .ref (r 11), .ref (r 12), .ref (r 13), .ref (r 14), .ref (r 15), .ref (r 16), .ref (r 17), .ref (r 18), .ref (r 19), .ref (r 20), .ref (r 21), .ref (r 22), .ref (r 23), .ref (r 24), .int 0, .int 0, .int 0, .int 0, .int 0, .int 0, .int 0, .int 0, .int 0, .ref (r 25), .ref (r 26), .ref (r 27), .int 0, .int 0, .ref (r 28), .int 0, .ref (r 29), .ref (r 30), .ref (r 31), .ref (r 32), .ref (r 33), .ref (r 34), .ref (r 35), .ref (r 36), .int 0, .int 0, .int 0, .ref (r 37), .ref (r 38)])), (r 25, .inl ((c 25), 26, .inl f25)), (r 37, .inl ((c 37), 78, .inl zf304)), (r 38, .inl ((c 38), 3, .inl f38))] H303 := by rw [ezf304]; exact hP
      have hD : va_D A [(r 0, .inr (8, [.ref (r 1), .ref (r 2), .int 0, .int 0, .int 0, .int (-1), .int 0, .int 0, .int 0, .int 0, .long 0, .ref (r 3), .ref (r 4), .ref (r 5), .ref (r 6), .ref (r 7), .ref (r 8), .ref (r 9), .ref (r 10), .ref (r 11), .ref (r 12), .ref (r 13), .ref (r 14), .ref (r 15), .ref (r 16), .ref (r 17), .ref (r 18), .ref (r 19), .ref (r 20), .ref (r 21), .ref (r 22), .ref (r 23), .ref (r 24), .int 0, .int 0, .int 0, .int 0, .int 0, .int 0, .int 0, .int 0, .int 0, .ref (r 25), .ref (r 26), .ref (r 27), .int 0, .int 0, .ref (r 28), .int 0, .ref (r 29), .ref (r 30), .ref (r 31), .ref (r 32), .ref (r 33), .ref (r 34), .ref (r 35), .ref (r 36), .int 0, .int 0, .int 0, .ref (r 37), .ref (r 38)])), (r 25, .inl ((c 25), 26, .inl f25)), (r 37, .inl ((c 37), 78, .inl zf304)), (r 38, .inl ((c 38), 3, .inl f38))] := by rw [ezf304]; exact hD
      refine lv_iinc (v := 21) (lv' := [(2, .int 21), (0, .ref (r 0)), (1, .int 2)]) hx hb dX9_image_36 hl (k := 0) rfl (by decide) (by decide) rfl (fun ls hl => ?_)
      refine lv_goto (tgt := 13) hx hb dX9_image_39 (by decide) ?_
      refine lv_iload_n hx hb dX9_image_13 rfl (lv_at hl 0 rfl) ?_
      refine lv_bipush (v := 26) hx hb dX9_image_14 (by decide) ?_
      refine lv_icmp_ge (tgt := 42) hx hb dX9_image_16 (by decide) (fun c_305 => absurd c_305 (by decide)) (fun c_305 => ?_)
      refine lv_aload_n hx hb dX9_image_19 rfl (lv_at hl 1 rfl) ?_
      refine va_get (D := (dC, dI)) (ci := 8) (v := .ref (r 37)) (C := RX9) (T := TX9) (N := 62) hx hb hG inX9 hown hK hP 0 rfl rfl 60 (by decide) (hG _ gw1231) (fun _ h9 => h9) rfl dX9_image_20 ?_
      refine lv_bipush (v := 26) hx hb dX9_image_23 (by decide) ?_
      refine lv_iload_n hx hb dX9_image_25 rfl (lv_at hl 2 rfl) ?_
      refine lv_imul hx hb dX9_image_26 ?_
      refine wt_c (v := 52) (by decide) ?_
      refine lv_iload_n hx hb dX9_image_27 rfl (lv_at hl 0 rfl) ?_
      refine lv_iadd hx hb dX9_image_28 ?_
      refine wt_c (v := 73) (by decide) ?_
      refine lv_aload_n hx hb dX9_image_29 rfl (lv_at hl 1 rfl) ?_
      refine va_get (D := (dC, dI)) (ci := 8) (v := .ref (r 25)) (C := RX9) (T := TX9) (N := 62) hx hb hG inX9 hown hK hP 0 rfl rfl 42 (by decide) (hG _ gw1213) (fun _ h9 => h9) rfl dX9_image_30 ?_
      refine lv_iload_n hx hb dX9_image_33 rfl (lv_at hl 0 rfl) ?_
      refine va_iald hx hb hK hP 1 0 rfl rfl (vin (by decide)) dX9_image_34 ?_
      refine lv_topi (fun x306 ex306 => ?_)
      refine va_iast hx hb hK hP hD hS 2 1 rfl rfl (vin (by decide)) dX9_image_35 (fun H307 locs hP hD hS => ?_)
      obtain ⟨zf308, ezf308⟩ : ∃ z : Nat → Int32, z = upd zf304 (73 : Int32).toNatClampNeg x306 := ⟨_, rfl⟩
      have hP : va_P (dC, dI) vwCl [(r 0, .inr (8, [.ref (r 1), .ref (r 2), .int 0, .int 0, .int 0, .int (-1), .int 0, .int 0, .int 0, .int 0, .long 0, .ref (r 3), .ref (r 4), .ref (r 5), .ref (r 6), .ref (r 7), .ref (r 8), .ref (r 9), .ref (r 10), .ref (r 11), .ref (r 12), .ref (r 13), .ref (r 14), .ref (r 15), .ref (r 16), .ref (r 17), .ref (r 18), .ref (r 19), .ref (r 20), .ref (r 21), .ref (r 22), .ref (r 23), .ref (r 24), .int 0, .int 0, .int 0, .int 0, .int 0, .int 0, .int 0, .int 0, .int 0, .ref (r 25), .ref (r 26), .ref (r 27), .int 0, .int 0, .ref (r 28), .int 0, .ref (r 29), .ref (r 30), .ref (r 31), .ref (r 32), .ref (r 33), .ref (r 34), .ref (r 35), .ref (r 36), .int 0, .int 0, .int 0, .ref (r 37), .ref (r 38)])), (r 25, .inl ((c 25), 26, .inl f25)), (r 37, .inl ((c 37), 78, .inl zf308)), (r 38, .inl ((c 38), 3, .inl f38))] H307 := by rw [ezf308]; exact hP
      have hD : va_D A [(r 0, .inr (8, [.ref (r 1), .ref (r 2), .int 0, .int 0, .int 0, .int (-1), .int 0, .int 0, .int 0, .int 0, .long 0, .ref (r 3), .ref (r 4), .ref (r 5), .ref (r 6), .ref (r 7), .ref (r 8), .ref (r 9), .ref (r 10), .ref (r 11), .ref (r 12), .ref (r 13), .ref (r 14), .ref (r 15), .ref (r 16), .ref (r 17), .ref (r 18), .ref (r 19), .ref (r 20), .ref (r 21), .ref (r 22), .ref (r 23), .ref (r 24), .int 0, .int 0, .int 0, .int 0, .int 0, .int 0, .int 0, .int 0, .int 0, .ref (r 25), .ref (r 26), .ref (r 27), .int 0, .int 0, .ref (r 28), .int 0, .ref (r 29), .ref (r 30), .ref (r 31), .ref (r 32), .ref (r 33), .ref (r 34), .ref (r 35), .ref (r 36), .int 0, .int 0, .int 0, .ref (r 37), .ref (r 38)])), (r 25, .inl ((c 25), 26, .inl f25)), (r 37, .inl ((c 37), 78, .inl zf308)), (r 38, .inl ((c 38), 3, .inl f38))] := by rw [ezf308]; exact hD
      refine lv_iinc (v := 22) (lv' := [(2, .int 22), (0, .ref (r 0)), (1, .int 2)]) hx hb dX9_image_36 hl (k := 0) rfl (by decide) (by decide) rfl (fun ls hl => ?_)
      refine lv_goto (tgt := 13) hx hb dX9_image_39 (by decide) ?_
      refine lv_iload_n hx hb dX9_image_13 rfl (lv_at hl 0 rfl) ?_
      refine lv_bipush (v := 26) hx hb dX9_image_14 (by decide) ?_
      refine lv_icmp_ge (tgt := 42) hx hb dX9_image_16 (by decide) (fun c_309 => absurd c_309 (by decide)) (fun c_309 => ?_)
      refine lv_aload_n hx hb dX9_image_19 rfl (lv_at hl 1 rfl) ?_
      refine va_get (D := (dC, dI)) (ci := 8) (v := .ref (r 37)) (C := RX9) (T := TX9) (N := 62) hx hb hG inX9 hown hK hP 0 rfl rfl 60 (by decide) (hG _ gw1231) (fun _ h9 => h9) rfl dX9_image_20 ?_
      refine lv_bipush (v := 26) hx hb dX9_image_23 (by decide) ?_
      refine lv_iload_n hx hb dX9_image_25 rfl (lv_at hl 2 rfl) ?_
      refine lv_imul hx hb dX9_image_26 ?_
      refine wt_c (v := 52) (by decide) ?_
      refine lv_iload_n hx hb dX9_image_27 rfl (lv_at hl 0 rfl) ?_
      refine lv_iadd hx hb dX9_image_28 ?_
      refine wt_c (v := 74) (by decide) ?_
      refine lv_aload_n hx hb dX9_image_29 rfl (lv_at hl 1 rfl) ?_
      refine va_get (D := (dC, dI)) (ci := 8) (v := .ref (r 25)) (C := RX9) (T := TX9) (N := 62) hx hb hG inX9 hown hK hP 0 rfl rfl 42 (by decide) (hG _ gw1213) (fun _ h9 => h9) rfl dX9_image_30 ?_
      refine lv_iload_n hx hb dX9_image_33 rfl (lv_at hl 0 rfl) ?_
      refine va_iald hx hb hK hP 1 0 rfl rfl (vin (by decide)) dX9_image_34 ?_
      refine lv_topi (fun x310 ex310 => ?_)
      refine va_iast hx hb hK hP hD hS 2 1 rfl rfl (vin (by decide)) dX9_image_35 (fun H311 locs hP hD hS => ?_)
      obtain ⟨zf312, ezf312⟩ : ∃ z : Nat → Int32, z = upd zf308 (74 : Int32).toNatClampNeg x310 := ⟨_, rfl⟩
      have hP : va_P (dC, dI) vwCl [(r 0, .inr (8, [.ref (r 1), .ref (r 2), .int 0, .int 0, .int 0, .int (-1), .int 0, .int 0, .int 0, .int 0, .long 0, .ref (r 3), .ref (r 4), .ref (r 5), .ref (r 6), .ref (r 7), .ref (r 8), .ref (r 9), .ref (r 10), .ref (r 11), .ref (r 12), .ref (r 13), .ref (r 14), .ref (r 15), .ref (r 16), .ref (r 17), .ref (r 18), .ref (r 19), .ref (r 20), .ref (r 21), .ref (r 22), .ref (r 23), .ref (r 24), .int 0, .int 0, .int 0, .int 0, .int 0, .int 0, .int 0, .int 0, .int 0, .ref (r 25), .ref (r 26), .ref (r 27), .int 0, .int 0, .ref (r 28), .int 0, .ref (r 29), .ref (r 30), .ref (r 31), .ref (r 32), .ref (r 33), .ref (r 34), .ref (r 35), .ref (r 36), .int 0, .int 0, .int 0, .ref (r 37), .ref (r 38)])), (r 25, .inl ((c 25), 26, .inl f25)), (r 37, .inl ((c 37), 78, .inl zf312)), (r 38, .inl ((c 38), 3, .inl f38))] H311 := by rw [ezf312]; exact hP
      have hD : va_D A [(r 0, .inr (8, [.ref (r 1), .ref (r 2), .int 0, .int 0, .int 0, .int (-1), .int 0, .int 0, .int 0, .int 0, .long 0, .ref (r 3), .ref (r 4), .ref (r 5), .ref (r 6), .ref (r 7), .ref (r 8), .ref (r 9), .ref (r 10), .ref (r 11), .ref (r 12), .ref (r 13), .ref (r 14), .ref (r 15), .ref (r 16), .ref (r 17), .ref (r 18), .ref (r 19), .ref (r 20), .ref (r 21), .ref (r 22), .ref (r 23), .ref (r 24), .int 0, .int 0, .int 0, .int 0, .int 0, .int 0, .int 0, .int 0, .int 0, .ref (r 25), .ref (r 26), .ref (r 27), .int 0, .int 0, .ref (r 28), .int 0, .ref (r 29), .ref (r 30), .ref (r 31), .ref (r 32), .ref (r 33), .ref (r 34), .ref (r 35), .ref (r 36), .int 0, .int 0, .int 0, .ref (r 37), .ref (r 38)])), (r 25, .inl ((c 25), 26, .inl f25)), (r 37, .inl ((c 37), 78, .inl zf312)), (r 38, .inl ((c 38), 3, .inl f38))] := by rw [ezf312]; exact hD
      refine lv_iinc (v := 23) (lv' := [(2, .int 23), (0, .ref (r 0)), (1, .int 2)]) hx hb dX9_image_36 hl (k := 0) rfl (by decide) (by decide) rfl (fun ls hl => ?_)
      refine lv_goto (tgt := 13) hx hb dX9_image_39 (by decide) ?_
      refine lv_iload_n hx hb dX9_image_13 rfl (lv_at hl 0 rfl) ?_
      refine lv_bipush (v := 26) hx hb dX9_image_14 (by decide) ?_
      refine lv_icmp_ge (tgt := 42) hx hb dX9_image_16 (by decide) (fun c_313 => absurd c_313 (by decide)) (fun c_313 => ?_)
      refine lv_aload_n hx hb dX9_image_19 rfl (lv_at hl 1 rfl) ?_
      refine va_get (D := (dC, dI)) (ci := 8) (v := .ref (r 37)) (C := RX9) (T := TX9) (N := 62) hx hb hG inX9 hown hK hP 0 rfl rfl 60 (by decide) (hG _ gw1231) (fun _ h9 => h9) rfl dX9_image_20 ?_
      refine lv_bipush (v := 26) hx hb dX9_image_23 (by decide) ?_
      refine lv_iload_n hx hb dX9_image_25 rfl (lv_at hl 2 rfl) ?_
      refine lv_imul hx hb dX9_image_26 ?_
      refine wt_c (v := 52) (by decide) ?_
      refine lv_iload_n hx hb dX9_image_27 rfl (lv_at hl 0 rfl) ?_
      refine lv_iadd hx hb dX9_image_28 ?_
      refine wt_c (v := 75) (by decide) ?_
      refine lv_aload_n hx hb dX9_image_29 rfl (lv_at hl 1 rfl) ?_
      refine va_get (D := (dC, dI)) (ci := 8) (v := .ref (r 25)) (C := RX9) (T := TX9) (N := 62) hx hb hG inX9 hown hK hP 0 rfl rfl 42 (by decide) (hG _ gw1213) (fun _ h9 => h9) rfl dX9_image_30 ?_
      refine lv_iload_n hx hb dX9_image_33 rfl (lv_at hl 0 rfl) ?_
      refine va_iald hx hb hK hP 1 0 rfl rfl (vin (by decide)) dX9_image_34 ?_
      refine lv_topi (fun x314 ex314 => ?_)
      refine va_iast hx hb hK hP hD hS 2 1 rfl rfl (vin (by decide)) dX9_image_35 (fun H315 locs hP hD hS => ?_)
      obtain ⟨zf316, ezf316⟩ : ∃ z : Nat → Int32, z = upd zf312 (75 : Int32).toNatClampNeg x314 := ⟨_, rfl⟩
      have hP : va_P (dC, dI) vwCl [(r 0, .inr (8, [.ref (r 1), .ref (r 2), .int 0, .int 0, .int 0, .int (-1), .int 0, .int 0, .int 0, .int 0, .long 0, .ref (r 3), .ref (r 4), .ref (r 5), .ref (r 6), .ref (r 7), .ref (r 8), .ref (r 9), .ref (r 10), .ref (r 11), .ref (r 12), .ref (r 13), .ref (r 14), .ref (r 15), .ref (r 16), .ref (r 17), .ref (r 18), .ref (r 19), .ref (r 20), .ref (r 21), .ref (r 22), .ref (r 23), .ref (r 24), .int 0, .int 0, .int 0, .int 0, .int 0, .int 0, .int 0, .int 0, .int 0, .ref (r 25), .ref (r 26), .ref (r 27), .int 0, .int 0, .ref (r 28), .int 0, .ref (r 29), .ref (r 30), .ref (r 31), .ref (r 32), .ref (r 33), .ref (r 34), .ref (r 35), .ref (r 36), .int 0, .int 0, .int 0, .ref (r 37), .ref (r 38)])), (r 25, .inl ((c 25), 26, .inl f25)), (r 37, .inl ((c 37), 78, .inl zf316)), (r 38, .inl ((c 38), 3, .inl f38))] H315 := by rw [ezf316]; exact hP
      have hD : va_D A [(r 0, .inr (8, [.ref (r 1), .ref (r 2), .int 0, .int 0, .int 0, .int (-1), .int 0, .int 0, .int 0, .int 0, .long 0, .ref (r 3), .ref (r 4), .ref (r 5), .ref (r 6), .ref (r 7), .ref (r 8), .ref (r 9), .ref (r 10), .ref (r 11), .ref (r 12), .ref (r 13), .ref (r 14), .ref (r 15), .ref (r 16), .ref (r 17), .ref (r 18), .ref (r 19), .ref (r 20), .ref (r 21), .ref (r 22), .ref (r 23), .ref (r 24), .int 0, .int 0, .int 0, .int 0, .int 0, .int 0, .int 0, .int 0, .int 0, .ref (r 25), .ref (r 26), .ref (r 27), .int 0, .int 0, .ref (r 28), .int 0, .ref (r 29), .ref (r 30), .ref (r 31), .ref (r 32), .ref (r 33), .ref (r 34), .ref (r 35), .ref (r 36), .int 0, .int 0, .int 0, .ref (r 37), .ref (r 38)])), (r 25, .inl ((c 25), 26, .inl f25)), (r 37, .inl ((c 37), 78, .inl zf316)), (r 38, .inl ((c 38), 3, .inl f38))] := by rw [ezf316]; exact hD
      refine lv_iinc (v := 24) (lv' := [(2, .int 24), (0, .ref (r 0)), (1, .int 2)]) hx hb dX9_image_36 hl (k := 0) rfl (by decide) (by decide) rfl (fun ls hl => ?_)
      refine lv_goto (tgt := 13) hx hb dX9_image_39 (by decide) ?_
      refine lv_iload_n hx hb dX9_image_13 rfl (lv_at hl 0 rfl) ?_
      refine lv_bipush (v := 26) hx hb dX9_image_14 (by decide) ?_
      refine lv_icmp_ge (tgt := 42) hx hb dX9_image_16 (by decide) (fun c_317 => absurd c_317 (by decide)) (fun c_317 => ?_)
      refine lv_aload_n hx hb dX9_image_19 rfl (lv_at hl 1 rfl) ?_
      refine va_get (D := (dC, dI)) (ci := 8) (v := .ref (r 37)) (C := RX9) (T := TX9) (N := 62) hx hb hG inX9 hown hK hP 0 rfl rfl 60 (by decide) (hG _ gw1231) (fun _ h9 => h9) rfl dX9_image_20 ?_
      refine lv_bipush (v := 26) hx hb dX9_image_23 (by decide) ?_
      refine lv_iload_n hx hb dX9_image_25 rfl (lv_at hl 2 rfl) ?_
      refine lv_imul hx hb dX9_image_26 ?_
      refine wt_c (v := 52) (by decide) ?_
      refine lv_iload_n hx hb dX9_image_27 rfl (lv_at hl 0 rfl) ?_
      refine lv_iadd hx hb dX9_image_28 ?_
      refine wt_c (v := 76) (by decide) ?_
      refine lv_aload_n hx hb dX9_image_29 rfl (lv_at hl 1 rfl) ?_
      refine va_get (D := (dC, dI)) (ci := 8) (v := .ref (r 25)) (C := RX9) (T := TX9) (N := 62) hx hb hG inX9 hown hK hP 0 rfl rfl 42 (by decide) (hG _ gw1213) (fun _ h9 => h9) rfl dX9_image_30 ?_
      refine lv_iload_n hx hb dX9_image_33 rfl (lv_at hl 0 rfl) ?_
      refine va_iald hx hb hK hP 1 0 rfl rfl (vin (by decide)) dX9_image_34 ?_
      refine wt_c (v := 0) hf25_24 ?_
      refine va_iast hx hb hK hP hD hS 2 1 rfl rfl (vin (by decide)) dX9_image_35 (fun H318 locs hP hD hS => ?_)
      obtain ⟨zf319, ezf319⟩ : ∃ z : Nat → Int32, z = upd zf316 (76 : Int32).toNatClampNeg 0 := ⟨_, rfl⟩
      have hP : va_P (dC, dI) vwCl [(r 0, .inr (8, [.ref (r 1), .ref (r 2), .int 0, .int 0, .int 0, .int (-1), .int 0, .int 0, .int 0, .int 0, .long 0, .ref (r 3), .ref (r 4), .ref (r 5), .ref (r 6), .ref (r 7), .ref (r 8), .ref (r 9), .ref (r 10), .ref (r 11), .ref (r 12), .ref (r 13), .ref (r 14), .ref (r 15), .ref (r 16), .ref (r 17), .ref (r 18), .ref (r 19), .ref (r 20), .ref (r 21), .ref (r 22), .ref (r 23), .ref (r 24), .int 0, .int 0, .int 0, .int 0, .int 0, .int 0, .int 0, .int 0, .int 0, .ref (r 25), .ref (r 26), .ref (r 27), .int 0, .int 0, .ref (r 28), .int 0, .ref (r 29), .ref (r 30), .ref (r 31), .ref (r 32), .ref (r 33), .ref (r 34), .ref (r 35), .ref (r 36), .int 0, .int 0, .int 0, .ref (r 37), .ref (r 38)])), (r 25, .inl ((c 25), 26, .inl f25)), (r 37, .inl ((c 37), 78, .inl zf319)), (r 38, .inl ((c 38), 3, .inl f38))] H318 := by rw [ezf319]; exact hP
      have hD : va_D A [(r 0, .inr (8, [.ref (r 1), .ref (r 2), .int 0, .int 0, .int 0, .int (-1), .int 0, .int 0, .int 0, .int 0, .long 0, .ref (r 3), .ref (r 4), .ref (r 5), .ref (r 6), .ref (r 7), .ref (r 8), .ref (r 9), .ref (r 10), .ref (r 11), .ref (r 12), .ref (r 13), .ref (r 14), .ref (r 15), .ref (r 16), .ref (r 17), .ref (r 18), .ref (r 19), .ref (r 20), .ref (r 21), .ref (r 22), .ref (r 23), .ref (r 24), .int 0, .int 0, .int 0, .int 0, .int 0, .int 0, .int 0, .int 0, .int 0, .ref (r 25), .ref (r 26), .ref (r 27), .int 0, .int 0, .ref (r 28), .int 0, .ref (r 29), .ref (r 30), .ref (r 31), .ref (r 32), .ref (r 33), .ref (r 34), .ref (r 35), .ref (r 36), .int 0, .int 0, .int 0, .ref (r 37), .ref (r 38)])), (r 25, .inl ((c 25), 26, .inl f25)), (r 37, .inl ((c 37), 78, .inl zf319)), (r 38, .inl ((c 38), 3, .inl f38))] := by rw [ezf319]; exact hD
      refine lv_iinc (v := 25) (lv' := [(2, .int 25), (0, .ref (r 0)), (1, .int 2)]) hx hb dX9_image_36 hl (k := 0) rfl (by decide) (by decide) rfl (fun ls hl => ?_)
      refine lv_goto (tgt := 13) hx hb dX9_image_39 (by decide) ?_
      refine lv_iload_n hx hb dX9_image_13 rfl (lv_at hl 0 rfl) ?_
      refine lv_bipush (v := 26) hx hb dX9_image_14 (by decide) ?_
      refine lv_icmp_ge (tgt := 42) hx hb dX9_image_16 (by decide) (fun c_320 => absurd c_320 (by decide)) (fun c_320 => ?_)
      refine lv_aload_n hx hb dX9_image_19 rfl (lv_at hl 1 rfl) ?_
      refine va_get (D := (dC, dI)) (ci := 8) (v := .ref (r 37)) (C := RX9) (T := TX9) (N := 62) hx hb hG inX9 hown hK hP 0 rfl rfl 60 (by decide) (hG _ gw1231) (fun _ h9 => h9) rfl dX9_image_20 ?_
      refine lv_bipush (v := 26) hx hb dX9_image_23 (by decide) ?_
      refine lv_iload_n hx hb dX9_image_25 rfl (lv_at hl 2 rfl) ?_
      refine lv_imul hx hb dX9_image_26 ?_
      refine wt_c (v := 52) (by decide) ?_
      refine lv_iload_n hx hb dX9_image_27 rfl (lv_at hl 0 rfl) ?_
      refine lv_iadd hx hb dX9_image_28 ?_
      refine wt_c (v := 77) (by decide) ?_
      refine lv_aload_n hx hb dX9_image_29 rfl (lv_at hl 1 rfl) ?_
      refine va_get (D := (dC, dI)) (ci := 8) (v := .ref (r 25)) (C := RX9) (T := TX9) (N := 62) hx hb hG inX9 hown hK hP 0 rfl rfl 42 (by decide) (hG _ gw1213) (fun _ h9 => h9) rfl dX9_image_30 ?_
      refine lv_iload_n hx hb dX9_image_33 rfl (lv_at hl 0 rfl) ?_
      refine va_iald hx hb hK hP 1 0 rfl rfl (vin (by decide)) dX9_image_34 ?_
      refine wt_c (v := 0) hf25_25 ?_
      refine va_iast hx hb hK hP hD hS 2 1 rfl rfl (vin (by decide)) dX9_image_35 (fun H321 locs hP hD hS => ?_)
      obtain ⟨zf322, ezf322⟩ : ∃ z : Nat → Int32, z = upd zf319 (77 : Int32).toNatClampNeg 0 := ⟨_, rfl⟩
      have hP : va_P (dC, dI) vwCl [(r 0, .inr (8, [.ref (r 1), .ref (r 2), .int 0, .int 0, .int 0, .int (-1), .int 0, .int 0, .int 0, .int 0, .long 0, .ref (r 3), .ref (r 4), .ref (r 5), .ref (r 6), .ref (r 7), .ref (r 8), .ref (r 9), .ref (r 10), .ref (r 11), .ref (r 12), .ref (r 13), .ref (r 14), .ref (r 15), .ref (r 16), .ref (r 17), .ref (r 18), .ref (r 19), .ref (r 20), .ref (r 21), .ref (r 22), .ref (r 23), .ref (r 24), .int 0, .int 0, .int 0, .int 0, .int 0, .int 0, .int 0, .int 0, .int 0, .ref (r 25), .ref (r 26), .ref (r 27), .int 0, .int 0, .ref (r 28), .int 0, .ref (r 29), .ref (r 30), .ref (r 31), .ref (r 32), .ref (r 33), .ref (r 34), .ref (r 35), .ref (r 36), .int 0, .int 0, .int 0, .ref (r 37), .ref (r 38)])), (r 25, .inl ((c 25), 26, .inl f25)), (r 37, .inl ((c 37), 78, .inl zf322)), (r 38, .inl ((c 38), 3, .inl f38))] H321 := by rw [ezf322]; exact hP
      have hD : va_D A [(r 0, .inr (8, [.ref (r 1), .ref (r 2), .int 0, .int 0, .int 0, .int (-1), .int 0, .int 0, .int 0, .int 0, .long 0, .ref (r 3), .ref (r 4), .ref (r 5), .ref (r 6), .ref (r 7), .ref (r 8), .ref (r 9), .ref (r 10), .ref (r 11), .ref (r 12), .ref (r 13), .ref (r 14), .ref (r 15), .ref (r 16), .ref (r 17), .ref (r 18), .ref (r 19), .ref (r 20), .ref (r 21), .ref (r 22), .ref (r 23), .ref (r 24), .int 0, .int 0, .int 0, .int 0, .int 0, .int 0, .int 0, .int 0, .int 0, .ref (r 25), .ref (r 26), .ref (r 27), .int 0, .int 0, .ref (r 28), .int 0, .ref (r 29), .ref (r 30), .ref (r 31), .ref (r 32), .ref (r 33), .ref (r 34), .ref (r 35), .ref (r 36), .int 0, .int 0, .int 0, .ref (r 37), .ref (r 38)])), (r 25, .inl ((c 25), 26, .inl f25)), (r 37, .inl ((c 37), 78, .inl zf322)), (r 38, .inl ((c 38), 3, .inl f38))] := by rw [ezf322]; exact hD
      refine lv_iinc (v := 26) (lv' := [(2, .int 26), (0, .ref (r 0)), (1, .int 2)]) hx hb dX9_image_36 hl (k := 0) rfl (by decide) (by decide) rfl (fun ls hl => ?_)
      refine lv_goto (tgt := 13) hx hb dX9_image_39 (by decide) ?_
      refine lv_iload_n hx hb dX9_image_13 rfl (lv_at hl 0 rfl) ?_
      refine lv_bipush (v := 26) hx hb dX9_image_14 (by decide) ?_
      refine lv_icmp_ge (tgt := 42) hx hb dX9_image_16 (by decide) (fun c_323 => ?_) (fun c_323 => absurd (by decide) c_323)
      refine lv_aload_n hx hb dX9_image_42 rfl (lv_at hl 1 rfl) ?_
      refine va_get (D := (dC, dI)) (ci := 8) (v := .ref (r 38)) (C := RX9) (T := TX9) (N := 62) hx hb hG inX9 hown hK hP 0 rfl rfl 61 (by decide) (hG _ gw1232) (fun _ h9 => h9) rfl dX9_image_43 ?_
      refine lv_iload_n hx hb dX9_image_46 rfl (lv_at hl 2 rfl) ?_
      refine lv_iconst (v := 1) hx hb dX9_image_47 (by decide) ?_
      refine va_zast hx hb hK hP hD hS 3 2 rfl rfl (vin (by decide)) dX9_image_48 (fun H324 locs hP hD hS => ?_)
      obtain ⟨zf325, ezf325⟩ : ∃ z : Nat → Int32, z = upd f38 (2 : Int32).toNatClampNeg (vp_nar .boolean 1) := ⟨_, rfl⟩
      have hP : va_P (dC, dI) vwCl [(r 0, .inr (8, [.ref (r 1), .ref (r 2), .int 0, .int 0, .int 0, .int (-1), .int 0, .int 0, .int 0, .int 0, .long 0, .ref (r 3), .ref (r 4), .ref (r 5), .ref (r 6), .ref (r 7), .ref (r 8), .ref (r 9), .ref (r 10), .ref (r 11), .ref (r 12), .ref (r 13), .ref (r 14), .ref (r 15), .ref (r 16), .ref (r 17), .ref (r 18), .ref (r 19), .ref (r 20), .ref (r 21), .ref (r 22), .ref (r 23), .ref (r 24), .int 0, .int 0, .int 0, .int 0, .int 0, .int 0, .int 0, .int 0, .int 0, .ref (r 25), .ref (r 26), .ref (r 27), .int 0, .int 0, .ref (r 28), .int 0, .ref (r 29), .ref (r 30), .ref (r 31), .ref (r 32), .ref (r 33), .ref (r 34), .ref (r 35), .ref (r 36), .int 0, .int 0, .int 0, .ref (r 37), .ref (r 38)])), (r 25, .inl ((c 25), 26, .inl f25)), (r 37, .inl ((c 37), 78, .inl zf322)), (r 38, .inl ((c 38), 3, .inl zf325))] H324 := by rw [ezf325]; exact hP
      have hD : va_D A [(r 0, .inr (8, [.ref (r 1), .ref (r 2), .int 0, .int 0, .int 0, .int (-1), .int 0, .int 0, .int 0, .int 0, .long 0, .ref (r 3), .ref (r 4), .ref (r 5), .ref (r 6), .ref (r 7), .ref (r 8), .ref (r 9), .ref (r 10), .ref (r 11), .ref (r 12), .ref (r 13), .ref (r 14), .ref (r 15), .ref (r 16), .ref (r 17), .ref (r 18), .ref (r 19), .ref (r 20), .ref (r 21), .ref (r 22), .ref (r 23), .ref (r 24), .int 0, .int 0, .int 0, .int 0, .int 0, .int 0, .int 0, .int 0, .int 0, .ref (r 25), .ref (r 26), .ref (r 27), .int 0, .int 0, .ref (r 28), .int 0, .ref (r 29), .ref (r 30), .ref (r 31), .ref (r 32), .ref (r 33), .ref (r 34), .ref (r 35), .ref (r 36), .int 0, .int 0, .int 0, .ref (r 37), .ref (r 38)])), (r 25, .inl ((c 25), 26, .inl f25)), (r 37, .inl ((c 37), 78, .inl zf322)), (r 38, .inl ((c 38), 3, .inl zf325))] := by rw [ezf325]; exact hD
      have g326 : zf325 2 = 1 := ((congrFun ezf325 2).trans ((upd_eq1 (by decide)).trans (by decide)))
      refine lv_aload_n hx hb dX9_image_49 rfl (lv_at hl 1 rfl) ?_
      refine va_get (D := (dC, dI)) (ci := 8) (v := .ref (r 25)) (C := RX9) (T := TX9) (N := 62) hx hb hG inX9 hown hK hP 0 rfl rfl 42 (by decide) (hG _ gw1213) (fun _ h9 => h9) rfl dX9_image_50 ?_
      refine lv_bipush (v := 24) hx hb dX9_image_53 (by decide) ?_
      refine va_iald hx hb hK hP 1 0 rfl rfl (vin (by decide)) dX9_image_55 ?_
      refine wt_c (v := 0) hf25_24 ?_
      exact W.iret (v := 0) hx hb hr (fun t ht hW => ⟨⟨0, 4, rfl, (Or.inr (Or.inr (Or.inr (Or.inr ⟨rfl, rfl, rfl⟩)))), trivial⟩, hS.F ht⟩) hS.2.2 dX9_image_56
