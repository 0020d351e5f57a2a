set_option maxHeartbeats 4000000 in
set_option maxRecDepth 100000 in
theorem law_12 {p : Program} {e : Env} {s : State} {m : MethodId} {below : List Frame} {meth : Method} {c : Code} (l : Launch) {b : Nat} {xs : Nat → Int32} (C0 : lw_At p s m meth c b 6 xs) (dC : Nat → ClassId) (dI : Nat → Nat → Nat) (rX rM : Nat → Nat) (cX cM : Nat → ClassId) (fX fM : Nat → Nat → Int32) (gX gM : Nat → Nat → Int64) (hfM_5_0 : fM 5 0 = 0) (hfM_5_1 : fM 5 1 = 0) {H : Heap} {locs : List Loc} (hK : va_K (dC, dI) vwCl [((cM 5), .int)] s) (hP : va_P (dC, dI) vwCl [(rX 0, .inr (7, [.ref (rX 1), .int 0, .ref (rX 2), .ref (rX 55), .ref (rX 57), .ref (rX 30), .ref (rX 56), .ref (rX 36), .ref (rX 37), .ref (rX 38), .int 0, .ref (rX 51), .int 0, .ref (rX 52), .ref (rX 53), .ref (rX 54)])), (rX 55, .inr (3, [.int 1, .int 0, .int 0, .int 0, .ref (rX 20), .ref (rX 21), .ref (rX 22), .int 0, .ref (rX 23), .ref (rX 24), .ref (rX 25), .int 0, .ref (rX 28), .ref (rX 27)])), (rM 0, .inr (8, [.ref (rM 1), .ref (rM 2), .int 0, .int 0, .int 0, .int (-1), .int 0, .int 0, .int 0, .int 0, .long 0, .ref (rM 3), .ref (rM 4), .ref (rM 5), .ref (rM 6), .ref (rM 7), .ref (rM 8), .ref (rM 9), .ref (rM 10), .ref (rM 11), .ref (rM 12), .ref (rM 13), .ref (rM 14), .ref (rM 15), .ref (rM 16), .ref (rM 17), .ref (rM 18), .ref (rM 19), .ref (rM 20), .ref (rM 21), .ref (rM 22), .ref (rM 23), .ref (rM 24), .int 0, .int 0, .int 0, .int 0, .int 0, .int 0, .int 0, .int 0, .int 0, .ref (rM 25), .ref (rM 26), .ref (rM 27), .int 0, .int 0, .ref (rM 28), .int 0, .ref (rM 29), .ref (rM 30), .ref (rM 31), .ref (rM 32), .ref (rM 33), .ref (rM 34), .ref (rM 35), .ref (rM 36), .int 0, .int 0, .int 0, .ref (rM 37), .ref (rM 38)])), (rM 5, .inl ((cM 5), 2, .inl (fM 5)))] H) (hD : va_D (fun q : Nat => s.heap.size ≤ q) [(rX 0, .inr (7, [.ref (rX 1), .int 0, .ref (rX 2), .ref (rX 55), .ref (rX 57), .ref (rX 30), .ref (rX 56), .ref (rX 36), .ref (rX 37), .ref (rX 38), .int 0, .ref (rX 51), .int 0, .ref (rX 52), .ref (rX 53), .ref (rX 54)])), (rX 55, .inr (3, [.int 1, .int 0, .int 0, .int 0, .ref (rX 20), .ref (rX 21), .ref (rX 22), .int 0, .ref (rX 23), .ref (rX 24), .ref (rX 25), .int 0, .ref (rX 28), .ref (rX 27)])), (rM 0, .inr (8, [.ref (rM 1), .ref (rM 2), .int 0, .int 0, .int 0, .int (-1), .int 0, .int 0, .int 0, .int 0, .long 0, .ref (rM 3), .ref (rM 4), .ref (rM 5), .ref (rM 6), .ref (rM 7), .ref (rM 8), .ref (rM 9), .ref (rM 10), .ref (rM 11), .ref (rM 12), .ref (rM 13), .ref (rM 14), .ref (rM 15), .ref (rM 16), .ref (rM 17), .ref (rM 18), .ref (rM 19), .ref (rM 20), .ref (rM 21), .ref (rM 22), .ref (rM 23), .ref (rM 24), .int 0, .int 0, .int 0, .int 0, .int 0, .int 0, .int 0, .int 0, .int 0, .ref (rM 25), .ref (rM 26), .ref (rM 27), .int 0, .int 0, .ref (rM 28), .int 0, .ref (rM 29), .ref (rM 30), .ref (rM 31), .ref (rM 32), .ref (rM 33), .ref (rM 34), .ref (rM 35), .ref (rM 36), .int 0, .int 0, .int 0, .ref (rM 37), .ref (rM 38)])), (rM 5, .inl ((cM 5), 2, .inl (fM 5)))]) (hS : va_S (fun q : Nat => s.heap.size ≤ q) s.heap H locs) {ls : Array Slot} (hl : lv_has ls 4 [(3, .int 0), (2, .ref (rM 0)), (1, .ref (rX 0)), (0, .ref b)]) : W p l e room_1 s m #[Value.ref b] below meth c H locs 103 20190 (lw_Z below #[Value.ref b] s) (F0 m 586 ls []) := by
  obtain ⟨hx, hb, hr, hml, hown, hts, hX, hbl, hlocks, hgv⟩ := id C0
  have hown : s.vm.findClass RL = some m.cls := hown
  have hG : ∀ w ∈ GW, w.before _ s = true := fun w h => hts w (List.mem_filter.mp h).1
  have hA : ∀ q : Nat, s.heap.size ≤ q → (fun q : Nat => s.heap.size ≤ q) q := fun _ h => h
  have hbA : ¬ (fun q : Nat => s.heap.size ≤ q) b := Nat.not_le.mpr hbl
  refine lv_aload_n hx hb dL_law_586 rfl (lv_at hl 2 rfl) ?_
  refine lv_aload_n hx hb dL_law_587 rfl (lv_at hl 3 rfl) ?_
  refine lv_iload_n hx hb dL_law_588 rfl (lv_at hl 0 rfl) ?_
  refine lv_iconst (v := 1) hx hb dL_law_589 (by decide) ?_
  refine lv_iadd hx hb dL_law_590 ?_
  refine wt_c (v := 1) (by decide) ?_
  refine va_sld hx hb hX hbl hbA hS (vin (by decide)) dL_law_591 ?_
  refine wt_c (v := xs 1) (congrArg xs (by decide)) ?_
  refine lv_aload_n hx hb dL_law_592 rfl (lv_at hl 3 rfl) ?_
  refine lv_iload_n hx hb dL_law_593 rfl (lv_at hl 0 rfl) ?_
  refine lv_iconst (v := 2) hx hb dL_law_594 (by decide) ?_
  refine lv_iadd hx hb dL_law_595 ?_
  refine wt_c (v := 2) (by decide) ?_
  refine va_sld hx hb hX hbl hbA hS (vin (by decide)) dL_law_596 ?_
  refine wt_c (v := xs 2) (congrArg xs (by decide)) ?_
  have hPc := hP.sub (ws' := [(rX 0, .inr (7, [.ref (rX 1), .int 0, .ref (rX 2), .ref (rX 55), .ref (rX 57), .ref (rX 30), .ref (rX 56), .ref (rX 36), .ref (rX 37), .ref (rX 38), .int 0, .ref (rX 51), .int 0, .ref (rX 52), .ref (rX 53), .ref (rX 54)])), (rX 55, .inr (3, [.int 1, .int 0, .int 0, .int 0, .ref (rX 20), .ref (rX 21), .ref (rX 22), .int 0, .ref (rX 23), .ref (rX 24), .ref (rX 25), .int 0, .ref (rX 28), .ref (rX 27)]))]) [0, 1] rfl
  have hKc := hK.sub (tys' := []) [] rfl
  have hDc := hD.sub (ws' := [(rX 0, .inr (7, [.ref (rX 1), .int 0, .ref (rX 2), .ref (rX 55), .ref (rX 57), .ref (rX 30), .ref (rX 56), .ref (rX 36), .ref (rX 37), .ref (rX 38), .int 0, .ref (rX 51), .int 0, .ref (rX 52), .ref (rX 53), .ref (rX 54)])), (rX 55, .inr (3, [.int 1, .int 0, .int 0, .int 0, .ref (rX 20), .ref (rX 21), .ref (rX 22), .int 0, .ref (rX 23), .ref (rX 24), .ref (rX 25), .int 0, .ref (rX 28), .ref (rX 27)]))]) [0, 1] (by decide) rfl
  have hFc := va_free (wc := [(rX 0, .inr (7, [.ref (rX 1), .int 0, .ref (rX 2), .ref (rX 55), .ref (rX 57), .ref (rX 30), .ref (rX 56), .ref (rX 36), .ref (rX 37), .ref (rX 38), .int 0, .ref (rX 51), .int 0, .ref (rX 52), .ref (rX 53), .ref (rX 54)])), (rX 55, .inr (3, [.int 1, .int 0, .int 0, .int 0, .ref (rX 20), .ref (rX 21), .ref (rX 22), .int 0, .ref (rX 23), .ref (rX 24), .ref (rX 25), .int 0, .ref (rX 28), .ref (rX 27)]))]) hD hS hA [0, 1] rfl
  refine va_calli (va_runV (As := [.int (xs 1), .int (xs 2)]) (rest := []) ⟨hx, hb, hml, hown, hG⟩ (kX8_fill l dC dI rX cX (xs 1) (xs 2) H.size ) (cwV 2 hG (goodV gw814 gw815 gw816 gw129 gw817) rfl rfl rfl hd_X8_fill ⟨(Nat.le_of_ble_eq_true rfl), (Nat.le_of_ble_eq_true rfl)⟩) ⟨fbW, va_recv hKc hPc (ci := 7) (q0 := 0) rfl rfl, pW_in hPc hKc hDc⟩ rfl rfl hl.1 rfl (lv_room (Nat.le_of_ble_eq_true rfl)) dL_law_597 ⟨(Nat.le_of_ble_eq_true rfl), (Nat.le_of_ble_eq_true rfl)⟩) hS (fun q _ h => hFc q h) hFc (fun r_2 u t H1 locs ht hvm hw hB hz1 hk1 hS => ?_)
  obtain ⟨hP, hD⟩ := va_join (wr := [(rM 0, .inr (8, [.ref (rM 1), .ref (rM 2), .int 0, .int 0, .int 0, .int (-1), .int 0, .int 0, .int 0, .int 0, .long 0, .ref (rM 3), .ref (rM 4), .ref (rM 5), .ref (rM 6), .ref (rM 7), .ref (rM 8), .ref (rM 9), .ref (rM 10), .ref (rM 11), .ref (rM 12), .ref (rM 13), .ref (rM 14), .ref (rM 15), .ref (rM 16), .ref (rM 17), .ref (rM 18), .ref (rM 19), .ref (rM 20), .ref (rM 21), .ref (rM 22), .ref (rM 23), .ref (rM 24), .int 0, .int 0, .int 0, .int 0, .int 0, .int 0, .int 0, .int 0, .int 0, .ref (rM 25), .ref (rM 26), .ref (rM 27), .int 0, .int 0, .ref (rM 28), .int 0, .ref (rM 29), .ref (rM 30), .ref (rM 31), .ref (rM 32), .ref (rM 33), .ref (rM 34), .ref (rM 35), .ref (rM 36), .int 0, .int 0, .int 0, .ref (rM 37), .ref (rM 38)])), (rM 5, .inl ((cM 5), 2, .inl (fM 5)))]) (w1 := []) hP hD [0, 1] [2, 3] rfl rfl (by decide) (by decide) hk1 hFc (fun k q h => by simp at h) ⟨fun i j p q h => by simp at h, fun k q h => by simp at h⟩
  refine wt_c (v := (-1)) hw ?_
  refine lv_aload_n hx hb dL_law_600 rfl (lv_at hl 1 rfl) ?_
  refine lv_aload_n hx hb dL_law_601 rfl (lv_at hl 3 rfl) ?_
  refine lv_iload_n hx hb dL_law_602 rfl (lv_at hl 0 rfl) ?_
  refine lv_iconst (v := 1) hx hb dL_law_603 (by decide) ?_
  refine lv_iadd hx hb dL_law_604 ?_
  refine wt_c (v := 1) (by decide) ?_
  refine va_sld hx hb hX hbl hbA hS (vin (by decide)) dL_law_605 ?_
  refine wt_c (v := xs 1) (congrArg xs (by decide)) ?_
  refine lv_aload_n hx hb dL_law_606 rfl (lv_at hl 3 rfl) ?_
  refine lv_iload_n hx hb dL_law_607 rfl (lv_at hl 0 rfl) ?_
  refine lv_iconst (v := 2) hx hb dL_law_608 (by decide) ?_
  refine lv_iadd hx hb dL_law_609 ?_
  refine wt_c (v := 2) (by decide) ?_
  refine va_sld hx hb hX hbl hbA hS (vin (by decide)) dL_law_610 ?_
  refine wt_c (v := xs 2) (congrArg xs (by decide)) ?_
  have hPc := hP.sub (ws' := [(rM 0, .inr (8, [.ref (rM 1), .ref (rM 2), .int 0, .int 0, .int 0, .int (-1), .int 0, .int 0, .int 0, .int 0, .long 0, .ref (rM 3), .ref (rM 4), .ref (rM 5), .ref (rM 6), .ref (rM 7), .ref (rM 8), .ref (rM 9), .ref (rM 10), .ref (rM 11), .ref (rM 12), .ref (rM 13), .ref (rM 14), .ref (rM 15), .ref (rM 16), .ref (rM 17), .ref (rM 18), .ref (rM 19), .ref (rM 20), .ref (rM 21), .ref (rM 22), .ref (rM 23), .ref (rM 24), .int 0, .int 0, .int 0, .int 0, .int 0, .int 0, .int 0, .int 0, .int 0, .ref (rM 25), .ref (rM 26), .ref (rM 27), .int 0, .int 0, .ref (rM 28), .int 0, .ref (rM 29), .ref (rM 30), .ref (rM 31), .ref (rM 32), .ref (rM 33), .ref (rM 34), .ref (rM 35), .ref (rM 36), .int 0, .int 0, .int 0, .ref (rM 37), .ref (rM 38)])), (rM 5, .inl ((cM 5), 2, .inl (fM 5)))]) [0, 1] rfl
  have hKc := hK.sub (tys' := [((cM 5), .int)]) [0] rfl
  have hDc := hD.sub (ws' := [(rM 0, .inr (8, [.ref (rM 1), .ref (rM 2), .int 0, .int 0, .int 0, .int (-1), .int 0, .int 0, .int 0, .int 0, .long 0, .ref (rM 3), .ref (rM 4), .ref (rM 5), .ref (rM 6), .ref (rM 7), .ref (rM 8), .ref (rM 9), .ref (rM 10), .ref (rM 11), .ref (rM 12), .ref (rM 13), .ref (rM 14), .ref (rM 15), .ref (rM 16), .ref (rM 17), .ref (rM 18), .ref (rM 19), .ref (rM 20), .ref (rM 21), .ref (rM 22), .ref (rM 23), .ref (rM 24), .int 0, .int 0, .int 0, .int 0, .int 0, .int 0, .int 0, .int 0, .int 0, .ref (rM 25), .ref (rM 26), .ref (rM 27), .int 0, .int 0, .ref (rM 28), .int 0, .ref (rM 29), .ref (rM 30), .ref (rM 31), .ref (rM 32), .ref (rM 33), .ref (rM 34), .ref (rM 35), .ref (rM 36), .int 0, .int 0, .int 0, .ref (rM 37), .ref (rM 38)])), (rM 5, .inl ((cM 5), 2, .inl (fM 5)))]) [0, 1] (by decide) rfl
  have hFc := va_free (wc := [(rM 0, .inr (8, [.ref (rM 1), .ref (rM 2), .int 0, .int 0, .int 0, .int (-1), .int 0, .int 0, .int 0, .int 0, .long 0, .ref (rM 3), .ref (rM 4), .ref (rM 5), .ref (rM 6), .ref (rM 7), .ref (rM 8), .ref (rM 9), .ref (rM 10), .ref (rM 11), .ref (rM 12), .ref (rM 13), .ref (rM 14), .ref (rM 15), .ref (rM 16), .ref (rM 17), .ref (rM 18), .ref (rM 19), .ref (rM 20), .ref (rM 21), .ref (rM 22), .ref (rM 23), .ref (rM 24), .int 0, .int 0, .int 0, .int 0, .int 0, .int 0, .int 0, .int 0, .int 0, .ref (rM 25), .ref (rM 26), .ref (rM 27), .int 0, .int 0, .ref (rM 28), .int 0, .ref (rM 29), .ref (rM 30), .ref (rM 31), .ref (rM 32), .ref (rM 33), .ref (rM 34), .ref (rM 35), .ref (rM 36), .int 0, .int 0, .int 0, .ref (rM 37), .ref (rM 38)])), (rM 5, .inl ((cM 5), 2, .inl (fM 5)))]) hD hS hA [0, 1] rfl
  refine va_calli (va_runV (As := [.int (xs 1), .int (xs 2)]) (rest := [.int (-1)]) ⟨hx, hb, hml, hown, hG⟩ (kX9_fill l dC dI rM cM (fM 5) (xs 1) (xs 2) H1.size hfM_5_0) (cwV 2 hG (goodV gw1716 gw1717 gw1718 gw138 gw1719) rfl rfl rfl hd_X9_fill ⟨(Nat.le_of_ble_eq_true rfl), (Nat.le_of_ble_eq_true rfl)⟩) ⟨fbW, va_recv hKc hPc (ci := 8) (q0 := 0) rfl rfl, pW_in hPc hKc hDc⟩ rfl rfl hl.1 rfl (lv_room (Nat.le_of_ble_eq_true rfl)) dL_law_611 ⟨(Nat.le_of_ble_eq_true rfl), (Nat.le_of_ble_eq_true rfl)⟩) hS (fun q _ h => hFc q h) hFc (fun r_4 u t H3 locs ht hvm hw hB hz1 hk1 hS => ?_)
  obtain ⟨hP, hD⟩ := va_join (wr := []) (w1 := []) hP hD [0, 1] [] rfl rfl (by decide) (by decide) hk1 hFc (fun k q h => by simp at h) ⟨fun i j p q h => by simp at h, fun k q h => by simp at h⟩
  refine wt_c (v := (-1)) hw ?_
  refine lv_icmp_eq (tgt := 1540) hx hb dL_law_614 (by decide) (fun c_5 => ?_) (fun c_5 => absurd (by decide) c_5)
  exact law_end l C0 hS hl
set_option maxHeartbeats 4000000 in
set_option maxRecDepth 100000 in
theorem law_13 {p : Program} {e : Env} {s : State} {m : MethodId} {below : List Frame} {meth : Method} {c : Code} (l : Launch) {b : Nat} {xs : Nat → Int32} (C0 : lw_At p s m meth c b 6 xs) (dC : Nat → ClassId) (dI : Nat → Nat → Nat) (rX rM : Nat → Nat) (cX cM : Nat → ClassId) (fX fM : Nat → Nat → Int32) (gX gM : Nat → Nat → Int64) {H : Heap} {locs : List Loc} (hK : va_K (dC, dI) vwCl [] s) (hP : va_P (dC, dI) vwCl [(rX 0, .inr (7, [.ref (rX 1), .int 0, .ref (rX 2), .ref (rX 55), .ref (rX 57), .ref (rX 30), .ref (rX 56), .ref (rX 36), .ref (rX 37), .ref (rX 38), .int 0, .ref (rX 51), .int 0, .ref (rX 52), .ref (rX 53), .ref (rX 54)])), (rX 56, .inr (0, [.ref (rX 58), .int 0, .int 0])), (rM 0, .inr (8, [.ref (rM 1), .ref (rM 2), .int 0, .int 0, .int 0, .int (-1), .int 0, .int 0, .int 0, .int 0, .long 0, .ref (rM 3), .ref (rM 4), .ref (rM 5), .ref (rM 6), .ref (rM 7), .ref (rM 8), .ref (rM 9), .ref (rM 10), .ref (rM 11), .ref (rM 12), .ref (rM 13), .ref (rM 14), .ref (rM 15), .ref (rM 16), .ref (rM 17), .ref (rM 18), .ref (rM 19), .ref (rM 20), .ref (rM 21), .ref (rM 22), .ref (rM 23), .ref (rM 24), .int 0, .int 0, .int 0, .int 0, .int 0, .int 0, .int 0, .int 0, .int 0, .ref (rM 25), .ref (rM 26), .ref (rM 27), .int 0, .int 0, .ref (rM 28), .int 0, .ref (rM 29), .ref (rM 30), .ref (rM 31), .ref (rM 32), .ref (rM 33), .ref (rM 34), .ref (rM 35), .ref (rM 36), .int 0, .int 0, .int 0, .ref (rM 37), .ref (rM 38)]))] H) (hD : va_D (fun q : Nat => s.heap.size ≤ q) [(rX 0, .inr (7, [.ref (rX 1), .int 0, .ref (rX 2), .ref (rX 55), .ref (rX 57), .ref (rX 30), .ref (rX 56), .ref (rX 36), .ref (rX 37), .ref (rX 38), .int 0, .ref (rX 51), .int 0, .ref (rX 52), .ref (rX 53), .ref (rX 54)])), (rX 56, .inr (0, [.ref (rX 58), .int 0, .int 0])), (rM 0, .inr (8, [.ref (rM 1), .ref (rM 2), .int 0, .int 0, .int 0, .int (-1), .int 0, .int 0, .int 0, .int 0, .long 0, .ref (rM 3), .ref (rM 4), .ref (rM 5), .ref (rM 6), .ref (rM 7), .ref (rM 8), .ref (rM 9), .ref (rM 10), .ref (rM 11), .ref (rM 12), .ref (rM 13), .ref (rM 14), .ref (rM 15), .ref (rM 16), .ref (rM 17), .ref (rM 18), .ref (rM 19), .ref (rM 20), .ref (rM 21), .ref (rM 22), .ref (rM 23), .ref (rM 24), .int 0, .int 0, .int 0, .int 0, .int 0, .int 0, .int 0, .int 0, .int 0, .ref (rM 25), .ref (rM 26), .ref (rM 27), .int 0, .int 0, .ref (rM 28), .int 0, .ref (rM 29), .ref (rM 30), .ref (rM 31), .ref (rM 32), .ref (rM 33), .ref (rM 34), .ref (rM 35), .ref (rM 36), .int 0, .int 0, .int 0, .ref (rM 37), .ref (rM 38)]))]) (hS : va_S (fun q : Nat => s.heap.size ≤ q) s.heap H locs) {ls : Array Slot} (hl : lv_has ls 4 [(3, .int 0), (2, .ref (rM 0)), (1, .ref (rX 0)), (0, .ref b)]) : W p l e room_1 s m #[Value.ref b] below meth c H locs 103 20190 (lw_Z below #[Value.ref b] s) (F0 m 619 ls []) := by
  obtain ⟨hx, hb, hr, hml, hown, hts, hX, hbl, hlocks, hgv⟩ := id C0
  have hown : s.vm.findClass RL = some m.cls := hown
  have hG : ∀ w ∈ GW, w.before _ s = true := fun w h => hts w (List.mem_filter.mp h).1
  have hA : ∀ q : Nat, s.heap.size ≤ q → (fun q : Nat => s.heap.size ≤ q) q := fun _ h => h
  have hbA : ¬ (fun q : Nat => s.heap.size ≤ q) b := Nat.not_le.mpr hbl
  refine lv_aload_n hx hb dL_law_619 rfl (lv_at hl 2 rfl) ?_
  have hPc := hP.sub (ws' := [(rX 0, .inr (7, [.ref (rX 1), .int 0, .ref (rX 2), .ref (rX 55), .ref (rX 57), .ref (rX 30), .ref (rX 56), .ref (rX 36), .ref (rX 37), .ref (rX 38), .int 0, .ref (rX 51), .int 0, .ref (rX 52), .ref (rX 53), .ref (rX 54)])), (rX 56, .inr (0, [.ref (rX 58), .int 0, .int 0]))]) [0, 1] rfl
  have hKc := hK.sub (tys' := []) [] rfl
  have hDc := hD.sub (ws' := [(rX 0, .inr (7, [.ref (rX 1), .int 0, .ref (rX 2), .ref (rX 55), .ref (rX 57), .ref (rX 30), .ref (rX 56), .ref (rX 36), .ref (rX 37), .ref (rX 38), .int 0, .ref (rX 51), .int 0, .ref (rX 52), .ref (rX 53), .ref (rX 54)])), (rX 56, .inr (0, [.ref (rX 58), .int 0, .int 0]))]) [0, 1] (by decide) rfl
  have hFc := va_free (wc := [(rX 0, .inr (7, [.ref (rX 1), .int 0, .ref (rX 2), .ref (rX 55), .ref (rX 57), .ref (rX 30), .ref (rX 56), .ref (rX 36), .ref (rX 37), .ref (rX 38), .int 0, .ref (rX 51), .int 0, .ref (rX 52), .ref (rX 53), .ref (rX 54)])), (rX 56, .inr (0, [.ref (rX 58), .int 0, .int 0]))]) hD hS hA [0, 1] rfl
  refine va_calli (va_runV (As := []) (rest := []) ⟨hx, hb, hml, hown, hG⟩ (kX8_undo l dC dI rX cX H.size ) (cwV 0 hG (goodV gw818 gw819 gw820 gw129 gw821) rfl rfl rfl hd_X8_undo ⟨(Nat.le_of_ble_eq_true rfl), (Nat.le_of_ble_eq_true rfl)⟩) ⟨fbW, va_recv hKc hPc (ci := 7) (q0 := 0) rfl rfl, pW_in hPc hKc hDc⟩ rfl rfl hl.1 rfl (lv_room (Nat.le_of_ble_eq_true rfl)) dL_law_620 ⟨(Nat.le_of_ble_eq_true rfl), (Nat.le_of_ble_eq_true rfl)⟩) hS (fun q _ h => hFc q h) hFc (fun r_2 u t H1 locs ht hvm hw hB hz1 hk1 hS => ?_)
  obtain ⟨hP, hD⟩ := va_join (wr := [(rM 0, .inr (8, [.ref (rM 1), .ref (rM 2), .int 0, .int 0, .int 0, .int (-1), .int 0, .int 0, .int 0, .int 0, .long 0, .ref (rM 3), .ref (rM 4), .ref (rM 5), .ref (rM 6), .ref (rM 7), .ref (rM 8), .ref (rM 9), .ref (rM 10), .ref (rM 11), .ref (rM 12), .ref (rM 13), .ref (rM 14), .ref (rM 15), .ref (rM 16), .ref (rM 17), .ref (rM 18), .ref (rM 19), .ref (rM 20), .ref (rM 21), .ref (rM 22), .ref (rM 23), .ref (rM 24), .int 0, .int 0, .int 0, .int 0, .int 0, .int 0, .int 0, .int 0, .int 0, .ref (rM 25), .ref (rM 26), .ref (rM 27), .int 0, .int 0, .ref (rM 28), .int 0, .ref (rM 29), .ref (rM 30), .ref (rM 31), .ref (rM 32), .ref (rM 33), .ref (rM 34), .ref (rM 35), .ref (rM 36), .int 0, .int 0, .int 0, .ref (rM 37), .ref (rM 38)]))]) (w1 := []) hP hD [0, 1] [2] rfl rfl (by decide) (by decide) hk1 hFc (fun k q h => by simp at h) ⟨fun i j p q h => by simp at h, fun k q h => by simp at h⟩
  refine wt_c (v := 0) hw ?_
  refine lv_aload_n hx hb dL_law_623 rfl (lv_at hl 1 rfl) ?_
  have hPc := hP.sub (ws' := [(rM 0, .inr (8, [.ref (rM 1), .ref (rM 2), .int 0, .int 0, .int 0, .int (-1), .int 0, .int 0, .int 0, .int 0, .long 0, .ref (rM 3), .ref (rM 4), .ref (rM 5), .ref (rM 6), .ref (rM 7), .ref (rM 8), .ref (rM 9), .ref (rM 10), .ref (rM 11), .ref (rM 12), .ref (rM 13), .ref (rM 14), .ref (rM 15), .ref (rM 16), .ref (rM 17), .ref (rM 18), .ref (rM 19), .ref (rM 20), .ref (rM 21), .ref (rM 22), .ref (rM 23), .ref (rM 24), .int 0, .int 0, .int 0, .int 0, .int 0, .int 0, .int 0, .int 0, .int 0, .ref (rM 25), .ref (rM 26), .ref (rM 27), .int 0, .int 0, .ref (rM 28), .int 0, .ref (rM 29), .ref (rM 30), .ref (rM 31), .ref (rM 32), .ref (rM 33), .ref (rM 34), .ref (rM 35), .ref (rM 36), .int 0, .int 0, .int 0, .ref (rM 37), .ref (rM 38)]))]) [0] rfl
  have hKc := hK.sub (tys' := []) [] rfl
  refine va_calli (va_runV (As := []) (rest := [.int 0]) ⟨hx, hb, hml, hown, hG⟩ (kX9_undo_v1 l dC dI rM cM H1.size ) (cwV 0 hG (goodV gw1720 gw1721 gw1722 gw138 gw1723) rfl rfl rfl hd_X9_undo ⟨(Nat.le_of_ble_eq_true rfl), (Nat.le_of_ble_eq_true rfl)⟩) ⟨fbR, va_recv hKc hPc (ci := 8) (q0 := 0) rfl rfl, pR_in hPc hKc⟩ rfl rfl hl.1 rfl (lv_room (Nat.le_of_ble_eq_true rfl)) dL_law_624 ⟨(Nat.le_of_ble_eq_true rfl), (Nat.le_of_ble_eq_true rfl)⟩) hS (fun q hq h => absurd hq (Nat.not_lt.mpr h)) (fun q h => hA q (Nat.le_trans hS.1 h)) (fun r_4 u t H3 locs ht hvm hw hB hz1 hk1 hS => ?_)
  have hP := wk hP hk1
  refine wt_c (v := 0) hw ?_
  refine lv_icmp_eq (tgt := 1540) hx hb dL_law_627 (by decide) (fun c_5 => ?_) (fun c_5 => absurd (by decide) c_5)
  exact law_end l C0 hS hl
set_option maxHeartbeats 4000000 in
set_option maxRecDepth 100000 in
theorem law_14 {p : Program} {e : Env} {s : State} {m : MethodId} {below : List Frame} {meth : Method} {c : Code} (l : Launch) {b : Nat} {xs : Nat → Int32} (C0 : lw_At p s m meth c b 6 xs) (dC : Nat → ClassId) (dI : Nat → Nat → Nat) (rX rM : Nat → Nat) (cX cM : Nat → ClassId) (fX fM : Nat → Nat → Int32) (gX gM : Nat → Nat → Int64) {H : Heap} {locs : List Loc} (hK : va_K (dC, dI) vwCl [] s) (hP : va_P (dC, dI) vwCl [(rX 0, .inr (7, [.ref (rX 1), .int 0, .ref (rX 2), .ref (rX 55), .ref (rX 57), .ref (rX 30), .ref (rX 56), .ref (rX 36), .ref (rX 37), .ref (rX 38), .int 0, .ref (rX 51), .int 0, .ref (rX 52), .ref (rX 53), .ref (rX 54)])), (rX 56, .inr (0, [.ref (rX 58), .int 0, .int 0])), (rM 0, .inr (8, [.ref (rM 1), .ref (rM 2), .int 0, .int 0, .int 0, .int (-1), .int 0, .int 0, .int 0, .int 0, .long 0, .ref (rM 3), .ref (rM 4), .ref (rM 5), .ref (rM 6), .ref (rM 7), .ref (rM 8), .ref (rM 9), .ref (rM 10), .ref (rM 11), .ref (rM 12), .ref (rM 13), .ref (rM 14), .ref (rM 15), .ref (rM 16), .ref (rM 17), .ref (rM 18), .ref (rM 19), .ref (rM 20), .ref (rM 21), .ref (rM 22), .ref (rM 23), .ref (rM 24), .int 0, .int 0, .int 0, .int 0, .int 0, .int 0, .int 0, .int 0, .int 0, .ref (rM 25), .ref (rM 26), .ref (rM 27), .int 0, .int 0, .ref (rM 28), .int 0, .ref (rM 29), .ref (rM 30), .ref (rM 31), .ref (rM 32), .ref (rM 33), .ref (rM 34), .ref (rM 35), .ref (rM 36), .int 0, .int 0, .int 0, .ref (rM 37), .ref (rM 38)]))] H) (hD : va_D (fun q : Nat => s.heap.size ≤ q) [(rX 0, .inr (7, [.ref (rX 1), .int 0, .ref (rX 2), .ref (rX 55), .ref (rX 57), .ref (rX 30), .ref (rX 56), .ref (rX 36), .ref (rX 37), .ref (rX 38), .int 0, .ref (rX 51), .int 0, .ref (rX 52), .ref (rX 53), .ref (rX 54)])), (rX 56, .inr (0, [.ref (rX 58), .int 0, .int 0])), (rM 0, .inr (8, [.ref (rM 1), .ref (rM 2), .int 0, .int 0, .int 0, .int (-1), .int 0, .int 0, .int 0, .int 0, .long 0, .ref (rM 3), .ref (rM 4), .ref (rM 5), .ref (rM 6), .ref (rM 7), .ref (rM 8), .ref (rM 9), .ref (rM 10), .ref (rM 11), .ref (rM 12), .ref (rM 13), .ref (rM 14), .ref (rM 15), .ref (rM 16), .ref (rM 17), .ref (rM 18), .ref (rM 19), .ref (rM 20), .ref (rM 21), .ref (rM 22), .ref (rM 23), .ref (rM 24), .int 0, .int 0, .int 0, .int 0, .int 0, .int 0, .int 0, .int 0, .int 0, .ref (rM 25), .ref (rM 26), .ref (rM 27), .int 0, .int 0, .ref (rM 28), .int 0, .ref (rM 29), .ref (rM 30), .ref (rM 31), .ref (rM 32), .ref (rM 33), .ref (rM 34), .ref (rM 35), .ref (rM 36), .int 0, .int 0, .int 0, .ref (rM 37), .ref (rM 38)]))]) (hS : va_S (fun q : Nat => s.heap.size ≤ q) s.heap H locs) {ls : Array Slot} (hl : lv_has ls 4 [(3, .int 0), (2, .ref (rM 0)), (1, .ref (rX 0)), (0, .ref b)]) : W p l e room_1 s m #[Value.ref b] below meth c H locs 103 20190 (lw_Z below #[Value.ref b] s) (F0 m 632 ls []) := by
  obtain ⟨hx, hb, hr, hml, hown, hts, hX, hbl, hlocks, hgv⟩ := id C0
  have hown : s.vm.findClass RL = some m.cls := hown
  have hG : ∀ w ∈ GW, w.before _ s = true := fun w h => hts w (List.mem_filter.mp h).1
  have hA : ∀ q : Nat, s.heap.size ≤ q → (fun q : Nat => s.heap.size ≤ q) q := fun _ h => h
  have hbA : ¬ (fun q : Nat => s.heap.size ≤ q) b := Nat.not_le.mpr hbl
  refine lv_aload_n hx hb dL_law_632 rfl (lv_at hl 2 rfl) ?_
  have hPc := hP.sub (ws' := [(rX 0, .inr (7, [.ref (rX 1), .int 0, .ref (rX 2), .ref (rX 55), .ref (rX 57), .ref (rX 30), .ref (rX 56), .ref (rX 36), .ref (rX 37), .ref (rX 38), .int 0, .ref (rX 51), .int 0, .ref (rX 52), .ref (rX 53), .ref (rX 54)])), (rX 56, .inr (0, [.ref (rX 58), .int 0, .int 0]))]) [0, 1] rfl
  have hKc := hK.sub (tys' := []) [] rfl
  have hDc := hD.sub (ws' := [(rX 0, .inr (7, [.ref (rX 1), .int 0, .ref (rX 2), .ref (rX 55), .ref (rX 57), .ref (rX 30), .ref (rX 56), .ref (rX 36), .ref (rX 37), .ref (rX 38), .int 0, .ref (rX 51), .int 0, .ref (rX 52), .ref (rX 53), .ref (rX 54)])), (rX 56, .inr (0, [.ref (rX 58), .int 0, .int 0]))]) [0, 1] (by decide) rfl
  have hFc := va_free (wc := [(rX 0, .inr (7, [.ref (rX 1), .int 0, .ref (rX 2), .ref (rX 55), .ref (rX 57), .ref (rX 30), .ref (rX 56), .ref (rX 36), .ref (rX 37), .ref (rX 38), .int 0, .ref (rX 51), .int 0, .ref (rX 52), .ref (rX 53), .ref (rX 54)])), (rX 56, .inr (0, [.ref (rX 58), .int 0, .int 0]))]) hD hS hA [0, 1] rfl
  refine va_calli (va_runV (As := []) (rest := []) ⟨hx, hb, hml, hown, hG⟩ (kX8_redo l dC dI rX cX H.size ) (cwV 0 hG (goodV gw830 gw831 gw832 gw129 gw833) rfl rfl rfl hd_X8_redo ⟨(Nat.le_of_ble_eq_true rfl), (Nat.le_of_ble_eq_true rfl)⟩) ⟨fbW, va_recv hKc hPc (ci := 7) (q0 := 0) rfl rfl, pW_in hPc hKc hDc⟩ rfl rfl hl.1 rfl (lv_room (Nat.le_of_ble_eq_true rfl)) dL_law_633 ⟨(Nat.le_of_ble_eq_true rfl), (Nat.le_of_ble_eq_true rfl)⟩) hS (fun q _ h => hFc q h) hFc (fun r_2 u t H1 locs ht hvm hw hB hz1 hk1 hS => ?_)
  obtain ⟨hP, hD⟩ := va_join (wr := [(rM 0, .inr (8, [.ref (rM 1), .ref (rM 2), .int 0, .int 0, .int 0, .int (-1), .int 0, .int 0, .int 0, .int 0, .long 0, .ref (rM 3), .ref (rM 4), .ref (rM 5), .ref (rM 6), .ref (rM 7), .ref (rM 8), .ref (rM 9), .ref (rM 10), .ref (rM 11), .ref (rM 12), .ref (rM 13), .ref (rM 14), .ref (rM 15), .ref (rM 16), .ref (rM 17), .ref (rM 18), .ref (rM 19), .ref (rM 20), .ref (rM 21), .ref (rM 22), .ref (rM 23), .ref (rM 24), .int 0, .int 0, .int 0, .int 0, .int 0, .int 0, .int 0, .int 0, .int 0, .ref (rM 25), .ref (rM 26), .ref (rM 27), .int 0, .int 0, .ref (rM 28), .int 0, .ref (rM 29), .ref (rM 30), .ref (rM 31), .ref (rM 32), .ref (rM 33), .ref (rM 34), .ref (rM 35), .ref (rM 36), .int 0, .int 0, .int 0, .ref (rM 37), .ref (rM 38)]))]) (w1 := []) hP hD [0, 1] [2] rfl rfl (by decide) (by decide) hk1 hFc (fun k q h => by simp at h) ⟨fun i j p q h => by simp at h, fun k q h => by simp at h⟩
  refine wt_c (v := 0) hw ?_
  refine lv_aload_n hx hb dL_law_636 rfl (lv_at hl 1 rfl) ?_
  have hPc := hP.sub (ws' := [(rM 0, .inr (8, [.ref (rM 1), .ref (rM 2), .int 0, .int 0, .int 0, .int (-1), .int 0, .int 0, .int 0, .int 0, .long 0, .ref (rM 3), .ref (rM 4), .ref (rM 5), .ref (rM 6), .ref (rM 7), .ref (rM 8), .ref (rM 9), .ref (rM 10), .ref (rM 11), .ref (rM 12), .ref (rM 13), .ref (rM 14), .ref (rM 15), .ref (rM 16), .ref (rM 17), .ref (rM 18), .ref (rM 19), .ref (rM 20), .ref (rM 21), .ref (rM 22), .ref (rM 23), .ref (rM 24), .int 0, .int 0, .int 0, .int 0, .int 0, .int 0, .int 0, .int 0, .int 0, .ref (rM 25), .ref (rM 26), .ref (rM 27), .int 0, .int 0, .ref (rM 28), .int 0, .ref (rM 29), .ref (rM 30), .ref (rM 31), .ref (rM 32), .ref (rM 33), .ref (rM 34), .ref (rM 35), .ref (rM 36), .int 0, .int 0, .int 0, .ref (rM 37), .ref (rM 38)]))]) [0] rfl
  have hKc := hK.sub (tys' := []) [] rfl
  refine va_calli (va_runV (As := []) (rest := [.int 0]) ⟨hx, hb, hml, hown, hG⟩ (kX9_redo_v1 l dC dI rM cM H1.size ) (cwV 0 hG (goodV gw1728 gw1729 gw1730 gw138 gw1731) rfl rfl rfl hd_X9_redo ⟨(Nat.le_of_ble_eq_true rfl), (Nat.le_of_ble_eq_true rfl)⟩) ⟨fbR, va_recv hKc hPc (ci := 8) (q0 := 0) rfl rfl, pR_in hPc hKc⟩ rfl rfl hl.1 rfl (lv_room (Nat.le_of_ble_eq_true rfl)) dL_law_637 ⟨(Nat.le_of_ble_eq_true rfl), (Nat.le_of_ble_eq_true rfl)⟩) hS (fun q hq h => absurd hq (Nat.not_lt.mpr h)) (fun q h => hA q (Nat.le_trans hS.1 h)) (fun r_4 u t H3 locs ht hvm hw hB hz1 hk1 hS => ?_)
  have hP := wk hP hk1
  refine wt_c (v := 0) hw ?_
  refine lv_icmp_eq (tgt := 1540) hx hb dL_law_640 (by decide) (fun c_5 => ?_) (fun c_5 => absurd (by decide) c_5)
  exact law_end l C0 hS hl
set_option maxHeartbeats 4000000 in
set_option maxRecDepth 100000 in
theorem law_15 {p : Program} {e : Env} {s : State} {m : MethodId} {below : List Frame} {meth : Method} {c : Code} (l : Launch) {b : Nat} {xs : Nat → Int32} (C0 : lw_At p s m meth c b 6 xs) (dC : Nat → ClassId) (dI : Nat → Nat → Nat) (rX rM : Nat → Nat) (cX cM : Nat → ClassId) (fX fM : Nat → Nat → Int32) (gX gM : Nat → Nat → Int64) (hfM_4_0 : fM 4 0 = 0) (hfM_4_1 : fM 4 1 = 0) {H : Heap} {locs : List Loc} (hK : va_K (dC, dI) vwCl [((cM 4), .int)] s) (hP : va_P (dC, dI) vwCl [(rX 0, .inr (7, [.ref (rX 1), .int 0, .ref (rX 2), .ref (rX 55), .ref (rX 57), .ref (rX 30), .ref (rX 56), .ref (rX 36), .ref (rX 37), .ref (rX 38), .int 0, .ref (rX 51), .int 0, .ref (rX 52), .ref (rX 53), .ref (rX 54)])), (rX 55, .inr (3, [.int 1, .int 0, .int 0, .int 0, .ref (rX 20), .ref (rX 21), .ref (rX 22), .int 0, .ref (rX 23), .ref (rX 24), .ref (rX 25), .int 0, .ref (rX 28), .ref (rX 27)])), (rM 0, .inr (8, [.ref (rM 1), .ref (rM 2), .int 0, .int 0, .int 0, .int (-1), .int 0, .int 0, .int 0, .int 0, .long 0, .ref (rM 3), .ref (rM 4), .ref (rM 5), .ref (rM 6), .ref (rM 7), .ref (rM 8), .ref (rM 9), .ref (rM 10), .ref (rM 11), .ref (rM 12), .ref (rM 13), .ref (rM 14), .ref (rM 15), .ref (rM 16), .ref (rM 17), .ref (rM 18), .ref (rM 19), .ref (rM 20), .ref (rM 21), .ref (rM 22), .ref (rM 23), .ref (rM 24), .int 0, .int 0, .int 0, .int 0, .int 0, .int 0, .int 0, .int 0, .int 0, .ref (rM 25), .ref (rM 26), .ref (rM 27), .int 0, .int 0, .ref (rM 28), .int 0, .ref (rM 29), .ref (rM 30), .ref (rM 31), .ref (rM 32), .ref (rM 33), .ref (rM 34), .ref (rM 35), .ref (rM 36), .int 0, .int 0, .int 0, .ref (rM 37), .ref (rM 38)])), (rM 4, .inl ((cM 4), 2, .inl (fM 4)))] H) (hD : va_D (fun q : Nat => s.heap.size ≤ q) [(rX 0, .inr (7, [.ref (rX 1), .int 0, .ref (rX 2), .ref (rX 55), .ref (rX 57), .ref (rX 30), .ref (rX 56), .ref (rX 36), .ref (rX 37), .ref (rX 38), .int 0, .ref (rX 51), .int 0, .ref (rX 52), .ref (rX 53), .ref (rX 54)])), (rX 55, .inr (3, [.int 1, .int 0, .int 0, .int 0, .ref (rX 20), .ref (rX 21), .ref (rX 22), .int 0, .ref (rX 23), .ref (rX 24), .ref (rX 25), .int 0, .ref (rX 28), .ref (rX 27)])), (rM 0, .inr (8, [.ref (rM 1), .ref (rM 2), .int 0, .int 0, .int 0, .int (-1), .int 0, .int 0, .int 0, .int 0, .long 0, .ref (rM 3), .ref (rM 4), .ref (rM 5), .ref (rM 6), .ref (rM 7), .ref (rM 8), .ref (rM 9), .ref (rM 10), .ref (rM 11), .ref (rM 12), .ref (rM 13), .ref (rM 14), .ref (rM 15), .ref (rM 16), .ref (rM 17), .ref (rM 18), .ref (rM 19), .ref (rM 20), .ref (rM 21), .ref (rM 22), .ref (rM 23), .ref (rM 24), .int 0, .int 0, .int 0, .int 0, .int 0, .int 0, .int 0, .int 0, .int 0, .ref (rM 25), .ref (rM 26), .ref (rM 27), .int 0, .int 0, .ref (rM 28), .int 0, .ref (rM 29), .ref (rM 30), .ref (rM 31), .ref (rM 32), .ref (rM 33), .ref (rM 34), .ref (rM 35), .ref (rM 36), .int 0, .int 0, .int 0, .ref (rM 37), .ref (rM 38)])), (rM 4, .inl ((cM 4), 2, .inl (fM 4)))]) (hS : va_S (fun q : Nat => s.heap.size ≤ q) s.heap H locs) {ls : Array Slot} (hl : lv_has ls 4 [(3, .int 0), (2, .ref (rM 0)), (1, .ref (rX 0)), (0, .ref b)]) : W p l e room_1 s m #[Value.ref b] below meth c H locs 103 20190 (lw_Z below #[Value.ref b] s) (F0 m 645 ls []) := by
  obtain ⟨hx, hb, hr, hml, hown, hts, hX, hbl, hlocks, hgv⟩ := id C0
  have hown : s.vm.findClass RL = some m.cls := hown
  have hG : ∀ w ∈ GW, w.before _ s = true := fun w h => hts w (List.mem_filter.mp h).1
  have hA : ∀ q : Nat, s.heap.size ≤ q → (fun q : Nat => s.heap.size ≤ q) q := fun _ h => h
  have hbA : ¬ (fun q : Nat => s.heap.size ≤ q) b := Nat.not_le.mpr hbl
  refine lv_aload_n hx hb dL_law_645 rfl (lv_at hl 2 rfl) ?_
  refine lv_aload_n hx hb dL_law_646 rfl (lv_at hl 3 rfl) ?_
  refine lv_iload_n hx hb dL_law_647 rfl (lv_at hl 0 rfl) ?_
  refine lv_iconst (v := 1) hx hb dL_law_648 (by decide) ?_
  refine lv_iadd hx hb dL_law_649 ?_
  refine wt_c (v := 1) (by decide) ?_
  refine va_sld hx hb hX hbl hbA hS (vin (by decide)) dL_law_650 ?_
  refine wt_c (v := xs 1) (congrArg xs (by decide)) ?_
  refine lv_aload_n hx hb dL_law_651 rfl (lv_at hl 3 rfl) ?_
  refine lv_iload_n hx hb dL_law_652 rfl (lv_at hl 0 rfl) ?_
  refine lv_iconst (v := 2) hx hb dL_law_653 (by decide) ?_
  refine lv_iadd hx hb dL_law_654 ?_
  refine wt_c (v := 2) (by decide) ?_
  refine va_sld hx hb hX hbl hbA hS (vin (by decide)) dL_law_655 ?_
  refine wt_c (v := xs 2) (congrArg xs (by decide)) ?_
  refine lv_aload_n hx hb dL_law_656 rfl (lv_at hl 3 rfl) ?_
  refine lv_iload_n hx hb dL_law_657 rfl (lv_at hl 0 rfl) ?_
  refine lv_iconst (v := 3) hx hb dL_law_658 (by decide) ?_
  refine lv_iadd hx hb dL_law_659 ?_
  refine wt_c (v := 3) (by decide) ?_
  refine va_sld hx hb hX hbl hbA hS (vin (by decide)) dL_law_660 ?_
  refine wt_c (v := xs 3) (congrArg xs (by decide)) ?_
  have hPc := hP.sub (ws' := [(rX 0, .inr (7, [.ref (rX 1), .int 0, .ref (rX 2), .ref (rX 55), .ref (rX 57), .ref (rX 30), .ref (rX 56), .ref (rX 36), .ref (rX 37), .ref (rX 38), .int 0, .ref (rX 51), .int 0, .ref (rX 52), .ref (rX 53), .ref (rX 54)])), (rX 55, .inr (3, [.int 1, .int 0, .int 0, .int 0, .ref (rX 20), .ref (rX 21), .ref (rX 22), .int 0, .ref (rX 23), .ref (rX 24), .ref (rX 25), .int 0, .ref (rX 28), .ref (rX 27)]))]) [0, 1] rfl
  have hKc := hK.sub (tys' := []) [] rfl
  have hDc := hD.sub (ws' := [(rX 0, .inr (7, [.ref (rX 1), .int 0, .ref (rX 2), .ref (rX 55), .ref (rX 57), .ref (rX 30), .ref (rX 56), .ref (rX 36), .ref (rX 37), .ref (rX 38), .int 0, .ref (rX 51), .int 0, .ref (rX 52), .ref (rX 53), .ref (rX 54)])), (rX 55, .inr (3, [.int 1, .int 0, .int 0, .int 0, .ref (rX 20), .ref (rX 21), .ref (rX 22), .int 0, .ref (rX 23), .ref (rX 24), .ref (rX 25), .int 0, .ref (rX 28), .ref (rX 27)]))]) [0, 1] (by decide) rfl
  have hFc := va_free (wc := [(rX 0, .inr (7, [.ref (rX 1), .int 0, .ref (rX 2), .ref (rX 55), .ref (rX 57), .ref (rX 30), .ref (rX 56), .ref (rX 36), .ref (rX 37), .ref (rX 38), .int 0, .ref (rX 51), .int 0, .ref (rX 52), .ref (rX 53), .ref (rX 54)])), (rX 55, .inr (3, [.int 1, .int 0, .int 0, .int 0, .ref (rX 20), .ref (rX 21), .ref (rX 22), .int 0, .ref (rX 23), .ref (rX 24), .ref (rX 25), .int 0, .ref (rX 28), .ref (rX 27)]))]) hD hS hA [0, 1] rfl
  refine va_calli (va_runV (As := [.int (xs 1), .int (xs 2), .int (xs 3)]) (rest := []) ⟨hx, hb, hml, hown, hG⟩ (kX8_will l dC dI rX cX (xs 1) (xs 2) (xs 3) H.size ) (cwV 3 hG (goodV gw838 gw839 gw840 gw129 gw841) rfl rfl rfl hd_X8_will ⟨(Nat.le_of_ble_eq_true rfl), (Nat.le_of_ble_eq_true rfl)⟩) ⟨fbW, va_recv hKc hPc (ci := 7) (q0 := 0) rfl rfl, pW_in hPc hKc hDc⟩ rfl rfl hl.1 rfl (lv_room (Nat.le_of_ble_eq_true rfl)) dL_law_661 ⟨(Nat.le_of_ble_eq_true rfl), (Nat.le_of_ble_eq_true rfl)⟩) hS (fun q _ h => hFc q h) hFc (fun r_2 u t H1 locs ht hvm hw hB hz1 hk1 hS => ?_)
  obtain ⟨hP, hD⟩ := va_join (wr := [(rM 0, .inr (8, [.ref (rM 1), .ref (rM 2), .int 0, .int 0, .int 0, .int (-1), .int 0, .int 0, .int 0, .int 0, .long 0, .ref (rM 3), .ref (rM 4), .ref (rM 5), .ref (rM 6), .ref (rM 7), .ref (rM 8), .ref (rM 9), .ref (rM 10), .ref (rM 11), .ref (rM 12), .ref (rM 13), .ref (rM 14), .ref (rM 15), .ref (rM 16), .ref (rM 17), .ref (rM 18), .ref (rM 19), .ref (rM 20), .ref (rM 21), .ref (rM 22), .ref (rM 23), .ref (rM 24), .int 0, .int 0, .int 0, .int 0, .int 0, .int 0, .int 0, .int 0, .int 0, .ref (rM 25), .ref (rM 26), .ref (rM 27), .int 0, .int 0, .ref (rM 28), .int 0, .ref (rM 29), .ref (rM 30), .ref (rM 31), .ref (rM 32), .ref (rM 33), .ref (rM 34), .ref (rM 35), .ref (rM 36), .int 0, .int 0, .int 0, .ref (rM 37), .ref (rM 38)])), (rM 4, .inl ((cM 4), 2, .inl (fM 4)))]) (w1 := []) hP hD [0, 1] [2, 3] rfl rfl (by decide) (by decide) hk1 hFc (fun k q h => by simp at h) ⟨fun i j p q h => by simp at h, fun k q h => by simp at h⟩
  refine wt_c (v := (-2)) hw ?_
  refine lv_aload_n hx hb dL_law_664 rfl (lv_at hl 1 rfl) ?_
  refine lv_aload_n hx hb dL_law_665 rfl (lv_at hl 3 rfl) ?_
  refine lv_iload_n hx hb dL_law_666 rfl (lv_at hl 0 rfl) ?_
  refine lv_iconst (v := 1) hx hb dL_law_667 (by decide) ?_
  refine lv_iadd hx hb dL_law_668 ?_
  refine wt_c (v := 1) (by decide) ?_
  refine va_sld hx hb hX hbl hbA hS (vin (by decide)) dL_law_669 ?_
  refine wt_c (v := xs 1) (congrArg xs (by decide)) ?_
  refine lv_aload_n hx hb dL_law_670 rfl (lv_at hl 3 rfl) ?_
  refine lv_iload_n hx hb dL_law_671 rfl (lv_at hl 0 rfl) ?_
  refine lv_iconst (v := 2) hx hb dL_law_672 (by decide) ?_
  refine lv_iadd hx hb dL_law_673 ?_
  refine wt_c (v := 2) (by decide) ?_
  refine va_sld hx hb hX hbl hbA hS (vin (by decide)) dL_law_674 ?_
  refine wt_c (v := xs 2) (congrArg xs (by decide)) ?_
  refine lv_aload_n hx hb dL_law_675 rfl (lv_at hl 3 rfl) ?_
  refine lv_iload_n hx hb dL_law_676 rfl (lv_at hl 0 rfl) ?_
  refine lv_iconst (v := 3) hx hb dL_law_677 (by decide) ?_
  refine lv_iadd hx hb dL_law_678 ?_
  refine wt_c (v := 3) (by decide) ?_
  refine va_sld hx hb hX hbl hbA hS (vin (by decide)) dL_law_679 ?_
  refine wt_c (v := xs 3) (congrArg xs (by decide)) ?_
  have hPc := hP.sub (ws' := [(rM 0, .inr (8, [.ref (rM 1), .ref (rM 2), .int 0, .int 0, .int 0, .int (-1), .int 0, .int 0, .int 0, .int 0, .long 0, .ref (rM 3), .ref (rM 4), .ref (rM 5), .ref (rM 6), .ref (rM 7), .ref (rM 8), .ref (rM 9), .ref (rM 10), .ref (rM 11), .ref (rM 12), .ref (rM 13), .ref (rM 14), .ref (rM 15), .ref (rM 16), .ref (rM 17), .ref (rM 18), .ref (rM 19), .ref (rM 20), .ref (rM 21), .ref (rM 22), .ref (rM 23), .ref (rM 24), .int 0, .int 0, .int 0, .int 0, .int 0, .int 0, .int 0, .int 0, .int 0, .ref (rM 25), .ref (rM 26), .ref (rM 27), .int 0, .int 0, .ref (rM 28), .int 0, .ref (rM 29), .ref (rM 30), .ref (rM 31), .ref (rM 32), .ref (rM 33), .ref (rM 34), .ref (rM 35), .ref (rM 36), .int 0, .int 0, .int 0, .ref (rM 37), .ref (rM 38)])), (rM 4, .inl ((cM 4), 2, .inl (fM 4)))]) [0, 1] rfl
  have hKc := hK.sub (tys' := [((cM 4), .int)]) [0] rfl
  have hDc := hD.sub (ws' := [(rM 0, .inr (8, [.ref (rM 1), .ref (rM 2), .int 0, .int 0, .int 0, .int (-1), .int 0, .int 0, .int 0, .int 0, .long 0, .ref (rM 3), .ref (rM 4), .ref (rM 5), .ref (rM 6), .ref (rM 7), .ref (rM 8), .ref (rM 9), .ref (rM 10), .ref (rM 11), .ref (rM 12), .ref (rM 13), .ref (rM 14), .ref (rM 15), .ref (rM 16), .ref (rM 17), .ref (rM 18), .ref (rM 19), .ref (rM 20), .ref (rM 21), .ref (rM 22), .ref (rM 23), .ref (rM 24), .int 0, .int 0, .int 0, .int 0, .int 0, .int 0, .int 0, .int 0, .int 0, .ref (rM 25), .ref (rM 26), .ref (rM 27), .int 0, .int 0, .ref (rM 28), .int 0, .ref (rM 29), .ref (rM 30), .ref (rM 31), .ref (rM 32), .ref (rM 33), .ref (rM 34), .ref (rM 35), .ref (rM 36), .int 0, .int 0, .int 0, .ref (rM 37), .ref (rM 38)])), (rM 4, .inl ((cM 4), 2, .inl (fM 4)))]) [0, 1] (by decide) rfl
  have hFc := va_free (wc := [(rM 0, .inr (8, [.ref (rM 1), .ref (rM 2), .int 0, .int 0, .int 0, .int (-1), .int 0, .int 0, .int 0, .int 0, .long 0, .ref (rM 3), .ref (rM 4), .ref (rM 5), .ref (rM 6), .ref (rM 7), .ref (rM 8), .ref (rM 9), .ref (rM 10), .ref (rM 11), .ref (rM 12), .ref (rM 13), .ref (rM 14), .ref (rM 15), .ref (rM 16), .ref (rM 17), .ref (rM 18), .ref (rM 19), .ref (rM 20), .ref (rM 21), .ref (rM 22), .ref (rM 23), .ref (rM 24), .int 0, .int 0, .int 0, .int 0, .int 0, .int 0, .int 0, .int 0, .int 0, .ref (rM 25), .ref (rM 26), .ref (rM 27), .int 0, .int 0, .ref (rM 28), .int 0, .ref (rM 29), .ref (rM 30), .ref (rM 31), .ref (rM 32), .ref (rM 33), .ref (rM 34), .ref (rM 35), .ref (rM 36), .int 0, .int 0, .int 0, .ref (rM 37), .ref (rM 38)])), (rM 4, .inl ((cM 4), 2, .inl (fM 4)))]) hD hS hA [0, 1] rfl
  refine va_calli (va_runV (As := [.int (xs 1), .int (xs 2), .int (xs 3)]) (rest := [.int (-2)]) ⟨hx, hb, hml, hown, hG⟩ (kX9_will l dC dI rM cM (fM 4) (xs 1) (xs 2) (xs 3) H1.size hfM_4_0) (cwV 3 hG (goodV gw1732 gw1733 gw1734 gw138 gw1735) rfl rfl rfl hd_X9_will ⟨(Nat.le_of_ble_eq_true rfl), (Nat.le_of_ble_eq_true rfl)⟩) ⟨fbW, va_recv hKc hPc (ci := 8) (q0 := 0) rfl rfl, pW_in hPc hKc hDc⟩ rfl rfl hl.1 rfl (lv_room (Nat.le_of_ble_eq_true rfl)) dL_law_680 ⟨(Nat.le_of_ble_eq_true rfl), (Nat.le_of_ble_eq_true rfl)⟩) hS (fun q _ h => hFc q h) hFc (fun r_4 u t H3 locs ht hvm hw hB hz1 hk1 hS => ?_)
  obtain ⟨hP, hD⟩ := va_join (wr := []) (w1 := []) hP hD [0, 1] [] rfl rfl (by decide) (by decide) hk1 hFc (fun k q h => by simp at h) ⟨fun i j p q h => by simp at h, fun k q h => by simp at h⟩
  refine wt_c (v := (-2)) hw ?_
  refine lv_icmp_eq (tgt := 1540) hx hb dL_law_683 (by decide) (fun c_5 => ?_) (fun c_5 => absurd (by decide) c_5)
  exact law_end l C0 hS hl
set_option maxHeartbeats 4000000 in
set_option maxRecDepth 100000 in
theorem law_16 {p : Program} {e : Env} {s : State} {m : MethodId} {below : List Frame} {meth : Method} {c : Code} (l : Launch) {b : Nat} {xs : Nat → Int32} (C0 : lw_At p s m meth c b 6 xs) (dC : Nat → ClassId) (dI : Nat → Nat → Nat) (rX rM : Nat → Nat) (cX cM : Nat → ClassId) (fX fM : Nat → Nat → Int32) (gX gM : Nat → Nat → Int64) (hfM_5_0 : fM 5 0 = 0) (hfM_5_1 : fM 5 1 = 0) {H : Heap} {locs : List Loc} (hK : va_K (dC, dI) vwCl [((cM 5), .int)] s) (hP : va_P (dC, dI) vwCl [(rX 0, .inr (7, [.ref (rX 1), .int 0, .ref (rX 2), .ref (rX 55), .ref (rX 57), .ref (rX 30), .ref (rX 56), .ref (rX 36), .ref (rX 37), .ref (rX 38), .int 0, .ref (rX 51), .int 0, .ref (rX 52), .ref (rX 53), .ref (rX 54)])), (rX 55, .inr (3, [.int 1, .int 0, .int 0, .int 0, .ref (rX 20), .ref (rX 21), .ref (rX 22), .int 0, .ref (rX 23), .ref (rX 24), .ref (rX 25), .int 0, .ref (rX 28), .ref (rX 27)])), (rM 0, .inr (8, [.ref (rM 1), .ref (rM 2), .int 0, .int 0, .int 0, .int (-1), .int 0, .int 0, .int 0, .int 0, .long 0, .ref (rM 3), .ref (rM 4), .ref (rM 5), .ref (rM 6), .ref (rM 7), .ref (rM 8), .ref (rM 9), .ref (rM 10), .ref (rM 11), .ref (rM 12), .ref (rM 13), .ref (rM 14), .ref (rM 15), .ref (rM 16), .ref (rM 17), .ref (rM 18), .ref (rM 19), .ref (rM 20), .ref (rM 21), .ref (rM 22), .ref (rM 23), .ref (rM 24), .int 0, .int 0, .int 0, .int 0, .int 0, .int 0, .int 0, .int 0, .int 0, .ref (rM 25), .ref (rM 26), .ref (rM 27), .int 0, .int 0, .ref (rM 28), .int 0, .ref (rM 29), .ref (rM 30), .ref (rM 31), .ref (rM 32), .ref (rM 33), .ref (rM 34), .ref (rM 35), .ref (rM 36), .int 0, .int 0, .int 0, .ref (rM 37), .ref (rM 38)])), (rM 5, .inl ((cM 5), 2, .inl (fM 5)))] H) (hD : va_D (fun q : Nat => s.heap.size ≤ q) [(rX 0, .inr (7, [.ref (rX 1), .int 0, .ref (rX 2), .ref (rX 55), .ref (rX 57), .ref (rX 30), .ref (rX 56), .ref (rX 36), .ref (rX 37), .ref (rX 38), .int 0, .ref (rX 51), .int 0, .ref (rX 52), .ref (rX 53), .ref (rX 54)])), (rX 55, .inr (3, [.int 1, .int 0, .int 0, .int 0, .ref (rX 20), .ref (rX 21), .ref (rX 22), .int 0, .ref (rX 23), .ref (rX 24), .ref (rX 25), .int 0, .ref (rX 28), .ref (rX 27)])), (rM 0, .inr (8, [.ref (rM 1), .ref (rM 2), .int 0, .int 0, .int 0, .int (-1), .int 0, .int 0, .int 0, .int 0, .long 0, .ref (rM 3), .ref (rM 4), .ref (rM 5), .ref (rM 6), .ref (rM 7), .ref (rM 8), .ref (rM 9), .ref (rM 10), .ref (rM 11), .ref (rM 12), .ref (rM 13), .ref (rM 14), .ref (rM 15), .ref (rM 16), .ref (rM 17), .ref (rM 18), .ref (rM 19), .ref (rM 20), .ref (rM 21), .ref (rM 22), .ref (rM 23), .ref (rM 24), .int 0, .int 0, .int 0, .int 0, .int 0, .int 0, .int 0, .int 0, .int 0, .ref (rM 25), .ref (rM 26), .ref (rM 27), .int 0, .int 0, .ref (rM 28), .int 0, .ref (rM 29), .ref (rM 30), .ref (rM 31), .ref (rM 32), .ref (rM 33), .ref (rM 34), .ref (rM 35), .ref (rM 36), .int 0, .int 0, .int 0, .ref (rM 37), .ref (rM 38)])), (rM 5, .inl ((cM 5), 2, .inl (fM 5)))]) (hS : va_S (fun q : Nat => s.heap.size ≤ q) s.heap H locs) {ls : Array Slot} (hl : lv_has ls 4 [(3, .int 0), (2, .ref (rM 0)), (1, .ref (rX 0)), (0, .ref b)]) : W p l e room_1 s m #[Value.ref b] below meth c H locs 103 20190 (lw_Z below #[Value.ref b] s) (F0 m 688 ls []) := by
  obtain ⟨hx, hb, hr, hml, hown, hts, hX, hbl, hlocks, hgv⟩ := id C0
  have hown : s.vm.findClass RL = some m.cls := hown
  have hG : ∀ w ∈ GW, w.before _ s = true := fun w h => hts w (List.mem_filter.mp h).1
  have hA : ∀ q : Nat, s.heap.size ≤ q → (fun q : Nat => s.heap.size ≤ q) q := fun _ h => h
  have hbA : ¬ (fun q : Nat => s.heap.size ≤ q) b := Nat.not_le.mpr hbl
  refine lv_aload_n hx hb dL_law_688 rfl (lv_at hl 2 rfl) ?_
  refine lv_aload_n hx hb dL_law_689 rfl (lv_at hl 3 rfl) ?_
  refine lv_iload_n hx hb dL_law_690 rfl (lv_at hl 0 rfl) ?_
  refine lv_iconst (v := 1) hx hb dL_law_691 (by decide) ?_
  refine lv_iadd hx hb dL_law_692 ?_
  refine wt_c (v := 1) (by decide) ?_
  refine va_sld hx hb hX hbl hbA hS (vin (by decide)) dL_law_693 ?_
  refine wt_c (v := xs 1) (congrArg xs (by decide)) ?_
  refine lv_aload_n hx hb dL_law_694 rfl (lv_at hl 3 rfl) ?_
  refine lv_iload_n hx hb dL_law_695 rfl (lv_at hl 0 rfl) ?_
  refine lv_iconst (v := 2) hx hb dL_law_696 (by decide) ?_
  refine lv_iadd hx hb dL_law_697 ?_
  refine wt_c (v := 2) (by decide) ?_
  refine va_sld hx hb hX hbl hbA hS (vin (by decide)) dL_law_698 ?_
  refine wt_c (v := xs 2) (congrArg xs (by decide)) ?_
  have hPc := hP.sub (ws' := [(rX 0, .inr (7, [.ref (rX 1), .int 0, .ref (rX 2), .ref (rX 55), .ref (rX 57), .ref (rX 30), .ref (rX 56), .ref (rX 36), .ref (rX 37), .ref (rX 38), .int 0, .ref (rX 51), .int 0, .ref (rX 52), .ref (rX 53), .ref (rX 54)])), (rX 55, .inr (3, [.int 1, .int 0, .int 0, .int 0, .ref (rX 20), .ref (rX 21), .ref (rX 22), .int 0, .ref (rX 23), .ref (rX 24), .ref (rX 25), .int 0, .ref (rX 28), .ref (rX 27)]))]) [0, 1] rfl
  have hKc := hK.sub (tys' := []) [] rfl
  have hDc := hD.sub (ws' := [(rX 0, .inr (7, [.ref (rX 1), .int 0, .ref (rX 2), .ref (rX 55), .ref (rX 57), .ref (rX 30), .ref (rX 56), .ref (rX 36), .ref (rX 37), .ref (rX 38), .int 0, .ref (rX 51), .int 0, .ref (rX 52), .ref (rX 53), .ref (rX 54)])), (rX 55, .inr (3, [.int 1, .int 0, .int 0, .int 0, .ref (rX 20), .ref (rX 21), .ref (rX 22), .int 0, .ref (rX 23), .ref (rX 24), .ref (rX 25), .int 0, .ref (rX 28), .ref (rX 27)]))]) [0, 1] (by decide) rfl
  have hFc := va_free (wc := [(rX 0, .inr (7, [.ref (rX 1), .int 0, .ref (rX 2), .ref (rX 55), .ref (rX 57), .ref (rX 30), .ref (rX 56), .ref (rX 36), .ref (rX 37), .ref (rX 38), .int 0, .ref (rX 51), .int 0, .ref (rX 52), .ref (rX 53), .ref (rX 54)])), (rX 55, .inr (3, [.int 1, .int 0, .int 0, .int 0, .ref (rX 20), .ref (rX 21), .ref (rX 22), .int 0, .ref (rX 23), .ref (rX 24), .ref (rX 25), .int 0, .ref (rX 28), .ref (rX 27)]))]) hD hS hA [0, 1] rfl
  refine va_calli (va_runV (As := [.int (xs 1), .int (xs 2)]) (rest := []) ⟨hx, hb, hml, hown, hG⟩ (kX8_purse l dC dI rX cX (xs 1) (xs 2) H.size ) (cwV 2 hG (goodV gw853 gw854 gw855 gw129 gw856) rfl rfl rfl hd_X8_purse ⟨(Nat.le_of_ble_eq_true rfl), (Nat.le_of_ble_eq_true rfl)⟩) ⟨fbW, va_recv hKc hPc (ci := 7) (q0 := 0) rfl rfl, pW_in hPc hKc hDc⟩ rfl rfl hl.1 rfl (lv_room (Nat.le_of_ble_eq_true rfl)) dL_law_699 ⟨(Nat.le_of_ble_eq_true rfl), (Nat.le_of_ble_eq_true rfl)⟩) hS (fun q _ h => hFc q h) hFc (fun r_2 u t H1 locs ht hvm hw hB hz1 hk1 hS => ?_)
  obtain ⟨hP, hD⟩ := va_join (wr := [(rM 0, .inr (8, [.ref (rM 1), .ref (rM 2), .int 0, .int 0, .int 0, .int (-1), .int 0, .int 0, .int 0, .int 0, .long 0, .ref (rM 3), .ref (rM 4), .ref (rM 5), .ref (rM 6), .ref (rM 7), .ref (rM 8), .ref (rM 9), .ref (rM 10), .ref (rM 11), .ref (rM 12), .ref (rM 13), .ref (rM 14), .ref (rM 15), .ref (rM 16), .ref (rM 17), .ref (rM 18), .ref (rM 19), .ref (rM 20), .ref (rM 21), .ref (rM 22), .ref (rM 23), .ref (rM 24), .int 0, .int 0, .int 0, .int 0, .int 0, .int 0, .int 0, .int 0, .int 0, .ref (rM 25), .ref (rM 26), .ref (rM 27), .int 0, .int 0, .ref (rM 28), .int 0, .ref (rM 29), .ref (rM 30), .ref (rM 31), .ref (rM 32), .ref (rM 33), .ref (rM 34), .ref (rM 35), .ref (rM 36), .int 0, .int 0, .int 0, .ref (rM 37), .ref (rM 38)])), (rM 5, .inl ((cM 5), 2, .inl (fM 5)))]) (w1 := []) hP hD [0, 1] [2, 3] rfl rfl (by decide) (by decide) hk1 hFc (fun k q h => by simp at h) ⟨fun i j p q h => by simp at h, fun k q h => by simp at h⟩
  refine wt_c (v := (-1)) hw ?_
  refine lv_aload_n hx hb dL_law_702 rfl (lv_at hl 1 rfl) ?_
  refine lv_aload_n hx hb dL_law_703 rfl (lv_at hl 3 rfl) ?_
  refine lv_iload_n hx hb dL_law_704 rfl (lv_at hl 0 rfl) ?_
  refine lv_iconst (v := 1) hx hb dL_law_705 (by decide) ?_
  refine lv_iadd hx hb dL_law_706 ?_
  refine wt_c (v := 1) (by decide) ?_
  refine va_sld hx hb hX hbl hbA hS (vin (by decide)) dL_law_707 ?_
  refine wt_c (v := xs 1) (congrArg xs (by decide)) ?_
  refine lv_aload_n hx hb dL_law_708 rfl (lv_at hl 3 rfl) ?_
  refine lv_iload_n hx hb dL_law_709 rfl (lv_at hl 0 rfl) ?_
  refine lv_iconst (v := 2) hx hb dL_law_710 (by decide) ?_
  refine lv_iadd hx hb dL_law_711 ?_
  refine wt_c (v := 2) (by decide) ?_
  refine va_sld hx hb hX hbl hbA hS (vin (by decide)) dL_law_712 ?_
  refine wt_c (v := xs 2) (congrArg xs (by decide)) ?_
  have hPc := hP.sub (ws' := [(rM 0, .inr (8, [.ref (rM 1), .ref (rM 2), .int 0, .int 0, .int 0, .int (-1), .int 0, .int 0, .int 0, .int 0, .long 0, .ref (rM 3), .ref (rM 4), .ref (rM 5), .ref (rM 6), .ref (rM 7), .ref (rM 8), .ref (rM 9), .ref (rM 10), .ref (rM 11), .ref (rM 12), .ref (rM 13), .ref (rM 14), .ref (rM 15), .ref (rM 16), .ref (rM 17), .ref (rM 18), .ref (rM 19), .ref (rM 20), .ref (rM 21), .ref (rM 22), .ref (rM 23), .ref (rM 24), .int 0, .int 0, .int 0, .int 0, .int 0, .int 0, .int 0, .int 0, .int 0, .ref (rM 25), .ref (rM 26), .ref (rM 27), .int 0, .int 0, .ref (rM 28), .int 0, .ref (rM 29), .ref (rM 30), .ref (rM 31), .ref (rM 32), .ref (rM 33), .ref (rM 34), .ref (rM 35), .ref (rM 36), .int 0, .int 0, .int 0, .ref (rM 37), .ref (rM 38)])), (rM 5, .inl ((cM 5), 2, .inl (fM 5)))]) [0, 1] rfl
  have hKc := hK.sub (tys' := [((cM 5), .int)]) [0] rfl
  have hDc := hD.sub (ws' := [(rM 0, .inr (8, [.ref (rM 1), .ref (rM 2), .int 0, .int 0, .int 0, .int (-1), .int 0, .int 0, .int 0, .int 0, .long 0, .ref (rM 3), .ref (rM 4), .ref (rM 5), .ref (rM 6), .ref (rM 7), .ref (rM 8), .ref (rM 9), .ref (rM 10), .ref (rM 11), .ref (rM 12), .ref (rM 13), .ref (rM 14), .ref (rM 15), .ref (rM 16), .ref (rM 17), .ref (rM 18), .ref (rM 19), .ref (rM 20), .ref (rM 21), .ref (rM 22), .ref (rM 23), .ref (rM 24), .int 0, .int 0, .int 0, .int 0, .int 0, .int 0, .int 0, .int 0, .int 0, .ref (rM 25), .ref (rM 26), .ref (rM 27), .int 0, .int 0, .ref (rM 28), .int 0, .ref (rM 29), .ref (rM 30), .ref (rM 31), .ref (rM 32), .ref (rM 33), .ref (rM 34), .ref (rM 35), .ref (rM 36), .int 0, .int 0, .int 0, .ref (rM 37), .ref (rM 38)])), (rM 5, .inl ((cM 5), 2, .inl (fM 5)))]) [0, 1] (by decide) rfl
  have hFc := va_free (wc := [(rM 0, .inr (8, [.ref (rM 1), .ref (rM 2), .int 0, .int 0, .int 0, .int (-1), .int 0, .int 0, .int 0, .int 0, .long 0, .ref (rM 3), .ref (rM 4), .ref (rM 5), .ref (rM 6), .ref (rM 7), .ref (rM 8), .ref (rM 9), .ref (rM 10), .ref (rM 11), .ref (rM 12), .ref (rM 13), .ref (rM 14), .ref (rM 15), .ref (rM 16), .ref (rM 17), .ref (rM 18), .ref (rM 19), .ref (rM 20), .ref (rM 21), .ref (rM 22), .ref (rM 23), .ref (rM 24), .int 0, .int 0, .int 0, .int 0, .int 0, .int 0, .int 0, .int 0, .int 0, .ref (rM 25), .ref (rM 26), .ref (rM 27), .int 0, .int 0, .ref (rM 28), .int 0, .ref (rM 29), .ref (rM 30), .ref (rM 31), .ref (rM 32), .ref (rM 33), .ref (rM 34), .ref (rM 35), .ref (rM 36), .int 0, .int 0, .int 0, .ref (rM 37), .ref (rM 38)])), (rM 5, .inl ((cM 5), 2, .inl (fM 5)))]) hD hS hA [0, 1] rfl
  refine va_calli (va_runV (As := [.int (xs 1), .int (xs 2)]) (rest := [.int (-1)]) ⟨hx, hb, hml, hown, hG⟩ (kX9_purse l dC dI rM cM (fM 5) (xs 1) (xs 2) H1.size hfM_5_0) (cwV 2 hG (goodV gw1744 gw1745 gw1746 gw138 gw1747) rfl rfl rfl hd_X9_purse ⟨(Nat.le_of_ble_eq_true rfl), (Nat.le_of_ble_eq_true rfl)⟩) ⟨fbW, va_recv hKc hPc (ci := 8) (q0 := 0) rfl rfl, pW_in hPc hKc hDc⟩ rfl rfl hl.1 rfl (lv_room (Nat.le_of_ble_eq_true rfl)) dL_law_713 ⟨(Nat.le_of_ble_eq_true rfl), (Nat.le_of_ble_eq_true rfl)⟩) hS (fun q _ h => hFc q h) hFc (fun r_4 u t H3 locs ht hvm hw hB hz1 hk1 hS => ?_)
  obtain ⟨hP, hD⟩ := va_join (wr := []) (w1 := []) hP hD [0, 1] [] rfl rfl (by decide) (by decide) hk1 hFc (fun k q h => by simp at h) ⟨fun i j p q h => by simp at h, fun k q h => by simp at h⟩
  refine wt_c (v := (-1)) hw ?_
  refine lv_icmp_eq (tgt := 1540) hx hb dL_law_716 (by decide) (fun c_5 => ?_) (fun c_5 => absurd (by decide) c_5)
  exact law_end l C0 hS hl
set_option maxHeartbeats 4000000 in
set_option maxRecDepth 100000 in
theorem law_17 {p : Program} {e : Env} {s : State} {m : MethodId} {below : List Frame} {meth : Method} {c : Code} (l : Launch) {b : Nat} {xs : Nat → Int32} (C0 : lw_At p s m meth c b 6 xs) (dC : Nat → ClassId) (dI : Nat → Nat → Nat) (rX rM : Nat → Nat) (cX cM : Nat → ClassId) (fX fM : Nat → Nat → Int32) (gX gM : Nat → Nat → Int64) (hfM_5_0 : fM 5 0 = 0) (hfM_5_1 : fM 5 1 = 0) {H : Heap} {locs : List Loc} (hK : va_K (dC, dI) vwCl [((cM 5), .int)] s) (hP : va_P (dC, dI) vwCl [(rX 0, .inr (7, [.ref (rX 1), .int 0, .ref (rX 2), .ref (rX 55), .ref (rX 57), .ref (rX 30), .ref (rX 56), .ref (rX 36), .ref (rX 37), .ref (rX 38), .int 0, .ref (rX 51), .int 0, .ref (rX 52), .ref (rX 53), .ref (rX 54)])), (rX 55, .inr (3, [.int 1, .int 0, .int 0, .int 0, .ref (rX 20), .ref (rX 21), .ref (rX 22), .int 0, .ref (rX 23), .ref (rX 24), .ref (rX 25), .int 0, .ref (rX 28), .ref (rX 27)])), (rM 0, .inr (8, [.ref (rM 1), .ref (rM 2), .int 0, .int 0, .int 0, .int (-1), .int 0, .int 0, .int 0, .int 0, .long 0, .ref (rM 3), .ref (rM 4), .ref (rM 5), .ref (rM 6), .ref (rM 7), .ref (rM 8), .ref (rM 9), .ref (rM 10), .ref (rM 11), .ref (rM 12), .ref (rM 13), .ref (rM 14), .ref (rM 15), .ref (rM 16), .ref (rM 17), .ref (rM 18), .ref (rM 19), .ref (rM 20), .ref (rM 21), .ref (rM 22), .ref (rM 23), .ref (rM 24), .int 0, .int 0, .int 0, .int 0, .int 0, .int 0, .int 0, .int 0, .int 0, .ref (rM 25), .ref (rM 26), .ref (rM 27), .int 0, .int 0, .ref (rM 28), .int 0, .ref (rM 29), .ref (rM 30), .ref (rM 31), .ref (rM 32), .ref (rM 33), .ref (rM 34), .ref (rM 35), .ref (rM 36), .int 0, .int 0, .int 0, .ref (rM 37), .ref (rM 38)])), (rM 5, .inl ((cM 5), 2, .inl (fM 5)))] H) (hD : va_D (fun q : Nat => s.heap.size ≤ q) [(rX 0, .inr (7, [.ref (rX 1), .int 0, .ref (rX 2), .ref (rX 55), .ref (rX 57), .ref (rX 30), .ref (rX 56), .ref (rX 36), .ref (rX 37), .ref (rX 38), .int 0, .ref (rX 51), .int 0, .ref (rX 52), .ref (rX 53), .ref (rX 54)])), (rX 55, .inr (3, [.int 1, .int 0, .int 0, .int 0, .ref (rX 20), .ref (rX 21), .ref (rX 22), .int 0, .ref (rX 23), .ref (rX 24), .ref (rX 25), .int 0, .ref (rX 28), .ref (rX 27)])), (rM 0, .inr (8, [.ref (rM 1), .ref (rM 2), .int 0, .int 0, .int 0, .int (-1), .int 0, .int 0, .int 0, .int 0, .long 0, .ref (rM 3), .ref (rM 4), .ref (rM 5), .ref (rM 6), .ref (rM 7), .ref (rM 8), .ref (rM 9), .ref (rM 10), .ref (rM 11), .ref (rM 12), .ref (rM 13), .ref (rM 14), .ref (rM 15), .ref (rM 16), .ref (rM 17), .ref (rM 18), .ref (rM 19), .ref (rM 20), .ref (rM 21), .ref (rM 22), .ref (rM 23), .ref (rM 24), .int 0, .int 0, .int 0, .int 0, .int 0, .int 0, .int 0, .int 0, .int 0, .ref (rM 25), .ref (rM 26), .ref (rM 27), .int 0, .int 0, .ref (rM 28), .int 0, .ref (rM 29), .ref (rM 30), .ref (rM 31), .ref (rM 32), .ref (rM 33), .ref (rM 34), .ref (rM 35), .ref (rM 36), .int 0, .int 0, .int 0, .ref (rM 37), .ref (rM 38)])), (rM 5, .inl ((cM 5), 2, .inl (fM 5)))]) (hS : va_S (fun q : Nat => s.heap.size ≤ q) s.heap H locs) {ls : Array Slot} (hl : lv_has ls 4 [(3, .int 0), (2, .ref (rM 0)), (1, .ref (rX 0)), (0, .ref b)]) : W p l e room_1 s m #[Value.ref b] below meth c H locs 103 20190 (lw_Z below #[Value.ref b] s) (F0 m 721 ls []) := by
  obtain ⟨hx, hb, hr, hml, hown, hts, hX, hbl, hlocks, hgv⟩ := id C0
  have hown : s.vm.findClass RL = some m.cls := hown
  have hG : ∀ w ∈ GW, w.before _ s = true := fun w h => hts w (List.mem_filter.mp h).1
  have hA : ∀ q : Nat, s.heap.size ≤ q → (fun q : Nat => s.heap.size ≤ q) q := fun _ h => h
  have hbA : ¬ (fun q : Nat => s.heap.size ≤ q) b := Nat.not_le.mpr hbl
  refine lv_aload_n hx hb dL_law_721 rfl (lv_at hl 2 rfl) ?_
  refine lv_aload_n hx hb dL_law_722 rfl (lv_at hl 3 rfl) ?_
  refine lv_iload_n hx hb dL_law_723 rfl (lv_at hl 0 rfl) ?_
  refine lv_iconst (v := 1) hx hb dL_law_724 (by decide) ?_
  refine lv_iadd hx hb dL_law_725 ?_
  refine wt_c (v := 1) (by decide) ?_
  refine va_sld hx hb hX hbl hbA hS (vin (by decide)) dL_law_726 ?_
  refine wt_c (v := xs 1) (congrArg xs (by decide)) ?_
  have hPc := hP.sub (ws' := [(rX 0, .inr (7, [.ref (rX 1), .int 0, .ref (rX 2), .ref (rX 55), .ref (rX 57), .ref (rX 30), .ref (rX 56), .ref (rX 36), .ref (rX 37), .ref (rX 38), .int 0, .ref (rX 51), .int 0, .ref (rX 52), .ref (rX 53), .ref (rX 54)])), (rX 55, .inr (3, [.int 1, .int 0, .int 0, .int 0, .ref (rX 20), .ref (rX 21), .ref (rX 22), .int 0, .ref (rX 23), .ref (rX 24), .ref (rX 25), .int 0, .ref (rX 28), .ref (rX 27)]))]) [0, 1] rfl
  have hKc := hK.sub (tys' := []) [] rfl
  have hDc := hD.sub (ws' := [(rX 0, .inr (7, [.ref (rX 1), .int 0, .ref (rX 2), .ref (rX 55), .ref (rX 57), .ref (rX 30), .ref (rX 56), .ref (rX 36), .ref (rX 37), .ref (rX 38), .int 0, .ref (rX 51), .int 0, .ref (rX 52), .ref (rX 53), .ref (rX 54)])), (rX 55, .inr (3, [.int 1, .int 0, .int 0, .int 0, .ref (rX 20), .ref (rX 21), .ref (rX 22), .int 0, .ref (rX 23), .ref (rX 24), .ref (rX 25), .int 0, .ref (rX 28), .ref (rX 27)]))]) [0, 1] (by decide) rfl
  have hFc := va_free (wc := [(rX 0, .inr (7, [.ref (rX 1), .int 0, .ref (rX 2), .ref (rX 55), .ref (rX 57), .ref (rX 30), .ref (rX 56), .ref (rX 36), .ref (rX 37), .ref (rX 38), .int 0, .ref (rX 51), .int 0, .ref (rX 52), .ref (rX 53), .ref (rX 54)])), (rX 55, .inr (3, [.int 1, .int 0, .int 0, .int 0, .ref (rX 20), .ref (rX 21), .ref (rX 22), .int 0, .ref (rX 23), .ref (rX 24), .ref (rX 25), .int 0, .ref (rX 28), .ref (rX 27)]))]) hD hS hA [0, 1] rfl
  refine va_calli (va_runV (As := [.int (xs 1)]) (rest := []) ⟨hx, hb, hml, hown, hG⟩ (kX8_takes l dC dI rX cX (xs 1) H.size ) (cwV 1 hG (goodV gw857 gw858 gw859 gw129 gw860) rfl rfl rfl hd_X8_takes ⟨(Nat.le_of_ble_eq_true rfl), (Nat.le_of_ble_eq_true rfl)⟩) ⟨fbW, va_recv hKc hPc (ci := 7) (q0 := 0) rfl rfl, pW_in hPc hKc hDc⟩ rfl rfl hl.1 rfl (lv_room (Nat.le_of_ble_eq_true rfl)) dL_law_727 ⟨(Nat.le_of_ble_eq_true rfl), (Nat.le_of_ble_eq_true rfl)⟩) hS (fun q _ h => hFc q h) hFc (fun r_2 u t H1 locs ht hvm hw hB hz1 hk1 hS => ?_)
  obtain ⟨hP, hD⟩ := va_join (wr := [(rM 0, .inr (8, [.ref (rM 1), .ref (rM 2), .int 0, .int 0, .int 0, .int (-1), .int 0, .int 0, .int 0, .int 0, .long 0, .ref (rM 3), .ref (rM 4), .ref (rM 5), .ref (rM 6), .ref (rM 7), .ref (rM 8), .ref (rM 9), .ref (rM 10), .ref (rM 11), .ref (rM 12), .ref (rM 13), .ref (rM 14), .ref (rM 15), .ref (rM 16), .ref (rM 17), .ref (rM 18), .ref (rM 19), .ref (rM 20), .ref (rM 21), .ref (rM 22), .ref (rM 23), .ref (rM 24), .int 0, .int 0, .int 0, .int 0, .int 0, .int 0, .int 0, .int 0, .int 0, .ref (rM 25), .ref (rM 26), .ref (rM 27), .int 0, .int 0, .ref (rM 28), .int 0, .ref (rM 29), .ref (rM 30), .ref (rM 31), .ref (rM 32), .ref (rM 33), .ref (rM 34), .ref (rM 35), .ref (rM 36), .int 0, .int 0, .int 0, .ref (rM 37), .ref (rM 38)])), (rM 5, .inl ((cM 5), 2, .inl (fM 5)))]) (w1 := []) hP hD [0, 1] [2, 3] rfl rfl (by decide) (by decide) hk1 hFc (fun k q h => by simp at h) ⟨fun i j p q h => by simp at h, fun k q h => by simp at h⟩
  refine wt_c (v := (-1)) hw ?_
  refine lv_aload_n hx hb dL_law_730 rfl (lv_at hl 1 rfl) ?_
  refine lv_aload_n hx hb dL_law_731 rfl (lv_at hl 3 rfl) ?_
  refine lv_iload_n hx hb dL_law_732 rfl (lv_at hl 0 rfl) ?_
  refine lv_iconst (v := 1) hx hb dL_law_733 (by decide) ?_
  refine lv_iadd hx hb dL_law_734 ?_
  refine wt_c (v := 1) (by decide) ?_
  refine va_sld hx hb hX hbl hbA hS (vin (by decide)) dL_law_735 ?_
  refine wt_c (v := xs 1) (congrArg xs (by decide)) ?_
  have hPc := hP.sub (ws' := [(rM 0, .inr (8, [.ref (rM 1), .ref (rM 2), .int 0, .int 0, .int 0, .int (-1), .int 0, .int 0, .int 0, .int 0, .long 0, .ref (rM 3), .ref (rM 4), .ref (rM 5), .ref (rM 6), .ref (rM 7), .ref (rM 8), .ref (rM 9), .ref (rM 10), .ref (rM 11), .ref (rM 12), .ref (rM 13), .ref (rM 14), .ref (rM 15), .ref (rM 16), .ref (rM 17), .ref (rM 18), .ref (rM 19), .ref (rM 20), .ref (rM 21), .ref (rM 22), .ref (rM 23), .ref (rM 24), .int 0, .int 0, .int 0, .int 0, .int 0, .int 0, .int 0, .int 0, .int 0, .ref (rM 25), .ref (rM 26), .ref (rM 27), .int 0, .int 0, .ref (rM 28), .int 0, .ref (rM 29), .ref (rM 30), .ref (rM 31), .ref (rM 32), .ref (rM 33), .ref (rM 34), .ref (rM 35), .ref (rM 36), .int 0, .int 0, .int 0, .ref (rM 37), .ref (rM 38)])), (rM 5, .inl ((cM 5), 2, .inl (fM 5)))]) [0, 1] rfl
  have hKc := hK.sub (tys' := [((cM 5), .int)]) [0] rfl
  have hDc := hD.sub (ws' := [(rM 0, .inr (8, [.ref (rM 1), .ref (rM 2), .int 0, .int 0, .int 0, .int (-1), .int 0, .int 0, .int 0, .int 0, .long 0, .ref (rM 3), .ref (rM 4), .ref (rM 5), .ref (rM 6), .ref (rM 7), .ref (rM 8), .ref (rM 9), .ref (rM 10), .ref (rM 11), .ref (rM 12), .ref (rM 13), .ref (rM 14), .ref (rM 15), .ref (rM 16), .ref (rM 17), .ref (rM 18), .ref (rM 19), .ref (rM 20), .ref (rM 21), .ref (rM 22), .ref (rM 23), .ref (rM 24), .int 0, .int 0, .int 0, .int 0, .int 0, .int 0, .int 0, .int 0, .int 0, .ref (rM 25), .ref (rM 26), .ref (rM 27), .int 0, .int 0, .ref (rM 28), .int 0, .ref (rM 29), .ref (rM 30), .ref (rM 31), .ref (rM 32), .ref (rM 33), .ref (rM 34), .ref (rM 35), .ref (rM 36), .int 0, .int 0, .int 0, .ref (rM 37), .ref (rM 38)])), (rM 5, .inl ((cM 5), 2, .inl (fM 5)))]) [0, 1] (by decide) rfl
  have hFc := va_free (wc := [(rM 0, .inr (8, [.ref (rM 1), .ref (rM 2), .int 0, .int 0, .int 0, .int (-1), .int 0, .int 0, .int 0, .int 0, .long 0, .ref (rM 3), .ref (rM 4), .ref (rM 5), .ref (rM 6), .ref (rM 7), .ref (rM 8), .ref (rM 9), .ref (rM 10), .ref (rM 11), .ref (rM 12), .ref (rM 13), .ref (rM 14), .ref (rM 15), .ref (rM 16), .ref (rM 17), .ref (rM 18), .ref (rM 19), .ref (rM 20), .ref (rM 21), .ref (rM 22), .ref (rM 23), .ref (rM 24), .int 0, .int 0, .int 0, .int 0, .int 0, .int 0, .int 0, .int 0, .int 0, .ref (rM 25), .ref (rM 26), .ref (rM 27), .int 0, .int 0, .ref (rM 28), .int 0, .ref (rM 29), .ref (rM 30), .ref (rM 31), .ref (rM 32), .ref (rM 33), .ref (rM 34), .ref (rM 35), .ref (rM 36), .int 0, .int 0, .int 0, .ref (rM 37), .ref (rM 38)])), (rM 5, .inl ((cM 5), 2, .inl (fM 5)))]) hD hS hA [0, 1] rfl
  refine va_calli (va_runV (As := [.int (xs 1)]) (rest := [.int (-1)]) ⟨hx, hb, hml, hown, hG⟩ (kX9_takes l dC dI rM cM (fM 5) (xs 1) H1.size hfM_5_0) (cwV 1 hG (goodV gw1602 gw1603 gw1604 gw138 gw1605) rfl rfl rfl hd_X9_takes ⟨(Nat.le_of_ble_eq_true rfl), (Nat.le_of_ble_eq_true rfl)⟩) ⟨fbW, va_recv hKc hPc (ci := 8) (q0 := 0) rfl rfl, pW_in hPc hKc hDc⟩ rfl rfl hl.1 rfl (lv_room (Nat.le_of_ble_eq_true rfl)) dL_law_736 ⟨(Nat.le_of_ble_eq_true rfl), (Nat.le_of_ble_eq_true rfl)⟩) hS (fun q _ h => hFc q h) hFc (fun r_4 u t H3 locs ht hvm hw hB hz1 hk1 hS => ?_)
  obtain ⟨hP, hD⟩ := va_join (wr := []) (w1 := []) hP hD [0, 1] [] rfl rfl (by decide) (by decide) hk1 hFc (fun k q h => by simp at h) ⟨fun i j p q h => by simp at h, fun k q h => by simp at h⟩
  refine wt_c (v := (-1)) hw ?_
  refine lv_icmp_eq (tgt := 1540) hx hb dL_law_739 (by decide) (fun c_5 => ?_) (fun c_5 => absurd (by decide) c_5)
  exact law_end l C0 hS hl
set_option maxHeartbeats 4000000 in
set_option maxRecDepth 100000 in
theorem law_18 {p : Program} {e : Env} {s : State} {m : MethodId} {below : List Frame} {meth : Method} {c : Code} (l : Launch) {b : Nat} {xs : Nat → Int32} (C0 : lw_At p s m meth c b 6 xs) (dC : Nat → ClassId) (dI : Nat → Nat → Nat) (rX rM : Nat → Nat) (cX cM : Nat → ClassId) (fX fM : Nat → Nat → Int32) (gX gM : Nat → Nat → Int64) (hfM_4_0 : fM 4 0 = 0) (hfM_4_1 : fM 4 1 = 0) (hfM_5_0 : fM 5 0 = 0) (hfM_5_1 : fM 5 1 = 0) {H : Heap} {locs : List Loc} (hK : va_K (dC, dI) vwCl [((cM 4), .int), ((cM 5), .int)] s) (hP : va_P (dC, dI) vwCl [(rX 0, .inr (7, [.ref (rX 1), .int 0, .ref (rX 2), .ref (rX 55), .ref (rX 57), .ref (rX 30), .ref (rX 56), .ref (rX 36), .ref (rX 37), .ref (rX 38), .int 0, .ref (rX 51), .int 0, .ref (rX 52), .ref (rX 53), .ref (rX 54)])), (rX 55, .inr (3, [.int 1, .int 0, .int 0, .int 0, .ref (rX 20), .ref (rX 21), .ref (rX 22), .int 0, .ref (rX 23), .ref (rX 24), .ref (rX 25), .int 0, .ref (rX 28), .ref (rX 27)])), (rM 0, .inr (8, [.ref (rM 1), .ref (rM 2), .int 0, .int 0, .int 0, .int (-1), .int 0, .int 0, .int 0, .int 0, .long 0, .ref (rM 3), .ref (rM 4), .ref (rM 5), .ref (rM 6), .ref (rM 7), .ref (rM 8), .ref (rM 9), .ref (rM 10), .ref (rM 11), .ref (rM 12), .ref (rM 13), .ref (rM 14), .ref (rM 15), .ref (rM 16), .ref (rM 17), .ref (rM 18), .ref (rM 19), .ref (rM 20), .ref (rM 21), .ref (rM 22), .ref (rM 23), .ref (rM 24), .int 0, .int 0, .int 0, .int 0, .int 0, .int 0, .int 0, .int 0, .int 0, .ref (rM 25), .ref (rM 26), .ref (rM 27), .int 0, .int 0, .ref (rM 28), .int 0, .ref (rM 29), .ref (rM 30), .ref (rM 31), .ref (rM 32), .ref (rM 33), .ref (rM 34), .ref (rM 35), .ref (rM 36), .int 0, .int 0, .int 0, .ref (rM 37), .ref (rM 38)])), (rM 4, .inl ((cM 4), 2, .inl (fM 4))), (rM 5, .inl ((cM 5), 2, .inl (fM 5)))] H) (hD : va_D (fun q : Nat => s.heap.size ≤ q) [(rX 0, .inr (7, [.ref (rX 1), .int 0, .ref (rX 2), .ref (rX 55), .ref (rX 57), .ref (rX 30), .ref (rX 56), .ref (rX 36), .ref (rX 37), .ref (rX 38), .int 0, .ref (rX 51), .int 0, .ref (rX 52), .ref (rX 53), .ref (rX 54)])), (rX 55, .inr (3, [.int 1, .int 0, .int 0, .int 0, .ref (rX 20), .ref (rX 21), .ref (rX 22), .int 0, .ref (rX 23), .ref (rX 24), .ref (rX 25), .int 0, .ref (rX 28), .ref (rX 27)])), (rM 0, .inr (8, [.ref (rM 1), .ref (rM 2), .int 0, .int 0, .int 0, .int (-1), .int 0, .int 0, .int 0, .int 0, .long 0, .ref (rM 3), .ref (rM 4), .ref (rM 5), .ref (rM 6), .ref (rM 7), .ref (rM 8), .ref (rM 9), .ref (rM 10), .ref (rM 11), .ref (rM 12), .ref (rM 13), .ref (rM 14), .ref (rM 15), .ref (rM 16), .ref (rM 17), .ref (rM 18), .ref (rM 19), .ref (rM 20), .ref (rM 21), .ref (rM 22), .ref (rM 23), .ref (rM 24), .int 0, .int 0, .int 0, .int 0, .int 0, .int 0, .int 0, .int 0, .int 0, .ref (rM 25), .ref (rM 26), .ref (rM 27), .int 0, .int 0, .ref (rM 28), .int 0, .ref (rM 29), .ref (rM 30), .ref (rM 31), .ref (rM 32), .ref (rM 33), .ref (rM 34), .ref (rM 35), .ref (rM 36), .int 0, .int 0, .int 0, .ref (rM 37), .ref (rM 38)])), (rM 4, .inl ((cM 4), 2, .inl (fM 4))), (rM 5, .inl ((cM 5), 2, .inl (fM 5)))]) (hS : va_S (fun q : Nat => s.heap.size ≤ q) s.heap H locs) {ls : Array Slot} (hl : lv_has ls 4 [(3, .int 0), (2, .ref (rM 0)), (1, .ref (rX 0)), (0, .ref b)]) : W p l e room_1 s m #[Value.ref b] below meth c H locs 103 20190 (lw_Z below #[Value.ref b] s) (F0 m 744 ls []) := by
  obtain ⟨hx, hb, hr, hml, hown, hts, hX, hbl, hlocks, hgv⟩ := id C0
  have hown : s.vm.findClass RL = some m.cls := hown
  have hG : ∀ w ∈ GW, w.before _ s = true := fun w h => hts w (List.mem_filter.mp h).1
  have hA : ∀ q : Nat, s.heap.size ≤ q → (fun q : Nat => s.heap.size ≤ q) q := fun _ h => h
  have hbA : ¬ (fun q : Nat => s.heap.size ≤ q) b := Nat.not_le.mpr hbl
  refine lv_aload_n hx hb dL_law_744 rfl (lv_at hl 2 rfl) ?_
  refine lv_aload_n hx hb dL_law_745 rfl (lv_at hl 3 rfl) ?_
  refine lv_iload_n hx hb dL_law_746 rfl (lv_at hl 0 rfl) ?_
  refine lv_iconst (v := 1) hx hb dL_law_747 (by decide) ?_
  refine lv_iadd hx hb dL_law_748 ?_
  refine wt_c (v := 1) (by decide) ?_
  refine va_sld hx hb hX hbl hbA hS (vin (by decide)) dL_law_749 ?_
  refine wt_c (v := xs 1) (congrArg xs (by decide)) ?_
  have hPc := hP.sub (ws' := [(rX 0, .inr (7, [.ref (rX 1), .int 0, .ref (rX 2), .ref (rX 55), .ref (rX 57), .ref (rX 30), .ref (rX 56), .ref (rX 36), .ref (rX 37), .ref (rX 38), .int 0, .ref (rX 51), .int 0, .ref (rX 52), .ref (rX 53), .ref (rX 54)])), (rX 55, .inr (3, [.int 1, .int 0, .int 0, .int 0, .ref (rX 20), .ref (rX 21), .ref (rX 22), .int 0, .ref (rX 23), .ref (rX 24), .ref (rX 25), .int 0, .ref (rX 28), .ref (rX 27)]))]) [0, 1] rfl
  have hKc := hK.sub (tys' := []) [] rfl
  have hDc := hD.sub (ws' := [(rX 0, .inr (7, [.ref (rX 1), .int 0, .ref (rX 2), .ref (rX 55), .ref (rX 57), .ref (rX 30), .ref (rX 56), .ref (rX 36), .ref (rX 37), .ref (rX 38), .int 0, .ref (rX 51), .int 0, .ref (rX 52), .ref (rX 53), .ref (rX 54)])), (rX 55, .inr (3, [.int 1, .int 0, .int 0, .int 0, .ref (rX 20), .ref (rX 21), .ref (rX 22), .int 0, .ref (rX 23), .ref (rX 24), .ref (rX 25), .int 0, .ref (rX 28), .ref (rX 27)]))]) [0, 1] (by decide) rfl
  have hFc := va_free (wc := [(rX 0, .inr (7, [.ref (rX 1), .int 0, .ref (rX 2), .ref (rX 55), .ref (rX 57), .ref (rX 30), .ref (rX 56), .ref (rX 36), .ref (rX 37), .ref (rX 38), .int 0, .ref (rX 51), .int 0, .ref (rX 52), .ref (rX 53), .ref (rX 54)])), (rX 55, .inr (3, [.int 1, .int 0, .int 0, .int 0, .ref (rX 20), .ref (rX 21), .ref (rX 22), .int 0, .ref (rX 23), .ref (rX 24), .ref (rX 25), .int 0, .ref (rX 28), .ref (rX 27)]))]) hD hS hA [0, 1] rfl
  refine va_calli (va_runV (As := [.int (xs 1)]) (rest := []) ⟨hx, hb, hml, hown, hG⟩ (kX8_round l dC dI rX cX (xs 1) H.size ) (cwV 1 hG (goodV gw891 gw892 gw893 gw129 gw894) rfl rfl rfl hd_X8_round ⟨(Nat.le_of_ble_eq_true rfl), (Nat.le_of_ble_eq_true rfl)⟩) ⟨fbW, va_recv hKc hPc (ci := 7) (q0 := 0) rfl rfl, pW_in hPc hKc hDc⟩ rfl rfl hl.1 rfl (lv_room (Nat.le_of_ble_eq_true rfl)) dL_law_750 ⟨(Nat.le_of_ble_eq_true rfl), (Nat.le_of_ble_eq_true rfl)⟩) hS (fun q _ h => hFc q h) hFc (fun r_2 u t H1 locs ht hvm hw hB hz1 hk1 hS => ?_)
  rcases hw with ⟨rfl, hy3, hw⟩ | ⟨rfl, hy4, hy5, hy6, hw⟩ | ⟨rfl, hy7, hy8, hy9, hw⟩ | ⟨rfl, hy10, hy11, hw⟩
  · skip
    obtain ⟨hP, hD⟩ := va_join (wr := [(rM 0, .inr (8, [.ref (rM 1), .ref (rM 2), .int 0, .int 0, .int 0, .int (-1), .int 0, .int 0, .int 0, .int 0, .long 0, .ref (rM 3), .ref (rM 4), .ref (rM 5), .ref (rM 6), .ref (rM 7), .ref (rM 8), .ref (rM 9), .ref (rM 10), .ref (rM 11), .ref (rM 12), .ref (rM 13), .ref (rM 14), .ref (rM 15), .ref (rM 16), .ref (rM 17), .ref (rM 18), .ref (rM 19), .ref (rM 20), .ref (rM 21), .ref (rM 22), .ref (rM 23), .ref (rM 24), .int 0, .int 0, .int 0, .int 0, .int 0, .int 0, .int 0, .int 0, .int 0, .ref (rM 25), .ref (rM 26), .ref (rM 27), .int 0, .int 0, .ref (rM 28), .int 0, .ref (rM 29), .ref (rM 30), .ref (rM 31), .ref (rM 32), .ref (rM 33), .ref (rM 34), .ref (rM 35), .ref (rM 36), .int 0, .int 0, .int 0, .ref (rM 37), .ref (rM 38)])), (rM 4, .inl ((cM 4), 2, .inl (fM 4))), (rM 5, .inl ((cM 5), 2, .inl (fM 5)))]) (w1 := []) hP hD [0, 1] [2, 3, 4] rfl rfl (by decide) (by decide) hk1 hFc (fun k q h => by simp at h) ⟨fun i j p q h => by simp at h, fun k q h => by simp at h⟩
    refine wt_c (v := (-1)) hw ?_
    refine lv_aload_n hx hb dL_law_753 rfl (lv_at hl 1 rfl) ?_
    refine lv_aload_n hx hb dL_law_754 rfl (lv_at hl 3 rfl) ?_
    refine lv_iload_n hx hb dL_law_755 rfl (lv_at hl 0 rfl) ?_
    refine lv_iconst (v := 1) hx hb dL_law_756 (by decide) ?_
    refine lv_iadd hx hb dL_law_757 ?_
    refine wt_c (v := 1) (by decide) ?_
    refine va_sld hx hb hX hbl hbA hS (vin (by decide)) dL_law_758 ?_
    refine wt_c (v := xs 1) (congrArg xs (by decide)) ?_
    have hPc := hP.sub (ws' := [(rM 0, .inr (8, [.ref (rM 1), .ref (rM 2), .int 0, .int 0, .int 0, .int (-1), .int 0, .int 0, .int 0, .int 0, .long 0, .ref (rM 3), .ref (rM 4), .ref (rM 5), .ref (rM 6), .ref (rM 7), .ref (rM 8), .ref (rM 9), .ref (rM 10), .ref (rM 11), .ref (rM 12), .ref (rM 13), .ref (rM 14), .ref (rM 15), .ref (rM 16), .ref (rM 17), .ref (rM 18), .ref (rM 19), .ref (rM 20), .ref (rM 21), .ref (rM 22), .ref (rM 23), .ref (rM 24), .int 0, .int 0, .int 0, .int 0, .int 0, .int 0, .int 0, .int 0, .int 0, .ref (rM 25), .ref (rM 26), .ref (rM 27), .int 0, .int 0, .ref (rM 28), .int 0, .ref (rM 29), .ref (rM 30), .ref (rM 31), .ref (rM 32), .ref (rM 33), .ref (rM 34), .ref (rM 35), .ref (rM 36), .int 0, .int 0, .int 0, .ref (rM 37), .ref (rM 38)])), (rM 4, .inl ((cM 4), 2, .inl (fM 4))), (rM 5, .inl ((cM 5), 2, .inl (fM 5)))]) [0, 1, 2] rfl
    have hKc := hK.sub (tys' := [((cM 4), .int), ((cM 5), .int)]) [0, 1] rfl
    have hDc := hD.sub (ws' := [(rM 0, .inr (8, [.ref (rM 1), .ref (rM 2), .int 0, .int 0, .int 0, .int (-1), .int 0, .int 0, .int 0, .int 0, .long 0, .ref (rM 3), .ref (rM 4), .ref (rM 5), .ref (rM 6), .ref (rM 7), .ref (rM 8), .ref (rM 9), .ref (rM 10), .ref (rM 11), .ref (rM 12), .ref (rM 13), .ref (rM 14), .ref (rM 15), .ref (rM 16), .ref (rM 17), .ref (rM 18), .ref (rM 19), .ref (rM 20), .ref (rM 21), .ref (rM 22), .ref (rM 23), .ref (rM 24), .int 0, .int 0, .int 0, .int 0, .int 0, .int 0, .int 0, .int 0, .int 0, .ref (rM 25), .ref (rM 26), .ref (rM 27), .int 0, .int 0, .ref (rM 28), .int 0, .ref (rM 29), .ref (rM 30), .ref (rM 31), .ref (rM 32), .ref (rM 33), .ref (rM 34), .ref (rM 35), .ref (rM 36), .int 0, .int 0, .int 0, .ref (rM 37), .ref (rM 38)])), (rM 4, .inl ((cM 4), 2, .inl (fM 4))), (rM 5, .inl ((cM 5), 2, .inl (fM 5)))]) [0, 1, 2] (by decide) rfl
    have hFc := va_free (wc := [(rM 0, .inr (8, [.ref (rM 1), .ref (rM 2), .int 0, .int 0, .int 0, .int (-1), .int 0, .int 0, .int 0, .int 0, .long 0, .ref (rM 3), .ref (rM 4), .ref (rM 5), .ref (rM 6), .ref (rM 7), .ref (rM 8), .ref (rM 9), .ref (rM 10), .ref (rM 11), .ref (rM 12), .ref (rM 13), .ref (rM 14), .ref (rM 15), .ref (rM 16), .ref (rM 17), .ref (rM 18), .ref (rM 19), .ref (rM 20), .ref (rM 21), .ref (rM 22), .ref (rM 23), .ref (rM 24), .int 0, .int 0, .int 0, .int 0, .int 0, .int 0, .int 0, .int 0, .int 0, .ref (rM 25), .ref (rM 26), .ref (rM 27), .int 0, .int 0, .ref (rM 28), .int 0, .ref (rM 29), .ref (rM 30), .ref (rM 31), .ref (rM 32), .ref (rM 33), .ref (rM 34), .ref (rM 35), .ref (rM 36), .int 0, .int 0, .int 0, .ref (rM 37), .ref (rM 38)])), (rM 4, .inl ((cM 4), 2, .inl (fM 4))), (rM 5, .inl ((cM 5), 2, .inl (fM 5)))]) hD hS hA [0, 1, 2] rfl
    refine va_calli (va_runV (As := [.int (xs 1)]) (rest := [.int (-1)]) ⟨hx, hb, hml, hown, hG⟩ (kX9_round l dC dI rM cM (fM 4) (fM 5) (xs 1) H1.size hfM_4_0 hfM_5_0) (cwV 1 hG (goodV gw1752 gw1753 gw1754 gw138 gw1755) rfl rfl rfl hd_X9_round ⟨(Nat.le_of_ble_eq_true rfl), (Nat.le_of_ble_eq_true rfl)⟩) ⟨fbW, va_recv hKc hPc (ci := 8) (q0 := 0) rfl rfl, pW_in hPc hKc hDc⟩ rfl rfl hl.1 rfl (lv_room (Nat.le_of_ble_eq_true rfl)) dL_law_759 ⟨(Nat.le_of_ble_eq_true rfl), (Nat.le_of_ble_eq_true rfl)⟩) hS (fun q _ h => hFc q h) hFc (fun r_13 u t H12 locs ht hvm hw hB hz1 hk1 hS => ?_)
    rcases hw with ⟨rfl, hy14, hw⟩ | ⟨rfl, hy15, hy16, hw⟩ | ⟨rfl, hy17, hy18, hy19, hw⟩ | ⟨rfl, hy20, hy21, hy22, hw⟩
    · skip
      obtain ⟨hP, hD⟩ := va_join (wr := []) (w1 := []) hP hD [0, 1, 2] [] rfl rfl (by decide) (by decide) hk1 hFc (fun k q h => by simp at h) ⟨fun i j p q h => by simp at h, fun k q h => by simp at h⟩
      refine wt_c (v := (-1)) hw ?_
      refine lv_icmp_eq (tgt := 1540) hx hb dL_law_762 (by decide) (fun c_23 => ?_) (fun c_23 => absurd (by decide) c_23)
      exact law_end l C0 hS hl
    · skip
      exact ((by have k0 := q_lt hy3; have k1 := q_nlt hy15; have k2 := q_lt hy16; have z0 : (0 : Int32).toInt = 0 := (by decide); have z1 : (1 : Int32).toInt = 1 := (by decide); omega) : False).elim
    · skip
      exact ((by have k0 := q_lt hy3; have k1 := q_nlt hy17; have k2 := q_nlt hy18; have k3 := q_ne hy19; have z0 : (0 : Int32).toInt = 0 := (by decide); have z1 : (1 : Int32).toInt = 1 := (by decide); omega) : False).elim
    · skip
      exact ((by have k0 := q_lt hy3; have k1 := q_nlt hy20; have k2 := q_nlt hy21; have k3 := q_eq hy22; have z0 : (0 : Int32).toInt = 0 := (by decide); have z1 : (1 : Int32).toInt = 1 := (by decide); omega) : False).elim
  · skip
    obtain ⟨hP, hD⟩ := va_join (wr := [(rM 0, .inr (8, [.ref (rM 1), .ref (rM 2), .int 0, .int 0, .int 0, .int (-1), .int 0, .int 0, .int 0, .int 0, .long 0, .ref (rM 3), .ref (rM 4), .ref (rM 5), .ref (rM 6), .ref (rM 7), .ref (rM 8), .ref (rM 9), .ref (rM 10), .ref (rM 11), .ref (rM 12), .ref (rM 13), .ref (rM 14), .ref (rM 15), .ref (rM 16), .ref (rM 17), .ref (rM 18), .ref (rM 19), .ref (rM 20), .ref (rM 21), .ref (rM 22), .ref (rM 23), .ref (rM 24), .int 0, .int 0, .int 0, .int 0, .int 0, .int 0, .int 0, .int 0, .int 0, .ref (rM 25), .ref (rM 26), .ref (rM 27), .int 0, .int 0, .ref (rM 28), .int 0, .ref (rM 29), .ref (rM 30), .ref (rM 31), .ref (rM 32), .ref (rM 33), .ref (rM 34), .ref (rM 35), .ref (rM 36), .int 0, .int 0, .int 0, .ref (rM 37), .ref (rM 38)])), (rM 4, .inl ((cM 4), 2, .inl (fM 4))), (rM 5, .inl ((cM 5), 2, .inl (fM 5)))]) (w1 := []) hP hD [0, 1] [2, 3, 4] rfl rfl (by decide) (by decide) hk1 hFc (fun k q h => by simp at h) ⟨fun i j p q h => by simp at h, fun k q h => by simp at h⟩
    refine wt_c (v := 0) hw ?_
    refine lv_aload_n hx hb dL_law_753 rfl (lv_at hl 1 rfl) ?_
    refine lv_aload_n hx hb dL_law_754 rfl (lv_at hl 3 rfl) ?_
    refine lv_iload_n hx hb dL_law_755 rfl (lv_at hl 0 rfl) ?_
    refine lv_iconst (v := 1) hx hb dL_law_756 (by decide) ?_
    refine lv_iadd hx hb dL_law_757 ?_
    refine wt_c (v := 1) (by decide) ?_
    refine va_sld hx hb hX hbl hbA hS (vin (by decide)) dL_law_758 ?_
    refine wt_c (v := xs 1) (congrArg xs (by decide)) ?_
    have hPc := hP.sub (ws' := [(rM 0, .inr (8, [.ref (rM 1), .ref (rM 2), .int 0, .int 0, .int 0, .int (-1), .int 0, .int 0, .int 0, .int 0, .long 0, .ref (rM 3), .ref (rM 4), .ref (rM 5), .ref (rM 6), .ref (rM 7), .ref (rM 8), .ref (rM 9), .ref (rM 10), .ref (rM 11), .ref (rM 12), .ref (rM 13), .ref (rM 14), .ref (rM 15), .ref (rM 16), .ref (rM 17), .ref (rM 18), .ref (rM 19), .ref (rM 20), .ref (rM 21), .ref (rM 22), .ref (rM 23), .ref (rM 24), .int 0, .int 0, .int 0, .int 0, .int 0, .int 0, .int 0, .int 0, .int 0, .ref (rM 25), .ref (rM 26), .ref (rM 27), .int 0, .int 0, .ref (rM 28), .int 0, .ref (rM 29), .ref (rM 30), .ref (rM 31), .ref (rM 32), .ref (rM 33), .ref (rM 34), .ref (rM 35), .ref (rM 36), .int 0, .int 0, .int 0, .ref (rM 37), .ref (rM 38)])), (rM 4, .inl ((cM 4), 2, .inl (fM 4))), (rM 5, .inl ((cM 5), 2, .inl (fM 5)))]) [0, 1, 2] rfl
    have hKc := hK.sub (tys' := [((cM 4), .int), ((cM 5), .int)]) [0, 1] rfl
    have hDc := hD.sub (ws' := [(rM 0, .inr (8, [.ref (rM 1), .ref (rM 2), .int 0, .int 0, .int 0, .int (-1), .int 0, .int 0, .int 0, .int 0, .long 0, .ref (rM 3), .ref (rM 4), .ref (rM 5), .ref (rM 6), .ref (rM 7), .ref (rM 8), .ref (rM 9), .ref (rM 10), .ref (rM 11), .ref (rM 12), .ref (rM 13), .ref (rM 14), .ref (rM 15), .ref (rM 16), .ref (rM 17), .ref (rM 18), .ref (rM 19), .ref (rM 20), .ref (rM 21), .ref (rM 22), .ref (rM 23), .ref (rM 24), .int 0, .int 0, .int 0, .int 0, .int 0, .int 0, .int 0, .int 0, .int 0, .ref (rM 25), .ref (rM 26), .ref (rM 27), .int 0, .int 0, .ref (rM 28), .int 0, .ref (rM 29), .ref (rM 30), .ref (rM 31), .ref (rM 32), .ref (rM 33), .ref (rM 34), .ref (rM 35), .ref (rM 36), .int 0, .int 0, .int 0, .ref (rM 37), .ref (rM 38)])), (rM 4, .inl ((cM 4), 2, .inl (fM 4))), (rM 5, .inl ((cM 5), 2, .inl (fM 5)))]) [0, 1, 2] (by decide) rfl
    have hFc := va_free (wc := [(rM 0, .inr (8, [.ref (rM 1), .ref (rM 2), .int 0, .int 0, .int 0, .int (-1), .int 0, .int 0, .int 0, .int 0, .long 0, .ref (rM 3), .ref (rM 4), .ref (rM 5), .ref (rM 6), .ref (rM 7), .ref (rM 8), .ref (rM 9), .ref (rM 10), .ref (rM 11), .ref (rM 12), .ref (rM 13), .ref (rM 14), .ref (rM 15), .ref (rM 16), .ref (rM 17), .ref (rM 18), .ref (rM 19), .ref (rM 20), .ref (rM 21), .ref (rM 22), .ref (rM 23), .ref (rM 24), .int 0, .int 0, .int 0, .int 0, .int 0, .int 0, .int 0, .int 0, .int 0, .ref (rM 25), .ref (rM 26), .ref (rM 27), .int 0, .int 0, .ref (rM 28), .int 0, .ref (rM 29), .ref (rM 30), .ref (rM 31), .ref (rM 32), .ref (rM 33), .ref (rM 34), .ref (rM 35), .ref (rM 36), .int 0, .int 0, .int 0, .ref (rM 37), .ref (rM 38)])), (rM 4, .inl ((cM 4), 2, .inl (fM 4))), (rM 5, .inl ((cM 5), 2, .inl (fM 5)))]) hD hS hA [0, 1, 2] rfl
    refine va_calli (va_runV (As := [.int (xs 1)]) (rest := [.int 0]) ⟨hx, hb, hml, hown, hG⟩ (kX9_round l dC dI rM cM (fM 4) (fM 5) (xs 1) H1.size hfM_4_0 hfM_5_0) (cwV 1 hG (goodV gw1752 gw1753 gw1754 gw138 gw1755) rfl rfl rfl hd_X9_round ⟨(Nat.le_of_ble_eq_true rfl), (Nat.le_of_ble_eq_true rfl)⟩) ⟨fbW, va_recv hKc hPc (ci := 8) (q0 := 0) rfl rfl, pW_in hPc hKc hDc⟩ rfl rfl hl.1 rfl (lv_room (Nat.le_of_ble_eq_true rfl)) dL_law_759 ⟨(Nat.le_of_ble_eq_true rfl), (Nat.le_of_ble_eq_true rfl)⟩) hS (fun q _ h => hFc q h) hFc (fun r_25 u t H24 locs ht hvm hw hB hz1 hk1 hS => ?_)
    rcases hw with ⟨rfl, hy26, hw⟩ | ⟨rfl, hy27, hy28, hw⟩ | ⟨rfl, hy29, hy30, hy31, hw⟩ | ⟨rfl, hy32, hy33, hy34, hw⟩
    · skip
      exact ((by have k0 := q_nlt hy4; have k1 := q_le hy5; have k2 := q_ne hy6; have k3 := q_lt hy26; have z0 : (0 : Int32).toInt = 0 := (by decide); have z1 : (1 : Int32).toInt = 1 := (by decide); omega) : False).elim
    · skip
      exact ((by have k0 := q_nlt hy4; have k1 := q_le hy5; have k2 := q_ne hy6; have k3 := q_nlt hy27; have k4 := q_lt hy28; have z0 : (0 : Int32).toInt = 0 := (by decide); have z1 : (1 : Int32).toInt = 1 := (by decide); omega) : False).elim
    · skip
      obtain ⟨hP, hD⟩ := va_join (wr := []) (w1 := []) hP hD [0, 1, 2] [] rfl rfl (by decide) (by decide) hk1 hFc (fun k q h => by simp at h) ⟨fun i j p q h => by simp at h, fun k q h => by simp at h⟩
      refine wt_c (v := 0) hw ?_
      refine lv_icmp_eq (tgt := 1540) hx hb dL_law_762 (by decide) (fun c_35 => ?_) (fun c_35 => absurd (by decide) c_35)
      exact law_end l C0 hS hl
    · skip
      exact ((by have k0 := q_nlt hy4; have k1 := q_le hy5; have k2 := q_ne hy6; have k3 := q_nlt hy32; have k4 := q_nlt hy33; have k5 := q_eq hy34; have z0 : (0 : Int32).toInt = 0 := (by decide); have z1 : (1 : Int32).toInt = 1 := (by decide); omega) : False).elim
  · skip
    obtain ⟨hP, hD⟩ := va_join (wr := [(rM 0, .inr (8, [.ref (rM 1), .ref (rM 2), .int 0, .int 0, .int 0, .int (-1), .int 0, .int 0, .int 0, .int 0, .long 0, .ref (rM 3), .ref (rM 4), .ref (rM 5), .ref (rM 6), .ref (rM 7), .ref (rM 8), .ref (rM 9), .ref (rM 10), .ref (rM 11), .ref (rM 12), .ref (rM 13), .ref (rM 14), .ref (rM 15), .ref (rM 16), .ref (rM 17), .ref (rM 18), .ref (rM 19), .ref (rM 20), .ref (rM 21), .ref (rM 22), .ref (rM 23), .ref (rM 24), .int 0, .int 0, .int 0, .int 0, .int 0, .int 0, .int 0, .int 0, .int 0, .ref (rM 25), .ref (rM 26), .ref (rM 27), .int 0, .int 0, .ref (rM 28), .int 0, .ref (rM 29), .ref (rM 30), .ref (rM 31), .ref (rM 32), .ref (rM 33), .ref (rM 34), .ref (rM 35), .ref (rM 36), .int 0, .int 0, .int 0, .ref (rM 37), .ref (rM 38)])), (rM 4, .inl ((cM 4), 2, .inl (fM 4))), (rM 5, .inl ((cM 5), 2, .inl (fM 5)))]) (w1 := []) hP hD [0, 1] [2, 3, 4] rfl rfl (by decide) (by decide) hk1 hFc (fun k q h => by simp at h) ⟨fun i j p q h => by simp at h, fun k q h => by simp at h⟩
    refine wt_c (v := 0) hw ?_
    refine lv_aload_n hx hb dL_law_753 rfl (lv_at hl 1 rfl) ?_
    refine lv_aload_n hx hb dL_law_754 rfl (lv_at hl 3 rfl) ?_
    refine lv_iload_n hx hb dL_law_755 rfl (lv_at hl 0 rfl) ?_
    refine lv_iconst (v := 1) hx hb dL_law_756 (by decide) ?_
    refine lv_iadd hx hb dL_law_757 ?_
    refine wt_c (v := 1) (by decide) ?_
    refine va_sld hx hb hX hbl hbA hS (vin (by decide)) dL_law_758 ?_
    refine wt_c (v := xs 1) (congrArg xs (by decide)) ?_
    have hPc := hP.sub (ws' := [(rM 0, .inr (8, [.ref (rM 1), .ref (rM 2), .int 0, .int 0, .int 0, .int (-1), .int 0, .int 0, .int 0, .int 0, .long 0, .ref (rM 3), .ref (rM 4), .ref (rM 5), .ref (rM 6), .ref (rM 7), .ref (rM 8), .ref (rM 9), .ref (rM 10), .ref (rM 11), .ref (rM 12), .ref (rM 13), .ref (rM 14), .ref (rM 15), .ref (rM 16), .ref (rM 17), .ref (rM 18), .ref (rM 19), .ref (rM 20), .ref (rM 21), .ref (rM 22), .ref (rM 23), .ref (rM 24), .int 0, .int 0, .int 0, .int 0, .int 0, .int 0, .int 0, .int 0, .int 0, .ref (rM 25), .ref (rM 26), .ref (rM 27), .int 0, .int 0, .ref (rM 28), .int 0, .ref (rM 29), .ref (rM 30), .ref (rM 31), .ref (rM 32), .ref (rM 33), .ref (rM 34), .ref (rM 35), .ref (rM 36), .int 0, .int 0, .int 0, .ref (rM 37), .ref (rM 38)])), (rM 4, .inl ((cM 4), 2, .inl (fM 4))), (rM 5, .inl ((cM 5), 2, .inl (fM 5)))]) [0, 1, 2] rfl
    have hKc := hK.sub (tys' := [((cM 4), .int), ((cM 5), .int)]) [0, 1] rfl
    have hDc := hD.sub (ws' := [(rM 0, .inr (8, [.ref (rM 1), .ref (rM 2), .int 0, .int 0, .int 0, .int (-1), .int 0, .int 0, .int 0, .int 0, .long 0, .ref (rM 3), .ref (rM 4), .ref (rM 5), .ref (rM 6), .ref (rM 7), .ref (rM 8), .ref (rM 9), .ref (rM 10), .ref (rM 11), .ref (rM 12), .ref (rM 13), .ref (rM 14), .ref (rM 15), .ref (rM 16), .ref (rM 17), .ref (rM 18), .ref (rM 19), .ref (rM 20), .ref (rM 21), .ref (rM 22), .ref (rM 23), .ref (rM 24), .int 0, .int 0, .int 0, .int 0, .int 0, .int 0, .int 0, .int 0, .int 0, .ref (rM 25), .ref (rM 26), .ref (rM 27), .int 0, .int 0, .ref (rM 28), .int 0, .ref (rM 29), .ref (rM 30), .ref (rM 31), .ref (rM 32), .ref (rM 33), .ref (rM 34), .ref (rM 35), .ref (rM 36), .int 0, .int 0, .int 0, .ref (rM 37), .ref (rM 38)])), (rM 4, .inl ((cM 4), 2, .inl (fM 4))), (rM 5, .inl ((cM 5), 2, .inl (fM 5)))]) [0, 1, 2] (by decide) rfl
    have hFc := va_free (wc := [(rM 0, .inr (8, [.ref (rM 1), .ref (rM 2), .int 0, .int 0, .int 0, .int (-1), .int 0, .int 0, .int 0, .int 0, .long 0, .ref (rM 3), .ref (rM 4), .ref (rM 5), .ref (rM 6), .ref (rM 7), .ref (rM 8), .ref (rM 9), .ref (rM 10), .ref (rM 11), .ref (rM 12), .ref (rM 13), .ref (rM 14), .ref (rM 15), .ref (rM 16), .ref (rM 17), .ref (rM 18), .ref (rM 19), .ref (rM 20), .ref (rM 21), .ref (rM 22), .ref (rM 23), .ref (rM 24), .int 0, .int 0, .int 0, .int 0, .int 0, .int 0, .int 0, .int 0, .int 0, .ref (rM 25), .ref (rM 26), .ref (rM 27), .int 0, .int 0, .ref (rM 28), .int 0, .ref (rM 29), .ref (rM 30), .ref (rM 31), .ref (rM 32), .ref (rM 33), .ref (rM 34), .ref (rM 35), .ref (rM 36), .int 0, .int 0, .int 0, .ref (rM 37), .ref (rM 38)])), (rM 4, .inl ((cM 4), 2, .inl (fM 4))), (rM 5, .inl ((cM 5), 2, .inl (fM 5)))]) hD hS hA [0, 1, 2] rfl
    refine va_calli (va_runV (As := [.int (xs 1)]) (rest := [.int 0]) ⟨hx, hb, hml, hown, hG⟩ (kX9_round l dC dI rM cM (fM 4) (fM 5) (xs 1) H1.size hfM_4_0 hfM_5_0) (cwV 1 hG (goodV gw1752 gw1753 gw1754 gw138 gw1755) rfl rfl rfl hd_X9_round ⟨(Nat.le_of_ble_eq_true rfl), (Nat.le_of_ble_eq_true rfl)⟩) ⟨fbW, va_recv hKc hPc (ci := 8) (q0 := 0) rfl rfl, pW_in hPc hKc hDc⟩ rfl rfl hl.1 rfl (lv_room (Nat.le_of_ble_eq_true rfl)) dL_law_759 ⟨(Nat.le_of_ble_eq_true rfl), (Nat.le_of_ble_eq_true rfl)⟩) hS (fun q _ h => hFc q h) hFc (fun r_37 u t H36 locs ht hvm hw hB hz1 hk1 hS => ?_)
    rcases hw with ⟨rfl, hy38, hw⟩ | ⟨rfl, hy39, hy40, hw⟩ | ⟨rfl, hy41, hy42, hy43, hw⟩ | ⟨rfl, hy44, hy45, hy46, hw⟩
    · skip
      exact ((by have k0 := q_nlt hy7; have k1 := q_le hy8; have k2 := q_eq hy9; have k3 := q_lt hy38; have z0 : (0 : Int32).toInt = 0 := (by decide); have z1 : (1 : Int32).toInt = 1 := (by decide); omega) : False).elim
    · skip
      exact ((by have k0 := q_nlt hy7; have k1 := q_le hy8; have k2 := q_eq hy9; have k3 := q_nlt hy39; have k4 := q_lt hy40; have z0 : (0 : Int32).toInt = 0 := (by decide); have z1 : (1 : Int32).toInt = 1 := (by decide); omega) : False).elim
    · skip
      exact ((by have k0 := q_nlt hy7; have k1 := q_le hy8; have k2 := q_eq hy9; have k3 := q_nlt hy41; have k4 := q_nlt hy42; have k5 := q_ne hy43; have z0 : (0 : Int32).toInt = 0 := (by decide); have z1 : (1 : Int32).toInt = 1 := (by decide); omega) : False).elim
    · skip
      obtain ⟨hP, hD⟩ := va_join (wr := []) (w1 := []) hP hD [0, 1, 2] [] rfl rfl (by decide) (by decide) hk1 hFc (fun k q h => by simp at h) ⟨fun i j p q h => by simp at h, fun k q h => by simp at h⟩
      refine wt_c (v := 0) hw ?_
      refine lv_icmp_eq (tgt := 1540) hx hb dL_law_762 (by decide) (fun c_47 => ?_) (fun c_47 => absurd (by decide) c_47)
      exact law_end l C0 hS hl
  · skip
    obtain ⟨hP, hD⟩ := va_join (wr := [(rM 0, .inr (8, [.ref (rM 1), .ref (rM 2), .int 0, .int 0, .int 0, .int (-1), .int 0, .int 0, .int 0, .int 0, .long 0, .ref (rM 3), .ref (rM 4), .ref (rM 5), .ref (rM 6), .ref (rM 7), .ref (rM 8), .ref (rM 9), .ref (rM 10), .ref (rM 11), .ref (rM 12), .ref (rM 13), .ref (rM 14), .ref (rM 15), .ref (rM 16), .ref (rM 17), .ref (rM 18), .ref (rM 19), .ref (rM 20), .ref (rM 21), .ref (rM 22), .ref (rM 23), .ref (rM 24), .int 0, .int 0, .int 0, .int 0, .int 0, .int 0, .int 0, .int 0, .int 0, .ref (rM 25), .ref (rM 26), .ref (rM 27), .int 0, .int 0, .ref (rM 28), .int 0, .ref (rM 29), .ref (rM 30), .ref (rM 31), .ref (rM 32), .ref (rM 33), .ref (rM 34), .ref (rM 35), .ref (rM 36), .int 0, .int 0, .int 0, .ref (rM 37), .ref (rM 38)])), (rM 4, .inl ((cM 4), 2, .inl (fM 4))), (rM 5, .inl ((cM 5), 2, .inl (fM 5)))]) (w1 := []) hP hD [0, 1] [2, 3, 4] rfl rfl (by decide) (by decide) hk1 hFc (fun k q h => by simp at h) ⟨fun i j p q h => by simp at h, fun k q h => by simp at h⟩
    refine wt_c (v := (-1)) hw ?_
    refine lv_aload_n hx hb dL_law_753 rfl (lv_at hl 1 rfl) ?_
    refine lv_aload_n hx hb dL_law_754 rfl (lv_at hl 3 rfl) ?_
    refine lv_iload_n hx hb dL_law_755 rfl (lv_at hl 0 rfl) ?_
    refine lv_iconst (v := 1) hx hb dL_law_756 (by decide) ?_
    refine lv_iadd hx hb dL_law_757 ?_
    refine wt_c (v := 1) (by decide) ?_
    refine va_sld hx hb hX hbl hbA hS (vin (by decide)) dL_law_758 ?_
    refine wt_c (v := xs 1) (congrArg xs (by decide)) ?_
    have hPc := hP.sub (ws' := [(rM 0, .inr (8, [.ref (rM 1), .ref (rM 2), .int 0, .int 0, .int 0, .int (-1), .int 0, .int 0, .int 0, .int 0, .long 0, .ref (rM 3), .ref (rM 4), .ref (rM 5), .ref (rM 6), .ref (rM 7), .ref (rM 8), .ref (rM 9), .ref (rM 10), .ref (rM 11), .ref (rM 12), .ref (rM 13), .ref (rM 14), .ref (rM 15), .ref (rM 16), .ref (rM 17), .ref (rM 18), .ref (rM 19), .ref (rM 20), .ref (rM 21), .ref (rM 22), .ref (rM 23), .ref (rM 24), .int 0, .int 0, .int 0, .int 0, .int 0, .int 0, .int 0, .int 0, .int 0, .ref (rM 25), .ref (rM 26), .ref (rM 27), .int 0, .int 0, .ref (rM 28), .int 0, .ref (rM 29), .ref (rM 30), .ref (rM 31), .ref (rM 32), .ref (rM 33), .ref (rM 34), .ref (rM 35), .ref (rM 36), .int 0, .int 0, .int 0, .ref (rM 37), .ref (rM 38)])), (rM 4, .inl ((cM 4), 2, .inl (fM 4))), (rM 5, .inl ((cM 5), 2, .inl (fM 5)))]) [0, 1, 2] rfl
    have hKc := hK.sub (tys' := [((cM 4), .int), ((cM 5), .int)]) [0, 1] rfl
    have hDc := hD.sub (ws' := [(rM 0, .inr (8, [.ref (rM 1), .ref (rM 2), .int 0, .int 0, .int 0, .int (-1), .int 0, .int 0, .int 0, .int 0, .long 0, .ref (rM 3), .ref (rM 4), .ref (rM 5), .ref (rM 6), .ref (rM 7), .ref (rM 8), .ref (rM 9), .ref (rM 10), .ref (rM 11), .ref (rM 12), .ref (rM 13), .ref (rM 14), .ref (rM 15), .ref (rM 16), .ref (rM 17), .ref (rM 18), .ref (rM 19), .ref (rM 20), .ref (rM 21), .ref (rM 22), .ref (rM 23), .ref (rM 24), .int 0, .int 0, .int 0, .int 0, .int 0, .int 0, .int 0, .int 0, .int 0, .ref (rM 25), .ref (rM 26), .ref (rM 27), .int 0, .int 0, .ref (rM 28), .int 0, .ref (rM 29), .ref (rM 30), .ref (rM 31), .ref (rM 32), .ref (rM 33), .ref (rM 34), .ref (rM 35), .ref (rM 36), .int 0, .int 0, .int 0, .ref (rM 37), .ref (rM 38)])), (rM 4, .inl ((cM 4), 2, .inl (fM 4))), (rM 5, .inl ((cM 5), 2, .inl (fM 5)))]) [0, 1, 2] (by decide) rfl
    have hFc := va_free (wc := [(rM 0, .inr (8, [.ref (rM 1), .ref (rM 2), .int 0, .int 0, .int 0, .int (-1), .int 0, .int 0, .int 0, .int 0, .long 0, .ref (rM 3), .ref (rM 4), .ref (rM 5), .ref (rM 6), .ref (rM 7), .ref (rM 8), .ref (rM 9), .ref (rM 10), .ref (rM 11), .ref (rM 12), .ref (rM 13), .ref (rM 14), .ref (rM 15), .ref (rM 16), .ref (rM 17), .ref (rM 18), .ref (rM 19), .ref (rM 20), .ref (rM 21), .ref (rM 22), .ref (rM 23), .ref (rM 24), .int 0, .int 0, .int 0, .int 0, .int 0, .int 0, .int 0, .int 0, .int 0, .ref (rM 25), .ref (rM 26), .ref (rM 27), .int 0, .int 0, .ref (rM 28), .int 0, .ref (rM 29), .ref (rM 30), .ref (rM 31), .ref (rM 32), .ref (rM 33), .ref (rM 34), .ref (rM 35), .ref (rM 36), .int 0, .int 0, .int 0, .ref (rM 37), .ref (rM 38)])), (rM 4, .inl ((cM 4), 2, .inl (fM 4))), (rM 5, .inl ((cM 5), 2, .inl (fM 5)))]) hD hS hA [0, 1, 2] rfl
    refine va_calli (va_runV (As := [.int (xs 1)]) (rest := [.int (-1)]) ⟨hx, hb, hml, hown, hG⟩ (kX9_round l dC dI rM cM (fM 4) (fM 5) (xs 1) H1.size hfM_4_0 hfM_5_0) (cwV 1 hG (goodV gw1752 gw1753 gw1754 gw138 gw1755) rfl rfl rfl hd_X9_round ⟨(Nat.le_of_ble_eq_true rfl), (Nat.le_of_ble_eq_true rfl)⟩) ⟨fbW, va_recv hKc hPc (ci := 8) (q0 := 0) rfl rfl, pW_in hPc hKc hDc⟩ rfl rfl hl.1 rfl (lv_room (Nat.le_of_ble_eq_true rfl)) dL_law_759 ⟨(Nat.le_of_ble_eq_true rfl), (Nat.le_of_ble_eq_true rfl)⟩) hS (fun q _ h => hFc q h) hFc (fun r_49 u t H48 locs ht hvm hw hB hz1 hk1 hS => ?_)
    rcases hw with ⟨rfl, hy50, hw⟩ | ⟨rfl, hy51, hy52, hw⟩ | ⟨rfl, hy53, hy54, hy55, hw⟩ | ⟨rfl, hy56, hy57, hy58, hw⟩
    · skip
      exact ((by have k0 := q_nlt hy10; have k1 := q_nle hy11; have k2 := q_lt hy50; have z0 : (0 : Int32).toInt = 0 := (by decide); have z1 : (1 : Int32).toInt = 1 := (by decide); omega) : False).elim
    · skip
      obtain ⟨hP, hD⟩ := va_join (wr := []) (w1 := []) hP hD [0, 1, 2] [] rfl rfl (by decide) (by decide) hk1 hFc (fun k q h => by simp at h) ⟨fun i j p q h => by simp at h, fun k q h => by simp at h⟩
      refine wt_c (v := (-1)) hw ?_
      refine lv_icmp_eq (tgt := 1540) hx hb dL_law_762 (by decide) (fun c_59 => ?_) (fun c_59 => absurd (by decide) c_59)
      exact law_end l C0 hS hl
    · skip
      exact ((by have k0 := q_nlt hy10; have k1 := q_nle hy11; have k2 := q_nlt hy53; have k3 := q_nlt hy54; have k4 := q_ne hy55; have z0 : (0 : Int32).toInt = 0 := (by decide); have z1 : (1 : Int32).toInt = 1 := (by decide); omega) : False).elim
    · skip
      exact ((by have k0 := q_nlt hy10; have k1 := q_nle hy11; have k2 := q_nlt hy56; have k3 := q_nlt hy57; have k4 := q_eq hy58; have z0 : (0 : Int32).toInt = 0 := (by decide); have z1 : (1 : Int32).toInt = 1 := (by decide); omega) : False).elim
set_option maxHeartbeats 4000000 in
set_option maxRecDepth 100000 in
theorem law_19 {p : Program} {e : Env} {s : State} {m : MethodId} {below : List Frame} {meth : Method} {c : Code} (l : Launch) {b : Nat} {xs : Nat → Int32} (C0 : lw_At p s m meth c b 6 xs) (dC : Nat → ClassId) (dI : Nat → Nat → Nat) (rX rM : Nat → Nat) (cX cM : Nat → ClassId) (fX fM : Nat → Nat → Int32) (gX gM : Nat → Nat → Int64) (hfM_5_0 : fM 5 0 = 0) (hfM_5_1 : fM 5 1 = 0) {H : Heap} {locs : List Loc} (hK : va_K (dC, dI) vwCl [((cM 5), .int)] s) (hP : va_P (dC, dI) vwCl [(rX 0, .inr (7, [.ref (rX 1), .int 0, .ref (rX 2), .ref (rX 55), .ref (rX 57), .ref (rX 30), .ref (rX 56), .ref (rX 36), .ref (rX 37), .ref (rX 38), .int 0, .ref (rX 51), .int 0, .ref (rX 52), .ref (rX 53), .ref (rX 54)])), (rX 55, .inr (3, [.int 1, .int 0, .int 0, .int 0, .ref (rX 20), .ref (rX 21), .ref (rX 22), .int 0, .ref (rX 23), .ref (rX 24), .ref (rX 25), .int 0, .ref (rX 28), .ref (rX 27)])), (rM 0, .inr (8, [.ref (rM 1), .ref (rM 2), .int 0, .int 0, .int 0, .int (-1), .int 0, .int 0, .int 0, .int 0, .long 0, .ref (rM 3), .ref (rM 4), .ref (rM 5), .ref (rM 6), .ref (rM 7), .ref (rM 8), .ref (rM 9), .ref (rM 10), .ref (rM 11), .ref (rM 12), .ref (rM 13), .ref (rM 14), .ref (rM 15), .ref (rM 16), .ref (rM 17), .ref (rM 18), .ref (rM 19), .ref (rM 20), .ref (rM 21), .ref (rM 22), .ref (rM 23), .ref (rM 24), .int 0, .int 0, .int 0, .int 0, .int 0, .int 0, .int 0, .int 0, .int 0, .ref (rM 25), .ref (rM 26), .ref (rM 27), .int 0, .int 0, .ref (rM 28), .int 0, .ref (rM 29), .ref (rM 30), .ref (rM 31), .ref (rM 32), .ref (rM 33), .ref (rM 34), .ref (rM 35), .ref (rM 36), .int 0, .int 0, .int 0, .ref (rM 37), .ref (rM 38)])), (rM 5, .inl ((cM 5), 2, .inl (fM 5)))] H) (hD : va_D (fun q : Nat => s.heap.size ≤ q) [(rX 0, .inr (7, [.ref (rX 1), .int 0, .ref (rX 2), .ref (rX 55), .ref (rX 57), .ref (rX 30), .ref (rX 56), .ref (rX 36), .ref (rX 37), .ref (rX 38), .int 0, .ref (rX 51), .int 0, .ref (rX 52), .ref (rX 53), .ref (rX 54)])), (rX 55, .inr (3, [.int 1, .int 0, .int 0, .int 0, .ref (rX 20), .ref (rX 21), .ref (rX 22), .int 0, .ref (rX 23), .ref (rX 24), .ref (rX 25), .int 0, .ref (rX 28), .ref (rX 27)])), (rM 0, .inr (8, [.ref (rM 1), .ref (rM 2), .int 0, .int 0, .int 0, .int (-1), .int 0, .int 0, .int 0, .int 0, .long 0, .ref (rM 3), .ref (rM 4), .ref (rM 5), .ref (rM 6), .ref (rM 7), .ref (rM 8), .ref (rM 9), .ref (rM 10), .ref (rM 11), .ref (rM 12), .ref (rM 13), .ref (rM 14), .ref (rM 15), .ref (rM 16), .ref (rM 17), .ref (rM 18), .ref (rM 19), .ref (rM 20), .ref (rM 21), .ref (rM 22), .ref (rM 23), .ref (rM 24), .int 0, .int 0, .int 0, .int 0, .int 0, .int 0, .int 0, .int 0, .int 0, .ref (rM 25), .ref (rM 26), .ref (rM 27), .int 0, .int 0, .ref (rM 28), .int 0, .ref (rM 29), .ref (rM 30), .ref (rM 31), .ref (rM 32), .ref (rM 33), .ref (rM 34), .ref (rM 35), .ref (rM 36), .int 0, .int 0, .int 0, .ref (rM 37), .ref (rM 38)])), (rM 5, .inl ((cM 5), 2, .inl (fM 5)))]) (hS : va_S (fun q : Nat => s.heap.size ≤ q) s.heap H locs) {ls : Array Slot} (hl : lv_has ls 4 [(3, .int 0), (2, .ref (rM 0)), (1, .ref (rX 0)), (0, .ref b)]) : W p l e room_1 s m #[Value.ref b] below meth c H locs 103 20190 (lw_Z below #[Value.ref b] s) (F0 m 767 ls []) := by
  obtain ⟨hx, hb, hr, hml, hown, hts, hX, hbl, hlocks, hgv⟩ := id C0
  have hown : s.vm.findClass RL = some m.cls := hown
  have hG : ∀ w ∈ GW, w.before _ s = true := fun w h => hts w (List.mem_filter.mp h).1
  have hA : ∀ q : Nat, s.heap.size ≤ q → (fun q : Nat => s.heap.size ≤ q) q := fun _ h => h
  have hbA : ¬ (fun q : Nat => s.heap.size ≤ q) b := Nat.not_le.mpr hbl
  refine lv_aload_n hx hb dL_law_767 rfl (lv_at hl 2 rfl) ?_
  refine lv_aload_n hx hb dL_law_768 rfl (lv_at hl 3 rfl) ?_
  refine lv_iload_n hx hb dL_law_769 rfl (lv_at hl 0 rfl) ?_
  refine lv_iconst (v := 1) hx hb dL_law_770 (by decide) ?_
  refine lv_iadd hx hb dL_law_771 ?_
  refine wt_c (v := 1) (by decide) ?_
  refine va_sld hx hb hX hbl hbA hS (vin (by decide)) dL_law_772 ?_
  refine wt_c (v := xs 1) (congrArg xs (by decide)) ?_
  have hPc := hP.sub (ws' := [(rX 0, .inr (7, [.ref (rX 1), .int 0, .ref (rX 2), .ref (rX 55), .ref (rX 57), .ref (rX 30), .ref (rX 56), .ref (rX 36), .ref (rX 37), .ref (rX 38), .int 0, .ref (rX 51), .int 0, .ref (rX 52), .ref (rX 53), .ref (rX 54)])), (rX 55, .inr (3, [.int 1, .int 0, .int 0, .int 0, .ref (rX 20), .ref (rX 21), .ref (rX 22), .int 0, .ref (rX 23), .ref (rX 24), .ref (rX 25), .int 0, .ref (rX 28), .ref (rX 27)]))]) [0, 1] rfl
  have hKc := hK.sub (tys' := []) [] rfl
  have hDc := hD.sub (ws' := [(rX 0, .inr (7, [.ref (rX 1), .int 0, .ref (rX 2), .ref (rX 55), .ref (rX 57), .ref (rX 30), .ref (rX 56), .ref (rX 36), .ref (rX 37), .ref (rX 38), .int 0, .ref (rX 51), .int 0, .ref (rX 52), .ref (rX 53), .ref (rX 54)])), (rX 55, .inr (3, [.int 1, .int 0, .int 0, .int 0, .ref (rX 20), .ref (rX 21), .ref (rX 22), .int 0, .ref (rX 23), .ref (rX 24), .ref (rX 25), .int 0, .ref (rX 28), .ref (rX 27)]))]) [0, 1] (by decide) rfl
  have hFc := va_free (wc := [(rX 0, .inr (7, [.ref (rX 1), .int 0, .ref (rX 2), .ref (rX 55), .ref (rX 57), .ref (rX 30), .ref (rX 56), .ref (rX 36), .ref (rX 37), .ref (rX 38), .int 0, .ref (rX 51), .int 0, .ref (rX 52), .ref (rX 53), .ref (rX 54)])), (rX 55, .inr (3, [.int 1, .int 0, .int 0, .int 0, .ref (rX 20), .ref (rX 21), .ref (rX 22), .int 0, .ref (rX 23), .ref (rX 24), .ref (rX 25), .int 0, .ref (rX 28), .ref (rX 27)]))]) hD hS hA [0, 1] rfl
  refine va_calli (va_runV (As := [.int (xs 1)]) (rest := []) ⟨hx, hb, hml, hown, hG⟩ (kX8_walk l dC dI rX cX (xs 1) H.size ) (cwV 1 hG (goodV gw922 gw923 gw924 gw129 gw925) rfl rfl rfl hd_X8_walk ⟨(Nat.le_of_ble_eq_true rfl), (Nat.le_of_ble_eq_true rfl)⟩) ⟨fbW, va_recv hKc hPc (ci := 7) (q0 := 0) rfl rfl, pW_in hPc hKc hDc⟩ rfl rfl hl.1 rfl (lv_room (Nat.le_of_ble_eq_true rfl)) dL_law_773 ⟨(Nat.le_of_ble_eq_true rfl), (Nat.le_of_ble_eq_true rfl)⟩) hS (fun q _ h => hFc q h) hFc (fun r_2 u t H1 locs ht hvm hw hB hz1 hk1 hS => ?_)
  rcases hw with ⟨rfl, hy3, hw⟩ | ⟨rfl, hy4, hy5, hw⟩ | ⟨rfl, hy6, hy7, hw⟩
  · skip
    obtain ⟨hP, hD⟩ := va_join (wr := [(rM 0, .inr (8, [.ref (rM 1), .ref (rM 2), .int 0, .int 0, .int 0, .int (-1), .int 0, .int 0, .int 0, .int 0, .long 0, .ref (rM 3), .ref (rM 4), .ref (rM 5), .ref (rM 6), .ref (rM 7), .ref (rM 8), .ref (rM 9), .ref (rM 10), .ref (rM 11), .ref (rM 12), .ref (rM 13), .ref (rM 14), .ref (rM 15), .ref (rM 16), .ref (rM 17), .ref (rM 18), .ref (rM 19), .ref (rM 20), .ref (rM 21), .ref (rM 22), .ref (rM 23), .ref (rM 24), .int 0, .int 0, .int 0, .int 0, .int 0, .int 0, .int 0, .int 0, .int 0, .ref (rM 25), .ref (rM 26), .ref (rM 27), .int 0, .int 0, .ref (rM 28), .int 0, .ref (rM 29), .ref (rM 30), .ref (rM 31), .ref (rM 32), .ref (rM 33), .ref (rM 34), .ref (rM 35), .ref (rM 36), .int 0, .int 0, .int 0, .ref (rM 37), .ref (rM 38)])), (rM 5, .inl ((cM 5), 2, .inl (fM 5)))]) (w1 := []) hP hD [0, 1] [2, 3] rfl rfl (by decide) (by decide) hk1 hFc (fun k q h => by simp at h) ⟨fun i j p q h => by simp at h, fun k q h => by simp at h⟩
    refine wt_c (v := (-1)) hw ?_
    refine lv_aload_n hx hb dL_law_776 rfl (lv_at hl 1 rfl) ?_
    refine lv_aload_n hx hb dL_law_777 rfl (lv_at hl 3 rfl) ?_
    refine lv_iload_n hx hb dL_law_778 rfl (lv_at hl 0 rfl) ?_
    refine lv_iconst (v := 1) hx hb dL_law_779 (by decide) ?_
    refine lv_iadd hx hb dL_law_780 ?_
    refine wt_c (v := 1) (by decide) ?_
    refine va_sld hx hb hX hbl hbA hS (vin (by decide)) dL_law_781 ?_
    refine wt_c (v := xs 1) (congrArg xs (by decide)) ?_
    have hPc := hP.sub (ws' := [(rM 0, .inr (8, [.ref (rM 1), .ref (rM 2), .int 0, .int 0, .int 0, .int (-1), .int 0, .int 0, .int 0, .int 0, .long 0, .ref (rM 3), .ref (rM 4), .ref (rM 5), .ref (rM 6), .ref (rM 7), .ref (rM 8), .ref (rM 9), .ref (rM 10), .ref (rM 11), .ref (rM 12), .ref (rM 13), .ref (rM 14), .ref (rM 15), .ref (rM 16), .ref (rM 17), .ref (rM 18), .ref (rM 19), .ref (rM 20), .ref (rM 21), .ref (rM 22), .ref (rM 23), .ref (rM 24), .int 0, .int 0, .int 0, .int 0, .int 0, .int 0, .int 0, .int 0, .int 0, .ref (rM 25), .ref (rM 26), .ref (rM 27), .int 0, .int 0, .ref (rM 28), .int 0, .ref (rM 29), .ref (rM 30), .ref (rM 31), .ref (rM 32), .ref (rM 33), .ref (rM 34), .ref (rM 35), .ref (rM 36), .int 0, .int 0, .int 0, .ref (rM 37), .ref (rM 38)])), (rM 5, .inl ((cM 5), 2, .inl (fM 5)))]) [0, 1] rfl
    have hKc := hK.sub (tys' := [((cM 5), .int)]) [0] rfl
    have hDc := hD.sub (ws' := [(rM 0, .inr (8, [.ref (rM 1), .ref (rM 2), .int 0, .int 0, .int 0, .int (-1), .int 0, .int 0, .int 0, .int 0, .long 0, .ref (rM 3), .ref (rM 4), .ref (rM 5), .ref (rM 6), .ref (rM 7), .ref (rM 8), .ref (rM 9), .ref (rM 10), .ref (rM 11), .ref (rM 12), .ref (rM 13), .ref (rM 14), .ref (rM 15), .ref (rM 16), .ref (rM 17), .ref (rM 18), .ref (rM 19), .ref (rM 20), .ref (rM 21), .ref (rM 22), .ref (rM 23), .ref (rM 24), .int 0, .int 0, .int 0, .int 0, .int 0, .int 0, .int 0, .int 0, .int 0, .ref (rM 25), .ref (rM 26), .ref (rM 27), .int 0, .int 0, .ref (rM 28), .int 0, .ref (rM 29), .ref (rM 30), .ref (rM 31), .ref (rM 32), .ref (rM 33), .ref (rM 34), .ref (rM 35), .ref (rM 36), .int 0, .int 0, .int 0, .ref (rM 37), .ref (rM 38)])), (rM 5, .inl ((cM 5), 2, .inl (fM 5)))]) [0, 1] (by decide) rfl
    have hFc := va_free (wc := [(rM 0, .inr (8, [.ref (rM 1), .ref (rM 2), .int 0, .int 0, .int 0, .int (-1), .int 0, .int 0, .int 0, .int 0, .long 0, .ref (rM 3), .ref (rM 4), .ref (rM 5), .ref (rM 6), .ref (rM 7), .ref (rM 8), .ref (rM 9), .ref (rM 10), .ref (rM 11), .ref (rM 12), .ref (rM 13), .ref (rM 14), .ref (rM 15), .ref (rM 16), .ref (rM 17), .ref (rM 18), .ref (rM 19), .ref (rM 20), .ref (rM 21), .ref (rM 22), .ref (rM 23), .ref (rM 24), .int 0, .int 0, .int 0, .int 0, .int 0, .int 0, .int 0, .int 0, .int 0, .ref (rM 25), .ref (rM 26), .ref (rM 27), .int 0, .int 0, .ref (rM 28), .int 0, .ref (rM 29), .ref (rM 30), .ref (rM 31), .ref (rM 32), .ref (rM 33), .ref (rM 34), .ref (rM 35), .ref (rM 36), .int 0, .int 0, .int 0, .ref (rM 37), .ref (rM 38)])), (rM 5, .inl ((cM 5), 2, .inl (fM 5)))]) hD hS hA [0, 1] rfl
    refine va_calli (va_runV (As := [.int (xs 1)]) (rest := [.int (-1)]) ⟨hx, hb, hml, hown, hG⟩ (kX9_walk l dC dI rM cM (fM 5) (xs 1) H1.size hfM_5_0) (cwV 1 hG (goodV gw1767 gw1768 gw1769 gw138 gw1770) rfl rfl rfl hd_X9_walk ⟨(Nat.le_of_ble_eq_true rfl), (Nat.le_of_ble_eq_true rfl)⟩) ⟨fbW, va_recv hKc hPc (ci := 8) (q0 := 0) rfl rfl, pW_in hPc hKc hDc⟩ rfl rfl hl.1 rfl (lv_room (Nat.le_of_ble_eq_true rfl)) dL_law_782 ⟨(Nat.le_of_ble_eq_true rfl), (Nat.le_of_ble_eq_true rfl)⟩) hS (fun q _ h => hFc q h) hFc (fun r_9 u t H8 locs ht hvm hw hB hz1 hk1 hS => ?_)
    rcases hw with ⟨rfl, hy10, hw⟩ | ⟨rfl, hy11, hy12, hw⟩ | ⟨rfl, hy13, hy14, hw⟩
    · skip
      obtain ⟨hP, hD⟩ := va_join (wr := []) (w1 := []) hP hD [0, 1] [] rfl rfl (by decide) (by decide) hk1 hFc (fun k q h => by simp at h) ⟨fun i j p q h => by simp at h, fun k q h => by simp at h⟩
      refine wt_c (v := (-1)) hw ?_
      refine lv_icmp_eq (tgt := 1540) hx hb dL_law_785 (by decide) (fun c_15 => ?_) (fun c_15 => absurd (by decide) c_15)
      exact law_end l C0 hS hl
    · skip
      exact ((by have k0 := q_lt hy3; have k1 := q_nlt hy11; have k2 := q_lt hy12; have z0 : (0 : Int32).toInt = 0 := (by decide); have z99 : (99 : Int32).toInt = 99 := (by decide); omega) : False).elim
    · skip
      exact ((by have k0 := q_lt hy3; have k1 := q_nlt hy13; have k2 := q_nlt hy14; have z0 : (0 : Int32).toInt = 0 := (by decide); have z99 : (99 : Int32).toInt = 99 := (by decide); omega) : False).elim
  · skip
    obtain ⟨hP, hD⟩ := va_join (wr := [(rM 0, .inr (8, [.ref (rM 1), .ref (rM 2), .int 0, .int 0, .int 0, .int (-1), .int 0, .int 0, .int 0, .int 0, .long 0, .ref (rM 3), .ref (rM 4), .ref (rM 5), .ref (rM 6), .ref (rM 7), .ref (rM 8), .ref (rM 9), .ref (rM 10), .ref (rM 11), .ref (rM 12), .ref (rM 13), .ref (rM 14), .ref (rM 15), .ref (rM 16), .ref (rM 17), .ref (rM 18), .ref (rM 19), .ref (rM 20), .ref (rM 21), .ref (rM 22), .ref (rM 23), .ref (rM 24), .int 0, .int 0, .int 0, .int 0, .int 0, .int 0, .int 0, .int 0, .int 0, .ref (rM 25), .ref (rM 26), .ref (rM 27), .int 0, .int 0, .ref (rM 28), .int 0, .ref (rM 29), .ref (rM 30), .ref (rM 31), .ref (rM 32), .ref (rM 33), .ref (rM 34), .ref (rM 35), .ref (rM 36), .int 0, .int 0, .int 0, .ref (rM 37), .ref (rM 38)])), (rM 5, .inl ((cM 5), 2, .inl (fM 5)))]) (w1 := []) hP hD [0, 1] [2, 3] rfl rfl (by decide) (by decide) hk1 hFc (fun k q h => by simp at h) ⟨fun i j p q h => by simp at h, fun k q h => by simp at h⟩
    refine wt_c (v := (-1)) hw ?_
    refine lv_aload_n hx hb dL_law_776 rfl (lv_at hl 1 rfl) ?_
    refine lv_aload_n hx hb dL_law_777 rfl (lv_at hl 3 rfl) ?_
    refine lv_iload_n hx hb dL_law_778 rfl (lv_at hl 0 rfl) ?_
    refine lv_iconst (v := 1) hx hb dL_law_779 (by decide) ?_
    refine lv_iadd hx hb dL_law_780 ?_
    refine wt_c (v := 1) (by decide) ?_
    refine va_sld hx hb hX hbl hbA hS (vin (by decide)) dL_law_781 ?_
    refine wt_c (v := xs 1) (congrArg xs (by decide)) ?_
    have hPc := hP.sub (ws' := [(rM 0, .inr (8, [.ref (rM 1), .ref (rM 2), .int 0, .int 0, .int 0, .int (-1), .int 0, .int 0, .int 0, .int 0, .long 0, .ref (rM 3), .ref (rM 4), .ref (rM 5), .ref (rM 6), .ref (rM 7), .ref (rM 8), .ref (rM 9), .ref (rM 10), .ref (rM 11), .ref (rM 12), .ref (rM 13), .ref (rM 14), .ref (rM 15), .ref (rM 16), .ref (rM 17), .ref (rM 18), .ref (rM 19), .ref (rM 20), .ref (rM 21), .ref (rM 22), .ref (rM 23), .ref (rM 24), .int 0, .int 0, .int 0, .int 0, .int 0, .int 0, .int 0, .int 0, .int 0, .ref (rM 25), .ref (rM 26), .ref (rM 27), .int 0, .int 0, .ref (rM 28), .int 0, .ref (rM 29), .ref (rM 30), .ref (rM 31), .ref (rM 32), .ref (rM 33), .ref (rM 34), .ref (rM 35), .ref (rM 36), .int 0, .int 0, .int 0, .ref (rM 37), .ref (rM 38)])), (rM 5, .inl ((cM 5), 2, .inl (fM 5)))]) [0, 1] rfl
    have hKc := hK.sub (tys' := [((cM 5), .int)]) [0] rfl
    have hDc := hD.sub (ws' := [(rM 0, .inr (8, [.ref (rM 1), .ref (rM 2), .int 0, .int 0, .int 0, .int (-1), .int 0, .int 0, .int 0, .int 0, .long 0, .ref (rM 3), .ref (rM 4), .ref (rM 5), .ref (rM 6), .ref (rM 7), .ref (rM 8), .ref (rM 9), .ref (rM 10), .ref (rM 11), .ref (rM 12), .ref (rM 13), .ref (rM 14), .ref (rM 15), .ref (rM 16), .ref (rM 17), .ref (rM 18), .ref (rM 19), .ref (rM 20), .ref (rM 21), .ref (rM 22), .ref (rM 23), .ref (rM 24), .int 0, .int 0, .int 0, .int 0, .int 0, .int 0, .int 0, .int 0, .int 0, .ref (rM 25), .ref (rM 26), .ref (rM 27), .int 0, .int 0, .ref (rM 28), .int 0, .ref (rM 29), .ref (rM 30), .ref (rM 31), .ref (rM 32), .ref (rM 33), .ref (rM 34), .ref (rM 35), .ref (rM 36), .int 0, .int 0, .int 0, .ref (rM 37), .ref (rM 38)])), (rM 5, .inl ((cM 5), 2, .inl (fM 5)))]) [0, 1] (by decide) rfl
    have hFc := va_free (wc := [(rM 0, .inr (8, [.ref (rM 1), .ref (rM 2), .int 0, .int 0, .int 0, .int (-1), .int 0, .int 0, .int 0, .int 0, .long 0, .ref (rM 3), .ref (rM 4), .ref (rM 5), .ref (rM 6), .ref (rM 7), .ref (rM 8), .ref (rM 9), .ref (rM 10), .ref (rM 11), .ref (rM 12), .ref (rM 13), .ref (rM 14), .ref (rM 15), .ref (rM 16), .ref (rM 17), .ref (rM 18), .ref (rM 19), .ref (rM 20), .ref (rM 21), .ref (rM 22), .ref (rM 23), .ref (rM 24), .int 0, .int 0, .int 0, .int 0, .int 0, .int 0, .int 0, .int 0, .int 0, .ref (rM 25), .ref (rM 26), .ref (rM 27), .int 0, .int 0, .ref (rM 28), .int 0, .ref (rM 29), .ref (rM 30), .ref (rM 31), .ref (rM 32), .ref (rM 33), .ref (rM 34), .ref (rM 35), .ref (rM 36), .int 0, .int 0, .int 0, .ref (rM 37), .ref (rM 38)])), (rM 5, .inl ((cM 5), 2, .inl (fM 5)))]) hD hS hA [0, 1] rfl
    refine va_calli (va_runV (As := [.int (xs 1)]) (rest := [.int (-1)]) ⟨hx, hb, hml, hown, hG⟩ (kX9_walk l dC dI rM cM (fM 5) (xs 1) H1.size hfM_5_0) (cwV 1 hG (goodV gw1767 gw1768 gw1769 gw138 gw1770) rfl rfl rfl hd_X9_walk ⟨(Nat.le_of_ble_eq_true rfl), (Nat.le_of_ble_eq_true rfl)⟩) ⟨fbW, va_recv hKc hPc (ci := 8) (q0 := 0) rfl rfl, pW_in hPc hKc hDc⟩ rfl rfl hl.1 rfl (lv_room (Nat.le_of_ble_eq_true rfl)) dL_law_782 ⟨(Nat.le_of_ble_eq_true rfl), (Nat.le_of_ble_eq_true rfl)⟩) hS (fun q _ h => hFc q h) hFc (fun r_17 u t H16 locs ht hvm hw hB hz1 hk1 hS => ?_)
    rcases hw with ⟨rfl, hy18, hw⟩ | ⟨rfl, hy19, hy20, hw⟩ | ⟨rfl, hy21, hy22, hw⟩
    · skip
      exact ((by have k0 := q_nlt hy4; have k1 := q_lt hy5; have k2 := q_lt hy18; have z0 : (0 : Int32).toInt = 0 := (by decide); have z99 : (99 : Int32).toInt = 99 := (by decide); omega) : False).elim
    · skip
      obtain ⟨hP, hD⟩ := va_join (wr := []) (w1 := []) hP hD [0, 1] [] rfl rfl (by decide) (by decide) hk1 hFc (fun k q h => by simp at h) ⟨fun i j p q h => by simp at h, fun k q h => by simp at h⟩
      refine wt_c (v := (-1)) hw ?_
      refine lv_icmp_eq (tgt := 1540) hx hb dL_law_785 (by decide) (fun c_23 => ?_) (fun c_23 => absurd (by decide) c_23)
      exact law_end l C0 hS hl
    · skip
      exact ((by have k0 := q_nlt hy4; have k1 := q_lt hy5; have k2 := q_nlt hy21; have k3 := q_nlt hy22; have z0 : (0 : Int32).toInt = 0 := (by decide); have z99 : (99 : Int32).toInt = 99 := (by decide); omega) : False).elim
  · skip
    obtain ⟨hP, hD⟩ := va_join (wr := [(rM 0, .inr (8, [.ref (rM 1), .ref (rM 2), .int 0, .int 0, .int 0, .int (-1), .int 0, .int 0, .int 0, .int 0, .long 0, .ref (rM 3), .ref (rM 4), .ref (rM 5), .ref (rM 6), .ref (rM 7), .ref (rM 8), .ref (rM 9), .ref (rM 10), .ref (rM 11), .ref (rM 12), .ref (rM 13), .ref (rM 14), .ref (rM 15), .ref (rM 16), .ref (rM 17), .ref (rM 18), .ref (rM 19), .ref (rM 20), .ref (rM 21), .ref (rM 22), .ref (rM 23), .ref (rM 24), .int 0, .int 0, .int 0, .int 0, .int 0, .int 0, .int 0, .int 0, .int 0, .ref (rM 25), .ref (rM 26), .ref (rM 27), .int 0, .int 0, .ref (rM 28), .int 0, .ref (rM 29), .ref (rM 30), .ref (rM 31), .ref (rM 32), .ref (rM 33), .ref (rM 34), .ref (rM 35), .ref (rM 36), .int 0, .int 0, .int 0, .ref (rM 37), .ref (rM 38)])), (rM 5, .inl ((cM 5), 2, .inl (fM 5)))]) (w1 := []) hP hD [0, 1] [2, 3] rfl rfl (by decide) (by decide) hk1 hFc (fun k q h => by simp at h) ⟨fun i j p q h => by simp at h, fun k q h => by simp at h⟩
    refine wt_c (v := 0) hw ?_
    refine lv_aload_n hx hb dL_law_776 rfl (lv_at hl 1 rfl) ?_
    refine lv_aload_n hx hb dL_law_777 rfl (lv_at hl 3 rfl) ?_
    refine lv_iload_n hx hb dL_law_778 rfl (lv_at hl 0 rfl) ?_
    refine lv_iconst (v := 1) hx hb dL_law_779 (by decide) ?_
    refine lv_iadd hx hb dL_law_780 ?_
    refine wt_c (v := 1) (by decide) ?_
    refine va_sld hx hb hX hbl hbA hS (vin (by decide)) dL_law_781 ?_
    refine wt_c (v := xs 1) (congrArg xs (by decide)) ?_
    have hPc := hP.sub (ws' := [(rM 0, .inr (8, [.ref (rM 1), .ref (rM 2), .int 0, .int 0, .int 0, .int (-1), .int 0, .int 0, .int 0, .int 0, .long 0, .ref (rM 3), .ref (rM 4), .ref (rM 5), .ref (rM 6), .ref (rM 7), .ref (rM 8), .ref (rM 9), .ref (rM 10), .ref (rM 11), .ref (rM 12), .ref (rM 13), .ref (rM 14), .ref (rM 15), .ref (rM 16), .ref (rM 17), .ref (rM 18), .ref (rM 19), .ref (rM 20), .ref (rM 21), .ref (rM 22), .ref (rM 23), .ref (rM 24), .int 0, .int 0, .int 0, .int 0, .int 0, .int 0, .int 0, .int 0, .int 0, .ref (rM 25), .ref (rM 26), .ref (rM 27), .int 0, .int 0, .ref (rM 28), .int 0, .ref (rM 29), .ref (rM 30), .ref (rM 31), .ref (rM 32), .ref (rM 33), .ref (rM 34), .ref (rM 35), .ref (rM 36), .int 0, .int 0, .int 0, .ref (rM 37), .ref (rM 38)])), (rM 5, .inl ((cM 5), 2, .inl (fM 5)))]) [0, 1] rfl
    have hKc := hK.sub (tys' := [((cM 5), .int)]) [0] rfl
    have hDc := hD.sub (ws' := [(rM 0, .inr (8, [.ref (rM 1), .ref (rM 2), .int 0, .int 0, .int 0, .int (-1), .int 0, .int 0, .int 0, .int 0, .long 0, .ref (rM 3), .ref (rM 4), .ref (rM 5), .ref (rM 6), .ref (rM 7), .ref (rM 8), .ref (rM 9), .ref (rM 10), .ref (rM 11), .ref (rM 12), .ref (rM 13), .ref (rM 14), .ref (rM 15), .ref (rM 16), .ref (rM 17), .ref (rM 18), .ref (rM 19), .ref (rM 20), .ref (rM 21), .ref (rM 22), .ref (rM 23), .ref (rM 24), .int 0, .int 0, .int 0, .int 0, .int 0, .int 0, .int 0, .int 0, .int 0, .ref (rM 25), .ref (rM 26), .ref (rM 27), .int 0, .int 0, .ref (rM 28), .int 0, .ref (rM 29), .ref (rM 30), .ref (rM 31), .ref (rM 32), .ref (rM 33), .ref (rM 34), .ref (rM 35), .ref (rM 36), .int 0, .int 0, .int 0, .ref (rM 37), .ref (rM 38)])), (rM 5, .inl ((cM 5), 2, .inl (fM 5)))]) [0, 1] (by decide) rfl
    have hFc := va_free (wc := [(rM 0, .inr (8, [.ref (rM 1), .ref (rM 2), .int 0, .int 0, .int 0, .int (-1), .int 0, .int 0, .int 0, .int 0, .long 0, .ref (rM 3), .ref (rM 4), .ref (rM 5), .ref (rM 6), .ref (rM 7), .ref (rM 8), .ref (rM 9), .ref (rM 10), .ref (rM 11), .ref (rM 12), .ref (rM 13), .ref (rM 14), .ref (rM 15), .ref (rM 16), .ref (rM 17), .ref (rM 18), .ref (rM 19), .ref (rM 20), .ref (rM 21), .ref (rM 22), .ref (rM 23), .ref (rM 24), .int 0, .int 0, .int 0, .int 0, .int 0, .int 0, .int 0, .int 0, .int 0, .ref (rM 25), .ref (rM 26), .ref (rM 27), .int 0, .int 0, .ref (rM 28), .int 0, .ref (rM 29), .ref (rM 30), .ref (rM 31), .ref (rM 32), .ref (rM 33), .ref (rM 34), .ref (rM 35), .ref (rM 36), .int 0, .int 0, .int 0, .ref (rM 37), .ref (rM 38)])), (rM 5, .inl ((cM 5), 2, .inl (fM 5)))]) hD hS hA [0, 1] rfl
    refine va_calli (va_runV (As := [.int (xs 1)]) (rest := [.int 0]) ⟨hx, hb, hml, hown, hG⟩ (kX9_walk l dC dI rM cM (fM 5) (xs 1) H1.size hfM_5_0) (cwV 1 hG (goodV gw1767 gw1768 gw1769 gw138 gw1770) rfl rfl rfl hd_X9_walk ⟨(Nat.le_of_ble_eq_true rfl), (Nat.le_of_ble_eq_true rfl)⟩) ⟨fbW, va_recv hKc hPc (ci := 8) (q0 := 0) rfl rfl, pW_in hPc hKc hDc⟩ rfl rfl hl.1 rfl (lv_room (Nat.le_of_ble_eq_true rfl)) dL_law_782 ⟨(Nat.le_of_ble_eq_true rfl), (Nat.le_of_ble_eq_true rfl)⟩) hS (fun q _ h => hFc q h) hFc (fun r_25 u t H24 locs ht hvm hw hB hz1 hk1 hS => ?_)
    rcases hw with ⟨rfl, hy26, hw⟩ | ⟨rfl, hy27, hy28, hw⟩ | ⟨rfl, hy29, hy30, hw⟩
    · skip
      exact ((by have k0 := q_nlt hy6; have k1 := q_nlt hy7; have k2 := q_lt hy26; have z0 : (0 : Int32).toInt = 0 := (by decide); have z99 : (99 : Int32).toInt = 99 := (by decide); omega) : False).elim
    · skip
      exact ((by have k0 := q_nlt hy6; have k1 := q_nlt hy7; have k2 := q_nlt hy27; have k3 := q_lt hy28; have z0 : (0 : Int32).toInt = 0 := (by decide); have z99 : (99 : Int32).toInt = 99 := (by decide); omega) : False).elim
    · skip
      obtain ⟨hP, hD⟩ := va_join (wr := []) (w1 := []) hP hD [0, 1] [] rfl rfl (by decide) (by decide) hk1 hFc (fun k q h => by simp at h) ⟨fun i j p q h => by simp at h, fun k q h => by simp at h⟩
      refine wt_c (v := 0) hw ?_
      refine lv_icmp_eq (tgt := 1540) hx hb dL_law_785 (by decide) (fun c_31 => ?_) (fun c_31 => absurd (by decide) c_31)
      exact law_end l C0 hS hl
set_option maxHeartbeats 4000000 in
set_option maxRecDepth 100000 in
theorem law_20 {p : Program} {e : Env} {s : State} {m : MethodId} {below : List Frame} {meth : Method} {c : Code} (l : Launch) {b : Nat} {xs : Nat → Int32} (C0 : lw_At p s m meth c b 6 xs) (dC : Nat → ClassId) (dI : Nat → Nat → Nat) (rX rM : Nat → Nat) (cX cM : Nat → ClassId) (fX fM : Nat → Nat → Int32) (gX gM : Nat → Nat → Int64) (hfM_4_0 : fM 4 0 = 0) (hfM_4_1 : fM 4 1 = 0) (hfM_5_0 : fM 5 0 = 0) (hfM_5_1 : fM 5 1 = 0) {H : Heap} {locs : List Loc} (hK : va_K (dC, dI) vwCl [((cM 4), .int), ((cM 5), .int)] s) (hP : va_P (dC, dI) vwCl [(rX 0, .inr (7, [.ref (rX 1), .int 0, .ref (rX 2), .ref (rX 55), .ref (rX 57), .ref (rX 30), .ref (rX 56), .ref (rX 36), .ref (rX 37), .ref (rX 38), .int 0, .ref (rX 51), .int 0, .ref (rX 52), .ref (rX 53), .ref (rX 54)])), (rX 55, .inr (3, [.int 1, .int 0, .int 0, .int 0, .ref (rX 20), .ref (rX 21), .ref (rX 22), .int 0, .ref (rX 23), .ref (rX 24), .ref (rX 25), .int 0, .ref (rX 28), .ref (rX 27)])), (rM 0, .inr (8, [.ref (rM 1), .ref (rM 2), .int 0, .int 0, .int 0, .int (-1), .int 0, .int 0, .int 0, .int 0, .long 0, .ref (rM 3), .ref (rM 4), .ref (rM 5), .ref (rM 6), .ref (rM 7), .ref (rM 8), .ref (rM 9), .ref (rM 10), .ref (rM 11), .ref (rM 12), .ref (rM 13), .ref (rM 14), .ref (rM 15), .ref (rM 16), .ref (rM 17), .ref (rM 18), .ref (rM 19), .ref (rM 20), .ref (rM 21), .ref (rM 22), .ref (rM 23), .ref (rM 24), .int 0, .int 0, .int 0, .int 0, .int 0, .int 0, .int 0, .int 0, .int 0, .ref (rM 25), .ref (rM 26), .ref (rM 27), .int 0, .int 0, .ref (rM 28), .int 0, .ref (rM 29), .ref (rM 30), .ref (rM 31), .ref (rM 32), .ref (rM 33), .ref (rM 34), .ref (rM 35), .ref (rM 36), .int 0, .int 0, .int 0, .ref (rM 37), .ref (rM 38)])), (rM 4, .inl ((cM 4), 2, .inl (fM 4))), (rM 5, .inl ((cM 5), 2, .inl (fM 5)))] H) (hD : va_D (fun q : Nat => s.heap.size ≤ q) [(rX 0, .inr (7, [.ref (rX 1), .int 0, .ref (rX 2), .ref (rX 55), .ref (rX 57), .ref (rX 30), .ref (rX 56), .ref (rX 36), .ref (rX 37), .ref (rX 38), .int 0, .ref (rX 51), .int 0, .ref (rX 52), .ref (rX 53), .ref (rX 54)])), (rX 55, .inr (3, [.int 1, .int 0, .int 0, .int 0, .ref (rX 20), .ref (rX 21), .ref (rX 22), .int 0, .ref (rX 23), .ref (rX 24), .ref (rX 25), .int 0, .ref (rX 28), .ref (rX 27)])), (rM 0, .inr (8, [.ref (rM 1), .ref (rM 2), .int 0, .int 0, .int 0, .int (-1), .int 0, .int 0, .int 0, .int 0, .long 0, .ref (rM 3), .ref (rM 4), .ref (rM 5), .ref (rM 6), .ref (rM 7), .ref (rM 8), .ref (rM 9), .ref (rM 10), .ref (rM 11), .ref (rM 12), .ref (rM 13), .ref (rM 14), .ref (rM 15), .ref (rM 16), .ref (rM 17), .ref (rM 18), .ref (rM 19), .ref (rM 20), .ref (rM 21), .ref (rM 22), .ref (rM 23), .ref (rM 24), .int 0, .int 0, .int 0, .int 0, .int 0, .int 0, .int 0, .int 0, .int 0, .ref (rM 25), .ref (rM 26), .ref (rM 27), .int 0, .int 0, .ref (rM 28), .int 0, .ref (rM 29), .ref (rM 30), .ref (rM 31), .ref (rM 32), .ref (rM 33), .ref (rM 34), .ref (rM 35), .ref (rM 36), .int 0, .int 0, .int 0, .ref (rM 37), .ref (rM 38)])), (rM 4, .inl ((cM 4), 2, .inl (fM 4))), (rM 5, .inl ((cM 5), 2, .inl (fM 5)))]) (hS : va_S (fun q : Nat => s.heap.size ≤ q) s.heap H locs) {ls : Array Slot} (hl : lv_has ls 4 [(3, .int 0), (2, .ref (rM 0)), (1, .ref (rX 0)), (0, .ref b)]) : W p l e room_1 s m #[Value.ref b] below meth c H locs 103 20190 (lw_Z below #[Value.ref b] s) (F0 m 790 ls []) := by
  obtain ⟨hx, hb, hr, hml, hown, hts, hX, hbl, hlocks, hgv⟩ := id C0
  have hown : s.vm.findClass RL = some m.cls := hown
  have hG : ∀ w ∈ GW, w.before _ s = true := fun w h => hts w (List.mem_filter.mp h).1
  have hA : ∀ q : Nat, s.heap.size ≤ q → (fun q : Nat => s.heap.size ≤ q) q := fun _ h => h
  have hbA : ¬ (fun q : Nat => s.heap.size ≤ q) b := Nat.not_le.mpr hbl
  refine lv_aload_n hx hb dL_law_790 rfl (lv_at hl 2 rfl) ?_
  have hPc := hP.sub (ws' := [(rX 0, .inr (7, [.ref (rX 1), .int 0, .ref (rX 2), .ref (rX 55), .ref (rX 57), .ref (rX 30), .ref (rX 56), .ref (rX 36), .ref (rX 37), .ref (rX 38), .int 0, .ref (rX 51), .int 0, .ref (rX 52), .ref (rX 53), .ref (rX 54)])), (rX 55, .inr (3, [.int 1, .int 0, .int 0, .int 0, .ref (rX 20), .ref (rX 21), .ref (rX 22), .int 0, .ref (rX 23), .ref (rX 24), .ref (rX 25), .int 0, .ref (rX 28), .ref (rX 27)]))]) [0, 1] rfl
  have hKc := hK.sub (tys' := []) [] rfl
  have hDc := hD.sub (ws' := [(rX 0, .inr (7, [.ref (rX 1), .int 0, .ref (rX 2), .ref (rX 55), .ref (rX 57), .ref (rX 30), .ref (rX 56), .ref (rX 36), .ref (rX 37), .ref (rX 38), .int 0, .ref (rX 51), .int 0, .ref (rX 52), .ref (rX 53), .ref (rX 54)])), (rX 55, .inr (3, [.int 1, .int 0, .int 0, .int 0, .ref (rX 20), .ref (rX 21), .ref (rX 22), .int 0, .ref (rX 23), .ref (rX 24), .ref (rX 25), .int 0, .ref (rX 28), .ref (rX 27)]))]) [0, 1] (by decide) rfl
  have hFc := va_free (wc := [(rX 0, .inr (7, [.ref (rX 1), .int 0, .ref (rX 2), .ref (rX 55), .ref (rX 57), .ref (rX 30), .ref (rX 56), .ref (rX 36), .ref (rX 37), .ref (rX 38), .int 0, .ref (rX 51), .int 0, .ref (rX 52), .ref (rX 53), .ref (rX 54)])), (rX 55, .inr (3, [.int 1, .int 0, .int 0, .int 0, .ref (rX 20), .ref (rX 21), .ref (rX 22), .int 0, .ref (rX 23), .ref (rX 24), .ref (rX 25), .int 0, .ref (rX 28), .ref (rX 27)]))]) hD hS hA [0, 1] rfl
  refine va_calli (va_runV (As := []) (rest := []) ⟨hx, hb, hml, hown, hG⟩ (kX8_barter l dC dI rX cX H.size ) (cwV 0 hG (goodV gw940 gw941 gw942 gw129 gw943) rfl rfl rfl hd_X8_barter ⟨(Nat.le_of_ble_eq_true rfl), (Nat.le_of_ble_eq_true rfl)⟩) ⟨fbW, va_recv hKc hPc (ci := 7) (q0 := 0) rfl rfl, pW_in hPc hKc hDc⟩ rfl rfl hl.1 rfl (lv_room (Nat.le_of_ble_eq_true rfl)) dL_law_791 ⟨(Nat.le_of_ble_eq_true rfl), (Nat.le_of_ble_eq_true rfl)⟩) hS (fun q _ h => hFc q h) hFc (fun r_2 u t H1 locs ht hvm hw hB hz1 hk1 hS => ?_)
  obtain ⟨hP, hD⟩ := va_join (wr := [(rM 0, .inr (8, [.ref (rM 1), .ref (rM 2), .int 0, .int 0, .int 0, .int (-1), .int 0, .int 0, .int 0, .int 0, .long 0, .ref (rM 3), .ref (rM 4), .ref (rM 5), .ref (rM 6), .ref (rM 7), .ref (rM 8), .ref (rM 9), .ref (rM 10), .ref (rM 11), .ref (rM 12), .ref (rM 13), .ref (rM 14), .ref (rM 15), .ref (rM 16), .ref (rM 17), .ref (rM 18), .ref (rM 19), .ref (rM 20), .ref (rM 21), .ref (rM 22), .ref (rM 23), .ref (rM 24), .int 0, .int 0, .int 0, .int 0, .int 0, .int 0, .int 0, .int 0, .int 0, .ref (rM 25), .ref (rM 26), .ref (rM 27), .int 0, .int 0, .ref (rM 28), .int 0, .ref (rM 29), .ref (rM 30), .ref (rM 31), .ref (rM 32), .ref (rM 33), .ref (rM 34), .ref (rM 35), .ref (rM 36), .int 0, .int 0, .int 0, .ref (rM 37), .ref (rM 38)])), (rM 4, .inl ((cM 4), 2, .inl (fM 4))), (rM 5, .inl ((cM 5), 2, .inl (fM 5)))]) (w1 := []) hP hD [0, 1] [2, 3, 4] rfl rfl (by decide) (by decide) hk1 hFc (fun k q h => by simp at h) ⟨fun i j p q h => by simp at h, fun k q h => by simp at h⟩
  refine wt_c (v := 0) hw ?_
  refine lv_aload_n hx hb dL_law_794 rfl (lv_at hl 1 rfl) ?_
  have hPc := hP.sub (ws' := [(rM 0, .inr (8, [.ref (rM 1), .ref (rM 2), .int 0, .int 0, .int 0, .int (-1), .int 0, .int 0, .int 0, .int 0, .long 0, .ref (rM 3), .ref (rM 4), .ref (rM 5), .ref (rM 6), .ref (rM 7), .ref (rM 8), .ref (rM 9), .ref (rM 10), .ref (rM 11), .ref (rM 12), .ref (rM 13), .ref (rM 14), .ref (rM 15), .ref (rM 16), .ref (rM 17), .ref (rM 18), .ref (rM 19), .ref (rM 20), .ref (rM 21), .ref (rM 22), .ref (rM 23), .ref (rM 24), .int 0, .int 0, .int 0, .int 0, .int 0, .int 0, .int 0, .int 0, .int 0, .ref (rM 25), .ref (rM 26), .ref (rM 27), .int 0, .int 0, .ref (rM 28), .int 0, .ref (rM 29), .ref (rM 30), .ref (rM 31), .ref (rM 32), .ref (rM 33), .ref (rM 34), .ref (rM 35), .ref (rM 36), .int 0, .int 0, .int 0, .ref (rM 37), .ref (rM 38)])), (rM 4, .inl ((cM 4), 2, .inl (fM 4))), (rM 5, .inl ((cM 5), 2, .inl (fM 5)))]) [0, 1, 2] rfl
  have hKc := hK.sub (tys' := [((cM 4), .int), ((cM 5), .int)]) [0, 1] rfl
  have hDc := hD.sub (ws' := [(rM 0, .inr (8, [.ref (rM 1), .ref (rM 2), .int 0, .int 0, .int 0, .int (-1), .int 0, .int 0, .int 0, .int 0, .long 0, .ref (rM 3), .ref (rM 4), .ref (rM 5), .ref (rM 6), .ref (rM 7), .ref (rM 8), .ref (rM 9), .ref (rM 10), .ref (rM 11), .ref (rM 12), .ref (rM 13), .ref (rM 14), .ref (rM 15), .ref (rM 16), .ref (rM 17), .ref (rM 18), .ref (rM 19), .ref (rM 20), .ref (rM 21), .ref (rM 22), .ref (rM 23), .ref (rM 24), .int 0, .int 0, .int 0, .int 0, .int 0, .int 0, .int 0, .int 0, .int 0, .ref (rM 25), .ref (rM 26), .ref (rM 27), .int 0, .int 0, .ref (rM 28), .int 0, .ref (rM 29), .ref (rM 30), .ref (rM 31), .ref (rM 32), .ref (rM 33), .ref (rM 34), .ref (rM 35), .ref (rM 36), .int 0, .int 0, .int 0, .ref (rM 37), .ref (rM 38)])), (rM 4, .inl ((cM 4), 2, .inl (fM 4))), (rM 5, .inl ((cM 5), 2, .inl (fM 5)))]) [0, 1, 2] (by decide) rfl
  have hFc := va_free (wc := [(rM 0, .inr (8, [.ref (rM 1), .ref (rM 2), .int 0, .int 0, .int 0, .int (-1), .int 0, .int 0, .int 0, .int 0, .long 0, .ref (rM 3), .ref (rM 4), .ref (rM 5), .ref (rM 6), .ref (rM 7), .ref (rM 8), .ref (rM 9), .ref (rM 10), .ref (rM 11), .ref (rM 12), .ref (rM 13), .ref (rM 14), .ref (rM 15), .ref (rM 16), .ref (rM 17), .ref (rM 18), .ref (rM 19), .ref (rM 20), .ref (rM 21), .ref (rM 22), .ref (rM 23), .ref (rM 24), .int 0, .int 0, .int 0, .int 0, .int 0, .int 0, .int 0, .int 0, .int 0, .ref (rM 25), .ref (rM 26), .ref (rM 27), .int 0, .int 0, .ref (rM 28), .int 0, .ref (rM 29), .ref (rM 30), .ref (rM 31), .ref (rM 32), .ref (rM 33), .ref (rM 34), .ref (rM 35), .ref (rM 36), .int 0, .int 0, .int 0, .ref (rM 37), .ref (rM 38)])), (rM 4, .inl ((cM 4), 2, .inl (fM 4))), (rM 5, .inl ((cM 5), 2, .inl (fM 5)))]) hD hS hA [0, 1, 2] rfl
  refine va_calli (va_runV (As := []) (rest := [.int 0]) ⟨hx, hb, hml, hown, hG⟩ (kX9_barter l dC dI rM cM (fM 4) (fM 5) H1.size hfM_4_0 hfM_5_0) (cwV 0 hG (goodV gw1778 gw1779 gw1780 gw138 gw1781) rfl rfl rfl hd_X9_barter ⟨(Nat.le_of_ble_eq_true rfl), (Nat.le_of_ble_eq_true rfl)⟩) ⟨fbW, va_recv hKc hPc (ci := 8) (q0 := 0) rfl rfl, pW_in hPc hKc hDc⟩ rfl rfl hl.1 rfl (lv_room (Nat.le_of_ble_eq_true rfl)) dL_law_795 ⟨(Nat.le_of_ble_eq_true rfl), (Nat.le_of_ble_eq_true rfl)⟩) hS (fun q _ h => hFc q h) hFc (fun r_4 u t H3 locs ht hvm hw hB hz1 hk1 hS => ?_)
  obtain ⟨hP, hD⟩ := va_join (wr := []) (w1 := []) hP hD [0, 1, 2] [] rfl rfl (by decide) (by decide) hk1 hFc (fun k q h => by simp at h) ⟨fun i j p q h => by simp at h, fun k q h => by simp at h⟩
  refine wt_c (v := 0) hw ?_
  refine lv_icmp_eq (tgt := 1540) hx hb dL_law_798 (by decide) (fun c_5 => ?_) (fun c_5 => absurd (by decide) c_5)
  exact law_end l C0 hS hl
set_option maxHeartbeats 4000000 in
set_option maxRecDepth 100000 in
theorem law_21 {p : Program} {e : Env} {s : State} {m : MethodId} {below : List Frame} {meth : Method} {c : Code} (l : Launch) {b : Nat} {xs : Nat → Int32} (C0 : lw_At p s m meth c b 6 xs) (dC : Nat → ClassId) (dI : Nat → Nat → Nat) (rX rM : Nat → Nat) (cX cM : Nat → ClassId) (fX fM : Nat → Nat → Int32) (gX gM : Nat → Nat → Int64) (hfM_4_0 : fM 4 0 = 0) (hfM_4_1 : fM 4 1 = 0) {H : Heap} {locs : List Loc} (hK : va_K (dC, dI) vwCl [((cM 4), .int)] s) (hP : va_P (dC, dI) vwCl [(rX 0, .inr (7, [.ref (rX 1), .int 0, .ref (rX 2), .ref (rX 55), .ref (rX 57), .ref (rX 30), .ref (rX 56), .ref (rX 36), .ref (rX 37), .ref (rX 38), .int 0, .ref (rX 51), .int 0, .ref (rX 52), .ref (rX 53), .ref (rX 54)])), (rX 55, .inr (3, [.int 1, .int 0, .int 0, .int 0, .ref (rX 20), .ref (rX 21), .ref (rX 22), .int 0, .ref (rX 23), .ref (rX 24), .ref (rX 25), .int 0, .ref (rX 28), .ref (rX 27)])), (rM 0, .inr (8, [.ref (rM 1), .ref (rM 2), .int 0, .int 0, .int 0, .int (-1), .int 0, .int 0, .int 0, .int 0, .long 0, .ref (rM 3), .ref (rM 4), .ref (rM 5), .ref (rM 6), .ref (rM 7), .ref (rM 8), .ref (rM 9), .ref (rM 10), .ref (rM 11), .ref (rM 12), .ref (rM 13), .ref (rM 14), .ref (rM 15), .ref (rM 16), .ref (rM 17), .ref (rM 18), .ref (rM 19), .ref (rM 20), .ref (rM 21), .ref (rM 22), .ref (rM 23), .ref (rM 24), .int 0, .int 0, .int 0, .int 0, .int 0, .int 0, .int 0, .int 0, .int 0, .ref (rM 25), .ref (rM 26), .ref (rM 27), .int 0, .int 0, .ref (rM 28), .int 0, .ref (rM 29), .ref (rM 30), .ref (rM 31), .ref (rM 32), .ref (rM 33), .ref (rM 34), .ref (rM 35), .ref (rM 36), .int 0, .int 0, .int 0, .ref (rM 37), .ref (rM 38)])), (rM 4, .inl ((cM 4), 2, .inl (fM 4)))] H) (hD : va_D (fun q : Nat => s.heap.size ≤ q) [(rX 0, .inr (7, [.ref (rX 1), .int 0, .ref (rX 2), .ref (rX 55), .ref (rX 57), .ref (rX 30), .ref (rX 56), .ref (rX 36), .ref (rX 37), .ref (rX 38), .int 0, .ref (rX 51), .int 0, .ref (rX 52), .ref (rX 53), .ref (rX 54)])), (rX 55, .inr (3, [.int 1, .int 0, .int 0, .int 0, .ref (rX 20), .ref (rX 21), .ref (rX 22), .int 0, .ref (rX 23), .ref (rX 24), .ref (rX 25), .int 0, .ref (rX 28), .ref (rX 27)])), (rM 0, .inr (8, [.ref (rM 1), .ref (rM 2), .int 0, .int 0, .int 0, .int (-1), .int 0, .int 0, .int 0, .int 0, .long 0, .ref (rM 3), .ref (rM 4), .ref (rM 5), .ref (rM 6), .ref (rM 7), .ref (rM 8), .ref (rM 9), .ref (rM 10), .ref (rM 11), .ref (rM 12), .ref (rM 13), .ref (rM 14), .ref (rM 15), .ref (rM 16), .ref (rM 17), .ref (rM 18), .ref (rM 19), .ref (rM 20), .ref (rM 21), .ref (rM 22), .ref (rM 23), .ref (rM 24), .int 0, .int 0, .int 0, .int 0, .int 0, .int 0, .int 0, .int 0, .int 0, .ref (rM 25), .ref (rM 26), .ref (rM 27), .int 0, .int 0, .ref (rM 28), .int 0, .ref (rM 29), .ref (rM 30), .ref (rM 31), .ref (rM 32), .ref (rM 33), .ref (rM 34), .ref (rM 35), .ref (rM 36), .int 0, .int 0, .int 0, .ref (rM 37), .ref (rM 38)])), (rM 4, .inl ((cM 4), 2, .inl (fM 4)))]) (hS : va_S (fun q : Nat => s.heap.size ≤ q) s.heap H locs) {ls : Array Slot} (hl : lv_has ls 4 [(3, .int 0), (2, .ref (rM 0)), (1, .ref (rX 0)), (0, .ref b)]) : W p l e room_1 s m #[Value.ref b] below meth c H locs 103 20190 (lw_Z below #[Value.ref b] s) (F0 m 803 ls []) := by
  obtain ⟨hx, hb, hr, hml, hown, hts, hX, hbl, hlocks, hgv⟩ := id C0
  have hown : s.vm.findClass RL = some m.cls := hown
  have hG : ∀ w ∈ GW, w.before _ s = true := fun w h => hts w (List.mem_filter.mp h).1
  have hA : ∀ q : Nat, s.heap.size ≤ q → (fun q : Nat => s.heap.size ≤ q) q := fun _ h => h
  have hbA : ¬ (fun q : Nat => s.heap.size ≤ q) b := Nat.not_le.mpr hbl
  refine lv_aload_n hx hb dL_law_803 rfl (lv_at hl 2 rfl) ?_
  refine lv_aload_n hx hb dL_law_804 rfl (lv_at hl 3 rfl) ?_
  refine lv_iload_n hx hb dL_law_805 rfl (lv_at hl 0 rfl) ?_
  refine lv_iconst (v := 1) hx hb dL_law_806 (by decide) ?_
  refine lv_iadd hx hb dL_law_807 ?_
  refine wt_c (v := 1) (by decide) ?_
  refine va_sld hx hb hX hbl hbA hS (vin (by decide)) dL_law_808 ?_
  refine wt_c (v := xs 1) (congrArg xs (by decide)) ?_
  refine lv_aload_n hx hb dL_law_809 rfl (lv_at hl 3 rfl) ?_
  refine lv_iload_n hx hb dL_law_810 rfl (lv_at hl 0 rfl) ?_
  refine lv_iconst (v := 2) hx hb dL_law_811 (by decide) ?_
  refine lv_iadd hx hb dL_law_812 ?_
  refine wt_c (v := 2) (by decide) ?_
  refine va_sld hx hb hX hbl hbA hS (vin (by decide)) dL_law_813 ?_
  refine wt_c (v := xs 2) (congrArg xs (by decide)) ?_
  refine lv_aload_n hx hb dL_law_814 rfl (lv_at hl 3 rfl) ?_
  refine lv_iload_n hx hb dL_law_815 rfl (lv_at hl 0 rfl) ?_
  refine lv_iconst (v := 3) hx hb dL_law_816 (by decide) ?_
  refine lv_iadd hx hb dL_law_817 ?_
  refine wt_c (v := 3) (by decide) ?_
  refine va_sld hx hb hX hbl hbA hS (vin (by decide)) dL_law_818 ?_
  refine wt_c (v := xs 3) (congrArg xs (by decide)) ?_
  have hPc := hP.sub (ws' := [(rX 0, .inr (7, [.ref (rX 1), .int 0, .ref (rX 2), .ref (rX 55), .ref (rX 57), .ref (rX 30), .ref (rX 56), .ref (rX 36), .ref (rX 37), .ref (rX 38), .int 0, .ref (rX 51), .int 0, .ref (rX 52), .ref (rX 53), .ref (rX 54)])), (rX 55, .inr (3, [.int 1, .int 0, .int 0, .int 0, .ref (rX 20), .ref (rX 21), .ref (rX 22), .int 0, .ref (rX 23), .ref (rX 24), .ref (rX 25), .int 0, .ref (rX 28), .ref (rX 27)]))]) [0, 1] rfl
  have hKc := hK.sub (tys' := []) [] rfl
  have hDc := hD.sub (ws' := [(rX 0, .inr (7, [.ref (rX 1), .int 0, .ref (rX 2), .ref (rX 55), .ref (rX 57), .ref (rX 30), .ref (rX 56), .ref (rX 36), .ref (rX 37), .ref (rX 38), .int 0, .ref (rX 51), .int 0, .ref (rX 52), .ref (rX 53), .ref (rX 54)])), (rX 55, .inr (3, [.int 1, .int 0, .int 0, .int 0, .ref (rX 20), .ref (rX 21), .ref (rX 22), .int 0, .ref (rX 23), .ref (rX 24), .ref (rX 25), .int 0, .ref (rX 28), .ref (rX 27)]))]) [0, 1] (by decide) rfl
  have hFc := va_free (wc := [(rX 0, .inr (7, [.ref (rX 1), .int 0, .ref (rX 2), .ref (rX 55), .ref (rX 57), .ref (rX 30), .ref (rX 56), .ref (rX 36), .ref (rX 37), .ref (rX 38), .int 0, .ref (rX 51), .int 0, .ref (rX 52), .ref (rX 53), .ref (rX 54)])), (rX 55, .inr (3, [.int 1, .int 0, .int 0, .int 0, .ref (rX 20), .ref (rX 21), .ref (rX 22), .int 0, .ref (rX 23), .ref (rX 24), .ref (rX 25), .int 0, .ref (rX 28), .ref (rX 27)]))]) hD hS hA [0, 1] rfl
  refine va_calli (va_runV (As := [.int (xs 1), .int (xs 2), .int (xs 3)]) (rest := []) ⟨hx, hb, hml, hown, hG⟩ (kX8_find l dC dI rX cX (xs 1) (xs 2) (xs 3) H.size ) (cwV 3 hG (goodV gw997 gw998 gw999 gw129 gw1000) rfl rfl rfl hd_X8_find ⟨(Nat.le_of_ble_eq_true rfl), (Nat.le_of_ble_eq_true rfl)⟩) ⟨fbW, va_recv hKc hPc (ci := 7) (q0 := 0) rfl rfl, pW_in hPc hKc hDc⟩ rfl rfl hl.1 rfl (lv_room (Nat.le_of_ble_eq_true rfl)) dL_law_819 ⟨(Nat.le_of_ble_eq_true rfl), (Nat.le_of_ble_eq_true rfl)⟩) hS (fun q _ h => hFc q h) hFc (fun r_2 u t H1 locs ht hvm hw hB hz1 hk1 hS => ?_)
  rcases hw with ⟨rfl, hy3, hw⟩ | ⟨rfl, hy4, hy5, hw⟩ | ⟨rfl, hy6, hy7, hy8, hw⟩ | ⟨rfl, hy9, hy10, hy11, hy12, hw⟩ | ⟨rfl, hy13, hy14, hy15, hy16, hy17, hw⟩ | ⟨rfl, hy18, hy19, hy20, hy21, hy22, hy23, hw⟩ | ⟨rfl, hy24, hy25, hy26, hy27, hy28, hy29, hw⟩
  · skip
    obtain ⟨hP, hD⟩ := va_join (wr := [(rM 0, .inr (8, [.ref (rM 1), .ref (rM 2), .int 0, .int 0, .int 0, .int (-1), .int 0, .int 0, .int 0, .int 0, .long 0, .ref (rM 3), .ref (rM 4), .ref (rM 5), .ref (rM 6), .ref (rM 7), .ref (rM 8), .ref (rM 9), .ref (rM 10), .ref (rM 11), .ref (rM 12), .ref (rM 13), .ref (rM 14), .ref (rM 15), .ref (rM 16), .ref (rM 17), .ref (rM 18), .ref (rM 19), .ref (rM 20), .ref (rM 21), .ref (rM 22), .ref (rM 23), .ref (rM 24), .int 0, .int 0, .int 0, .int 0, .int 0, .int 0, .int 0, .int 0, .int 0, .ref (rM 25), .ref (rM 26), .ref (rM 27), .int 0, .int 0, .ref (rM 28), .int 0, .ref (rM 29), .ref (rM 30), .ref (rM 31), .ref (rM 32), .ref (rM 33), .ref (rM 34), .ref (rM 35), .ref (rM 36), .int 0, .int 0, .int 0, .ref (rM 37), .ref (rM 38)])), (rM 4, .inl ((cM 4), 2, .inl (fM 4)))]) (w1 := []) hP hD [0, 1] [2, 3] rfl rfl (by decide) (by decide) hk1 hFc (fun k q h => by simp at h) ⟨fun i j p q h => by simp at h, fun k q h => by simp at h⟩
    refine wt_c (v := (-1)) hw ?_
    refine lv_aload_n hx hb dL_law_822 rfl (lv_at hl 1 rfl) ?_
    refine lv_aload_n hx hb dL_law_823 rfl (lv_at hl 3 rfl) ?_
    refine lv_iload_n hx hb dL_law_824 rfl (lv_at hl 0 rfl) ?_
    refine lv_iconst (v := 1) hx hb dL_law_825 (by decide) ?_
    refine lv_iadd hx hb dL_law_826 ?_
    refine wt_c (v := 1) (by decide) ?_
    refine va_sld hx hb hX hbl hbA hS (vin (by decide)) dL_law_827 ?_
    refine wt_c (v := xs 1) (congrArg xs (by decide)) ?_
    refine lv_aload_n hx hb dL_law_828 rfl (lv_at hl 3 rfl) ?_
    refine lv_iload_n hx hb dL_law_829 rfl (lv_at hl 0 rfl) ?_
    refine lv_iconst (v := 2) hx hb dL_law_830 (by decide) ?_
    refine lv_iadd hx hb dL_law_831 ?_
    refine wt_c (v := 2) (by decide) ?_
    refine va_sld hx hb hX hbl hbA hS (vin (by decide)) dL_law_832 ?_
    refine wt_c (v := xs 2) (congrArg xs (by decide)) ?_
    refine lv_aload_n hx hb dL_law_833 rfl (lv_at hl 3 rfl) ?_
    refine lv_iload_n hx hb dL_law_834 rfl (lv_at hl 0 rfl) ?_
    refine lv_iconst (v := 3) hx hb dL_law_835 (by decide) ?_
    refine lv_iadd hx hb dL_law_836 ?_
    refine wt_c (v := 3) (by decide) ?_
    refine va_sld hx hb hX hbl hbA hS (vin (by decide)) dL_law_837 ?_
    refine wt_c (v := xs 3) (congrArg xs (by decide)) ?_
    have hPc := hP.sub (ws' := [(rM 0, .inr (8, [.ref (rM 1), .ref (rM 2), .int 0, .int 0, .int 0, .int (-1), .int 0, .int 0, .int 0, .int 0, .long 0, .ref (rM 3), .ref (rM 4), .ref (rM 5), .ref (rM 6), .ref (rM 7), .ref (rM 8), .ref (rM 9), .ref (rM 10), .ref (rM 11), .ref (rM 12), .ref (rM 13), .ref (rM 14), .ref (rM 15), .ref (rM 16), .ref (rM 17), .ref (rM 18), .ref (rM 19), .ref (rM 20), .ref (rM 21), .ref (rM 22), .ref (rM 23), .ref (rM 24), .int 0, .int 0, .int 0, .int 0, .int 0, .int 0, .int 0, .int 0, .int 0, .ref (rM 25), .ref (rM 26), .ref (rM 27), .int 0, .int 0, .ref (rM 28), .int 0, .ref (rM 29), .ref (rM 30), .ref (rM 31), .ref (rM 32), .ref (rM 33), .ref (rM 34), .ref (rM 35), .ref (rM 36), .int 0, .int 0, .int 0, .ref (rM 37), .ref (rM 38)])), (rM 4, .inl ((cM 4), 2, .inl (fM 4)))]) [0, 1] rfl
    have hKc := hK.sub (tys' := [((cM 4), .int)]) [0] rfl
    have hDc := hD.sub (ws' := [(rM 0, .inr (8, [.ref (rM 1), .ref (rM 2), .int 0, .int 0, .int 0, .int (-1), .int 0, .int 0, .int 0, .int 0, .long 0, .ref (rM 3), .ref (rM 4), .ref (rM 5), .ref (rM 6), .ref (rM 7), .ref (rM 8), .ref (rM 9), .ref (rM 10), .ref (rM 11), .ref (rM 12), .ref (rM 13), .ref (rM 14), .ref (rM 15), .ref (rM 16), .ref (rM 17), .ref (rM 18), .ref (rM 19), .ref (rM 20), .ref (rM 21), .ref (rM 22), .ref (rM 23), .ref (rM 24), .int 0, .int 0, .int 0, .int 0, .int 0, .int 0, .int 0, .int 0, .int 0, .ref (rM 25), .ref (rM 26), .ref (rM 27), .int 0, .int 0, .ref (rM 28), .int 0, .ref (rM 29), .ref (rM 30), .ref (rM 31), .ref (rM 32), .ref (rM 33), .ref (rM 34), .ref (rM 35), .ref (rM 36), .int 0, .int 0, .int 0, .ref (rM 37), .ref (rM 38)])), (rM 4, .inl ((cM 4), 2, .inl (fM 4)))]) [0, 1] (by decide) rfl
    have hFc := va_free (wc := [(rM 0, .inr (8, [.ref (rM 1), .ref (rM 2), .int 0, .int 0, .int 0, .int (-1), .int 0, .int 0, .int 0, .int 0, .long 0, .ref (rM 3), .ref (rM 4), .ref (rM 5), .ref (rM 6), .ref (rM 7), .ref (rM 8), .ref (rM 9), .ref (rM 10), .ref (rM 11), .ref (rM 12), .ref (rM 13), .ref (rM 14), .ref (rM 15), .ref (rM 16), .ref (rM 17), .ref (rM 18), .ref (rM 19), .ref (rM 20), .ref (rM 21), .ref (rM 22), .ref (rM 23), .ref (rM 24), .int 0, .int 0, .int 0, .int 0, .int 0, .int 0, .int 0, .int 0, .int 0, .ref (rM 25), .ref (rM 26), .ref (rM 27), .int 0, .int 0, .ref (rM 28), .int 0, .ref (rM 29), .ref (rM 30), .ref (rM 31), .ref (rM 32), .ref (rM 33), .ref (rM 34), .ref (rM 35), .ref (rM 36), .int 0, .int 0, .int 0, .ref (rM 37), .ref (rM 38)])), (rM 4, .inl ((cM 4), 2, .inl (fM 4)))]) hD hS hA [0, 1] rfl
    refine va_calli (va_runV (As := [.int (xs 1), .int (xs 2), .int (xs 3)]) (rest := [.int (-1)]) ⟨hx, hb, hml, hown, hG⟩ (kX9_find l dC dI rM cM (fM 4) (xs 1) (xs 2) (xs 3) H1.size hfM_4_0) (cwV 3 hG (goodV gw1625 gw1626 gw1627 gw138 gw1628) rfl rfl rfl hd_X9_find ⟨(Nat.le_of_ble_eq_true rfl), (Nat.le_of_ble_eq_true rfl)⟩) ⟨fbW, va_recv hKc hPc (ci := 8) (q0 := 0) rfl rfl, pW_in hPc hKc hDc⟩ rfl rfl hl.1 rfl (lv_room (Nat.le_of_ble_eq_true rfl)) dL_law_838 ⟨(Nat.le_of_ble_eq_true rfl), (Nat.le_of_ble_eq_true rfl)⟩) hS (fun q _ h => hFc q h) hFc (fun r_31 u t H30 locs ht hvm hw hB hz1 hk1 hS => ?_)
    rcases hw with ⟨rfl, hy32, hw⟩ | ⟨rfl, hy33, hy34, hw⟩ | ⟨rfl, hy35, hy36, hy37, hw⟩ | ⟨rfl, hy38, hy39, hy40, hy41, hw⟩ | ⟨rfl, hy42, hy43, hy44, hy45, hy46, hw⟩ | ⟨rfl, hy47, hy48, hy49, hy50, hy51, hy52, hw⟩ | ⟨rfl, hy53, hy54, hy55, hy56, hy57, hy58, hw⟩
    · skip
      obtain ⟨hP, hD⟩ := va_join (wr := []) (w1 := []) hP hD [0, 1] [] rfl rfl (by decide) (by decide) hk1 hFc (fun k q h => by simp at h) ⟨fun i j p q h => by simp at h, fun k q h => by simp at h⟩
      refine wt_c (v := (-1)) hw ?_
      refine lv_icmp_eq (tgt := 1540) hx hb dL_law_841 (by decide) (fun c_59 => ?_) (fun c_59 => absurd (by decide) c_59)
      exact law_end l C0 hS hl
    · skip
      exact ((by have k0 := q_lt hy3; have k1 := q_nlt hy33; have k2 := q_le hy34; have z0 : (0 : Int32).toInt = 0 := (by decide); have z7 : (7 : Int32).toInt = 7 := (by decide); omega) : False).elim
    · skip
      exact ((by have k0 := q_lt hy3; have k1 := q_nlt hy35; have k2 := q_nle hy36; have z0 : (0 : Int32).toInt = 0 := (by decide); have z7 : (7 : Int32).toInt = 7 := (by decide); omega) : False).elim
    · skip
      exact ((by have k0 := q_lt hy3; have k1 := q_nlt hy38; have k2 := q_nle hy39; have z0 : (0 : Int32).toInt = 0 := (by decide); have z7 : (7 : Int32).toInt = 7 := (by decide); omega) : False).elim
    · skip
      exact ((by have k0 := q_lt hy3; have k1 := q_nlt hy42; have k2 := q_nle hy43; have z0 : (0 : Int32).toInt = 0 := (by decide); have z7 : (7 : Int32).toInt = 7 := (by decide); omega) : False).elim
    · skip
      exact ((by have k0 := q_lt hy3; have k1 := q_nlt hy47; have k2 := q_nle hy48; have z0 : (0 : Int32).toInt = 0 := (by decide); have z7 : (7 : Int32).toInt = 7 := (by decide); omega) : False).elim
    · skip
      exact ((by have k0 := q_lt hy3; have k1 := q_nlt hy53; have k2 := q_nle hy54; have z0 : (0 : Int32).toInt = 0 := (by decide); have z7 : (7 : Int32).toInt = 7 := (by decide); omega) : False).elim
  · skip
    obtain ⟨hP, hD⟩ := va_join (wr := [(rM 0, .inr (8, [.ref (rM 1), .ref (rM 2), .int 0, .int 0, .int 0, .int (-1), .int 0, .int 0, .int 0, .int 0, .long 0, .ref (rM 3), .ref (rM 4), .ref (rM 5), .ref (rM 6), .ref (rM 7), .ref (rM 8), .ref (rM 9), .ref (rM 10), .ref (rM 11), .ref (rM 12), .ref (rM 13), .ref (rM 14), .ref (rM 15), .ref (rM 16), .ref (rM 17), .ref (rM 18), .ref (rM 19), .ref (rM 20), .ref (rM 21), .ref (rM 22), .ref (rM 23), .ref (rM 24), .int 0, .int 0, .int 0, .int 0, .int 0, .int 0, .int 0, .int 0, .int 0, .ref (rM 25), .ref (rM 26), .ref (rM 27), .int 0, .int 0, .ref (rM 28), .int 0, .ref (rM 29), .ref (rM 30), .ref (rM 31), .ref (rM 32), .ref (rM 33), .ref (rM 34), .ref (rM 35), .ref (rM 36), .int 0, .int 0, .int 0, .ref (rM 37), .ref (rM 38)])), (rM 4, .inl ((cM 4), 2, .inl (fM 4)))]) (w1 := []) hP hD [0, 1] [2, 3] rfl rfl (by decide) (by decide) hk1 hFc (fun k q h => by simp at h) ⟨fun i j p q h => by simp at h, fun k q h => by simp at h⟩
    refine wt_c (v := (-1)) hw ?_
    refine lv_aload_n hx hb dL_law_822 rfl (lv_at hl 1 rfl) ?_
    refine lv_aload_n hx hb dL_law_823 rfl (lv_at hl 3 rfl) ?_
    refine lv_iload_n hx hb dL_law_824 rfl (lv_at hl 0 rfl) ?_
    refine lv_iconst (v := 1) hx hb dL_law_825 (by decide) ?_
    refine lv_iadd hx hb dL_law_826 ?_
    refine wt_c (v := 1) (by decide) ?_
    refine va_sld hx hb hX hbl hbA hS (vin (by decide)) dL_law_827 ?_
    refine wt_c (v := xs 1) (congrArg xs (by decide)) ?_
    refine lv_aload_n hx hb dL_law_828 rfl (lv_at hl 3 rfl) ?_
    refine lv_iload_n hx hb dL_law_829 rfl (lv_at hl 0 rfl) ?_
    refine lv_iconst (v := 2) hx hb dL_law_830 (by decide) ?_
    refine lv_iadd hx hb dL_law_831 ?_
    refine wt_c (v := 2) (by decide) ?_
    refine va_sld hx hb hX hbl hbA hS (vin (by decide)) dL_law_832 ?_
    refine wt_c (v := xs 2) (congrArg xs (by decide)) ?_
    refine lv_aload_n hx hb dL_law_833 rfl (lv_at hl 3 rfl) ?_
    refine lv_iload_n hx hb dL_law_834 rfl (lv_at hl 0 rfl) ?_
    refine lv_iconst (v := 3) hx hb dL_law_835 (by decide) ?_
    refine lv_iadd hx hb dL_law_836 ?_
    refine wt_c (v := 3) (by decide) ?_
    refine va_sld hx hb hX hbl hbA hS (vin (by decide)) dL_law_837 ?_
    refine wt_c (v := xs 3) (congrArg xs (by decide)) ?_
    have hPc := hP.sub (ws' := [(rM 0, .inr (8, [.ref (rM 1), .ref (rM 2), .int 0, .int 0, .int 0, .int (-1), .int 0, .int 0, .int 0, .int 0, .long 0, .ref (rM 3), .ref (rM 4), .ref (rM 5), .ref (rM 6), .ref (rM 7), .ref (rM 8), .ref (rM 9), .ref (rM 10), .ref (rM 11), .ref (rM 12), .ref (rM 13), .ref (rM 14), .ref (rM 15), .ref (rM 16), .ref (rM 17), .ref (rM 18), .ref (rM 19), .ref (rM 20), .ref (rM 21), .ref (rM 22), .ref (rM 23), .ref (rM 24), .int 0, .int 0, .int 0, .int 0, .int 0, .int 0, .int 0, .int 0, .int 0, .ref (rM 25), .ref (rM 26), .ref (rM 27), .int 0, .int 0, .ref (rM 28), .int 0, .ref (rM 29), .ref (rM 30), .ref (rM 31), .ref (rM 32), .ref (rM 33), .ref (rM 34), .ref (rM 35), .ref (rM 36), .int 0, .int 0, .int 0, .ref (rM 37), .ref (rM 38)])), (rM 4, .inl ((cM 4), 2, .inl (fM 4)))]) [0, 1] rfl
    have hKc := hK.sub (tys' := [((cM 4), .int)]) [0] rfl
    have hDc := hD.sub (ws' := [(rM 0, .inr (8, [.ref (rM 1), .ref (rM 2), .int 0, .int 0, .int 0, .int (-1), .int 0, .int 0, .int 0, .int 0, .long 0, .ref (rM 3), .ref (rM 4), .ref (rM 5), .ref (rM 6), .ref (rM 7), .ref (rM 8), .ref (rM 9), .ref (rM 10), .ref (rM 11), .ref (rM 12), .ref (rM 13), .ref (rM 14), .ref (rM 15), .ref (rM 16), .ref (rM 17), .ref (rM 18), .ref (rM 19), .ref (rM 20), .ref (rM 21), .ref (rM 22), .ref (rM 23), .ref (rM 24), .int 0, .int 0, .int 0, .int 0, .int 0, .int 0, .int 0, .int 0, .int 0, .ref (rM 25), .ref (rM 26), .ref (rM 27), .int 0, .int 0, .ref (rM 28), .int 0, .ref (rM 29), .ref (rM 30), .ref (rM 31), .ref (rM 32), .ref (rM 33), .ref (rM 34), .ref (rM 35), .ref (rM 36), .int 0, .int 0, .int 0, .ref (rM 37), .ref (rM 38)])), (rM 4, .inl ((cM 4), 2, .inl (fM 4)))]) [0, 1] (by decide) rfl
    have hFc := va_free (wc := [(rM 0, .inr (8, [.ref (rM 1), .ref (rM 2), .int 0, .int 0, .int 0, .int (-1), .int 0, .int 0, .int 0, .int 0, .long 0, .ref (rM 3), .ref (rM 4), .ref (rM 5), .ref (rM 6), .ref (rM 7), .ref (rM 8), .ref (rM 9), .ref (rM 10), .ref (rM 11), .ref (rM 12), .ref (rM 13), .ref (rM 14), .ref (rM 15), .ref (rM 16), .ref (rM 17), .ref (rM 18), .ref (rM 19), .ref (rM 20), .ref (rM 21), .ref (rM 22), .ref (rM 23), .ref (rM 24), .int 0, .int 0, .int 0, .int 0, .int 0, .int 0, .int 0, .int 0, .int 0, .ref (rM 25), .ref (rM 26), .ref (rM 27), .int 0, .int 0, .ref (rM 28), .int 0, .ref (rM 29), .ref (rM 30), .ref (rM 31), .ref (rM 32), .ref (rM 33), .ref (rM 34), .ref (rM 35), .ref (rM 36), .int 0, .int 0, .int 0, .ref (rM 37), .ref (rM 38)])), (rM 4, .inl ((cM 4), 2, .inl (fM 4)))]) hD hS hA [0, 1] rfl
    refine va_calli (va_runV (As := [.int (xs 1), .int (xs 2), .int (xs 3)]) (rest := [.int (-1)]) ⟨hx, hb, hml, hown, hG⟩ (kX9_find l dC dI rM cM (fM 4) (xs 1) (xs 2) (xs 3) H1.size hfM_4_0) (cwV 3 hG (goodV gw1625 gw1626 gw1627 gw138 gw1628) rfl rfl rfl hd_X9_find ⟨(Nat.le_of_ble_eq_true rfl), (Nat.le_of_ble_eq_true rfl)⟩) ⟨fbW, va_recv hKc hPc (ci := 8) (q0 := 0) rfl rfl, pW_in hPc hKc hDc⟩ rfl rfl hl.1 rfl (lv_room (Nat.le_of_ble_eq_true rfl)) dL_law_838 ⟨(Nat.le_of_ble_eq_true rfl), (Nat.le_of_ble_eq_true rfl)⟩) hS (fun q _ h => hFc q h) hFc (fun r_61 u t H60 locs ht hvm hw hB hz1 hk1 hS => ?_)
    rcases hw with ⟨rfl, hy62, hw⟩ | ⟨rfl, hy63, hy64, hw⟩ | ⟨rfl, hy65, hy66, hy67, hw⟩ | ⟨rfl, hy68, hy69, hy70, hy71, hw⟩ | ⟨rfl, hy72, hy73, hy74, hy75, hy76, hw⟩ | ⟨rfl, hy77, hy78, hy79, hy80, hy81, hy82, hw⟩ | ⟨rfl, hy83, hy84, hy85, hy86, hy87, hy88, hw⟩
    · skip
      exact ((by have k0 := q_nlt hy4; have k1 := q_le hy5; have k2 := q_lt hy62; have z0 : (0 : Int32).toInt = 0 := (by decide); have z7 : (7 : Int32).toInt = 7 := (by decide); omega) : False).elim
    · skip
      obtain ⟨hP, hD⟩ := va_join (wr := []) (w1 := []) hP hD [0, 1] [] rfl rfl (by decide) (by decide) hk1 hFc (fun k q h => by simp at h) ⟨fun i j p q h => by simp at h, fun k q h => by simp at h⟩
      refine wt_c (v := (-1)) hw ?_
      refine lv_icmp_eq (tgt := 1540) hx hb dL_law_841 (by decide) (fun c_89 => ?_) (fun c_89 => absurd (by decide) c_89)
      exact law_end l C0 hS hl
    · skip
      exact ((by have k0 := q_nlt hy4; have k1 := q_le hy5; have k2 := q_nlt hy65; have k3 := q_nle hy66; have z0 : (0 : Int32).toInt = 0 := (by decide); have z7 : (7 : Int32).toInt = 7 := (by decide); omega) : False).elim
    · skip
      exact ((by have k0 := q_nlt hy4; have k1 := q_le hy5; have k2 := q_nlt hy68; have k3 := q_nle hy69; have z0 : (0 : Int32).toInt = 0 := (by decide); have z7 : (7 : Int32).toInt = 7 := (by decide); omega) : False).elim
    · skip
      exact ((by have k0 := q_nlt hy4; have k1 := q_le hy5; have k2 := q_nlt hy72; have k3 := q_nle hy73; have z0 : (0 : Int32).toInt = 0 := (by decide); have z7 : (7 : Int32).toInt = 7 := (by decide); omega) : False).elim
    · skip
      exact ((by have k0 := q_nlt hy4; have k1 := q_le hy5; have k2 := q_nlt hy77; have k3 := q_nle hy78; have z0 : (0 : Int32).toInt = 0 := (by decide); have z7 : (7 : Int32).toInt = 7 := (by decide); omega) : False).elim
    · skip
      exact ((by have k0 := q_nlt hy4; have k1 := q_le hy5; have k2 := q_nlt hy83; have k3 := q_nle hy84; have z0 : (0 : Int32).toInt = 0 := (by decide); have z7 : (7 : Int32).toInt = 7 := (by decide); omega) : False).elim
  · skip
    obtain ⟨hP, hD⟩ := va_join (wr := [(rM 0, .inr (8, [.ref (rM 1), .ref (rM 2), .int 0, .int 0, .int 0, .int (-1), .int 0, .int 0, .int 0, .int 0, .long 0, .ref (rM 3), .ref (rM 4), .ref (rM 5), .ref (rM 6), .ref (rM 7), .ref (rM 8), .ref (rM 9), .ref (rM 10), .ref (rM 11), .ref (rM 12), .ref (rM 13), .ref (rM 14), .ref (rM 15), .ref (rM 16), .ref (rM 17), .ref (rM 18), .ref (rM 19), .ref (rM 20), .ref (rM 21), .ref (rM 22), .ref (rM 23), .ref (rM 24), .int 0, .int 0, .int 0, .int 0, .int 0, .int 0, .int 0, .int 0, .int 0, .ref (rM 25), .ref (rM 26), .ref (rM 27), .int 0, .int 0, .ref (rM 28), .int 0, .ref (rM 29), .ref (rM 30), .ref (rM 31), .ref (rM 32), .ref (rM 33), .ref (rM 34), .ref (rM 35), .ref (rM 36), .int 0, .int 0, .int 0, .ref (rM 37), .ref (rM 38)])), (rM 4, .inl ((cM 4), 2, .inl (fM 4)))]) (w1 := []) hP hD [0, 1] [2, 3] rfl rfl (by decide) (by decide) hk1 hFc (fun k q h => by simp at h) ⟨fun i j p q h => by simp at h, fun k q h => by simp at h⟩
    refine wt_c (v := (-1)) hw ?_
    refine lv_aload_n hx hb dL_law_822 rfl (lv_at hl 1 rfl) ?_
    refine lv_aload_n hx hb dL_law_823 rfl (lv_at hl 3 rfl) ?_
    refine lv_iload_n hx hb dL_law_824 rfl (lv_at hl 0 rfl) ?_
    refine lv_iconst (v := 1) hx hb dL_law_825 (by decide) ?_
    refine lv_iadd hx hb dL_law_826 ?_
    refine wt_c (v := 1) (by decide) ?_
    refine va_sld hx hb hX hbl hbA hS (vin (by decide)) dL_law_827 ?_
    refine wt_c (v := xs 1) (congrArg xs (by decide)) ?_
    refine lv_aload_n hx hb dL_law_828 rfl (lv_at hl 3 rfl) ?_
    refine lv_iload_n hx hb dL_law_829 rfl (lv_at hl 0 rfl) ?_
    refine lv_iconst (v := 2) hx hb dL_law_830 (by decide) ?_
    refine lv_iadd hx hb dL_law_831 ?_
    refine wt_c (v := 2) (by decide) ?_
    refine va_sld hx hb hX hbl hbA hS (vin (by decide)) dL_law_832 ?_
    refine wt_c (v := xs 2) (congrArg xs (by decide)) ?_
    refine lv_aload_n hx hb dL_law_833 rfl (lv_at hl 3 rfl) ?_
    refine lv_iload_n hx hb dL_law_834 rfl (lv_at hl 0 rfl) ?_
    refine lv_iconst (v := 3) hx hb dL_law_835 (by decide) ?_
    refine lv_iadd hx hb dL_law_836 ?_
    refine wt_c (v := 3) (by decide) ?_
    refine va_sld hx hb hX hbl hbA hS (vin (by decide)) dL_law_837 ?_
    refine wt_c (v := xs 3) (congrArg xs (by decide)) ?_
    have hPc := hP.sub (ws' := [(rM 0, .inr (8, [.ref (rM 1), .ref (rM 2), .int 0, .int 0, .int 0, .int (-1), .int 0, .int 0, .int 0, .int 0, .long 0, .ref (rM 3), .ref (rM 4), .ref (rM 5), .ref (rM 6), .ref (rM 7), .ref (rM 8), .ref (rM 9), .ref (rM 10), .ref (rM 11), .ref (rM 12), .ref (rM 13), .ref (rM 14), .ref (rM 15), .ref (rM 16), .ref (rM 17), .ref (rM 18), .ref (rM 19), .ref (rM 20), .ref (rM 21), .ref (rM 22), .ref (rM 23), .ref (rM 24), .int 0, .int 0, .int 0, .int 0, .int 0, .int 0, .int 0, .int 0, .int 0, .ref (rM 25), .ref (rM 26), .ref (rM 27), .int 0, .int 0, .ref (rM 28), .int 0, .ref (rM 29), .ref (rM 30), .ref (rM 31), .ref (rM 32), .ref (rM 33), .ref (rM 34), .ref (rM 35), .ref (rM 36), .int 0, .int 0, .int 0, .ref (rM 37), .ref (rM 38)])), (rM 4, .inl ((cM 4), 2, .inl (fM 4)))]) [0, 1] rfl
    have hKc := hK.sub (tys' := [((cM 4), .int)]) [0] rfl
    have hDc := hD.sub (ws' := [(rM 0, .inr (8, [.ref (rM 1), .ref (rM 2), .int 0, .int 0, .int 0, .int (-1), .int 0, .int 0, .int 0, .int 0, .long 0, .ref (rM 3), .ref (rM 4), .ref (rM 5), .ref (rM 6), .ref (rM 7), .ref (rM 8), .ref (rM 9), .ref (rM 10), .ref (rM 11), .ref (rM 12), .ref (rM 13), .ref (rM 14), .ref (rM 15), .ref (rM 16), .ref (rM 17), .ref (rM 18), .ref (rM 19), .ref (rM 20), .ref (rM 21), .ref (rM 22), .ref (rM 23), .ref (rM 24), .int 0, .int 0, .int 0, .int 0, .int 0, .int 0, .int 0, .int 0, .int 0, .ref (rM 25), .ref (rM 26), .ref (rM 27), .int 0, .int 0, .ref (rM 28), .int 0, .ref (rM 29), .ref (rM 30), .ref (rM 31), .ref (rM 32), .ref (rM 33), .ref (rM 34), .ref (rM 35), .ref (rM 36), .int 0, .int 0, .int 0, .ref (rM 37), .ref (rM 38)])), (rM 4, .inl ((cM 4), 2, .inl (fM 4)))]) [0, 1] (by decide) rfl
    have hFc := va_free (wc := [(rM 0, .inr (8, [.ref (rM 1), .ref (rM 2), .int 0, .int 0, .int 0, .int (-1), .int 0, .int 0, .int 0, .int 0, .long 0, .ref (rM 3), .ref (rM 4), .ref (rM 5), .ref (rM 6), .ref (rM 7), .ref (rM 8), .ref (rM 9), .ref (rM 10), .ref (rM 11), .ref (rM 12), .ref (rM 13), .ref (rM 14), .ref (rM 15), .ref (rM 16), .ref (rM 17), .ref (rM 18), .ref (rM 19), .ref (rM 20), .ref (rM 21), .ref (rM 22), .ref (rM 23), .ref (rM 24), .int 0, .int 0, .int 0, .int 0, .int 0, .int 0, .int 0, .int 0, .int 0, .ref (rM 25), .ref (rM 26), .ref (rM 27), .int 0, .int 0, .ref (rM 28), .int 0, .ref (rM 29), .ref (rM 30), .ref (rM 31), .ref (rM 32), .ref (rM 33), .ref (rM 34), .ref (rM 35), .ref (rM 36), .int 0, .int 0, .int 0, .ref (rM 37), .ref (rM 38)])), (rM 4, .inl ((cM 4), 2, .inl (fM 4)))]) hD hS hA [0, 1] rfl
    refine va_calli (va_runV (As := [.int (xs 1), .int (xs 2), .int (xs 3)]) (rest := [.int (-1)]) ⟨hx, hb, hml, hown, hG⟩ (kX9_find l dC dI rM cM (fM 4) (xs 1) (xs 2) (xs 3) H1.size hfM_4_0) (cwV 3 hG (goodV gw1625 gw1626 gw1627 gw138 gw1628) rfl rfl rfl hd_X9_find ⟨(Nat.le_of_ble_eq_true rfl), (Nat.le_of_ble_eq_true rfl)⟩) ⟨fbW, va_recv hKc hPc (ci := 8) (q0 := 0) rfl rfl, pW_in hPc hKc hDc⟩ rfl rfl hl.1 rfl (lv_room (Nat.le_of_ble_eq_true rfl)) dL_law_838 ⟨(Nat.le_of_ble_eq_true rfl), (Nat.le_of_ble_eq_true rfl)⟩) hS (fun q _ h => hFc q h) hFc (fun r_91 u t H90 locs ht hvm hw hB hz1 hk1 hS => ?_)
    rcases hw with ⟨rfl, hy92, hw⟩ | ⟨rfl, hy93, hy94, hw⟩ | ⟨rfl, hy95, hy96, hy97, hw⟩ | ⟨rfl, hy98, hy99, hy100, hy101, hw⟩ | ⟨rfl, hy102, hy103, hy104, hy105, hy106, hw⟩ | ⟨rfl, hy107, hy108, hy109, hy110, hy111, hy112, hw⟩ | ⟨rfl, hy113, hy114, hy115, hy116, hy117, hy118, hw⟩
    · skip
      exact ((by have k0 := q_nlt hy6; have k1 := q_nle hy7; have k3 := q_lt hy92; have z0 : (0 : Int32).toInt = 0 := (by decide); have z7 : (7 : Int32).toInt = 7 := (by decide); omega) : False).elim
    · skip
      exact ((by have k0 := q_nlt hy6; have k1 := q_nle hy7; have k3 := q_nlt hy93; have k4 := q_le hy94; have z0 : (0 : Int32).toInt = 0 := (by decide); have z7 : (7 : Int32).toInt = 7 := (by decide); omega) : False).elim
    · skip
      obtain ⟨hP, hD⟩ := va_join (wr := []) (w1 := []) hP hD [0, 1] [] rfl rfl (by decide) (by decide) hk1 hFc (fun k q h => by simp at h) ⟨fun i j p q h => by simp at h, fun k q h => by simp at h⟩
      refine wt_c (v := (-1)) hw ?_
      refine lv_icmp_eq (tgt := 1540) hx hb dL_law_841 (by decide) (fun c_119 => ?_) (fun c_119 => absurd (by decide) c_119)
      exact law_end l C0 hS hl
    · skip
      exact ((by have k2 := q_lt hy8; have k5 := q_nlt hy100; have k6 := q_le hy101; have z0 : (0 : Int32).toInt = 0 := (by decide); have z7 : (7 : Int32).toInt = 7 := (by decide); omega) : False).elim
    · skip
      exact ((by have k2 := q_lt hy8; have k5 := q_nlt hy104; have k6 := q_nle hy105; have z0 : (0 : Int32).toInt = 0 := (by decide); have z7 : (7 : Int32).toInt = 7 := (by decide); omega) : False).elim
    · skip
      exact ((by have k2 := q_lt hy8; have k5 := q_nlt hy109; have k6 := q_nle hy110; have z0 : (0 : Int32).toInt = 0 := (by decide); have z7 : (7 : Int32).toInt = 7 := (by decide); omega) : False).elim
    · skip
      exact ((by have k2 := q_lt hy8; have k5 := q_nlt hy115; have k6 := q_nle hy116; have z0 : (0 : Int32).toInt = 0 := (by decide); have z7 : (7 : Int32).toInt = 7 := (by decide); omega) : False).elim
  · skip
    obtain ⟨hP, hD⟩ := va_join (wr := [(rM 0, .inr (8, [.ref (rM 1), .ref (rM 2), .int 0, .int 0, .int 0, .int (-1), .int 0, .int 0, .int 0, .int 0, .long 0, .ref (rM 3), .ref (rM 4), .ref (rM 5), .ref (rM 6), .ref (rM 7), .ref (rM 8), .ref (rM 9), .ref (rM 10), .ref (rM 11), .ref (rM 12), .ref (rM 13), .ref (rM 14), .ref (rM 15), .ref (rM 16), .ref (rM 17), .ref (rM 18), .ref (rM 19), .ref (rM 20), .ref (rM 21), .ref (rM 22), .ref (rM 23), .ref (rM 24), .int 0, .int 0, .int 0, .int 0, .int 0, .int 0, .int 0, .int 0, .int 0, .ref (rM 25), .ref (rM 26), .ref (rM 27), .int 0, .int 0, .ref (rM 28), .int 0, .ref (rM 29), .ref (rM 30), .ref (rM 31), .ref (rM 32), .ref (rM 33), .ref (rM 34), .ref (rM 35), .ref (rM 36), .int 0, .int 0, .int 0, .ref (rM 37), .ref (rM 38)])), (rM 4, .inl ((cM 4), 2, .inl (fM 4)))]) (w1 := []) hP hD [0, 1] [2, 3] rfl rfl (by decide) (by decide) hk1 hFc (fun k q h => by simp at h) ⟨fun i j p q h => by simp at h, fun k q h => by simp at h⟩
    refine wt_c (v := (-1)) hw ?_
    refine lv_aload_n hx hb dL_law_822 rfl (lv_at hl 1 rfl) ?_
    refine lv_aload_n hx hb dL_law_823 rfl (lv_at hl 3 rfl) ?_
    refine lv_iload_n hx hb dL_law_824 rfl (lv_at hl 0 rfl) ?_
    refine lv_iconst (v := 1) hx hb dL_law_825 (by decide) ?_
    refine lv_iadd hx hb dL_law_826 ?_
    refine wt_c (v := 1) (by decide) ?_
    refine va_sld hx hb hX hbl hbA hS (vin (by decide)) dL_law_827 ?_
    refine wt_c (v := xs 1) (congrArg xs (by decide)) ?_
    refine lv_aload_n hx hb dL_law_828 rfl (lv_at hl 3 rfl) ?_
    refine lv_iload_n hx hb dL_law_829 rfl (lv_at hl 0 rfl) ?_
    refine lv_iconst (v := 2) hx hb dL_law_830 (by decide) ?_
    refine lv_iadd hx hb dL_law_831 ?_
    refine wt_c (v := 2) (by decide) ?_
    refine va_sld hx hb hX hbl hbA hS (vin (by decide)) dL_law_832 ?_
    refine wt_c (v := xs 2) (congrArg xs (by decide)) ?_
    refine lv_aload_n hx hb dL_law_833 rfl (lv_at hl 3 rfl) ?_
    refine lv_iload_n hx hb dL_law_834 rfl (lv_at hl 0 rfl) ?_
    refine lv_iconst (v := 3) hx hb dL_law_835 (by decide) ?_
    refine lv_iadd hx hb dL_law_836 ?_
    refine wt_c (v := 3) (by decide) ?_
    refine va_sld hx hb hX hbl hbA hS (vin (by decide)) dL_law_837 ?_
    refine wt_c (v := xs 3) (congrArg xs (by decide)) ?_
    have hPc := hP.sub (ws' := [(rM 0, .inr (8, [.ref (rM 1), .ref (rM 2), .int 0, .int 0, .int 0, .int (-1), .int 0, .int 0, .int 0, .int 0, .long 0, .ref (rM 3), .ref (rM 4), .ref (rM 5), .ref (rM 6), .ref (rM 7), .ref (rM 8), .ref (rM 9), .ref (rM 10), .ref (rM 11), .ref (rM 12), .ref (rM 13), .ref (rM 14), .ref (rM 15), .ref (rM 16), .ref (rM 17), .ref (rM 18), .ref (rM 19), .ref (rM 20), .ref (rM 21), .ref (rM 22), .ref (rM 23), .ref (rM 24), .int 0, .int 0, .int 0, .int 0, .int 0, .int 0, .int 0, .int 0, .int 0, .ref (rM 25), .ref (rM 26), .ref (rM 27), .int 0, .int 0, .ref (rM 28), .int 0, .ref (rM 29), .ref (rM 30), .ref (rM 31), .ref (rM 32), .ref (rM 33), .ref (rM 34), .ref (rM 35), .ref (rM 36), .int 0, .int 0, .int 0, .ref (rM 37), .ref (rM 38)])), (rM 4, .inl ((cM 4), 2, .inl (fM 4)))]) [0, 1] rfl
    have hKc := hK.sub (tys' := [((cM 4), .int)]) [0] rfl
    have hDc := hD.sub (ws' := [(rM 0, .inr (8, [.ref (rM 1), .ref (rM 2), .int 0, .int 0, .int 0, .int (-1), .int 0, .int 0, .int 0, .int 0, .long 0, .ref (rM 3), .ref (rM 4), .ref (rM 5), .ref (rM 6), .ref (rM 7), .ref (rM 8), .ref (rM 9), .ref (rM 10), .ref (rM 11), .ref (rM 12), .ref (rM 13), .ref (rM 14), .ref (rM 15), .ref (rM 16), .ref (rM 17), .ref (rM 18), .ref (rM 19), .ref (rM 20), .ref (rM 21), .ref (rM 22), .ref (rM 23), .ref (rM 24), .int 0, .int 0, .int 0, .int 0, .int 0, .int 0, .int 0, .int 0, .int 0, .ref (rM 25), .ref (rM 26), .ref (rM 27), .int 0, .int 0, .ref (rM 28), .int 0, .ref (rM 29), .ref (rM 30), .ref (rM 31), .ref (rM 32), .ref (rM 33), .ref (rM 34), .ref (rM 35), .ref (rM 36), .int 0, .int 0, .int 0, .ref (rM 37), .ref (rM 38)])), (rM 4, .inl ((cM 4), 2, .inl (fM 4)))]) [0, 1] (by decide) rfl
    have hFc := va_free (wc := [(rM 0, .inr (8, [.ref (rM 1), .ref (rM 2), .int 0, .int 0, .int 0, .int (-1), .int 0, .int 0, .int 0, .int 0, .long 0, .ref (rM 3), .ref (rM 4), .ref (rM 5), .ref (rM 6), .ref (rM 7), .ref (rM 8), .ref (rM 9), .ref (rM 10), .ref (rM 11), .ref (rM 12), .ref (rM 13), .ref (rM 14), .ref (rM 15), .ref (rM 16), .ref (rM 17), .ref (rM 18), .ref (rM 19), .ref (rM 20), .ref (rM 21), .ref (rM 22), .ref (rM 23), .ref (rM 24), .int 0, .int 0, .int 0, .int 0, .int 0, .int 0, .int 0, .int 0, .int 0, .ref (rM 25), .ref (rM 26), .ref (rM 27), .int 0, .int 0, .ref (rM 28), .int 0, .ref (rM 29), .ref (rM 30), .ref (rM 31), .ref (rM 32), .ref (rM 33), .ref (rM 34), .ref (rM 35), .ref (rM 36), .int 0, .int 0, .int 0, .ref (rM 37), .ref (rM 38)])), (rM 4, .inl ((cM 4), 2, .inl (fM 4)))]) hD hS hA [0, 1] rfl
    refine va_calli (va_runV (As := [.int (xs 1), .int (xs 2), .int (xs 3)]) (rest := [.int (-1)]) ⟨hx, hb, hml, hown, hG⟩ (kX9_find l dC dI rM cM (fM 4) (xs 1) (xs 2) (xs 3) H1.size hfM_4_0) (cwV 3 hG (goodV gw1625 gw1626 gw1627 gw138 gw1628) rfl rfl rfl hd_X9_find ⟨(Nat.le_of_ble_eq_true rfl), (Nat.le_of_ble_eq_true rfl)⟩) ⟨fbW, va_recv hKc hPc (ci := 8) (q0 := 0) rfl rfl, pW_in hPc hKc hDc⟩ rfl rfl hl.1 rfl (lv_room (Nat.le_of_ble_eq_true rfl)) dL_law_838 ⟨(Nat.le_of_ble_eq_true rfl), (Nat.le_of_ble_eq_true rfl)⟩) hS (fun q _ h => hFc q h) hFc (fun r_121 u t H120 locs ht hvm hw hB hz1 hk1 hS => ?_)
    rcases hw with ⟨rfl, hy122, hw⟩ | ⟨rfl, hy123, hy124, hw⟩ | ⟨rfl, hy125, hy126, hy127, hw⟩ | ⟨rfl, hy128, hy129, hy130, hy131, hw⟩ | ⟨rfl, hy132, hy133, hy134, hy135, hy136, hw⟩ | ⟨rfl, hy137, hy138, hy139, hy140, hy141, hy142, hw⟩ | ⟨rfl, hy143, hy144, hy145, hy146, hy147, hy148, hw⟩
    · skip
      exact ((by have k0 := q_nlt hy9; have k1 := q_nle hy10; have k4 := q_lt hy122; have z0 : (0 : Int32).toInt = 0 := (by decide); have z7 : (7 : Int32).toInt = 7 := (by decide); omega) : False).elim
    · skip
      exact ((by have k0 := q_nlt hy9; have k1 := q_nle hy10; have k4 := q_nlt hy123; have k5 := q_le hy124; have z0 : (0 : Int32).toInt = 0 := (by decide); have z7 : (7 : Int32).toInt = 7 := (by decide); omega) : False).elim
    · skip
      exact ((by have k2 := q_nlt hy11; have k3 := q_le hy12; have k6 := q_lt hy127; have z0 : (0 : Int32).toInt = 0 := (by decide); have z7 : (7 : Int32).toInt = 7 := (by decide); omega) : False).elim
    · skip
      obtain ⟨hP, hD⟩ := va_join (wr := []) (w1 := []) hP hD [0, 1] [] rfl rfl (by decide) (by decide) hk1 hFc (fun k q h => by simp at h) ⟨fun i j p q h => by simp at h, fun k q h => by simp at h⟩
      refine wt_c (v := (-1)) hw ?_
      refine lv_icmp_eq (tgt := 1540) hx hb dL_law_841 (by decide) (fun c_149 => ?_) (fun c_149 => absurd (by decide) c_149)
      exact law_end l C0 hS hl
    · skip
      exact ((by have k2 := q_nlt hy11; have k3 := q_le hy12; have k6 := q_nlt hy134; have k7 := q_nle hy135; have z0 : (0 : Int32).toInt = 0 := (by decide); have z7 : (7 : Int32).toInt = 7 := (by decide); omega) : False).elim
    · skip
      exact ((by have k2 := q_nlt hy11; have k3 := q_le hy12; have k6 := q_nlt hy139; have k7 := q_nle hy140; have z0 : (0 : Int32).toInt = 0 := (by decide); have z7 : (7 : Int32).toInt = 7 := (by decide); omega) : False).elim
    · skip
      exact ((by have k2 := q_nlt hy11; have k3 := q_le hy12; have k6 := q_nlt hy145; have k7 := q_nle hy146; have z0 : (0 : Int32).toInt = 0 := (by decide); have z7 : (7 : Int32).toInt = 7 := (by decide); omega) : False).elim
  · skip
    obtain ⟨hP, hD⟩ := va_join (wr := [(rM 0, .inr (8, [.ref (rM 1), .ref (rM 2), .int 0, .int 0, .int 0, .int (-1), .int 0, .int 0, .int 0, .int 0, .long 0, .ref (rM 3), .ref (rM 4), .ref (rM 5), .ref (rM 6), .ref (rM 7), .ref (rM 8), .ref (rM 9), .ref (rM 10), .ref (rM 11), .ref (rM 12), .ref (rM 13), .ref (rM 14), .ref (rM 15), .ref (rM 16), .ref (rM 17), .ref (rM 18), .ref (rM 19), .ref (rM 20), .ref (rM 21), .ref (rM 22), .ref (rM 23), .ref (rM 24), .int 0, .int 0, .int 0, .int 0, .int 0, .int 0, .int 0, .int 0, .int 0, .ref (rM 25), .ref (rM 26), .ref (rM 27), .int 0, .int 0, .ref (rM 28), .int 0, .ref (rM 29), .ref (rM 30), .ref (rM 31), .ref (rM 32), .ref (rM 33), .ref (rM 34), .ref (rM 35), .ref (rM 36), .int 0, .int 0, .int 0, .ref (rM 37), .ref (rM 38)])), (rM 4, .inl ((cM 4), 2, .inl (fM 4)))]) (w1 := []) hP hD [0, 1] [2, 3] rfl rfl (by decide) (by decide) hk1 hFc (fun k q h => by simp at h) ⟨fun i j p q h => by simp at h, fun k q h => by simp at h⟩
    refine wt_c (v := (-1)) hw ?_
    refine lv_aload_n hx hb dL_law_822 rfl (lv_at hl 1 rfl) ?_
    refine lv_aload_n hx hb dL_law_823 rfl (lv_at hl 3 rfl) ?_
    refine lv_iload_n hx hb dL_law_824 rfl (lv_at hl 0 rfl) ?_
    refine lv_iconst (v := 1) hx hb dL_law_825 (by decide) ?_
    refine lv_iadd hx hb dL_law_826 ?_
    refine wt_c (v := 1) (by decide) ?_
    refine va_sld hx hb hX hbl hbA hS (vin (by decide)) dL_law_827 ?_
    refine wt_c (v := xs 1) (congrArg xs (by decide)) ?_
    refine lv_aload_n hx hb dL_law_828 rfl (lv_at hl 3 rfl) ?_
    refine lv_iload_n hx hb dL_law_829 rfl (lv_at hl 0 rfl) ?_
    refine lv_iconst (v := 2) hx hb dL_law_830 (by decide) ?_
    refine lv_iadd hx hb dL_law_831 ?_
    refine wt_c (v := 2) (by decide) ?_
    refine va_sld hx hb hX hbl hbA hS (vin (by decide)) dL_law_832 ?_
    refine wt_c (v := xs 2) (congrArg xs (by decide)) ?_
    refine lv_aload_n hx hb dL_law_833 rfl (lv_at hl 3 rfl) ?_
    refine lv_iload_n hx hb dL_law_834 rfl (lv_at hl 0 rfl) ?_
    refine lv_iconst (v := 3) hx hb dL_law_835 (by decide) ?_
    refine lv_iadd hx hb dL_law_836 ?_
    refine wt_c (v := 3) (by decide) ?_
    refine va_sld hx hb hX hbl hbA hS (vin (by decide)) dL_law_837 ?_
    refine wt_c (v := xs 3) (congrArg xs (by decide)) ?_
    have hPc := hP.sub (ws' := [(rM 0, .inr (8, [.ref (rM 1), .ref (rM 2), .int 0, .int 0, .int 0, .int (-1), .int 0, .int 0, .int 0, .int 0, .long 0, .ref (rM 3), .ref (rM 4), .ref (rM 5), .ref (rM 6), .ref (rM 7), .ref (rM 8), .ref (rM 9), .ref (rM 10), .ref (rM 11), .ref (rM 12), .ref (rM 13), .ref (rM 14), .ref (rM 15), .ref (rM 16), .ref (rM 17), .ref (rM 18), .ref (rM 19), .ref (rM 20), .ref (rM 21), .ref (rM 22), .ref (rM 23), .ref (rM 24), .int 0, .int 0, .int 0, .int 0, .int 0, .int 0, .int 0, .int 0, .int 0, .ref (rM 25), .ref (rM 26), .ref (rM 27), .int 0, .int 0, .ref (rM 28), .int 0, .ref (rM 29), .ref (rM 30), .ref (rM 31), .ref (rM 32), .ref (rM 33), .ref (rM 34), .ref (rM 35), .ref (rM 36), .int 0, .int 0, .int 0, .ref (rM 37), .ref (rM 38)])), (rM 4, .inl ((cM 4), 2, .inl (fM 4)))]) [0, 1] rfl
    have hKc := hK.sub (tys' := [((cM 4), .int)]) [0] rfl
    have hDc := hD.sub (ws' := [(rM 0, .inr (8, [.ref (rM 1), .ref (rM 2), .int 0, .int 0, .int 0, .int (-1), .int 0, .int 0, .int 0, .int 0, .long 0, .ref (rM 3), .ref (rM 4), .ref (rM 5), .ref (rM 6), .ref (rM 7), .ref (rM 8), .ref (rM 9), .ref (rM 10), .ref (rM 11), .ref (rM 12), .ref (rM 13), .ref (rM 14), .ref (rM 15), .ref (rM 16), .ref (rM 17), .ref (rM 18), .ref (rM 19), .ref (rM 20), .ref (rM 21), .ref (rM 22), .ref (rM 23), .ref (rM 24), .int 0, .int 0, .int 0, .int 0, .int 0, .int 0, .int 0, .int 0, .int 0, .ref (rM 25), .ref (rM 26), .ref (rM 27), .int 0, .int 0, .ref (rM 28), .int 0, .ref (rM 29), .ref (rM 30), .ref (rM 31), .ref (rM 32), .ref (rM 33), .ref (rM 34), .ref (rM 35), .ref (rM 36), .int 0, .int 0, .int 0, .ref (rM 37), .ref (rM 38)])), (rM 4, .inl ((cM 4), 2, .inl (fM 4)))]) [0, 1] (by decide) rfl
    have hFc := va_free (wc := [(rM 0, .inr (8, [.ref (rM 1), .ref (rM 2), .int 0, .int 0, .int 0, .int (-1), .int 0, .int 0, .int 0, .int 0, .long 0, .ref (rM 3), .ref (rM 4), .ref (rM 5), .ref (rM 6), .ref (rM 7), .ref (rM 8), .ref (rM 9), .ref (rM 10), .ref (rM 11), .ref (rM 12), .ref (rM 13), .ref (rM 14), .ref (rM 15), .ref (rM 16), .ref (rM 17), .ref (rM 18), .ref (rM 19), .ref (rM 20), .ref (rM 21), .ref (rM 22), .ref (rM 23), .ref (rM 24), .int 0, .int 0, .int 0, .int 0, .int 0, .int 0, .int 0, .int 0, .int 0, .ref (rM 25), .ref (rM 26), .ref (rM 27), .int 0, .int 0, .ref (rM 28), .int 0, .ref (rM 29), .ref (rM 30), .ref (rM 31), .ref (rM 32), .ref (rM 33), .ref (rM 34), .ref (rM 35), .ref (rM 36), .int 0, .int 0, .int 0, .ref (rM 37), .ref (rM 38)])), (rM 4, .inl ((cM 4), 2, .inl (fM 4)))]) hD hS hA [0, 1] rfl
    refine va_calli (va_runV (As := [.int (xs 1), .int (xs 2), .int (xs 3)]) (rest := [.int (-1)]) ⟨hx, hb, hml, hown, hG⟩ (kX9_find l dC dI rM cM (fM 4) (xs 1) (xs 2) (xs 3) H1.size hfM_4_0) (cwV 3 hG (goodV gw1625 gw1626 gw1627 gw138 gw1628) rfl rfl rfl hd_X9_find ⟨(Nat.le_of_ble_eq_true rfl), (Nat.le_of_ble_eq_true rfl)⟩) ⟨fbW, va_recv hKc hPc (ci := 8) (q0 := 0) rfl rfl, pW_in hPc hKc hDc⟩ rfl rfl hl.1 rfl (lv_room (Nat.le_of_ble_eq_true rfl)) dL_law_838 ⟨(Nat.le_of_ble_eq_true rfl), (Nat.le_of_ble_eq_true rfl)⟩) hS (fun q _ h => hFc q h) hFc (fun r_151 u t H150 locs ht hvm hw hB hz1 hk1 hS => ?_)
    rcases hw with ⟨rfl, hy152, hw⟩ | ⟨rfl, hy153, hy154, hw⟩ | ⟨rfl, hy155, hy156, hy157, hw⟩ | ⟨rfl, hy158, hy159, hy160, hy161, hw⟩ | ⟨rfl, hy162, hy163, hy164, hy165, hy166, hw⟩ | ⟨rfl, hy167, hy168, hy169, hy170, hy171, hy172, hw⟩ | ⟨rfl, hy173, hy174, hy175, hy176, hy177, hy178, hw⟩
    · skip
      exact ((by have k0 := q_nlt hy13; have k1 := q_nle hy14; have k5 := q_lt hy152; have z0 : (0 : Int32).toInt = 0 := (by decide); have z7 : (7 : Int32).toInt = 7 := (by decide); omega) : False).elim
    · skip
      exact ((by have k0 := q_nlt hy13; have k1 := q_nle hy14; have k5 := q_nlt hy153; have k6 := q_le hy154; have z0 : (0 : Int32).toInt = 0 := (by decide); have z7 : (7 : Int32).toInt = 7 := (by decide); omega) : False).elim
    · skip
      exact ((by have k2 := q_nlt hy15; have k3 := q_nle hy16; have k7 := q_lt hy157; have z0 : (0 : Int32).toInt = 0 := (by decide); have z7 : (7 : Int32).toInt = 7 := (by decide); omega) : False).elim
    · skip
      exact ((by have k2 := q_nlt hy15; have k3 := q_nle hy16; have k7 := q_nlt hy160; have k8 := q_le hy161; have z0 : (0 : Int32).toInt = 0 := (by decide); have z7 : (7 : Int32).toInt = 7 := (by decide); omega) : False).elim
    · skip
      obtain ⟨hP, hD⟩ := va_join (wr := []) (w1 := []) hP hD [0, 1] [] rfl rfl (by decide) (by decide) hk1 hFc (fun k q h => by simp at h) ⟨fun i j p q h => by simp at h, fun k q h => by simp at h⟩
      refine wt_c (v := (-1)) hw ?_
      refine lv_icmp_eq (tgt := 1540) hx hb dL_law_841 (by decide) (fun c_179 => ?_) (fun c_179 => absurd (by decide) c_179)
      exact law_end l C0 hS hl
    · skip
      exact ((by have k4 := q_lt hy17; have k9 := q_nlt hy171; have k10 := q_le hy172; have z0 : (0 : Int32).toInt = 0 := (by decide); have z7 : (7 : Int32).toInt = 7 := (by decide); omega) : False).elim
    · skip
      exact ((by have k4 := q_lt hy17; have k9 := q_nlt hy177; have k10 := q_nle hy178; have z0 : (0 : Int32).toInt = 0 := (by decide); have z7 : (7 : Int32).toInt = 7 := (by decide); omega) : False).elim
  · skip
    obtain ⟨hP, hD⟩ := va_join (wr := [(rM 0, .inr (8, [.ref (rM 1), .ref (rM 2), .int 0, .int 0, .int 0, .int (-1), .int 0, .int 0, .int 0, .int 0, .long 0, .ref (rM 3), .ref (rM 4), .ref (rM 5), .ref (rM 6), .ref (rM 7), .ref (rM 8), .ref (rM 9), .ref (rM 10), .ref (rM 11), .ref (rM 12), .ref (rM 13), .ref (rM 14), .ref (rM 15), .ref (rM 16), .ref (rM 17), .ref (rM 18), .ref (rM 19), .ref (rM 20), .ref (rM 21), .ref (rM 22), .ref (rM 23), .ref (rM 24), .int 0, .int 0, .int 0, .int 0, .int 0, .int 0, .int 0, .int 0, .int 0, .ref (rM 25), .ref (rM 26), .ref (rM 27), .int 0, .int 0, .ref (rM 28), .int 0, .ref (rM 29), .ref (rM 30), .ref (rM 31), .ref (rM 32), .ref (rM 33), .ref (rM 34), .ref (rM 35), .ref (rM 36), .int 0, .int 0, .int 0, .ref (rM 37), .ref (rM 38)])), (rM 4, .inl ((cM 4), 2, .inl (fM 4)))]) (w1 := []) hP hD [0, 1] [2, 3] rfl rfl (by decide) (by decide) hk1 hFc (fun k q h => by simp at h) ⟨fun i j p q h => by simp at h, fun k q h => by simp at h⟩
    refine wt_c (v := (-1)) hw ?_
    refine lv_aload_n hx hb dL_law_822 rfl (lv_at hl 1 rfl) ?_
    refine lv_aload_n hx hb dL_law_823 rfl (lv_at hl 3 rfl) ?_
    refine lv_iload_n hx hb dL_law_824 rfl (lv_at hl 0 rfl) ?_
    refine lv_iconst (v := 1) hx hb dL_law_825 (by decide) ?_
    refine lv_iadd hx hb dL_law_826 ?_
    refine wt_c (v := 1) (by decide) ?_
    refine va_sld hx hb hX hbl hbA hS (vin (by decide)) dL_law_827 ?_
    refine wt_c (v := xs 1) (congrArg xs (by decide)) ?_
    refine lv_aload_n hx hb dL_law_828 rfl (lv_at hl 3 rfl) ?_
    refine lv_iload_n hx hb dL_law_829 rfl (lv_at hl 0 rfl) ?_
    refine lv_iconst (v := 2) hx hb dL_law_830 (by decide) ?_
    refine lv_iadd hx hb dL_law_831 ?_
    refine wt_c (v := 2) (by decide) ?_
    refine va_sld hx hb hX hbl hbA hS (vin (by decide)) dL_law_832 ?_
    refine wt_c (v := xs 2) (congrArg xs (by decide)) ?_
    refine lv_aload_n hx hb dL_law_833 rfl (lv_at hl 3 rfl) ?_
    refine lv_iload_n hx hb dL_law_834 rfl (lv_at hl 0 rfl) ?_
    refine lv_iconst (v := 3) hx hb dL_law_835 (by decide) ?_
    refine lv_iadd hx hb dL_law_836 ?_
    refine wt_c (v := 3) (by decide) ?_
    refine va_sld hx hb hX hbl hbA hS (vin (by decide)) dL_law_837 ?_
    refine wt_c (v := xs 3) (congrArg xs (by decide)) ?_
    have hPc := hP.sub (ws' := [(rM 0, .inr (8, [.ref (rM 1), .ref (rM 2), .int 0, .int 0, .int 0, .int (-1), .int 0, .int 0, .int 0, .int 0, .long 0, .ref (rM 3), .ref (rM 4), .ref (rM 5), .ref (rM 6), .ref (rM 7), .ref (rM 8), .ref (rM 9), .ref (rM 10), .ref (rM 11), .ref (rM 12), .ref (rM 13), .ref (rM 14), .ref (rM 15), .ref (rM 16), .ref (rM 17), .ref (rM 18), .ref (rM 19), .ref (rM 20), .ref (rM 21), .ref (rM 22), .ref (rM 23), .ref (rM 24), .int 0, .int 0, .int 0, .int 0, .int 0, .int 0, .int 0, .int 0, .int 0, .ref (rM 25), .ref (rM 26), .ref (rM 27), .int 0, .int 0, .ref (rM 28), .int 0, .ref (rM 29), .ref (rM 30), .ref (rM 31), .ref (rM 32), .ref (rM 33), .ref (rM 34), .ref (rM 35), .ref (rM 36), .int 0, .int 0, .int 0, .ref (rM 37), .ref (rM 38)])), (rM 4, .inl ((cM 4), 2, .inl (fM 4)))]) [0, 1] rfl
    have hKc := hK.sub (tys' := [((cM 4), .int)]) [0] rfl
    have hDc := hD.sub (ws' := [(rM 0, .inr (8, [.ref (rM 1), .ref (rM 2), .int 0, .int 0, .int 0, .int (-1), .int 0, .int 0, .int 0, .int 0, .long 0, .ref (rM 3), .ref (rM 4), .ref (rM 5), .ref (rM 6), .ref (rM 7), .ref (rM 8), .ref (rM 9), .ref (rM 10), .ref (rM 11), .ref (rM 12), .ref (rM 13), .ref (rM 14), .ref (rM 15), .ref (rM 16), .ref (rM 17), .ref (rM 18), .ref (rM 19), .ref (rM 20), .ref (rM 21), .ref (rM 22), .ref (rM 23), .ref (rM 24), .int 0, .int 0, .int 0, .int 0, .int 0, .int 0, .int 0, .int 0, .int 0, .ref (rM 25), .ref (rM 26), .ref (rM 27), .int 0, .int 0, .ref (rM 28), .int 0, .ref (rM 29), .ref (rM 30), .ref (rM 31), .ref (rM 32), .ref (rM 33), .ref (rM 34), .ref (rM 35), .ref (rM 36), .int 0, .int 0, .int 0, .ref (rM 37), .ref (rM 38)])), (rM 4, .inl ((cM 4), 2, .inl (fM 4)))]) [0, 1] (by decide) rfl
    have hFc := va_free (wc := [(rM 0, .inr (8, [.ref (rM 1), .ref (rM 2), .int 0, .int 0, .int 0, .int (-1), .int 0, .int 0, .int 0, .int 0, .long 0, .ref (rM 3), .ref (rM 4), .ref (rM 5), .ref (rM 6), .ref (rM 7), .ref (rM 8), .ref (rM 9), .ref (rM 10), .ref (rM 11), .ref (rM 12), .ref (rM 13), .ref (rM 14), .ref (rM 15), .ref (rM 16), .ref (rM 17), .ref (rM 18), .ref (rM 19), .ref (rM 20), .ref (rM 21), .ref (rM 22), .ref (rM 23), .ref (rM 24), .int 0, .int 0, .int 0, .int 0, .int 0, .int 0, .int 0, .int 0, .int 0, .ref (rM 25), .ref (rM 26), .ref (rM 27), .int 0, .int 0, .ref (rM 28), .int 0, .ref (rM 29), .ref (rM 30), .ref (rM 31), .ref (rM 32), .ref (rM 33), .ref (rM 34), .ref (rM 35), .ref (rM 36), .int 0, .int 0, .int 0, .ref (rM 37), .ref (rM 38)])), (rM 4, .inl ((cM 4), 2, .inl (fM 4)))]) hD hS hA [0, 1] rfl
    refine va_calli (va_runV (As := [.int (xs 1), .int (xs 2), .int (xs 3)]) (rest := [.int (-1)]) ⟨hx, hb, hml, hown, hG⟩ (kX9_find l dC dI rM cM (fM 4) (xs 1) (xs 2) (xs 3) H1.size hfM_4_0) (cwV 3 hG (goodV gw1625 gw1626 gw1627 gw138 gw1628) rfl rfl rfl hd_X9_find ⟨(Nat.le_of_ble_eq_true rfl), (Nat.le_of_ble_eq_true rfl)⟩) ⟨fbW, va_recv hKc hPc (ci := 8) (q0 := 0) rfl rfl, pW_in hPc hKc hDc⟩ rfl rfl hl.1 rfl (lv_room (Nat.le_of_ble_eq_true rfl)) dL_law_838 ⟨(Nat.le_of_ble_eq_true rfl), (Nat.le_of_ble_eq_true rfl)⟩) hS (fun q _ h => hFc q h) hFc (fun r_181 u t H180 locs ht hvm hw hB hz1 hk1 hS => ?_)
    rcases hw with ⟨rfl, hy182, hw⟩ | ⟨rfl, hy183, hy184, hw⟩ | ⟨rfl, hy185, hy186, hy187, hw⟩ | ⟨rfl, hy188, hy189, hy190, hy191, hw⟩ | ⟨rfl, hy192, hy193, hy194, hy195, hy196, hw⟩ | ⟨rfl, hy197, hy198, hy199, hy200, hy201, hy202, hw⟩ | ⟨rfl, hy203, hy204, hy205, hy206, hy207, hy208, hw⟩
    · skip
      exact ((by have k0 := q_nlt hy18; have k1 := q_nle hy19; have k6 := q_lt hy182; have z0 : (0 : Int32).toInt = 0 := (by decide); have z7 : (7 : Int32).toInt = 7 := (by decide); omega) : False).elim
    · skip
      exact ((by have k0 := q_nlt hy18; have k1 := q_nle hy19; have k6 := q_nlt hy183; have k7 := q_le hy184; have z0 : (0 : Int32).toInt = 0 := (by decide); have z7 : (7 : Int32).toInt = 7 := (by decide); omega) : False).elim
    · skip
      exact ((by have k2 := q_nlt hy20; have k3 := q_nle hy21; have k8 := q_lt hy187; have z0 : (0 : Int32).toInt = 0 := (by decide); have z7 : (7 : Int32).toInt = 7 := (by decide); omega) : False).elim
    · skip
      exact ((by have k2 := q_nlt hy20; have k3 := q_nle hy21; have k8 := q_nlt hy190; have k9 := q_le hy191; have z0 : (0 : Int32).toInt = 0 := (by decide); have z7 : (7 : Int32).toInt = 7 := (by decide); omega) : False).elim
    · skip
      exact ((by have k4 := q_nlt hy22; have k5 := q_le hy23; have k10 := q_lt hy196; have z0 : (0 : Int32).toInt = 0 := (by decide); have z7 : (7 : Int32).toInt = 7 := (by decide); omega) : False).elim
    · skip
      obtain ⟨hP, hD⟩ := va_join (wr := []) (w1 := []) hP hD [0, 1] [] rfl rfl (by decide) (by decide) hk1 hFc (fun k q h => by simp at h) ⟨fun i j p q h => by simp at h, fun k q h => by simp at h⟩
      refine wt_c (v := (-1)) hw ?_
      refine lv_icmp_eq (tgt := 1540) hx hb dL_law_841 (by decide) (fun c_209 => ?_) (fun c_209 => absurd (by decide) c_209)
      exact law_end l C0 hS hl
    · skip
      exact ((by have k4 := q_nlt hy22; have k5 := q_le hy23; have k10 := q_nlt hy207; have k11 := q_nle hy208; have z0 : (0 : Int32).toInt = 0 := (by decide); have z7 : (7 : Int32).toInt = 7 := (by decide); omega) : False).elim
  · skip
    obtain ⟨hP, hD⟩ := va_join (wr := [(rM 0, .inr (8, [.ref (rM 1), .ref (rM 2), .int 0, .int 0, .int 0, .int (-1), .int 0, .int 0, .int 0, .int 0, .long 0, .ref (rM 3), .ref (rM 4), .ref (rM 5), .ref (rM 6), .ref (rM 7), .ref (rM 8), .ref (rM 9), .ref (rM 10), .ref (rM 11), .ref (rM 12), .ref (rM 13), .ref (rM 14), .ref (rM 15), .ref (rM 16), .ref (rM 17), .ref (rM 18), .ref (rM 19), .ref (rM 20), .ref (rM 21), .ref (rM 22), .ref (rM 23), .ref (rM 24), .int 0, .int 0, .int 0, .int 0, .int 0, .int 0, .int 0, .int 0, .int 0, .ref (rM 25), .ref (rM 26), .ref (rM 27), .int 0, .int 0, .ref (rM 28), .int 0, .ref (rM 29), .ref (rM 30), .ref (rM 31), .ref (rM 32), .ref (rM 33), .ref (rM 34), .ref (rM 35), .ref (rM 36), .int 0, .int 0, .int 0, .ref (rM 37), .ref (rM 38)])), (rM 4, .inl ((cM 4), 2, .inl (fM 4)))]) (w1 := []) hP hD [0, 1] [2, 3] rfl rfl (by decide) (by decide) hk1 hFc (fun k q h => by simp at h) ⟨fun i j p q h => by simp at h, fun k q h => by simp at h⟩
    refine wt_c (v := 0) hw ?_
    refine lv_aload_n hx hb dL_law_822 rfl (lv_at hl 1 rfl) ?_
    refine lv_aload_n hx hb dL_law_823 rfl (lv_at hl 3 rfl) ?_
    refine lv_iload_n hx hb dL_law_824 rfl (lv_at hl 0 rfl) ?_
    refine lv_iconst (v := 1) hx hb dL_law_825 (by decide) ?_
    refine lv_iadd hx hb dL_law_826 ?_
    refine wt_c (v := 1) (by decide) ?_
    refine va_sld hx hb hX hbl hbA hS (vin (by decide)) dL_law_827 ?_
    refine wt_c (v := xs 1) (congrArg xs (by decide)) ?_
    refine lv_aload_n hx hb dL_law_828 rfl (lv_at hl 3 rfl) ?_
    refine lv_iload_n hx hb dL_law_829 rfl (lv_at hl 0 rfl) ?_
    refine lv_iconst (v := 2) hx hb dL_law_830 (by decide) ?_
    refine lv_iadd hx hb dL_law_831 ?_
    refine wt_c (v := 2) (by decide) ?_
    refine va_sld hx hb hX hbl hbA hS (vin (by decide)) dL_law_832 ?_
    refine wt_c (v := xs 2) (congrArg xs (by decide)) ?_
    refine lv_aload_n hx hb dL_law_833 rfl (lv_at hl 3 rfl) ?_
    refine lv_iload_n hx hb dL_law_834 rfl (lv_at hl 0 rfl) ?_
    refine lv_iconst (v := 3) hx hb dL_law_835 (by decide) ?_
    refine lv_iadd hx hb dL_law_836 ?_
    refine wt_c (v := 3) (by decide) ?_
    refine va_sld hx hb hX hbl hbA hS (vin (by decide)) dL_law_837 ?_
    refine wt_c (v := xs 3) (congrArg xs (by decide)) ?_
    have hPc := hP.sub (ws' := [(rM 0, .inr (8, [.ref (rM 1), .ref (rM 2), .int 0, .int 0, .int 0, .int (-1), .int 0, .int 0, .int 0, .int 0, .long 0, .ref (rM 3), .ref (rM 4), .ref (rM 5), .ref (rM 6), .ref (rM 7), .ref (rM 8), .ref (rM 9), .ref (rM 10), .ref (rM 11), .ref (rM 12), .ref (rM 13), .ref (rM 14), .ref (rM 15), .ref (rM 16), .ref (rM 17), .ref (rM 18), .ref (rM 19), .ref (rM 20), .ref (rM 21), .ref (rM 22), .ref (rM 23), .ref (rM 24), .int 0, .int 0, .int 0, .int 0, .int 0, .int 0, .int 0, .int 0, .int 0, .ref (rM 25), .ref (rM 26), .ref (rM 27), .int 0, .int 0, .ref (rM 28), .int 0, .ref (rM 29), .ref (rM 30), .ref (rM 31), .ref (rM 32), .ref (rM 33), .ref (rM 34), .ref (rM 35), .ref (rM 36), .int 0, .int 0, .int 0, .ref (rM 37), .ref (rM 38)])), (rM 4, .inl ((cM 4), 2, .inl (fM 4)))]) [0, 1] rfl
    have hKc := hK.sub (tys' := [((cM 4), .int)]) [0] rfl
    have hDc := hD.sub (ws' := [(rM 0, .inr (8, [.ref (rM 1), .ref (rM 2), .int 0, .int 0, .int 0, .int (-1), .int 0, .int 0, .int 0, .int 0, .long 0, .ref (rM 3), .ref (rM 4), .ref (rM 5), .ref (rM 6), .ref (rM 7), .ref (rM 8), .ref (rM 9), .ref (rM 10), .ref (rM 11), .ref (rM 12), .ref (rM 13), .ref (rM 14), .ref (rM 15), .ref (rM 16), .ref (rM 17), .ref (rM 18), .ref (rM 19), .ref (rM 20), .ref (rM 21), .ref (rM 22), .ref (rM 23), .ref (rM 24), .int 0, .int 0, .int 0, .int 0, .int 0, .int 0, .int 0, .int 0, .int 0, .ref (rM 25), .ref (rM 26), .ref (rM 27), .int 0, .int 0, .ref (rM 28), .int 0, .ref (rM 29), .ref (rM 30), .ref (rM 31), .ref (rM 32), .ref (rM 33), .ref (rM 34), .ref (rM 35), .ref (rM 36), .int 0, .int 0, .int 0, .ref (rM 37), .ref (rM 38)])), (rM 4, .inl ((cM 4), 2, .inl (fM 4)))]) [0, 1] (by decide) rfl
    have hFc := va_free (wc := [(rM 0, .inr (8, [.ref (rM 1), .ref (rM 2), .int 0, .int 0, .int 0, .int (-1), .int 0, .int 0, .int 0, .int 0, .long 0, .ref (rM 3), .ref (rM 4), .ref (rM 5), .ref (rM 6), .ref (rM 7), .ref (rM 8), .ref (rM 9), .ref (rM 10), .ref (rM 11), .ref (rM 12), .ref (rM 13), .ref (rM 14), .ref (rM 15), .ref (rM 16), .ref (rM 17), .ref (rM 18), .ref (rM 19), .ref (rM 20), .ref (rM 21), .ref (rM 22), .ref (rM 23), .ref (rM 24), .int 0, .int 0, .int 0, .int 0, .int 0, .int 0, .int 0, .int 0, .int 0, .ref (rM 25), .ref (rM 26), .ref (rM 27), .int 0, .int 0, .ref (rM 28), .int 0, .ref (rM 29), .ref (rM 30), .ref (rM 31), .ref (rM 32), .ref (rM 33), .ref (rM 34), .ref (rM 35), .ref (rM 36), .int 0, .int 0, .int 0, .ref (rM 37), .ref (rM 38)])), (rM 4, .inl ((cM 4), 2, .inl (fM 4)))]) hD hS hA [0, 1] rfl
    refine va_calli (va_runV (As := [.int (xs 1), .int (xs 2), .int (xs 3)]) (rest := [.int 0]) ⟨hx, hb, hml, hown, hG⟩ (kX9_find l dC dI rM cM (fM 4) (xs 1) (xs 2) (xs 3) H1.size hfM_4_0) (cwV 3 hG (goodV gw1625 gw1626 gw1627 gw138 gw1628) rfl rfl rfl hd_X9_find ⟨(Nat.le_of_ble_eq_true rfl), (Nat.le_of_ble_eq_true rfl)⟩) ⟨fbW, va_recv hKc hPc (ci := 8) (q0 := 0) rfl rfl, pW_in hPc hKc hDc⟩ rfl rfl hl.1 rfl (lv_room (Nat.le_of_ble_eq_true rfl)) dL_law_838 ⟨(Nat.le_of_ble_eq_true rfl), (Nat.le_of_ble_eq_true rfl)⟩) hS (fun q _ h => hFc q h) hFc (fun r_211 u t H210 locs ht hvm hw hB hz1 hk1 hS => ?_)
    rcases hw with ⟨rfl, hy212, hw⟩ | ⟨rfl, hy213, hy214, hw⟩ | ⟨rfl, hy215, hy216, hy217, hw⟩ | ⟨rfl, hy218, hy219, hy220, hy221, hw⟩ | ⟨rfl, hy222, hy223, hy224, hy225, hy226, hw⟩ | ⟨rfl, hy227, hy228, hy229, hy230, hy231, hy232, hw⟩ | ⟨rfl, hy233, hy234, hy235, hy236, hy237, hy238, hw⟩
    · skip
      exact ((by have k0 := q_nlt hy24; have k1 := q_nle hy25; have k6 := q_lt hy212; have z0 : (0 : Int32).toInt = 0 := (by decide); have z7 : (7 : Int32).toInt = 7 := (by decide); omega) : False).elim
    · skip
      exact ((by have k0 := q_nlt hy24; have k1 := q_nle hy25; have k6 := q_nlt hy213; have k7 := q_le hy214; have z0 : (0 : Int32).toInt = 0 := (by decide); have z7 : (7 : Int32).toInt = 7 := (by decide); omega) : False).elim
    · skip
      exact ((by have k2 := q_nlt hy26; have k3 := q_nle hy27; have k8 := q_lt hy217; have z0 : (0 : Int32).toInt = 0 := (by decide); have z7 : (7 : Int32).toInt = 7 := (by decide); omega) : False).elim
    · skip
      exact ((by have k2 := q_nlt hy26; have k3 := q_nle hy27; have k8 := q_nlt hy220; have k9 := q_le hy221; have z0 : (0 : Int32).toInt = 0 := (by decide); have z7 : (7 : Int32).toInt = 7 := (by decide); omega) : False).elim
    · skip
      exact ((by have k4 := q_nlt hy28; have k5 := q_nle hy29; have k10 := q_lt hy226; have z0 : (0 : Int32).toInt = 0 := (by decide); have z7 : (7 : Int32).toInt = 7 := (by decide); omega) : False).elim
    · skip
      exact ((by have k4 := q_nlt hy28; have k5 := q_nle hy29; have k10 := q_nlt hy231; have k11 := q_le hy232; have z0 : (0 : Int32).toInt = 0 := (by decide); have z7 : (7 : Int32).toInt = 7 := (by decide); omega) : False).elim
    · skip
      obtain ⟨hP, hD⟩ := va_join (wr := []) (w1 := []) hP hD [0, 1] [] rfl rfl (by decide) (by decide) hk1 hFc (fun k q h => by simp at h) ⟨fun i j p q h => by simp at h, fun k q h => by simp at h⟩
      refine wt_c (v := 0) hw ?_
      refine lv_icmp_eq (tgt := 1540) hx hb dL_law_841 (by decide) (fun c_239 => ?_) (fun c_239 => absurd (by decide) c_239)
      exact law_end l C0 hS hl
set_option maxHeartbeats 4000000 in
set_option maxRecDepth 100000 in
theorem law_22 {p : Program} {e : Env} {s : State} {m : MethodId} {below : List Frame} {meth : Method} {c : Code} (l : Launch) {b : Nat} {xs : Nat → Int32} (C0 : lw_At p s m meth c b 6 xs) (dC : Nat → ClassId) (dI : Nat → Nat → Nat) (rX rM : Nat → Nat) (cX cM : Nat → ClassId) (fX fM : Nat → Nat → Int32) (gX gM : Nat → Nat → Int64) (hfM_4_0 : fM 4 0 = 0) (hfM_4_1 : fM 4 1 = 0) {H : Heap} {locs : List Loc} (hK : va_K (dC, dI) vwCl [((cM 4), .int)] s) (hP : va_P (dC, dI) vwCl [(rX 0, .inr (7, [.ref (rX 1), .int 0, .ref (rX 2), .ref (rX 55), .ref (rX 57), .ref (rX 30), .ref (rX 56), .ref (rX 36), .ref (rX 37), .ref (rX 38), .int 0, .ref (rX 51), .int 0, .ref (rX 52), .ref (rX 53), .ref (rX 54)])), (rX 55, .inr (3, [.int 1, .int 0, .int 0, .int 0, .ref (rX 20), .ref (rX 21), .ref (rX 22), .int 0, .ref (rX 23), .ref (rX 24), .ref (rX 25), .int 0, .ref (rX 28), .ref (rX 27)])), (rM 0, .inr (8, [.ref (rM 1), .ref (rM 2), .int 0, .int 0, .int 0, .int (-1), .int 0, .int 0, .int 0, .int 0, .long 0, .ref (rM 3), .ref (rM 4), .ref (rM 5), .ref (rM 6), .ref (rM 7), .ref (rM 8), .ref (rM 9), .ref (rM 10), .ref (rM 11), .ref (rM 12), .ref (rM 13), .ref (rM 14), .ref (rM 15), .ref (rM 16), .ref (rM 17), .ref (rM 18), .ref (rM 19), .ref (rM 20), .ref (rM 21), .ref (rM 22), .ref (rM 23), .ref (rM 24), .int 0, .int 0, .int 0, .int 0, .int 0, .int 0, .int 0, .int 0, .int 0, .ref (rM 25), .ref (rM 26), .ref (rM 27), .int 0, .int 0, .ref (rM 28), .int 0, .ref (rM 29), .ref (rM 30), .ref (rM 31), .ref (rM 32), .ref (rM 33), .ref (rM 34), .ref (rM 35), .ref (rM 36), .int 0, .int 0, .int 0, .ref (rM 37), .ref (rM 38)])), (rM 4, .inl ((cM 4), 2, .inl (fM 4)))] H) (hD : va_D (fun q : Nat => s.heap.size ≤ q) [(rX 0, .inr (7, [.ref (rX 1), .int 0, .ref (rX 2), .ref (rX 55), .ref (rX 57), .ref (rX 30), .ref (rX 56), .ref (rX 36), .ref (rX 37), .ref (rX 38), .int 0, .ref (rX 51), .int 0, .ref (rX 52), .ref (rX 53), .ref (rX 54)])), (rX 55, .inr (3, [.int 1, .int 0, .int 0, .int 0, .ref (rX 20), .ref (rX 21), .ref (rX 22), .int 0, .ref (rX 23), .ref (rX 24), .ref (rX 25), .int 0, .ref (rX 28), .ref (rX 27)])), (rM 0, .inr (8, [.ref (rM 1), .ref (rM 2), .int 0, .int 0, .int 0, .int (-1), .int 0, .int 0, .int 0, .int 0, .long 0, .ref (rM 3), .ref (rM 4), .ref (rM 5), .ref (rM 6), .ref (rM 7), .ref (rM 8), .ref (rM 9), .ref (rM 10), .ref (rM 11), .ref (rM 12), .ref (rM 13), .ref (rM 14), .ref (rM 15), .ref (rM 16), .ref (rM 17), .ref (rM 18), .ref (rM 19), .ref (rM 20), .ref (rM 21), .ref (rM 22), .ref (rM 23), .ref (rM 24), .int 0, .int 0, .int 0, .int 0, .int 0, .int 0, .int 0, .int 0, .int 0, .ref (rM 25), .ref (rM 26), .ref (rM 27), .int 0, .int 0, .ref (rM 28), .int 0, .ref (rM 29), .ref (rM 30), .ref (rM 31), .ref (rM 32), .ref (rM 33), .ref (rM 34), .ref (rM 35), .ref (rM 36), .int 0, .int 0, .int 0, .ref (rM 37), .ref (rM 38)])), (rM 4, .inl ((cM 4), 2, .inl (fM 4)))]) (hS : va_S (fun q : Nat => s.heap.size ≤ q) s.heap H locs) {ls : Array Slot} (hl : lv_has ls 4 [(3, .int 0), (2, .ref (rM 0)), (1, .ref (rX 0)), (0, .ref b)]) : W p l e room_1 s m #[Value.ref b] below meth c H locs 103 20190 (lw_Z below #[Value.ref b] s) (F0 m 846 ls []) := by
  obtain ⟨hx, hb, hr, hml, hown, hts, hX, hbl, hlocks, hgv⟩ := id C0
  have hown : s.vm.findClass RL = some m.cls := hown
  have hG : ∀ w ∈ GW, w.before _ s = true := fun w h => hts w (List.mem_filter.mp h).1
  have hA : ∀ q : Nat, s.heap.size ≤ q → (fun q : Nat => s.heap.size ≤ q) q := fun _ h => h
  have hbA : ¬ (fun q : Nat => s.heap.size ≤ q) b := Nat.not_le.mpr hbl
  refine lv_aload_n hx hb dL_law_846 rfl (lv_at hl 2 rfl) ?_
  refine lv_aload_n hx hb dL_law_847 rfl (lv_at hl 3 rfl) ?_
  refine lv_iload_n hx hb dL_law_848 rfl (lv_at hl 0 rfl) ?_
  refine lv_iconst (v := 1) hx hb dL_law_849 (by decide) ?_
  refine lv_iadd hx hb dL_law_850 ?_
  refine wt_c (v := 1) (by decide) ?_
  refine va_sld hx hb hX hbl hbA hS (vin (by decide)) dL_law_851 ?_
  refine wt_c (v := xs 1) (congrArg xs (by decide)) ?_
  refine lv_aload_n hx hb dL_law_852 rfl (lv_at hl 3 rfl) ?_
  refine lv_iload_n hx hb dL_law_853 rfl (lv_at hl 0 rfl) ?_
  refine lv_iconst (v := 2) hx hb dL_law_854 (by decide) ?_
  refine lv_iadd hx hb dL_law_855 ?_
  refine wt_c (v := 2) (by decide) ?_
  refine va_sld hx hb hX hbl hbA hS (vin (by decide)) dL_law_856 ?_
  refine wt_c (v := xs 2) (congrArg xs (by decide)) ?_
  refine lv_aload_n hx hb dL_law_857 rfl (lv_at hl 3 rfl) ?_
  refine lv_iload_n hx hb dL_law_858 rfl (lv_at hl 0 rfl) ?_
  refine lv_iconst (v := 3) hx hb dL_law_859 (by decide) ?_
  refine lv_iadd hx hb dL_law_860 ?_
  refine wt_c (v := 3) (by decide) ?_
  refine va_sld hx hb hX hbl hbA hS (vin (by decide)) dL_law_861 ?_
  refine wt_c (v := xs 3) (congrArg xs (by decide)) ?_
  have hPc := hP.sub (ws' := [(rX 0, .inr (7, [.ref (rX 1), .int 0, .ref (rX 2), .ref (rX 55), .ref (rX 57), .ref (rX 30), .ref (rX 56), .ref (rX 36), .ref (rX 37), .ref (rX 38), .int 0, .ref (rX 51), .int 0, .ref (rX 52), .ref (rX 53), .ref (rX 54)])), (rX 55, .inr (3, [.int 1, .int 0, .int 0, .int 0, .ref (rX 20), .ref (rX 21), .ref (rX 22), .int 0, .ref (rX 23), .ref (rX 24), .ref (rX 25), .int 0, .ref (rX 28), .ref (rX 27)]))]) [0, 1] rfl
  have hKc := hK.sub (tys' := []) [] rfl
  have hDc := hD.sub (ws' := [(rX 0, .inr (7, [.ref (rX 1), .int 0, .ref (rX 2), .ref (rX 55), .ref (rX 57), .ref (rX 30), .ref (rX 56), .ref (rX 36), .ref (rX 37), .ref (rX 38), .int 0, .ref (rX 51), .int 0, .ref (rX 52), .ref (rX 53), .ref (rX 54)])), (rX 55, .inr (3, [.int 1, .int 0, .int 0, .int 0, .ref (rX 20), .ref (rX 21), .ref (rX 22), .int 0, .ref (rX 23), .ref (rX 24), .ref (rX 25), .int 0, .ref (rX 28), .ref (rX 27)]))]) [0, 1] (by decide) rfl
  have hFc := va_free (wc := [(rX 0, .inr (7, [.ref (rX 1), .int 0, .ref (rX 2), .ref (rX 55), .ref (rX 57), .ref (rX 30), .ref (rX 56), .ref (rX 36), .ref (rX 37), .ref (rX 38), .int 0, .ref (rX 51), .int 0, .ref (rX 52), .ref (rX 53), .ref (rX 54)])), (rX 55, .inr (3, [.int 1, .int 0, .int 0, .int 0, .ref (rX 20), .ref (rX 21), .ref (rX 22), .int 0, .ref (rX 23), .ref (rX 24), .ref (rX 25), .int 0, .ref (rX 28), .ref (rX 27)]))]) hD hS hA [0, 1] rfl
  refine va_calli (va_runV (As := [.int (xs 1), .int (xs 2), .int (xs 3)]) (rest := []) ⟨hx, hb, hml, hown, hG⟩ (kX8_hum l dC dI rX cX (xs 1) (xs 2) (xs 3) H.size ) (cwV 3 hG (goodV gw1009 gw1010 gw1011 gw129 gw1012) rfl rfl rfl hd_X8_hum ⟨(Nat.le_of_ble_eq_true rfl), (Nat.le_of_ble_eq_true rfl)⟩) ⟨fbW, va_recv hKc hPc (ci := 7) (q0 := 0) rfl rfl, pW_in hPc hKc hDc⟩ rfl rfl hl.1 rfl (lv_room (Nat.le_of_ble_eq_true rfl)) dL_law_862 ⟨(Nat.le_of_ble_eq_true rfl), (Nat.le_of_ble_eq_true rfl)⟩) hS (fun q _ h => hFc q h) hFc (fun r_2 u t H1 locs ht hvm hw hB hz1 hk1 hS => ?_)
  rcases hw with ⟨rfl, hy3, hw⟩ | ⟨rfl, hy4, hy5, hw⟩ | ⟨rfl, hy6, hy7, hy8, hw⟩ | ⟨rfl, hy9, hy10, hy11, hy12, hw⟩ | ⟨rfl, hy13, hy14, hy15, hy16, hy17, hw⟩ | ⟨rfl, hy18, hy19, hy20, hy21, hy22, hy23, hw⟩ | ⟨rfl, hy24, hy25, hy26, hy27, hy28, hy29, hw⟩
  · skip
    obtain ⟨hP, hD⟩ := va_join (wr := [(rM 0, .inr (8, [.ref (rM 1), .ref (rM 2), .int 0, .int 0, .int 0, .int (-1), .int 0, .int 0, .int 0, .int 0, .long 0, .ref (rM 3), .ref (rM 4), .ref (rM 5), .ref (rM 6), .ref (rM 7), .ref (rM 8), .ref (rM 9), .ref (rM 10), .ref (rM 11), .ref (rM 12), .ref (rM 13), .ref (rM 14), .ref (rM 15), .ref (rM 16), .ref (rM 17), .ref (rM 18), .ref (rM 19), .ref (rM 20), .ref (rM 21), .ref (rM 22), .ref (rM 23), .ref (rM 24), .int 0, .int 0, .int 0, .int 0, .int 0, .int 0, .int 0, .int 0, .int 0, .ref (rM 25), .ref (rM 26), .ref (rM 27), .int 0, .int 0, .ref (rM 28), .int 0, .ref (rM 29), .ref (rM 30), .ref (rM 31), .ref (rM 32), .ref (rM 33), .ref (rM 34), .ref (rM 35), .ref (rM 36), .int 0, .int 0, .int 0, .ref (rM 37), .ref (rM 38)])), (rM 4, .inl ((cM 4), 2, .inl (fM 4)))]) (w1 := []) hP hD [0, 1] [2, 3] rfl rfl (by decide) (by decide) hk1 hFc (fun k q h => by simp at h) ⟨fun i j p q h => by simp at h, fun k q h => by simp at h⟩
    refine wt_c (v := (-1)) hw ?_
    refine lv_aload_n hx hb dL_law_865 rfl (lv_at hl 1 rfl) ?_
    refine lv_aload_n hx hb dL_law_866 rfl (lv_at hl 3 rfl) ?_
    refine lv_iload_n hx hb dL_law_867 rfl (lv_at hl 0 rfl) ?_
    refine lv_iconst (v := 1) hx hb dL_law_868 (by decide) ?_
    refine lv_iadd hx hb dL_law_869 ?_
    refine wt_c (v := 1) (by decide) ?_
    refine va_sld hx hb hX hbl hbA hS (vin (by decide)) dL_law_870 ?_
    refine wt_c (v := xs 1) (congrArg xs (by decide)) ?_
    refine lv_aload_n hx hb dL_law_871 rfl (lv_at hl 3 rfl) ?_
    refine lv_iload_n hx hb dL_law_872 rfl (lv_at hl 0 rfl) ?_
    refine lv_iconst (v := 2) hx hb dL_law_873 (by decide) ?_
    refine lv_iadd hx hb dL_law_874 ?_
    refine wt_c (v := 2) (by decide) ?_
    refine va_sld hx hb hX hbl hbA hS (vin (by decide)) dL_law_875 ?_
    refine wt_c (v := xs 2) (congrArg xs (by decide)) ?_
    refine lv_aload_n hx hb dL_law_876 rfl (lv_at hl 3 rfl) ?_
    refine lv_iload_n hx hb dL_law_877 rfl (lv_at hl 0 rfl) ?_
    refine lv_iconst (v := 3) hx hb dL_law_878 (by decide) ?_
    refine lv_iadd hx hb dL_law_879 ?_
    refine wt_c (v := 3) (by decide) ?_
    refine va_sld hx hb hX hbl hbA hS (vin (by decide)) dL_law_880 ?_
    refine wt_c (v := xs 3) (congrArg xs (by decide)) ?_
    have hPc := hP.sub (ws' := [(rM 0, .inr (8, [.ref (rM 1), .ref (rM 2), .int 0, .int 0, .int 0, .int (-1), .int 0, .int 0, .int 0, .int 0, .long 0, .ref (rM 3), .ref (rM 4), .ref (rM 5), .ref (rM 6), .ref (rM 7), .ref (rM 8), .ref (rM 9), .ref (rM 10), .ref (rM 11), .ref (rM 12), .ref (rM 13), .ref (rM 14), .ref (rM 15), .ref (rM 16), .ref (rM 17), .ref (rM 18), .ref (rM 19), .ref (rM 20), .ref (rM 21), .ref (rM 22), .ref (rM 23), .ref (rM 24), .int 0, .int 0, .int 0, .int 0, .int 0, .int 0, .int 0, .int 0, .int 0, .ref (rM 25), .ref (rM 26), .ref (rM 27), .int 0, .int 0, .ref (rM 28), .int 0, .ref (rM 29), .ref (rM 30), .ref (rM 31), .ref (rM 32), .ref (rM 33), .ref (rM 34), .ref (rM 35), .ref (rM 36), .int 0, .int 0, .int 0, .ref (rM 37), .ref (rM 38)])), (rM 4, .inl ((cM 4), 2, .inl (fM 4)))]) [0, 1] rfl
    have hKc := hK.sub (tys' := [((cM 4), .int)]) [0] rfl
    have hDc := hD.sub (ws' := [(rM 0, .inr (8, [.ref (rM 1), .ref (rM 2), .int 0, .int 0, .int 0, .int (-1), .int 0, .int 0, .int 0, .int 0, .long 0, .ref (rM 3), .ref (rM 4), .ref (rM 5), .ref (rM 6), .ref (rM 7), .ref (rM 8), .ref (rM 9), .ref (rM 10), .ref (rM 11), .ref (rM 12), .ref (rM 13), .ref (rM 14), .ref (rM 15), .ref (rM 16), .ref (rM 17), .ref (rM 18), .ref (rM 19), .ref (rM 20), .ref (rM 21), .ref (rM 22), .ref (rM 23), .ref (rM 24), .int 0, .int 0, .int 0, .int 0, .int 0, .int 0, .int 0, .int 0, .int 0, .ref (rM 25), .ref (rM 26), .ref (rM 27), .int 0, .int 0, .ref (rM 28), .int 0, .ref (rM 29), .ref (rM 30), .ref (rM 31), .ref (rM 32), .ref (rM 33), .ref (rM 34), .ref (rM 35), .ref (rM 36), .int 0, .int 0, .int 0, .ref (rM 37), .ref (rM 38)])), (rM 4, .inl ((cM 4), 2, .inl (fM 4)))]) [0, 1] (by decide) rfl
    have hFc := va_free (wc := [(rM 0, .inr (8, [.ref (rM 1), .ref (rM 2), .int 0, .int 0, .int 0, .int (-1), .int 0, .int 0, .int 0, .int 0, .long 0, .ref (rM 3), .ref (rM 4), .ref (rM 5), .ref (rM 6), .ref (rM 7), .ref (rM 8), .ref (rM 9), .ref (rM 10), .ref (rM 11), .ref (rM 12), .ref (rM 13), .ref (rM 14), .ref (rM 15), .ref (rM 16), .ref (rM 17), .ref (rM 18), .ref (rM 19), .ref (rM 20), .ref (rM 21), .ref (rM 22), .ref (rM 23), .ref (rM 24), .int 0, .int 0, .int 0, .int 0, .int 0, .int 0, .int 0, .int 0, .int 0, .ref (rM 25), .ref (rM 26), .ref (rM 27), .int 0, .int 0, .ref (rM 28), .int 0, .ref (rM 29), .ref (rM 30), .ref (rM 31), .ref (rM 32), .ref (rM 33), .ref (rM 34), .ref (rM 35), .ref (rM 36), .int 0, .int 0, .int 0, .ref (rM 37), .ref (rM 38)])), (rM 4, .inl ((cM 4), 2, .inl (fM 4)))]) hD hS hA [0, 1] rfl
    refine va_calli (va_runV (As := [.int (xs 1), .int (xs 2), .int (xs 3)]) (rest := [.int (-1)]) ⟨hx, hb, hml, hown, hG⟩ (kX9_hum l dC dI rM cM (fM 4) (xs 1) (xs 2) (xs 3) H1.size hfM_4_0) (cwV 3 hG (goodV gw1632 gw1633 gw1634 gw138 gw1635) rfl rfl rfl hd_X9_hum ⟨(Nat.le_of_ble_eq_true rfl), (Nat.le_of_ble_eq_true rfl)⟩) ⟨fbW, va_recv hKc hPc (ci := 8) (q0 := 0) rfl rfl, pW_in hPc hKc hDc⟩ rfl rfl hl.1 rfl (lv_room (Nat.le_of_ble_eq_true rfl)) dL_law_881 ⟨(Nat.le_of_ble_eq_true rfl), (Nat.le_of_ble_eq_true rfl)⟩) hS (fun q _ h => hFc q h) hFc (fun r_31 u t H30 locs ht hvm hw hB hz1 hk1 hS => ?_)
    rcases hw with ⟨rfl, hy32, hw⟩ | ⟨rfl, hy33, hy34, hw⟩ | ⟨rfl, hy35, hy36, hy37, hw⟩ | ⟨rfl, hy38, hy39, hy40, hy41, hw⟩ | ⟨rfl, hy42, hy43, hy44, hy45, hy46, hw⟩ | ⟨rfl, hy47, hy48, hy49, hy50, hy51, hy52, hw⟩ | ⟨rfl, hy53, hy54, hy55, hy56, hy57, hy58, hw⟩
    · skip
      obtain ⟨hP, hD⟩ := va_join (wr := []) (w1 := []) hP hD [0, 1] [] rfl rfl (by decide) (by decide) hk1 hFc (fun k q h => by simp at h) ⟨fun i j p q h => by simp at h, fun k q h => by simp at h⟩
      refine wt_c (v := (-1)) hw ?_
      refine lv_icmp_eq (tgt := 1540) hx hb dL_law_884 (by decide) (fun c_59 => ?_) (fun c_59 => absurd (by decide) c_59)
      exact law_end l C0 hS hl
    · skip
      exact ((by have k0 := q_lt hy3; have k1 := q_nlt hy33; have k2 := q_le hy34; have z0 : (0 : Int32).toInt = 0 := (by decide); have z7 : (7 : Int32).toInt = 7 := (by decide); omega) : False).elim
    · skip
      exact ((by have k0 := q_lt hy3; have k1 := q_nlt hy35; have k2 := q_nle hy36; have z0 : (0 : Int32).toInt = 0 := (by decide); have z7 : (7 : Int32).toInt = 7 := (by decide); omega) : False).elim
    · skip
      exact ((by have k0 := q_lt hy3; have k1 := q_nlt hy38; have k2 := q_nle hy39; have z0 : (0 : Int32).toInt = 0 := (by decide); have z7 : (7 : Int32).toInt = 7 := (by decide); omega) : False).elim
    · skip
      exact ((by have k0 := q_lt hy3; have k1 := q_nlt hy42; have k2 := q_nle hy43; have z0 : (0 : Int32).toInt = 0 := (by decide); have z7 : (7 : Int32).toInt = 7 := (by decide); omega) : False).elim
    · skip
      exact ((by have k0 := q_lt hy3; have k1 := q_nlt hy47; have k2 := q_nle hy48; have z0 : (0 : Int32).toInt = 0 := (by decide); have z7 : (7 : Int32).toInt = 7 := (by decide); omega) : False).elim
    · skip
      exact ((by have k0 := q_lt hy3; have k1 := q_nlt hy53; have k2 := q_nle hy54; have z0 : (0 : Int32).toInt = 0 := (by decide); have z7 : (7 : Int32).toInt = 7 := (by decide); omega) : False).elim
  · skip
    obtain ⟨hP, hD⟩ := va_join (wr := [(rM 0, .inr (8, [.ref (rM 1), .ref (rM 2), .int 0, .int 0, .int 0, .int (-1), .int 0, .int 0, .int 0, .int 0, .long 0, .ref (rM 3), .ref (rM 4), .ref (rM 5), .ref (rM 6), .ref (rM 7), .ref (rM 8), .ref (rM 9), .ref (rM 10), .ref (rM 11), .ref (rM 12), .ref (rM 13), .ref (rM 14), .ref (rM 15), .ref (rM 16), .ref (rM 17), .ref (rM 18), .ref (rM 19), .ref (rM 20), .ref (rM 21), .ref (rM 22), .ref (rM 23), .ref (rM 24), .int 0, .int 0, .int 0, .int 0, .int 0, .int 0, .int 0, .int 0, .int 0, .ref (rM 25), .ref (rM 26), .ref (rM 27), .int 0, .int 0, .ref (rM 28), .int 0, .ref (rM 29), .ref (rM 30), .ref (rM 31), .ref (rM 32), .ref (rM 33), .ref (rM 34), .ref (rM 35), .ref (rM 36), .int 0, .int 0, .int 0, .ref (rM 37), .ref (rM 38)])), (rM 4, .inl ((cM 4), 2, .inl (fM 4)))]) (w1 := []) hP hD [0, 1] [2, 3] rfl rfl (by decide) (by decide) hk1 hFc (fun k q h => by simp at h) ⟨fun i j p q h => by simp at h, fun k q h => by simp at h⟩
    refine wt_c (v := (-1)) hw ?_
    refine lv_aload_n hx hb dL_law_865 rfl (lv_at hl 1 rfl) ?_
    refine lv_aload_n hx hb dL_law_866 rfl (lv_at hl 3 rfl) ?_
    refine lv_iload_n hx hb dL_law_867 rfl (lv_at hl 0 rfl) ?_
    refine lv_iconst (v := 1) hx hb dL_law_868 (by decide) ?_
    refine lv_iadd hx hb dL_law_869 ?_
    refine wt_c (v := 1) (by decide) ?_
    refine va_sld hx hb hX hbl hbA hS (vin (by decide)) dL_law_870 ?_
    refine wt_c (v := xs 1) (congrArg xs (by decide)) ?_
    refine lv_aload_n hx hb dL_law_871 rfl (lv_at hl 3 rfl) ?_
    refine lv_iload_n hx hb dL_law_872 rfl (lv_at hl 0 rfl) ?_
    refine lv_iconst (v := 2) hx hb dL_law_873 (by decide) ?_
    refine lv_iadd hx hb dL_law_874 ?_
    refine wt_c (v := 2) (by decide) ?_
    refine va_sld hx hb hX hbl hbA hS (vin (by decide)) dL_law_875 ?_
    refine wt_c (v := xs 2) (congrArg xs (by decide)) ?_
    refine lv_aload_n hx hb dL_law_876 rfl (lv_at hl 3 rfl) ?_
    refine lv_iload_n hx hb dL_law_877 rfl (lv_at hl 0 rfl) ?_
    refine lv_iconst (v := 3) hx hb dL_law_878 (by decide) ?_
    refine lv_iadd hx hb dL_law_879 ?_
    refine wt_c (v := 3) (by decide) ?_
    refine va_sld hx hb hX hbl hbA hS (vin (by decide)) dL_law_880 ?_
    refine wt_c (v := xs 3) (congrArg xs (by decide)) ?_
    have hPc := hP.sub (ws' := [(rM 0, .inr (8, [.ref (rM 1), .ref (rM 2), .int 0, .int 0, .int 0, .int (-1), .int 0, .int 0, .int 0, .int 0, .long 0, .ref (rM 3), .ref (rM 4), .ref (rM 5), .ref (rM 6), .ref (rM 7), .ref (rM 8), .ref (rM 9), .ref (rM 10), .ref (rM 11), .ref (rM 12), .ref (rM 13), .ref (rM 14), .ref (rM 15), .ref (rM 16), .ref (rM 17), .ref (rM 18), .ref (rM 19), .ref (rM 20), .ref (rM 21), .ref (rM 22), .ref (rM 23), .ref (rM 24), .int 0, .int 0, .int 0, .int 0, .int 0, .int 0, .int 0, .int 0, .int 0, .ref (rM 25), .ref (rM 26), .ref (rM 27), .int 0, .int 0, .ref (rM 28), .int 0, .ref (rM 29), .ref (rM 30), .ref (rM 31), .ref (rM 32), .ref (rM 33), .ref (rM 34), .ref (rM 35), .ref (rM 36), .int 0, .int 0, .int 0, .ref (rM 37), .ref (rM 38)])), (rM 4, .inl ((cM 4), 2, .inl (fM 4)))]) [0, 1] rfl
    have hKc := hK.sub (tys' := [((cM 4), .int)]) [0] rfl
    have hDc := hD.sub (ws' := [(rM 0, .inr (8, [.ref (rM 1), .ref (rM 2), .int 0, .int 0, .int 0, .int (-1), .int 0, .int 0, .int 0, .int 0, .long 0, .ref (rM 3), .ref (rM 4), .ref (rM 5), .ref (rM 6), .ref (rM 7), .ref (rM 8), .ref (rM 9), .ref (rM 10), .ref (rM 11), .ref (rM 12), .ref (rM 13), .ref (rM 14), .ref (rM 15), .ref (rM 16), .ref (rM 17), .ref (rM 18), .ref (rM 19), .ref (rM 20), .ref (rM 21), .ref (rM 22), .ref (rM 23), .ref (rM 24), .int 0, .int 0, .int 0, .int 0, .int 0, .int 0, .int 0, .int 0, .int 0, .ref (rM 25), .ref (rM 26), .ref (rM 27), .int 0, .int 0, .ref (rM 28), .int 0, .ref (rM 29), .ref (rM 30), .ref (rM 31), .ref (rM 32), .ref (rM 33), .ref (rM 34), .ref (rM 35), .ref (rM 36), .int 0, .int 0, .int 0, .ref (rM 37), .ref (rM 38)])), (rM 4, .inl ((cM 4), 2, .inl (fM 4)))]) [0, 1] (by decide) rfl
    have hFc := va_free (wc := [(rM 0, .inr (8, [.ref (rM 1), .ref (rM 2), .int 0, .int 0, .int 0, .int (-1), .int 0, .int 0, .int 0, .int 0, .long 0, .ref (rM 3), .ref (rM 4), .ref (rM 5), .ref (rM 6), .ref (rM 7), .ref (rM 8), .ref (rM 9), .ref (rM 10), .ref (rM 11), .ref (rM 12), .ref (rM 13), .ref (rM 14), .ref (rM 15), .ref (rM 16), .ref (rM 17), .ref (rM 18), .ref (rM 19), .ref (rM 20), .ref (rM 21), .ref (rM 22), .ref (rM 23), .ref (rM 24), .int 0, .int 0, .int 0, .int 0, .int 0, .int 0, .int 0, .int 0, .int 0, .ref (rM 25), .ref (rM 26), .ref (rM 27), .int 0, .int 0, .ref (rM 28), .int 0, .ref (rM 29), .ref (rM 30), .ref (rM 31), .ref (rM 32), .ref (rM 33), .ref (rM 34), .ref (rM 35), .ref (rM 36), .int 0, .int 0, .int 0, .ref (rM 37), .ref (rM 38)])), (rM 4, .inl ((cM 4), 2, .inl (fM 4)))]) hD hS hA [0, 1] rfl
    refine va_calli (va_runV (As := [.int (xs 1), .int (xs 2), .int (xs 3)]) (rest := [.int (-1)]) ⟨hx, hb, hml, hown, hG⟩ (kX9_hum l dC dI rM cM (fM 4) (xs 1) (xs 2) (xs 3) H1.size hfM_4_0) (cwV 3 hG (goodV gw1632 gw1633 gw1634 gw138 gw1635) rfl rfl rfl hd_X9_hum ⟨(Nat.le_of_ble_eq_true rfl), (Nat.le_of_ble_eq_true rfl)⟩) ⟨fbW, va_recv hKc hPc (ci := 8) (q0 := 0) rfl rfl, pW_in hPc hKc hDc⟩ rfl rfl hl.1 rfl (lv_room (Nat.le_of_ble_eq_true rfl)) dL_law_881 ⟨(Nat.le_of_ble_eq_true rfl), (Nat.le_of_ble_eq_true rfl)⟩) hS (fun q _ h => hFc q h) hFc (fun r_61 u t H60 locs ht hvm hw hB hz1 hk1 hS => ?_)
    rcases hw with ⟨rfl, hy62, hw⟩ | ⟨rfl, hy63, hy64, hw⟩ | ⟨rfl, hy65, hy66, hy67, hw⟩ | ⟨rfl, hy68, hy69, hy70, hy71, hw⟩ | ⟨rfl, hy72, hy73, hy74, hy75, hy76, hw⟩ | ⟨rfl, hy77, hy78, hy79, hy80, hy81, hy82, hw⟩ | ⟨rfl, hy83, hy84, hy85, hy86, hy87, hy88, hw⟩
    · skip
      exact ((by have k0 := q_nlt hy4; have k1 := q_le hy5; have k2 := q_lt hy62; have z0 : (0 : Int32).toInt = 0 := (by decide); have z7 : (7 : Int32).toInt = 7 := (by decide); omega) : False).elim
    · skip
      obtain ⟨hP, hD⟩ := va_join (wr := []) (w1 := []) hP hD [0, 1] [] rfl rfl (by decide) (by decide) hk1 hFc (fun k q h => by simp at h) ⟨fun i j p q h => by simp at h, fun k q h => by simp at h⟩
      refine wt_c (v := (-1)) hw ?_
      refine lv_icmp_eq (tgt := 1540) hx hb dL_law_884 (by decide) (fun c_89 => ?_) (fun c_89 => absurd (by decide) c_89)
      exact law_end l C0 hS hl
    · skip
      exact ((by have k0 := q_nlt hy4; have k1 := q_le hy5; have k2 := q_nlt hy65; have k3 := q_nle hy66; have z0 : (0 : Int32).toInt = 0 := (by decide); have z7 : (7 : Int32).toInt = 7 := (by decide); omega) : False).elim
    · skip
      exact ((by have k0 := q_nlt hy4; have k1 := q_le hy5; have k2 := q_nlt hy68; have k3 := q_nle hy69; have z0 : (0 : Int32).toInt = 0 := (by decide); have z7 : (7 : Int32).toInt = 7 := (by decide); omega) : False).elim
    · skip
      exact ((by have k0 := q_nlt hy4; have k1 := q_le hy5; have k2 := q_nlt hy72; have k3 := q_nle hy73; have z0 : (0 : Int32).toInt = 0 := (by decide); have z7 : (7 : Int32).toInt = 7 := (by decide); omega) : False).elim
    · skip
      exact ((by have k0 := q_nlt hy4; have k1 := q_le hy5; have k2 := q_nlt hy77; have k3 := q_nle hy78; have z0 : (0 : Int32).toInt = 0 := (by decide); have z7 : (7 : Int32).toInt = 7 := (by decide); omega) : False).elim
    · skip
      exact ((by have k0 := q_nlt hy4; have k1 := q_le hy5; have k2 := q_nlt hy83; have k3 := q_nle hy84; have z0 : (0 : Int32).toInt = 0 := (by decide); have z7 : (7 : Int32).toInt = 7 := (by decide); omega) : False).elim
  · skip
    obtain ⟨hP, hD⟩ := va_join (wr := [(rM 0, .inr (8, [.ref (rM 1), .ref (rM 2), .int 0, .int 0, .int 0, .int (-1), .int 0, .int 0, .int 0, .int 0, .long 0, .ref (rM 3), .ref (rM 4), .ref (rM 5), .ref (rM 6), .ref (rM 7), .ref (rM 8), .ref (rM 9), .ref (rM 10), .ref (rM 11), .ref (rM 12), .ref (rM 13), .ref (rM 14), .ref (rM 15), .ref (rM 16), .ref (rM 17), .ref (rM 18), .ref (rM 19), .ref (rM 20), .ref (rM 21), .ref (rM 22), .ref (rM 23), .ref (rM 24), .int 0, .int 0, .int 0, .int 0, .int 0, .int 0, .int 0, .int 0, .int 0, .ref (rM 25), .ref (rM 26), .ref (rM 27), .int 0, .int 0, .ref (rM 28), .int 0, .ref (rM 29), .ref (rM 30), .ref (rM 31), .ref (rM 32), .ref (rM 33), .ref (rM 34), .ref (rM 35), .ref (rM 36), .int 0, .int 0, .int 0, .ref (rM 37), .ref (rM 38)])), (rM 4, .inl ((cM 4), 2, .inl (fM 4)))]) (w1 := []) hP hD [0, 1] [2, 3] rfl rfl (by decide) (by decide) hk1 hFc (fun k q h => by simp at h) ⟨fun i j p q h => by simp at h, fun k q h => by simp at h⟩
    refine wt_c (v := (-1)) hw ?_
    refine lv_aload_n hx hb dL_law_865 rfl (lv_at hl 1 rfl) ?_
    refine lv_aload_n hx hb dL_law_866 rfl (lv_at hl 3 rfl) ?_
    refine lv_iload_n hx hb dL_law_867 rfl (lv_at hl 0 rfl) ?_
    refine lv_iconst (v := 1) hx hb dL_law_868 (by decide) ?_
    refine lv_iadd hx hb dL_law_869 ?_
    refine wt_c (v := 1) (by decide) ?_
    refine va_sld hx hb hX hbl hbA hS (vin (by decide)) dL_law_870 ?_
    refine wt_c (v := xs 1) (congrArg xs (by decide)) ?_
    refine lv_aload_n hx hb dL_law_871 rfl (lv_at hl 3 rfl) ?_
    refine lv_iload_n hx hb dL_law_872 rfl (lv_at hl 0 rfl) ?_
    refine lv_iconst (v := 2) hx hb dL_law_873 (by decide) ?_
    refine lv_iadd hx hb dL_law_874 ?_
    refine wt_c (v := 2) (by decide) ?_
    refine va_sld hx hb hX hbl hbA hS (vin (by decide)) dL_law_875 ?_
    refine wt_c (v := xs 2) (congrArg xs (by decide)) ?_
    refine lv_aload_n hx hb dL_law_876 rfl (lv_at hl 3 rfl) ?_
    refine lv_iload_n hx hb dL_law_877 rfl (lv_at hl 0 rfl) ?_
    refine lv_iconst (v := 3) hx hb dL_law_878 (by decide) ?_
    refine lv_iadd hx hb dL_law_879 ?_
    refine wt_c (v := 3) (by decide) ?_
    refine va_sld hx hb hX hbl hbA hS (vin (by decide)) dL_law_880 ?_
    refine wt_c (v := xs 3) (congrArg xs (by decide)) ?_
    have hPc := hP.sub (ws' := [(rM 0, .inr (8, [.ref (rM 1), .ref (rM 2), .int 0, .int 0, .int 0, .int (-1), .int 0, .int 0, .int 0, .int 0, .long 0, .ref (rM 3), .ref (rM 4), .ref (rM 5), .ref (rM 6), .ref (rM 7), .ref (rM 8), .ref (rM 9), .ref (rM 10), .ref (rM 11), .ref (rM 12), .ref (rM 13), .ref (rM 14), .ref (rM 15), .ref (rM 16), .ref (rM 17), .ref (rM 18), .ref (rM 19), .ref (rM 20), .ref (rM 21), .ref (rM 22), .ref (rM 23), .ref (rM 24), .int 0, .int 0, .int 0, .int 0, .int 0, .int 0, .int 0, .int 0, .int 0, .ref (rM 25), .ref (rM 26), .ref (rM 27), .int 0, .int 0, .ref (rM 28), .int 0, .ref (rM 29), .ref (rM 30), .ref (rM 31), .ref (rM 32), .ref (rM 33), .ref (rM 34), .ref (rM 35), .ref (rM 36), .int 0, .int 0, .int 0, .ref (rM 37), .ref (rM 38)])), (rM 4, .inl ((cM 4), 2, .inl (fM 4)))]) [0, 1] rfl
    have hKc := hK.sub (tys' := [((cM 4), .int)]) [0] rfl
    have hDc := hD.sub (ws' := [(rM 0, .inr (8, [.ref (rM 1), .ref (rM 2), .int 0, .int 0, .int 0, .int (-1), .int 0, .int 0, .int 0, .int 0, .long 0, .ref (rM 3), .ref (rM 4), .ref (rM 5), .ref (rM 6), .ref (rM 7), .ref (rM 8), .ref (rM 9), .ref (rM 10), .ref (rM 11), .ref (rM 12), .ref (rM 13), .ref (rM 14), .ref (rM 15), .ref (rM 16), .ref (rM 17), .ref (rM 18), .ref (rM 19), .ref (rM 20), .ref (rM 21), .ref (rM 22), .ref (rM 23), .ref (rM 24), .int 0, .int 0, .int 0, .int 0, .int 0, .int 0, .int 0, .int 0, .int 0, .ref (rM 25), .ref (rM 26), .ref (rM 27), .int 0, .int 0, .ref (rM 28), .int 0, .ref (rM 29), .ref (rM 30), .ref (rM 31), .ref (rM 32), .ref (rM 33), .ref (rM 34), .ref (rM 35), .ref (rM 36), .int 0, .int 0, .int 0, .ref (rM 37), .ref (rM 38)])), (rM 4, .inl ((cM 4), 2, .inl (fM 4)))]) [0, 1] (by decide) rfl
    have hFc := va_free (wc := [(rM 0, .inr (8, [.ref (rM 1), .ref (rM 2), .int 0, .int 0, .int 0, .int (-1), .int 0, .int 0, .int 0, .int 0, .long 0, .ref (rM 3), .ref (rM 4), .ref (rM 5), .ref (rM 6), .ref (rM 7), .ref (rM 8), .ref (rM 9), .ref (rM 10), .ref (rM 11), .ref (rM 12), .ref (rM 13), .ref (rM 14), .ref (rM 15), .ref (rM 16), .ref (rM 17), .ref (rM 18), .ref (rM 19), .ref (rM 20), .ref (rM 21), .ref (rM 22), .ref (rM 23), .ref (rM 24), .int 0, .int 0, .int 0, .int 0, .int 0, .int 0, .int 0, .int 0, .int 0, .ref (rM 25), .ref (rM 26), .ref (rM 27), .int 0, .int 0, .ref (rM 28), .int 0, .ref (rM 29), .ref (rM 30), .ref (rM 31), .ref (rM 32), .ref (rM 33), .ref (rM 34), .ref (rM 35), .ref (rM 36), .int 0, .int 0, .int 0, .ref (rM 37), .ref (rM 38)])), (rM 4, .inl ((cM 4), 2, .inl (fM 4)))]) hD hS hA [0, 1] rfl
    refine va_calli (va_runV (As := [.int (xs 1), .int (xs 2), .int (xs 3)]) (rest := [.int (-1)]) ⟨hx, hb, hml, hown, hG⟩ (kX9_hum l dC dI rM cM (fM 4) (xs 1) (xs 2) (xs 3) H1.size hfM_4_0) (cwV 3 hG (goodV gw1632 gw1633 gw1634 gw138 gw1635) rfl rfl rfl hd_X9_hum ⟨(Nat.le_of_ble_eq_true rfl), (Nat.le_of_ble_eq_true rfl)⟩) ⟨fbW, va_recv hKc hPc (ci := 8) (q0 := 0) rfl rfl, pW_in hPc hKc hDc⟩ rfl rfl hl.1 rfl (lv_room (Nat.le_of_ble_eq_true rfl)) dL_law_881 ⟨(Nat.le_of_ble_eq_true rfl), (Nat.le_of_ble_eq_true rfl)⟩) hS (fun q _ h => hFc q h) hFc (fun r_91 u t H90 locs ht hvm hw hB hz1 hk1 hS => ?_)
    rcases hw with ⟨rfl, hy92, hw⟩ | ⟨rfl, hy93, hy94, hw⟩ | ⟨rfl, hy95, hy96, hy97, hw⟩ | ⟨rfl, hy98, hy99, hy100, hy101, hw⟩ | ⟨rfl, hy102, hy103, hy104, hy105, hy106, hw⟩ | ⟨rfl, hy107, hy108, hy109, hy110, hy111, hy112, hw⟩ | ⟨rfl, hy113, hy114, hy115, hy116, hy117, hy118, hw⟩
    · skip
      exact ((by have k0 := q_nlt hy6; have k1 := q_nle hy7; have k3 := q_lt hy92; have z0 : (0 : Int32).toInt = 0 := (by decide); have z7 : (7 : Int32).toInt = 7 := (by decide); omega) : False).elim
    · skip
      exact ((by have k0 := q_nlt hy6; have k1 := q_nle hy7; have k3 := q_nlt hy93; have k4 := q_le hy94; have z0 : (0 : Int32).toInt = 0 := (by decide); have z7 : (7 : Int32).toInt = 7 := (by decide); omega) : False).elim
    · skip
      obtain ⟨hP, hD⟩ := va_join (wr := []) (w1 := []) hP hD [0, 1] [] rfl rfl (by decide) (by decide) hk1 hFc (fun k q h => by simp at h) ⟨fun i j p q h => by simp at h, fun k q h => by simp at h⟩
      refine wt_c (v := (-1)) hw ?_
      refine lv_icmp_eq (tgt := 1540) hx hb dL_law_884 (by decide) (fun c_119 => ?_) (fun c_119 => absurd (by decide) c_119)
      exact law_end l C0 hS hl
    · skip
      exact ((by have k2 := q_lt hy8; have k5 := q_nlt hy100; have k6 := q_le hy101; have z0 : (0 : Int32).toInt = 0 := (by decide); have z7 : (7 : Int32).toInt = 7 := (by decide); omega) : False).elim
    · skip
      exact ((by have k2 := q_lt hy8; have k5 := q_nlt hy104; have k6 := q_nle hy105; have z0 : (0 : Int32).toInt = 0 := (by decide); have z7 : (7 : Int32).toInt = 7 := (by decide); omega) : False).elim
    · skip
      exact ((by have k2 := q_lt hy8; have k5 := q_nlt hy109; have k6 := q_nle hy110; have z0 : (0 : Int32).toInt = 0 := (by decide); have z7 : (7 : Int32).toInt = 7 := (by decide); omega) : False).elim
    · skip
      exact ((by have k2 := q_lt hy8; have k5 := q_nlt hy115; have k6 := q_nle hy116; have z0 : (0 : Int32).toInt = 0 := (by decide); have z7 : (7 : Int32).toInt = 7 := (by decide); omega) : False).elim
  · skip
    obtain ⟨hP, hD⟩ := va_join (wr := [(rM 0, .inr (8, [.ref (rM 1), .ref (rM 2), .int 0, .int 0, .int 0, .int (-1), .int 0, .int 0, .int 0, .int 0, .long 0, .ref (rM 3), .ref (rM 4), .ref (rM 5), .ref (rM 6), .ref (rM 7), .ref (rM 8), .ref (rM 9), .ref (rM 10), .ref (rM 11), .ref (rM 12), .ref (rM 13), .ref (rM 14), .ref (rM 15), .ref (rM 16), .ref (rM 17), .ref (rM 18), .ref (rM 19), .ref (rM 20), .ref (rM 21), .ref (rM 22), .ref (rM 23), .ref (rM 24), .int 0, .int 0, .int 0, .int 0, .int 0, .int 0, .int 0, .int 0, .int 0, .ref (rM 25), .ref (rM 26), .ref (rM 27), .int 0, .int 0, .ref (rM 28), .int 0, .ref (rM 29), .ref (rM 30), .ref (rM 31), .ref (rM 32), .ref (rM 33), .ref (rM 34), .ref (rM 35), .ref (rM 36), .int 0, .int 0, .int 0, .ref (rM 37), .ref (rM 38)])), (rM 4, .inl ((cM 4), 2, .inl (fM 4)))]) (w1 := []) hP hD [0, 1] [2, 3] rfl rfl (by decide) (by decide) hk1 hFc (fun k q h => by simp at h) ⟨fun i j p q h => by simp at h, fun k q h => by simp at h⟩
    refine wt_c (v := (-1)) hw ?_
    refine lv_aload_n hx hb dL_law_865 rfl (lv_at hl 1 rfl) ?_
    refine lv_aload_n hx hb dL_law_866 rfl (lv_at hl 3 rfl) ?_
    refine lv_iload_n hx hb dL_law_867 rfl (lv_at hl 0 rfl) ?_
    refine lv_iconst (v := 1) hx hb dL_law_868 (by decide) ?_
    refine lv_iadd hx hb dL_law_869 ?_
    refine wt_c (v := 1) (by decide) ?_
    refine va_sld hx hb hX hbl hbA hS (vin (by decide)) dL_law_870 ?_
    refine wt_c (v := xs 1) (congrArg xs (by decide)) ?_
    refine lv_aload_n hx hb dL_law_871 rfl (lv_at hl 3 rfl) ?_
    refine lv_iload_n hx hb dL_law_872 rfl (lv_at hl 0 rfl) ?_
    refine lv_iconst (v := 2) hx hb dL_law_873 (by decide) ?_
    refine lv_iadd hx hb dL_law_874 ?_
    refine wt_c (v := 2) (by decide) ?_
    refine va_sld hx hb hX hbl hbA hS (vin (by decide)) dL_law_875 ?_
    refine wt_c (v := xs 2) (congrArg xs (by decide)) ?_
    refine lv_aload_n hx hb dL_law_876 rfl (lv_at hl 3 rfl) ?_
    refine lv_iload_n hx hb dL_law_877 rfl (lv_at hl 0 rfl) ?_
    refine lv_iconst (v := 3) hx hb dL_law_878 (by decide) ?_
    refine lv_iadd hx hb dL_law_879 ?_
    refine wt_c (v := 3) (by decide) ?_
    refine va_sld hx hb hX hbl hbA hS (vin (by decide)) dL_law_880 ?_
    refine wt_c (v := xs 3) (congrArg xs (by decide)) ?_
    have hPc := hP.sub (ws' := [(rM 0, .inr (8, [.ref (rM 1), .ref (rM 2), .int 0, .int 0, .int 0, .int (-1), .int 0, .int 0, .int 0, .int 0, .long 0, .ref (rM 3), .ref (rM 4), .ref (rM 5), .ref (rM 6), .ref (rM 7), .ref (rM 8), .ref (rM 9), .ref (rM 10), .ref (rM 11), .ref (rM 12), .ref (rM 13), .ref (rM 14), .ref (rM 15), .ref (rM 16), .ref (rM 17), .ref (rM 18), .ref (rM 19), .ref (rM 20), .ref (rM 21), .ref (rM 22), .ref (rM 23), .ref (rM 24), .int 0, .int 0, .int 0, .int 0, .int 0, .int 0, .int 0, .int 0, .int 0, .ref (rM 25), .ref (rM 26), .ref (rM 27), .int 0, .int 0, .ref (rM 28), .int 0, .ref (rM 29), .ref (rM 30), .ref (rM 31), .ref (rM 32), .ref (rM 33), .ref (rM 34), .ref (rM 35), .ref (rM 36), .int 0, .int 0, .int 0, .ref (rM 37), .ref (rM 38)])), (rM 4, .inl ((cM 4), 2, .inl (fM 4)))]) [0, 1] rfl
    have hKc := hK.sub (tys' := [((cM 4), .int)]) [0] rfl
    have hDc := hD.sub (ws' := [(rM 0, .inr (8, [.ref (rM 1), .ref (rM 2), .int 0, .int 0, .int 0, .int (-1), .int 0, .int 0, .int 0, .int 0, .long 0, .ref (rM 3), .ref (rM 4), .ref (rM 5), .ref (rM 6), .ref (rM 7), .ref (rM 8), .ref (rM 9), .ref (rM 10), .ref (rM 11), .ref (rM 12), .ref (rM 13), .ref (rM 14), .ref (rM 15), .ref (rM 16), .ref (rM 17), .ref (rM 18), .ref (rM 19), .ref (rM 20), .ref (rM 21), .ref (rM 22), .ref (rM 23), .ref (rM 24), .int 0, .int 0, .int 0, .int 0, .int 0, .int 0, .int 0, .int 0, .int 0, .ref (rM 25), .ref (rM 26), .ref (rM 27), .int 0, .int 0, .ref (rM 28), .int 0, .ref (rM 29), .ref (rM 30), .ref (rM 31), .ref (rM 32), .ref (rM 33), .ref (rM 34), .ref (rM 35), .ref (rM 36), .int 0, .int 0, .int 0, .ref (rM 37), .ref (rM 38)])), (rM 4, .inl ((cM 4), 2, .inl (fM 4)))]) [0, 1] (by decide) rfl
    have hFc := va_free (wc := [(rM 0, .inr (8, [.ref (rM 1), .ref (rM 2), .int 0, .int 0, .int 0, .int (-1), .int 0, .int 0, .int 0, .int 0, .long 0, .ref (rM 3), .ref (rM 4), .ref (rM 5), .ref (rM 6), .ref (rM 7), .ref (rM 8), .ref (rM 9), .ref (rM 10), .ref (rM 11), .ref (rM 12), .ref (rM 13), .ref (rM 14), .ref (rM 15), .ref (rM 16), .ref (rM 17), .ref (rM 18), .ref (rM 19), .ref (rM 20), .ref (rM 21), .ref (rM 22), .ref (rM 23), .ref (rM 24), .int 0, .int 0, .int 0, .int 0, .int 0, .int 0, .int 0, .int 0, .int 0, .ref (rM 25), .ref (rM 26), .ref (rM 27), .int 0, .int 0, .ref (rM 28), .int 0, .ref (rM 29), .ref (rM 30), .ref (rM 31), .ref (rM 32), .ref (rM 33), .ref (rM 34), .ref (rM 35), .ref (rM 36), .int 0, .int 0, .int 0, .ref (rM 37), .ref (rM 38)])), (rM 4, .inl ((cM 4), 2, .inl (fM 4)))]) hD hS hA [0, 1] rfl
    refine va_calli (va_runV (As := [.int (xs 1), .int (xs 2), .int (xs 3)]) (rest := [.int (-1)]) ⟨hx, hb, hml, hown, hG⟩ (kX9_hum l dC dI rM cM (fM 4) (xs 1) (xs 2) (xs 3) H1.size hfM_4_0) (cwV 3 hG (goodV gw1632 gw1633 gw1634 gw138 gw1635) rfl rfl rfl hd_X9_hum ⟨(Nat.le_of_ble_eq_true rfl), (Nat.le_of_ble_eq_true rfl)⟩) ⟨fbW, va_recv hKc hPc (ci := 8) (q0 := 0) rfl rfl, pW_in hPc hKc hDc⟩ rfl rfl hl.1 rfl (lv_room (Nat.le_of_ble_eq_true rfl)) dL_law_881 ⟨(Nat.le_of_ble_eq_true rfl), (Nat.le_of_ble_eq_true rfl)⟩) hS (fun q _ h => hFc q h) hFc (fun r_121 u t H120 locs ht hvm hw hB hz1 hk1 hS => ?_)
    rcases hw with ⟨rfl, hy122, hw⟩ | ⟨rfl, hy123, hy124, hw⟩ | ⟨rfl, hy125, hy126, hy127, hw⟩ | ⟨rfl, hy128, hy129, hy130, hy131, hw⟩ | ⟨rfl, hy132, hy133, hy134, hy135, hy136, hw⟩ | ⟨rfl, hy137, hy138, hy139, hy140, hy141, hy142, hw⟩ | ⟨rfl, hy143, hy144, hy145, hy146, hy147, hy148, hw⟩
    · skip
      exact ((by have k0 := q_nlt hy9; have k1 := q_nle hy10; have k4 := q_lt hy122; have z0 : (0 : Int32).toInt = 0 := (by decide); have z7 : (7 : Int32).toInt = 7 := (by decide); omega) : False).elim
    · skip
      exact ((by have k0 := q_nlt hy9; have k1 := q_nle hy10; have k4 := q_nlt hy123; have k5 := q_le hy124; have z0 : (0 : Int32).toInt = 0 := (by decide); have z7 : (7 : Int32).toInt = 7 := (by decide); omega) : False).elim
    · skip
      exact ((by have k2 := q_nlt hy11; have k3 := q_le hy12; have k6 := q_lt hy127; have z0 : (0 : Int32).toInt = 0 := (by decide); have z7 : (7 : Int32).toInt = 7 := (by decide); omega) : False).elim
    · skip
      obtain ⟨hP, hD⟩ := va_join (wr := []) (w1 := []) hP hD [0, 1] [] rfl rfl (by decide) (by decide) hk1 hFc (fun k q h => by simp at h) ⟨fun i j p q h => by simp at h, fun k q h => by simp at h⟩
      refine wt_c (v := (-1)) hw ?_
      refine lv_icmp_eq (tgt := 1540) hx hb dL_law_884 (by decide) (fun c_149 => ?_) (fun c_149 => absurd (by decide) c_149)
      exact law_end l C0 hS hl
    · skip
      exact ((by have k2 := q_nlt hy11; have k3 := q_le hy12; have k6 := q_nlt hy134; have k7 := q_nle hy135; have z0 : (0 : Int32).toInt = 0 := (by decide); have z7 : (7 : Int32).toInt = 7 := (by decide); omega) : False).elim
    · skip
      exact ((by have k2 := q_nlt hy11; have k3 := q_le hy12; have k6 := q_nlt hy139; have k7 := q_nle hy140; have z0 : (0 : Int32).toInt = 0 := (by decide); have z7 : (7 : Int32).toInt = 7 := (by decide); omega) : False).elim
    · skip
      exact ((by have k2 := q_nlt hy11; have k3 := q_le hy12; have k6 := q_nlt hy145; have k7 := q_nle hy146; have z0 : (0 : Int32).toInt = 0 := (by decide); have z7 : (7 : Int32).toInt = 7 := (by decide); omega) : False).elim
  · skip
    obtain ⟨hP, hD⟩ := va_join (wr := [(rM 0, .inr (8, [.ref (rM 1), .ref (rM 2), .int 0, .int 0, .int 0, .int (-1), .int 0, .int 0, .int 0, .int 0, .long 0, .ref (rM 3), .ref (rM 4), .ref (rM 5), .ref (rM 6), .ref (rM 7), .ref (rM 8), .ref (rM 9), .ref (rM 10), .ref (rM 11), .ref (rM 12), .ref (rM 13), .ref (rM 14), .ref (rM 15), .ref (rM 16), .ref (rM 17), .ref (rM 18), .ref (rM 19), .ref (rM 20), .ref (rM 21), .ref (rM 22), .ref (rM 23), .ref (rM 24), .int 0, .int 0, .int 0, .int 0, .int 0, .int 0, .int 0, .int 0, .int 0, .ref (rM 25), .ref (rM 26), .ref (rM 27), .int 0, .int 0, .ref (rM 28), .int 0, .ref (rM 29), .ref (rM 30), .ref (rM 31), .ref (rM 32), .ref (rM 33), .ref (rM 34), .ref (rM 35), .ref (rM 36), .int 0, .int 0, .int 0, .ref (rM 37), .ref (rM 38)])), (rM 4, .inl ((cM 4), 2, .inl (fM 4)))]) (w1 := []) hP hD [0, 1] [2, 3] rfl rfl (by decide) (by decide) hk1 hFc (fun k q h => by simp at h) ⟨fun i j p q h => by simp at h, fun k q h => by simp at h⟩
    refine wt_c (v := (-1)) hw ?_
    refine lv_aload_n hx hb dL_law_865 rfl (lv_at hl 1 rfl) ?_
    refine lv_aload_n hx hb dL_law_866 rfl (lv_at hl 3 rfl) ?_
    refine lv_iload_n hx hb dL_law_867 rfl (lv_at hl 0 rfl) ?_
    refine lv_iconst (v := 1) hx hb dL_law_868 (by decide) ?_
    refine lv_iadd hx hb dL_law_869 ?_
    refine wt_c (v := 1) (by decide) ?_
    refine va_sld hx hb hX hbl hbA hS (vin (by decide)) dL_law_870 ?_
    refine wt_c (v := xs 1) (congrArg xs (by decide)) ?_
    refine lv_aload_n hx hb dL_law_871 rfl (lv_at hl 3 rfl) ?_
    refine lv_iload_n hx hb dL_law_872 rfl (lv_at hl 0 rfl) ?_
    refine lv_iconst (v := 2) hx hb dL_law_873 (by decide) ?_
    refine lv_iadd hx hb dL_law_874 ?_
    refine wt_c (v := 2) (by decide) ?_
    refine va_sld hx hb hX hbl hbA hS (vin (by decide)) dL_law_875 ?_
    refine wt_c (v := xs 2) (congrArg xs (by decide)) ?_
    refine lv_aload_n hx hb dL_law_876 rfl (lv_at hl 3 rfl) ?_
    refine lv_iload_n hx hb dL_law_877 rfl (lv_at hl 0 rfl) ?_
    refine lv_iconst (v := 3) hx hb dL_law_878 (by decide) ?_
    refine lv_iadd hx hb dL_law_879 ?_
    refine wt_c (v := 3) (by decide) ?_
    refine va_sld hx hb hX hbl hbA hS (vin (by decide)) dL_law_880 ?_
    refine wt_c (v := xs 3) (congrArg xs (by decide)) ?_
    have hPc := hP.sub (ws' := [(rM 0, .inr (8, [.ref (rM 1), .ref (rM 2), .int 0, .int 0, .int 0, .int (-1), .int 0, .int 0, .int 0, .int 0, .long 0, .ref (rM 3), .ref (rM 4), .ref (rM 5), .ref (rM 6), .ref (rM 7), .ref (rM 8), .ref (rM 9), .ref (rM 10), .ref (rM 11), .ref (rM 12), .ref (rM 13), .ref (rM 14), .ref (rM 15), .ref (rM 16), .ref (rM 17), .ref (rM 18), .ref (rM 19), .ref (rM 20), .ref (rM 21), .ref (rM 22), .ref (rM 23), .ref (rM 24), .int 0, .int 0, .int 0, .int 0, .int 0, .int 0, .int 0, .int 0, .int 0, .ref (rM 25), .ref (rM 26), .ref (rM 27), .int 0, .int 0, .ref (rM 28), .int 0, .ref (rM 29), .ref (rM 30), .ref (rM 31), .ref (rM 32), .ref (rM 33), .ref (rM 34), .ref (rM 35), .ref (rM 36), .int 0, .int 0, .int 0, .ref (rM 37), .ref (rM 38)])), (rM 4, .inl ((cM 4), 2, .inl (fM 4)))]) [0, 1] rfl
    have hKc := hK.sub (tys' := [((cM 4), .int)]) [0] rfl
    have hDc := hD.sub (ws' := [(rM 0, .inr (8, [.ref (rM 1), .ref (rM 2), .int 0, .int 0, .int 0, .int (-1), .int 0, .int 0, .int 0, .int 0, .long 0, .ref (rM 3), .ref (rM 4), .ref (rM 5), .ref (rM 6), .ref (rM 7), .ref (rM 8), .ref (rM 9), .ref (rM 10), .ref (rM 11), .ref (rM 12), .ref (rM 13), .ref (rM 14), .ref (rM 15), .ref (rM 16), .ref (rM 17), .ref (rM 18), .ref (rM 19), .ref (rM 20), .ref (rM 21), .ref (rM 22), .ref (rM 23), .ref (rM 24), .int 0, .int 0, .int 0, .int 0, .int 0, .int 0, .int 0, .int 0, .int 0, .ref (rM 25), .ref (rM 26), .ref (rM 27), .int 0, .int 0, .ref (rM 28), .int 0, .ref (rM 29), .ref (rM 30), .ref (rM 31), .ref (rM 32), .ref (rM 33), .ref (rM 34), .ref (rM 35), .ref (rM 36), .int 0, .int 0, .int 0, .ref (rM 37), .ref (rM 38)])), (rM 4, .inl ((cM 4), 2, .inl (fM 4)))]) [0, 1] (by decide) rfl
    have hFc := va_free (wc := [(rM 0, .inr (8, [.ref (rM 1), .ref (rM 2), .int 0, .int 0, .int 0, .int (-1), .int 0, .int 0, .int 0, .int 0, .long 0, .ref (rM 3), .ref (rM 4), .ref (rM 5), .ref (rM 6), .ref (rM 7), .ref (rM 8), .ref (rM 9), .ref (rM 10), .ref (rM 11), .ref (rM 12), .ref (rM 13), .ref (rM 14), .ref (rM 15), .ref (rM 16), .ref (rM 17), .ref (rM 18), .ref (rM 19), .ref (rM 20), .ref (rM 21), .ref (rM 22), .ref (rM 23), .ref (rM 24), .int 0, .int 0, .int 0, .int 0, .int 0, .int 0, .int 0, .int 0, .int 0, .ref (rM 25), .ref (rM 26), .ref (rM 27), .int 0, .int 0, .ref (rM 28), .int 0, .ref (rM 29), .ref (rM 30), .ref (rM 31), .ref (rM 32), .ref (rM 33), .ref (rM 34), .ref (rM 35), .ref (rM 36), .int 0, .int 0, .int 0, .ref (rM 37), .ref (rM 38)])), (rM 4, .inl ((cM 4), 2, .inl (fM 4)))]) hD hS hA [0, 1] rfl
    refine va_calli (va_runV (As := [.int (xs 1), .int (xs 2), .int (xs 3)]) (rest := [.int (-1)]) ⟨hx, hb, hml, hown, hG⟩ (kX9_hum l dC dI rM cM (fM 4) (xs 1) (xs 2) (xs 3) H1.size hfM_4_0) (cwV 3 hG (goodV gw1632 gw1633 gw1634 gw138 gw1635) rfl rfl rfl hd_X9_hum ⟨(Nat.le_of_ble_eq_true rfl), (Nat.le_of_ble_eq_true rfl)⟩) ⟨fbW, va_recv hKc hPc (ci := 8) (q0 := 0) rfl rfl, pW_in hPc hKc hDc⟩ rfl rfl hl.1 rfl (lv_room (Nat.le_of_ble_eq_true rfl)) dL_law_881 ⟨(Nat.le_of_ble_eq_true rfl), (Nat.le_of_ble_eq_true rfl)⟩) hS (fun q _ h => hFc q h) hFc (fun r_151 u t H150 locs ht hvm hw hB hz1 hk1 hS => ?_)
    rcases hw with ⟨rfl, hy152, hw⟩ | ⟨rfl, hy153, hy154, hw⟩ | ⟨rfl, hy155, hy156, hy157, hw⟩ | ⟨rfl, hy158, hy159, hy160, hy161, hw⟩ | ⟨rfl, hy162, hy163, hy164, hy165, hy166, hw⟩ | ⟨rfl, hy167, hy168, hy169, hy170, hy171, hy172, hw⟩ | ⟨rfl, hy173, hy174, hy175, hy176, hy177, hy178, hw⟩
    · skip
      exact ((by have k0 := q_nlt hy13; have k1 := q_nle hy14; have k5 := q_lt hy152; have z0 : (0 : Int32).toInt = 0 := (by decide); have z7 : (7 : Int32).toInt = 7 := (by decide); omega) : False).elim
    · skip
      exact ((by have k0 := q_nlt hy13; have k1 := q_nle hy14; have k5 := q_nlt hy153; have k6 := q_le hy154; have z0 : (0 : Int32).toInt = 0 := (by decide); have z7 : (7 : Int32).toInt = 7 := (by decide); omega) : False).elim
    · skip
      exact ((by have k2 := q_nlt hy15; have k3 := q_nle hy16; have k7 := q_lt hy157; have z0 : (0 : Int32).toInt = 0 := (by decide); have z7 : (7 : Int32).toInt = 7 := (by decide); omega) : False).elim
    · skip
      exact ((by have k2 := q_nlt hy15; have k3 := q_nle hy16; have k7 := q_nlt hy160; have k8 := q_le hy161; have z0 : (0 : Int32).toInt = 0 := (by decide); have z7 : (7 : Int32).toInt = 7 := (by decide); omega) : False).elim
    · skip
      obtain ⟨hP, hD⟩ := va_join (wr := []) (w1 := []) hP hD [0, 1] [] rfl rfl (by decide) (by decide) hk1 hFc (fun k q h => by simp at h) ⟨fun i j p q h => by simp at h, fun k q h => by simp at h⟩
      refine wt_c (v := (-1)) hw ?_
      refine lv_icmp_eq (tgt := 1540) hx hb dL_law_884 (by decide) (fun c_179 => ?_) (fun c_179 => absurd (by decide) c_179)
      exact law_end l C0 hS hl
    · skip
      exact ((by have k4 := q_lt hy17; have k9 := q_nlt hy171; have k10 := q_le hy172; have z0 : (0 : Int32).toInt = 0 := (by decide); have z7 : (7 : Int32).toInt = 7 := (by decide); omega) : False).elim
    · skip
      exact ((by have k4 := q_lt hy17; have k9 := q_nlt hy177; have k10 := q_nle hy178; have z0 : (0 : Int32).toInt = 0 := (by decide); have z7 : (7 : Int32).toInt = 7 := (by decide); omega) : False).elim
  · skip
    obtain ⟨hP, hD⟩ := va_join (wr := [(rM 0, .inr (8, [.ref (rM 1), .ref (rM 2), .int 0, .int 0, .int 0, .int (-1), .int 0, .int 0, .int 0, .int 0, .long 0, .ref (rM 3), .ref (rM 4), .ref (rM 5), .ref (rM 6), .ref (rM 7), .ref (rM 8), .ref (rM 9), .ref (rM 10), .ref (rM 11), .ref (rM 12), .ref (rM 13), .ref (rM 14), .ref (rM 15), .ref (rM 16), .ref (rM 17), .ref (rM 18), .ref (rM 19), .ref (rM 20), .ref (rM 21), .ref (rM 22), .ref (rM 23), .ref (rM 24), .int 0, .int 0, .int 0, .int 0, .int 0, .int 0, .int 0, .int 0, .int 0, .ref (rM 25), .ref (rM 26), .ref (rM 27), .int 0, .int 0, .ref (rM 28), .int 0, .ref (rM 29), .ref (rM 30), .ref (rM 31), .ref (rM 32), .ref (rM 33), .ref (rM 34), .ref (rM 35), .ref (rM 36), .int 0, .int 0, .int 0, .ref (rM 37), .ref (rM 38)])), (rM 4, .inl ((cM 4), 2, .inl (fM 4)))]) (w1 := []) hP hD [0, 1] [2, 3] rfl rfl (by decide) (by decide) hk1 hFc (fun k q h => by simp at h) ⟨fun i j p q h => by simp at h, fun k q h => by simp at h⟩
    refine wt_c (v := (-1)) hw ?_
    refine lv_aload_n hx hb dL_law_865 rfl (lv_at hl 1 rfl) ?_
    refine lv_aload_n hx hb dL_law_866 rfl (lv_at hl 3 rfl) ?_
    refine lv_iload_n hx hb dL_law_867 rfl (lv_at hl 0 rfl) ?_
    refine lv_iconst (v := 1) hx hb dL_law_868 (by decide) ?_
    refine lv_iadd hx hb dL_law_869 ?_
    refine wt_c (v := 1) (by decide) ?_
    refine va_sld hx hb hX hbl hbA hS (vin (by decide)) dL_law_870 ?_
    refine wt_c (v := xs 1) (congrArg xs (by decide)) ?_
    refine lv_aload_n hx hb dL_law_871 rfl (lv_at hl 3 rfl) ?_
    refine lv_iload_n hx hb dL_law_872 rfl (lv_at hl 0 rfl) ?_
    refine lv_iconst (v := 2) hx hb dL_law_873 (by decide) ?_
    refine lv_iadd hx hb dL_law_874 ?_
    refine wt_c (v := 2) (by decide) ?_
    refine va_sld hx hb hX hbl hbA hS (vin (by decide)) dL_law_875 ?_
    refine wt_c (v := xs 2) (congrArg xs (by decide)) ?_
    refine lv_aload_n hx hb dL_law_876 rfl (lv_at hl 3 rfl) ?_
    refine lv_iload_n hx hb dL_law_877 rfl (lv_at hl 0 rfl) ?_
    refine lv_iconst (v := 3) hx hb dL_law_878 (by decide) ?_
    refine lv_iadd hx hb dL_law_879 ?_
    refine wt_c (v := 3) (by decide) ?_
    refine va_sld hx hb hX hbl hbA hS (vin (by decide)) dL_law_880 ?_
    refine wt_c (v := xs 3) (congrArg xs (by decide)) ?_
    have hPc := hP.sub (ws' := [(rM 0, .inr (8, [.ref (rM 1), .ref (rM 2), .int 0, .int 0, .int 0, .int (-1), .int 0, .int 0, .int 0, .int 0, .long 0, .ref (rM 3), .ref (rM 4), .ref (rM 5), .ref (rM 6), .ref (rM 7), .ref (rM 8), .ref (rM 9), .ref (rM 10), .ref (rM 11), .ref (rM 12), .ref (rM 13), .ref (rM 14), .ref (rM 15), .ref (rM 16), .ref (rM 17), .ref (rM 18), .ref (rM 19), .ref (rM 20), .ref (rM 21), .ref (rM 22), .ref (rM 23), .ref (rM 24), .int 0, .int 0, .int 0, .int 0, .int 0, .int 0, .int 0, .int 0, .int 0, .ref (rM 25), .ref (rM 26), .ref (rM 27), .int 0, .int 0, .ref (rM 28), .int 0, .ref (rM 29), .ref (rM 30), .ref (rM 31), .ref (rM 32), .ref (rM 33), .ref (rM 34), .ref (rM 35), .ref (rM 36), .int 0, .int 0, .int 0, .ref (rM 37), .ref (rM 38)])), (rM 4, .inl ((cM 4), 2, .inl (fM 4)))]) [0, 1] rfl
    have hKc := hK.sub (tys' := [((cM 4), .int)]) [0] rfl
    have hDc := hD.sub (ws' := [(rM 0, .inr (8, [.ref (rM 1), .ref (rM 2), .int 0, .int 0, .int 0, .int (-1), .int 0, .int 0, .int 0, .int 0, .long 0, .ref (rM 3), .ref (rM 4), .ref (rM 5), .ref (rM 6), .ref (rM 7), .ref (rM 8), .ref (rM 9), .ref (rM 10), .ref (rM 11), .ref (rM 12), .ref (rM 13), .ref (rM 14), .ref (rM 15), .ref (rM 16), .ref (rM 17), .ref (rM 18), .ref (rM 19), .ref (rM 20), .ref (rM 21), .ref (rM 22), .ref (rM 23), .ref (rM 24), .int 0, .int 0, .int 0, .int 0, .int 0, .int 0, .int 0, .int 0, .int 0, .ref (rM 25), .ref (rM 26), .ref (rM 27), .int 0, .int 0, .ref (rM 28), .int 0, .ref (rM 29), .ref (rM 30), .ref (rM 31), .ref (rM 32), .ref (rM 33), .ref (rM 34), .ref (rM 35), .ref (rM 36), .int 0, .int 0, .int 0, .ref (rM 37), .ref (rM 38)])), (rM 4, .inl ((cM 4), 2, .inl (fM 4)))]) [0, 1] (by decide) rfl
    have hFc := va_free (wc := [(rM 0, .inr (8, [.ref (rM 1), .ref (rM 2), .int 0, .int 0, .int 0, .int (-1), .int 0, .int 0, .int 0, .int 0, .long 0, .ref (rM 3), .ref (rM 4), .ref (rM 5), .ref (rM 6), .ref (rM 7), .ref (rM 8), .ref (rM 9), .ref (rM 10), .ref (rM 11), .ref (rM 12), .ref (rM 13), .ref (rM 14), .ref (rM 15), .ref (rM 16), .ref (rM 17), .ref (rM 18), .ref (rM 19), .ref (rM 20), .ref (rM 21), .ref (rM 22), .ref (rM 23), .ref (rM 24), .int 0, .int 0, .int 0, .int 0, .int 0, .int 0, .int 0, .int 0, .int 0, .ref (rM 25), .ref (rM 26), .ref (rM 27), .int 0, .int 0, .ref (rM 28), .int 0, .ref (rM 29), .ref (rM 30), .ref (rM 31), .ref (rM 32), .ref (rM 33), .ref (rM 34), .ref (rM 35), .ref (rM 36), .int 0, .int 0, .int 0, .ref (rM 37), .ref (rM 38)])), (rM 4, .inl ((cM 4), 2, .inl (fM 4)))]) hD hS hA [0, 1] rfl
    refine va_calli (va_runV (As := [.int (xs 1), .int (xs 2), .int (xs 3)]) (rest := [.int (-1)]) ⟨hx, hb, hml, hown, hG⟩ (kX9_hum l dC dI rM cM (fM 4) (xs 1) (xs 2) (xs 3) H1.size hfM_4_0) (cwV 3 hG (goodV gw1632 gw1633 gw1634 gw138 gw1635) rfl rfl rfl hd_X9_hum ⟨(Nat.le_of_ble_eq_true rfl), (Nat.le_of_ble_eq_true rfl)⟩) ⟨fbW, va_recv hKc hPc (ci := 8) (q0 := 0) rfl rfl, pW_in hPc hKc hDc⟩ rfl rfl hl.1 rfl (lv_room (Nat.le_of_ble_eq_true rfl)) dL_law_881 ⟨(Nat.le_of_ble_eq_true rfl), (Nat.le_of_ble_eq_true rfl)⟩) hS (fun q _ h => hFc q h) hFc (fun r_181 u t H180 locs ht hvm hw hB hz1 hk1 hS => ?_)
    rcases hw with ⟨rfl, hy182, hw⟩ | ⟨rfl, hy183, hy184, hw⟩ | ⟨rfl, hy185, hy186, hy187, hw⟩ | ⟨rfl, hy188, hy189, hy190, hy191, hw⟩ | ⟨rfl, hy192, hy193, hy194, hy195, hy196, hw⟩ | ⟨rfl, hy197, hy198, hy199, hy200, hy201, hy202, hw⟩ | ⟨rfl, hy203, hy204, hy205, hy206, hy207, hy208, hw⟩
    · skip
      exact ((by have k0 := q_nlt hy18; have k1 := q_nle hy19; have k6 := q_lt hy182; have z0 : (0 : Int32).toInt = 0 := (by decide); have z7 : (7 : Int32).toInt = 7 := (by decide); omega) : False).elim
    · skip
      exact ((by have k0 := q_nlt hy18; have k1 := q_nle hy19; have k6 := q_nlt hy183; have k7 := q_le hy184; have z0 : (0 : Int32).toInt = 0 := (by decide); have z7 : (7 : Int32).toInt = 7 := (by decide); omega) : False).elim
    · skip
      exact ((by have k2 := q_nlt hy20; have k3 := q_nle hy21; have k8 := q_lt hy187; have z0 : (0 : Int32).toInt = 0 := (by decide); have z7 : (7 : Int32).toInt = 7 := (by decide); omega) : False).elim
    · skip
      exact ((by have k2 := q_nlt hy20; have k3 := q_nle hy21; have k8 := q_nlt hy190; have k9 := q_le hy191; have z0 : (0 : Int32).toInt = 0 := (by decide); have z7 : (7 : Int32).toInt = 7 := (by decide); omega) : False).elim
    · skip
      exact ((by have k4 := q_nlt hy22; have k5 := q_le hy23; have k10 := q_lt hy196; have z0 : (0 : Int32).toInt = 0 := (by decide); have z7 : (7 : Int32).toInt = 7 := (by decide); omega) : False).elim
    · skip
      obtain ⟨hP, hD⟩ := va_join (wr := []) (w1 := []) hP hD [0, 1] [] rfl rfl (by decide) (by decide) hk1 hFc (fun k q h => by simp at h) ⟨fun i j p q h => by simp at h, fun k q h => by simp at h⟩
      refine wt_c (v := (-1)) hw ?_
      refine lv_icmp_eq (tgt := 1540) hx hb dL_law_884 (by decide) (fun c_209 => ?_) (fun c_209 => absurd (by decide) c_209)
      exact law_end l C0 hS hl
    · skip
      exact ((by have k4 := q_nlt hy22; have k5 := q_le hy23; have k10 := q_nlt hy207; have k11 := q_nle hy208; have z0 : (0 : Int32).toInt = 0 := (by decide); have z7 : (7 : Int32).toInt = 7 := (by decide); omega) : False).elim
  · skip
    obtain ⟨hP, hD⟩ := va_join (wr := [(rM 0, .inr (8, [.ref (rM 1), .ref (rM 2), .int 0, .int 0, .int 0, .int (-1), .int 0, .int 0, .int 0, .int 0, .long 0, .ref (rM 3), .ref (rM 4), .ref (rM 5), .ref (rM 6), .ref (rM 7), .ref (rM 8), .ref (rM 9), .ref (rM 10), .ref (rM 11), .ref (rM 12), .ref (rM 13), .ref (rM 14), .ref (rM 15), .ref (rM 16), .ref (rM 17), .ref (rM 18), .ref (rM 19), .ref (rM 20), .ref (rM 21), .ref (rM 22), .ref (rM 23), .ref (rM 24), .int 0, .int 0, .int 0, .int 0, .int 0, .int 0, .int 0, .int 0, .int 0, .ref (rM 25), .ref (rM 26), .ref (rM 27), .int 0, .int 0, .ref (rM 28), .int 0, .ref (rM 29), .ref (rM 30), .ref (rM 31), .ref (rM 32), .ref (rM 33), .ref (rM 34), .ref (rM 35), .ref (rM 36), .int 0, .int 0, .int 0, .ref (rM 37), .ref (rM 38)])), (rM 4, .inl ((cM 4), 2, .inl (fM 4)))]) (w1 := []) hP hD [0, 1] [2, 3] rfl rfl (by decide) (by decide) hk1 hFc (fun k q h => by simp at h) ⟨fun i j p q h => by simp at h, fun k q h => by simp at h⟩
    refine wt_c (v := 0) hw ?_
    refine lv_aload_n hx hb dL_law_865 rfl (lv_at hl 1 rfl) ?_
    refine lv_aload_n hx hb dL_law_866 rfl (lv_at hl 3 rfl) ?_
    refine lv_iload_n hx hb dL_law_867 rfl (lv_at hl 0 rfl) ?_
    refine lv_iconst (v := 1) hx hb dL_law_868 (by decide) ?_
    refine lv_iadd hx hb dL_law_869 ?_
    refine wt_c (v := 1) (by decide) ?_
    refine va_sld hx hb hX hbl hbA hS (vin (by decide)) dL_law_870 ?_
    refine wt_c (v := xs 1) (congrArg xs (by decide)) ?_
    refine lv_aload_n hx hb dL_law_871 rfl (lv_at hl 3 rfl) ?_
    refine lv_iload_n hx hb dL_law_872 rfl (lv_at hl 0 rfl) ?_
    refine lv_iconst (v := 2) hx hb dL_law_873 (by decide) ?_
    refine lv_iadd hx hb dL_law_874 ?_
    refine wt_c (v := 2) (by decide) ?_
    refine va_sld hx hb hX hbl hbA hS (vin (by decide)) dL_law_875 ?_
    refine wt_c (v := xs 2) (congrArg xs (by decide)) ?_
    refine lv_aload_n hx hb dL_law_876 rfl (lv_at hl 3 rfl) ?_
    refine lv_iload_n hx hb dL_law_877 rfl (lv_at hl 0 rfl) ?_
    refine lv_iconst (v := 3) hx hb dL_law_878 (by decide) ?_
    refine lv_iadd hx hb dL_law_879 ?_
    refine wt_c (v := 3) (by decide) ?_
    refine va_sld hx hb hX hbl hbA hS (vin (by decide)) dL_law_880 ?_
    refine wt_c (v := xs 3) (congrArg xs (by decide)) ?_
    have hPc := hP.sub (ws' := [(rM 0, .inr (8, [.ref (rM 1), .ref (rM 2), .int 0, .int 0, .int 0, .int (-1), .int 0, .int 0, .int 0, .int 0, .long 0, .ref (rM 3), .ref (rM 4), .ref (rM 5), .ref (rM 6), .ref (rM 7), .ref (rM 8), .ref (rM 9), .ref (rM 10), .ref (rM 11), .ref (rM 12), .ref (rM 13), .ref (rM 14), .ref (rM 15), .ref (rM 16), .ref (rM 17), .ref (rM 18), .ref (rM 19), .ref (rM 20), .ref (rM 21), .ref (rM 22), .ref (rM 23), .ref (rM 24), .int 0, .int 0, .int 0, .int 0, .int 0, .int 0, .int 0, .int 0, .int 0, .ref (rM 25), .ref (rM 26), .ref (rM 27), .int 0, .int 0, .ref (rM 28), .int 0, .ref (rM 29), .ref (rM 30), .ref (rM 31), .ref (rM 32), .ref (rM 33), .ref (rM 34), .ref (rM 35), .ref (rM 36), .int 0, .int 0, .int 0, .ref (rM 37), .ref (rM 38)])), (rM 4, .inl ((cM 4), 2, .inl (fM 4)))]) [0, 1] rfl
    have hKc := hK.sub (tys' := [((cM 4), .int)]) [0] rfl
    have hDc := hD.sub (ws' := [(rM 0, .inr (8, [.ref (rM 1), .ref (rM 2), .int 0, .int 0, .int 0, .int (-1), .int 0, .int 0, .int 0, .int 0, .long 0, .ref (rM 3), .ref (rM 4), .ref (rM 5), .ref (rM 6), .ref (rM 7), .ref (rM 8), .ref (rM 9), .ref (rM 10), .ref (rM 11), .ref (rM 12), .ref (rM 13), .ref (rM 14), .ref (rM 15), .ref (rM 16), .ref (rM 17), .ref (rM 18), .ref (rM 19), .ref (rM 20), .ref (rM 21), .ref (rM 22), .ref (rM 23), .ref (rM 24), .int 0, .int 0, .int 0, .int 0, .int 0, .int 0, .int 0, .int 0, .int 0, .ref (rM 25), .ref (rM 26), .ref (rM 27), .int 0, .int 0, .ref (rM 28), .int 0, .ref (rM 29), .ref (rM 30), .ref (rM 31), .ref (rM 32), .ref (rM 33), .ref (rM 34), .ref (rM 35), .ref (rM 36), .int 0, .int 0, .int 0, .ref (rM 37), .ref (rM 38)])), (rM 4, .inl ((cM 4), 2, .inl (fM 4)))]) [0, 1] (by decide) rfl
    have hFc := va_free (wc := [(rM 0, .inr (8, [.ref (rM 1), .ref (rM 2), .int 0, .int 0, .int 0, .int (-1), .int 0, .int 0, .int 0, .int 0, .long 0, .ref (rM 3), .ref (rM 4), .ref (rM 5), .ref (rM 6), .ref (rM 7), .ref (rM 8), .ref (rM 9), .ref (rM 10), .ref (rM 11), .ref (rM 12), .ref (rM 13), .ref (rM 14), .ref (rM 15), .ref (rM 16), .ref (rM 17), .ref (rM 18), .ref (rM 19), .ref (rM 20), .ref (rM 21), .ref (rM 22), .ref (rM 23), .ref (rM 24), .int 0, .int 0, .int 0, .int 0, .int 0, .int 0, .int 0, .int 0, .int 0, .ref (rM 25), .ref (rM 26), .ref (rM 27), .int 0, .int 0, .ref (rM 28), .int 0, .ref (rM 29), .ref (rM 30), .ref (rM 31), .ref (rM 32), .ref (rM 33), .ref (rM 34), .ref (rM 35), .ref (rM 36), .int 0, .int 0, .int 0, .ref (rM 37), .ref (rM 38)])), (rM 4, .inl ((cM 4), 2, .inl (fM 4)))]) hD hS hA [0, 1] rfl
    refine va_calli (va_runV (As := [.int (xs 1), .int (xs 2), .int (xs 3)]) (rest := [.int 0]) ⟨hx, hb, hml, hown, hG⟩ (kX9_hum l dC dI rM cM (fM 4) (xs 1) (xs 2) (xs 3) H1.size hfM_4_0) (cwV 3 hG (goodV gw1632 gw1633 gw1634 gw138 gw1635) rfl rfl rfl hd_X9_hum ⟨(Nat.le_of_ble_eq_true rfl), (Nat.le_of_ble_eq_true rfl)⟩) ⟨fbW, va_recv hKc hPc (ci := 8) (q0 := 0) rfl rfl, pW_in hPc hKc hDc⟩ rfl rfl hl.1 rfl (lv_room (Nat.le_of_ble_eq_true rfl)) dL_law_881 ⟨(Nat.le_of_ble_eq_true rfl), (Nat.le_of_ble_eq_true rfl)⟩) hS (fun q _ h => hFc q h) hFc (fun r_211 u t H210 locs ht hvm hw hB hz1 hk1 hS => ?_)
    rcases hw with ⟨rfl, hy212, hw⟩ | ⟨rfl, hy213, hy214, hw⟩ | ⟨rfl, hy215, hy216, hy217, hw⟩ | ⟨rfl, hy218, hy219, hy220, hy221, hw⟩ | ⟨rfl, hy222, hy223, hy224, hy225, hy226, hw⟩ | ⟨rfl, hy227, hy228, hy229, hy230, hy231, hy232, hw⟩ | ⟨rfl, hy233, hy234, hy235, hy236, hy237, hy238, hw⟩
    · skip
      exact ((by have k0 := q_nlt hy24; have k1 := q_nle hy25; have k6 := q_lt hy212; have z0 : (0 : Int32).toInt = 0 := (by decide); have z7 : (7 : Int32).toInt = 7 := (by decide); omega) : False).elim
    · skip
      exact ((by have k0 := q_nlt hy24; have k1 := q_nle hy25; have k6 := q_nlt hy213; have k7 := q_le hy214; have z0 : (0 : Int32).toInt = 0 := (by decide); have z7 : (7 : Int32).toInt = 7 := (by decide); omega) : False).elim
    · skip
      exact ((by have k2 := q_nlt hy26; have k3 := q_nle hy27; have k8 := q_lt hy217; have z0 : (0 : Int32).toInt = 0 := (by decide); have z7 : (7 : Int32).toInt = 7 := (by decide); omega) : False).elim
    · skip
      exact ((by have k2 := q_nlt hy26; have k3 := q_nle hy27; have k8 := q_nlt hy220; have k9 := q_le hy221; have z0 : (0 : Int32).toInt = 0 := (by decide); have z7 : (7 : Int32).toInt = 7 := (by decide); omega) : False).elim
    · skip
      exact ((by have k4 := q_nlt hy28; have k5 := q_nle hy29; have k10 := q_lt hy226; have z0 : (0 : Int32).toInt = 0 := (by decide); have z7 : (7 : Int32).toInt = 7 := (by decide); omega) : False).elim
    · skip
      exact ((by have k4 := q_nlt hy28; have k5 := q_nle hy29; have k10 := q_nlt hy231; have k11 := q_le hy232; have z0 : (0 : Int32).toInt = 0 := (by decide); have z7 : (7 : Int32).toInt = 7 := (by decide); omega) : False).elim
    · skip
      obtain ⟨hP, hD⟩ := va_join (wr := []) (w1 := []) hP hD [0, 1] [] rfl rfl (by decide) (by decide) hk1 hFc (fun k q h => by simp at h) ⟨fun i j p q h => by simp at h, fun k q h => by simp at h⟩
      refine wt_c (v := 0) hw ?_
      refine lv_icmp_eq (tgt := 1540) hx hb dL_law_884 (by decide) (fun c_239 => ?_) (fun c_239 => absurd (by decide) c_239)
      exact law_end l C0 hS hl
set_option maxHeartbeats 4000000 in
set_option maxRecDepth 100000 in
theorem law_23 {p : Program} {e : Env} {s : State} {m : MethodId} {below : List Frame} {meth : Method} {c : Code} (l : Launch) {b : Nat} {xs : Nat → Int32} (C0 : lw_At p s m meth c b 6 xs) (dC : Nat → ClassId) (dI : Nat → Nat → Nat) (rX rM : Nat → Nat) (cX cM : Nat → ClassId) (fX fM : Nat → Nat → Int32) (gX gM : Nat → Nat → Int64) (hfM_4_0 : fM 4 0 = 0) (hfM_4_1 : fM 4 1 = 0) {H : Heap} {locs : List Loc} (hK : va_K (dC, dI) vwCl [((cM 4), .int)] s) (hP : va_P (dC, dI) vwCl [(rX 0, .inr (7, [.ref (rX 1), .int 0, .ref (rX 2), .ref (rX 55), .ref (rX 57), .ref (rX 30), .ref (rX 56), .ref (rX 36), .ref (rX 37), .ref (rX 38), .int 0, .ref (rX 51), .int 0, .ref (rX 52), .ref (rX 53), .ref (rX 54)])), (rX 55, .inr (3, [.int 1, .int 0, .int 0, .int 0, .ref (rX 20), .ref (rX 21), .ref (rX 22), .int 0, .ref (rX 23), .ref (rX 24), .ref (rX 25), .int 0, .ref (rX 28), .ref (rX 27)])), (rM 0, .inr (8, [.ref (rM 1), .ref (rM 2), .int 0, .int 0, .int 0, .int (-1), .int 0, .int 0, .int 0, .int 0, .long 0, .ref (rM 3), .ref (rM 4), .ref (rM 5), .ref (rM 6), .ref (rM 7), .ref (rM 8), .ref (rM 9), .ref (rM 10), .ref (rM 11), .ref (rM 12), .ref (rM 13), .ref (rM 14), .ref (rM 15), .ref (rM 16), .ref (rM 17), .ref (rM 18), .ref (rM 19), .ref (rM 20), .ref (rM 21), .ref (rM 22), .ref (rM 23), .ref (rM 24), .int 0, .int 0, .int 0, .int 0, .int 0, .int 0, .int 0, .int 0, .int 0, .ref (rM 25), .ref (rM 26), .ref (rM 27), .int 0, .int 0, .ref (rM 28), .int 0, .ref (rM 29), .ref (rM 30), .ref (rM 31), .ref (rM 32), .ref (rM 33), .ref (rM 34), .ref (rM 35), .ref (rM 36), .int 0, .int 0, .int 0, .ref (rM 37), .ref (rM 38)])), (rM 4, .inl ((cM 4), 2, .inl (fM 4)))] H) (hD : va_D (fun q : Nat => s.heap.size ≤ q) [(rX 0, .inr (7, [.ref (rX 1), .int 0, .ref (rX 2), .ref (rX 55), .ref (rX 57), .ref (rX 30), .ref (rX 56), .ref (rX 36), .ref (rX 37), .ref (rX 38), .int 0, .ref (rX 51), .int 0, .ref (rX 52), .ref (rX 53), .ref (rX 54)])), (rX 55, .inr (3, [.int 1, .int 0, .int 0, .int 0, .ref (rX 20), .ref (rX 21), .ref (rX 22), .int 0, .ref (rX 23), .ref (rX 24), .ref (rX 25), .int 0, .ref (rX 28), .ref (rX 27)])), (rM 0, .inr (8, [.ref (rM 1), .ref (rM 2), .int 0, .int 0, .int 0, .int (-1), .int 0, .int 0, .int 0, .int 0, .long 0, .ref (rM 3), .ref (rM 4), .ref (rM 5), .ref (rM 6), .ref (rM 7), .ref (rM 8), .ref (rM 9), .ref (rM 10), .ref (rM 11), .ref (rM 12), .ref (rM 13), .ref (rM 14), .ref (rM 15), .ref (rM 16), .ref (rM 17), .ref (rM 18), .ref (rM 19), .ref (rM 20), .ref (rM 21), .ref (rM 22), .ref (rM 23), .ref (rM 24), .int 0, .int 0, .int 0, .int 0, .int 0, .int 0, .int 0, .int 0, .int 0, .ref (rM 25), .ref (rM 26), .ref (rM 27), .int 0, .int 0, .ref (rM 28), .int 0, .ref (rM 29), .ref (rM 30), .ref (rM 31), .ref (rM 32), .ref (rM 33), .ref (rM 34), .ref (rM 35), .ref (rM 36), .int 0, .int 0, .int 0, .ref (rM 37), .ref (rM 38)])), (rM 4, .inl ((cM 4), 2, .inl (fM 4)))]) (hS : va_S (fun q : Nat => s.heap.size ≤ q) s.heap H locs) {ls : Array Slot} (hl : lv_has ls 4 [(3, .int 0), (2, .ref (rM 0)), (1, .ref (rX 0)), (0, .ref b)]) : W p l e room_1 s m #[Value.ref b] below meth c H locs 103 20190 (lw_Z below #[Value.ref b] s) (F0 m 889 ls []) := by
  obtain ⟨hx, hb, hr, hml, hown, hts, hX, hbl, hlocks, hgv⟩ := id C0
  have hown : s.vm.findClass RL = some m.cls := hown
  have hG : ∀ w ∈ GW, w.before _ s = true := fun w h => hts w (List.mem_filter.mp h).1
  have hA : ∀ q : Nat, s.heap.size ≤ q → (fun q : Nat => s.heap.size ≤ q) q := fun _ h => h
  have hbA : ¬ (fun q : Nat => s.heap.size ≤ q) b := Nat.not_le.mpr hbl
  refine lv_aload_n hx hb dL_law_889 rfl (lv_at hl 2 rfl) ?_
  have hPc := hP.sub (ws' := [(rX 0, .inr (7, [.ref (rX 1), .int 0, .ref (rX 2), .ref (rX 55), .ref (rX 57), .ref (rX 30), .ref (rX 56), .ref (rX 36), .ref (rX 37), .ref (rX 38), .int 0, .ref (rX 51), .int 0, .ref (rX 52), .ref (rX 53), .ref (rX 54)])), (rX 55, .inr (3, [.int 1, .int 0, .int 0, .int 0, .ref (rX 20), .ref (rX 21), .ref (rX 22), .int 0, .ref (rX 23), .ref (rX 24), .ref (rX 25), .int 0, .ref (rX 28), .ref (rX 27)]))]) [0, 1] rfl
  have hKc := hK.sub (tys' := []) [] rfl
  have hDc := hD.sub (ws' := [(rX 0, .inr (7, [.ref (rX 1), .int 0, .ref (rX 2), .ref (rX 55), .ref (rX 57), .ref (rX 30), .ref (rX 56), .ref (rX 36), .ref (rX 37), .ref (rX 38), .int 0, .ref (rX 51), .int 0, .ref (rX 52), .ref (rX 53), .ref (rX 54)])), (rX 55, .inr (3, [.int 1, .int 0, .int 0, .int 0, .ref (rX 20), .ref (rX 21), .ref (rX 22), .int 0, .ref (rX 23), .ref (rX 24), .ref (rX 25), .int 0, .ref (rX 28), .ref (rX 27)]))]) [0, 1] (by decide) rfl
  have hFc := va_free (wc := [(rX 0, .inr (7, [.ref (rX 1), .int 0, .ref (rX 2), .ref (rX 55), .ref (rX 57), .ref (rX 30), .ref (rX 56), .ref (rX 36), .ref (rX 37), .ref (rX 38), .int 0, .ref (rX 51), .int 0, .ref (rX 52), .ref (rX 53), .ref (rX 54)])), (rX 55, .inr (3, [.int 1, .int 0, .int 0, .int 0, .ref (rX 20), .ref (rX 21), .ref (rX 22), .int 0, .ref (rX 23), .ref (rX 24), .ref (rX 25), .int 0, .ref (rX 28), .ref (rX 27)]))]) hD hS hA [0, 1] rfl
  refine va_calli (va_runV (As := []) (rest := []) ⟨hx, hb, hml, hown, hG⟩ (kX8_spinsters l dC dI rX cX H.size ) (cwV 0 hG (goodV gw883 gw884 gw885 gw129 gw886) rfl rfl rfl hd_X8_spinsters ⟨(Nat.le_of_ble_eq_true rfl), (Nat.le_of_ble_eq_true rfl)⟩) ⟨fbW, va_recv hKc hPc (ci := 7) (q0 := 0) rfl rfl, pW_in hPc hKc hDc⟩ rfl rfl hl.1 rfl (lv_room (Nat.le_of_ble_eq_true rfl)) dL_law_890 ⟨(Nat.le_of_ble_eq_true rfl), (Nat.le_of_ble_eq_true rfl)⟩) hS (fun q _ h => hFc q h) hFc (fun r_2 u t H1 locs ht hvm hw hB hz1 hk1 hS => ?_)
  obtain ⟨hP, hD⟩ := va_join (wr := [(rM 0, .inr (8, [.ref (rM 1), .ref (rM 2), .int 0, .int 0, .int 0, .int (-1), .int 0, .int 0, .int 0, .int 0, .long 0, .ref (rM 3), .ref (rM 4), .ref (rM 5), .ref (rM 6), .ref (rM 7), .ref (rM 8), .ref (rM 9), .ref (rM 10), .ref (rM 11), .ref (rM 12), .ref (rM 13), .ref (rM 14), .ref (rM 15), .ref (rM 16), .ref (rM 17), .ref (rM 18), .ref (rM 19), .ref (rM 20), .ref (rM 21), .ref (rM 22), .ref (rM 23), .ref (rM 24), .int 0, .int 0, .int 0, .int 0, .int 0, .int 0, .int 0, .int 0, .int 0, .ref (rM 25), .ref (rM 26), .ref (rM 27), .int 0, .int 0, .ref (rM 28), .int 0, .ref (rM 29), .ref (rM 30), .ref (rM 31), .ref (rM 32), .ref (rM 33), .ref (rM 34), .ref (rM 35), .ref (rM 36), .int 0, .int 0, .int 0, .ref (rM 37), .ref (rM 38)])), (rM 4, .inl ((cM 4), 2, .inl (fM 4)))]) (w1 := []) hP hD [0, 1] [2, 3] rfl rfl (by decide) (by decide) hk1 hFc (fun k q h => by simp at h) ⟨fun i j p q h => by simp at h, fun k q h => by simp at h⟩
  refine wt_c (v := 0) hw ?_
  refine lv_aload_n hx hb dL_law_893 rfl (lv_at hl 1 rfl) ?_
  have hPc := hP.sub (ws' := [(rM 0, .inr (8, [.ref (rM 1), .ref (rM 2), .int 0, .int 0, .int 0, .int (-1), .int 0, .int 0, .int 0, .int 0, .long 0, .ref (rM 3), .ref (rM 4), .ref (rM 5), .ref (rM 6), .ref (rM 7), .ref (rM 8), .ref (rM 9), .ref (rM 10), .ref (rM 11), .ref (rM 12), .ref (rM 13), .ref (rM 14), .ref (rM 15), .ref (rM 16), .ref (rM 17), .ref (rM 18), .ref (rM 19), .ref (rM 20), .ref (rM 21), .ref (rM 22), .ref (rM 23), .ref (rM 24), .int 0, .int 0, .int 0, .int 0, .int 0, .int 0, .int 0, .int 0, .int 0, .ref (rM 25), .ref (rM 26), .ref (rM 27), .int 0, .int 0, .ref (rM 28), .int 0, .ref (rM 29), .ref (rM 30), .ref (rM 31), .ref (rM 32), .ref (rM 33), .ref (rM 34), .ref (rM 35), .ref (rM 36), .int 0, .int 0, .int 0, .ref (rM 37), .ref (rM 38)])), (rM 4, .inl ((cM 4), 2, .inl (fM 4)))]) [0, 1] rfl
  have hKc := hK.sub (tys' := [((cM 4), .int)]) [0] rfl
  have hDc := hD.sub (ws' := [(rM 0, .inr (8, [.ref (rM 1), .ref (rM 2), .int 0, .int 0, .int 0, .int (-1), .int 0, .int 0, .int 0, .int 0, .long 0, .ref (rM 3), .ref (rM 4), .ref (rM 5), .ref (rM 6), .ref (rM 7), .ref (rM 8), .ref (rM 9), .ref (rM 10), .ref (rM 11), .ref (rM 12), .ref (rM 13), .ref (rM 14), .ref (rM 15), .ref (rM 16), .ref (rM 17), .ref (rM 18), .ref (rM 19), .ref (rM 20), .ref (rM 21), .ref (rM 22), .ref (rM 23), .ref (rM 24), .int 0, .int 0, .int 0, .int 0, .int 0, .int 0, .int 0, .int 0, .int 0, .ref (rM 25), .ref (rM 26), .ref (rM 27), .int 0, .int 0, .ref (rM 28), .int 0, .ref (rM 29), .ref (rM 30), .ref (rM 31), .ref (rM 32), .ref (rM 33), .ref (rM 34), .ref (rM 35), .ref (rM 36), .int 0, .int 0, .int 0, .ref (rM 37), .ref (rM 38)])), (rM 4, .inl ((cM 4), 2, .inl (fM 4)))]) [0, 1] (by decide) rfl
  have hFc := va_free (wc := [(rM 0, .inr (8, [.ref (rM 1), .ref (rM 2), .int 0, .int 0, .int 0, .int (-1), .int 0, .int 0, .int 0, .int 0, .long 0, .ref (rM 3), .ref (rM 4), .ref (rM 5), .ref (rM 6), .ref (rM 7), .ref (rM 8), .ref (rM 9), .ref (rM 10), .ref (rM 11), .ref (rM 12), .ref (rM 13), .ref (rM 14), .ref (rM 15), .ref (rM 16), .ref (rM 17), .ref (rM 18), .ref (rM 19), .ref (rM 20), .ref (rM 21), .ref (rM 22), .ref (rM 23), .ref (rM 24), .int 0, .int 0, .int 0, .int 0, .int 0, .int 0, .int 0, .int 0, .int 0, .ref (rM 25), .ref (rM 26), .ref (rM 27), .int 0, .int 0, .ref (rM 28), .int 0, .ref (rM 29), .ref (rM 30), .ref (rM 31), .ref (rM 32), .ref (rM 33), .ref (rM 34), .ref (rM 35), .ref (rM 36), .int 0, .int 0, .int 0, .ref (rM 37), .ref (rM 38)])), (rM 4, .inl ((cM 4), 2, .inl (fM 4)))]) hD hS hA [0, 1] rfl
  refine va_calli (va_runV (As := []) (rest := [.int 0]) ⟨hx, hb, hml, hown, hG⟩ (kX9_spinsters l dC dI rM cM (fM 4) H1.size hfM_4_0) (cwV 0 hG (goodV gw1640 gw1641 gw1642 gw138 gw1643) rfl rfl rfl hd_X9_spinsters ⟨(Nat.le_of_ble_eq_true rfl), (Nat.le_of_ble_eq_true rfl)⟩) ⟨fbW, va_recv hKc hPc (ci := 8) (q0 := 0) rfl rfl, pW_in hPc hKc hDc⟩ rfl rfl hl.1 rfl (lv_room (Nat.le_of_ble_eq_true rfl)) dL_law_894 ⟨(Nat.le_of_ble_eq_true rfl), (Nat.le_of_ble_eq_true rfl)⟩) hS (fun q _ h => hFc q h) hFc (fun r_4 u t H3 locs ht hvm hw hB hz1 hk1 hS => ?_)
  obtain ⟨hP, hD⟩ := va_join (wr := []) (w1 := []) hP hD [0, 1] [] rfl rfl (by decide) (by decide) hk1 hFc (fun k q h => by simp at h) ⟨fun i j p q h => by simp at h, fun k q h => by simp at h⟩
  refine wt_c (v := 0) hw ?_
  refine lv_icmp_eq (tgt := 1540) hx hb dL_law_897 (by decide) (fun c_5 => ?_) (fun c_5 => absurd (by decide) c_5)
  exact law_end l C0 hS hl
