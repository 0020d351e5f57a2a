set_option maxHeartbeats 4000000 in
set_option maxRecDepth 100000 in
theorem law_36 {p : Program} {e : Env} {s : State} {m : MethodId} {below : List Frame} {meth : Method} {c : Code} (l : Launch) {b : Nat} {xs : Nat → Int32} (C0 : lw_At p s m meth c b 6 xs) (dC : Nat → ClassId) (dI : Nat → Nat → Nat) (rX rM : Nat → Nat) (cX cM : Nat → ClassId) (fX fM : Nat → Nat → Int32) (gX gM : Nat → Nat → Int64) (hfM_4_0 : fM 4 0 = 0) (hfM_4_1 : fM 4 1 = 0) {H : Heap} {locs : List Loc} (hK : va_K (dC, dI) vwCl [((cM 4), .int)] s) (hP : va_P (dC, dI) vwCl [(rX 0, .inr (7, [.ref (rX 1), .int 0, .ref (rX 2), .ref (rX 55), .ref (rX 57), .ref (rX 30), .ref (rX 56), .ref (rX 36), .ref (rX 37), .ref (rX 38), .int 0, .ref (rX 51), .int 0, .ref (rX 52), .ref (rX 53), .ref (rX 54)])), (rX 55, .inr (3, [.int 1, .int 0, .int 0, .int 0, .ref (rX 20), .ref (rX 21), .ref (rX 22), .int 0, .ref (rX 23), .ref (rX 24), .ref (rX 25), .int 0, .ref (rX 28), .ref (rX 27)])), (rM 0, .inr (8, [.ref (rM 1), .ref (rM 2), .int 0, .int 0, .int 0, .int (-1), .int 0, .int 0, .int 0, .int 0, .long 0, .ref (rM 3), .ref (rM 4), .ref (rM 5), .ref (rM 6), .ref (rM 7), .ref (rM 8), .ref (rM 9), .ref (rM 10), .ref (rM 11), .ref (rM 12), .ref (rM 13), .ref (rM 14), .ref (rM 15), .ref (rM 16), .ref (rM 17), .ref (rM 18), .ref (rM 19), .ref (rM 20), .ref (rM 21), .ref (rM 22), .ref (rM 23), .ref (rM 24), .int 0, .int 0, .int 0, .int 0, .int 0, .int 0, .int 0, .int 0, .int 0, .ref (rM 25), .ref (rM 26), .ref (rM 27), .int 0, .int 0, .ref (rM 28), .int 0, .ref (rM 29), .ref (rM 30), .ref (rM 31), .ref (rM 32), .ref (rM 33), .ref (rM 34), .ref (rM 35), .ref (rM 36), .int 0, .int 0, .int 0, .ref (rM 37), .ref (rM 38)])), (rM 4, .inl ((cM 4), 2, .inl (fM 4)))] H) (hD : va_D (fun q : Nat => s.heap.size ≤ q) [(rX 0, .inr (7, [.ref (rX 1), .int 0, .ref (rX 2), .ref (rX 55), .ref (rX 57), .ref (rX 30), .ref (rX 56), .ref (rX 36), .ref (rX 37), .ref (rX 38), .int 0, .ref (rX 51), .int 0, .ref (rX 52), .ref (rX 53), .ref (rX 54)])), (rX 55, .inr (3, [.int 1, .int 0, .int 0, .int 0, .ref (rX 20), .ref (rX 21), .ref (rX 22), .int 0, .ref (rX 23), .ref (rX 24), .ref (rX 25), .int 0, .ref (rX 28), .ref (rX 27)])), (rM 0, .inr (8, [.ref (rM 1), .ref (rM 2), .int 0, .int 0, .int 0, .int (-1), .int 0, .int 0, .int 0, .int 0, .long 0, .ref (rM 3), .ref (rM 4), .ref (rM 5), .ref (rM 6), .ref (rM 7), .ref (rM 8), .ref (rM 9), .ref (rM 10), .ref (rM 11), .ref (rM 12), .ref (rM 13), .ref (rM 14), .ref (rM 15), .ref (rM 16), .ref (rM 17), .ref (rM 18), .ref (rM 19), .ref (rM 20), .ref (rM 21), .ref (rM 22), .ref (rM 23), .ref (rM 24), .int 0, .int 0, .int 0, .int 0, .int 0, .int 0, .int 0, .int 0, .int 0, .ref (rM 25), .ref (rM 26), .ref (rM 27), .int 0, .int 0, .ref (rM 28), .int 0, .ref (rM 29), .ref (rM 30), .ref (rM 31), .ref (rM 32), .ref (rM 33), .ref (rM 34), .ref (rM 35), .ref (rM 36), .int 0, .int 0, .int 0, .ref (rM 37), .ref (rM 38)])), (rM 4, .inl ((cM 4), 2, .inl (fM 4)))]) (hS : va_S (fun q : Nat => s.heap.size ≤ q) s.heap H locs) {ls : Array Slot} (hl : lv_has ls 4 [(3, .int 0), (2, .ref (rM 0)), (1, .ref (rX 0)), (0, .ref b)]) : W p l e room_1 s m #[Value.ref b] below meth c H locs 103 20190 (lw_Z below #[Value.ref b] s) (F0 m 1208 ls []) := by
  obtain ⟨hx, hb, hr, hml, hown, hts, hX, hbl, hlocks, hgv⟩ := id C0
  have hown : s.vm.findClass RL = some m.cls := hown
  have hG : ∀ w ∈ GW, w.before _ s = true := fun w h => hts w (List.mem_filter.mp h).1
  have hA : ∀ q : Nat, s.heap.size ≤ q → (fun q : Nat => s.heap.size ≤ q) q := fun _ h => h
  have hbA : ¬ (fun q : Nat => s.heap.size ≤ q) b := Nat.not_le.mpr hbl
  refine lv_aload_n hx hb dL_law_1208 rfl (lv_at hl 2 rfl) ?_
  have hPc := hP.sub (ws' := [(rX 0, .inr (7, [.ref (rX 1), .int 0, .ref (rX 2), .ref (rX 55), .ref (rX 57), .ref (rX 30), .ref (rX 56), .ref (rX 36), .ref (rX 37), .ref (rX 38), .int 0, .ref (rX 51), .int 0, .ref (rX 52), .ref (rX 53), .ref (rX 54)])), (rX 55, .inr (3, [.int 1, .int 0, .int 0, .int 0, .ref (rX 20), .ref (rX 21), .ref (rX 22), .int 0, .ref (rX 23), .ref (rX 24), .ref (rX 25), .int 0, .ref (rX 28), .ref (rX 27)]))]) [0, 1] rfl
  have hKc := hK.sub (tys' := []) [] rfl
  have hDc := hD.sub (ws' := [(rX 0, .inr (7, [.ref (rX 1), .int 0, .ref (rX 2), .ref (rX 55), .ref (rX 57), .ref (rX 30), .ref (rX 56), .ref (rX 36), .ref (rX 37), .ref (rX 38), .int 0, .ref (rX 51), .int 0, .ref (rX 52), .ref (rX 53), .ref (rX 54)])), (rX 55, .inr (3, [.int 1, .int 0, .int 0, .int 0, .ref (rX 20), .ref (rX 21), .ref (rX 22), .int 0, .ref (rX 23), .ref (rX 24), .ref (rX 25), .int 0, .ref (rX 28), .ref (rX 27)]))]) [0, 1] (by decide) rfl
  have hFc := va_free (wc := [(rX 0, .inr (7, [.ref (rX 1), .int 0, .ref (rX 2), .ref (rX 55), .ref (rX 57), .ref (rX 30), .ref (rX 56), .ref (rX 36), .ref (rX 37), .ref (rX 38), .int 0, .ref (rX 51), .int 0, .ref (rX 52), .ref (rX 53), .ref (rX 54)])), (rX 55, .inr (3, [.int 1, .int 0, .int 0, .int 0, .ref (rX 20), .ref (rX 21), .ref (rX 22), .int 0, .ref (rX 23), .ref (rX 24), .ref (rX 25), .int 0, .ref (rX 28), .ref (rX 27)]))]) hD hS hA [0, 1] rfl
  refine va_calli (va_runV (As := []) (rest := []) ⟨hx, hb, hml, hown, hG⟩ (kX8_earned l dC dI rX cX H.size ) (cwV 0 hG (goodV gw989 gw990 gw991 gw129 gw992) rfl rfl rfl hd_X8_earned ⟨(Nat.le_of_ble_eq_true rfl), (Nat.le_of_ble_eq_true rfl)⟩) ⟨fbW, va_recv hKc hPc (ci := 7) (q0 := 0) rfl rfl, pW_in hPc hKc hDc⟩ rfl rfl hl.1 rfl (lv_room (Nat.le_of_ble_eq_true rfl)) dL_law_1209 ⟨(Nat.le_of_ble_eq_true rfl), (Nat.le_of_ble_eq_true rfl)⟩) hS (fun q _ h => hFc q h) hFc (fun r_2 u t H1 locs ht hvm hw hB hz1 hk1 hS => ?_)
  obtain ⟨hP, hD⟩ := va_join (wr := [(rM 0, .inr (8, [.ref (rM 1), .ref (rM 2), .int 0, .int 0, .int 0, .int (-1), .int 0, .int 0, .int 0, .int 0, .long 0, .ref (rM 3), .ref (rM 4), .ref (rM 5), .ref (rM 6), .ref (rM 7), .ref (rM 8), .ref (rM 9), .ref (rM 10), .ref (rM 11), .ref (rM 12), .ref (rM 13), .ref (rM 14), .ref (rM 15), .ref (rM 16), .ref (rM 17), .ref (rM 18), .ref (rM 19), .ref (rM 20), .ref (rM 21), .ref (rM 22), .ref (rM 23), .ref (rM 24), .int 0, .int 0, .int 0, .int 0, .int 0, .int 0, .int 0, .int 0, .int 0, .ref (rM 25), .ref (rM 26), .ref (rM 27), .int 0, .int 0, .ref (rM 28), .int 0, .ref (rM 29), .ref (rM 30), .ref (rM 31), .ref (rM 32), .ref (rM 33), .ref (rM 34), .ref (rM 35), .ref (rM 36), .int 0, .int 0, .int 0, .ref (rM 37), .ref (rM 38)])), (rM 4, .inl ((cM 4), 2, .inl (fM 4)))]) (w1 := []) hP hD [0, 1] [2, 3] rfl rfl (by decide) (by decide) hk1 hFc (fun k q h => by simp at h) ⟨fun i j p q h => by simp at h, fun k q h => by simp at h⟩
  refine wt_c (v := 0) hw ?_
  refine lv_aload_n hx hb dL_law_1212 rfl (lv_at hl 1 rfl) ?_
  have hPc := hP.sub (ws' := [(rM 0, .inr (8, [.ref (rM 1), .ref (rM 2), .int 0, .int 0, .int 0, .int (-1), .int 0, .int 0, .int 0, .int 0, .long 0, .ref (rM 3), .ref (rM 4), .ref (rM 5), .ref (rM 6), .ref (rM 7), .ref (rM 8), .ref (rM 9), .ref (rM 10), .ref (rM 11), .ref (rM 12), .ref (rM 13), .ref (rM 14), .ref (rM 15), .ref (rM 16), .ref (rM 17), .ref (rM 18), .ref (rM 19), .ref (rM 20), .ref (rM 21), .ref (rM 22), .ref (rM 23), .ref (rM 24), .int 0, .int 0, .int 0, .int 0, .int 0, .int 0, .int 0, .int 0, .int 0, .ref (rM 25), .ref (rM 26), .ref (rM 27), .int 0, .int 0, .ref (rM 28), .int 0, .ref (rM 29), .ref (rM 30), .ref (rM 31), .ref (rM 32), .ref (rM 33), .ref (rM 34), .ref (rM 35), .ref (rM 36), .int 0, .int 0, .int 0, .ref (rM 37), .ref (rM 38)])), (rM 4, .inl ((cM 4), 2, .inl (fM 4)))]) [0, 1] rfl
  have hKc := hK.sub (tys' := [((cM 4), .int)]) [0] rfl
  have hDc := hD.sub (ws' := [(rM 0, .inr (8, [.ref (rM 1), .ref (rM 2), .int 0, .int 0, .int 0, .int (-1), .int 0, .int 0, .int 0, .int 0, .long 0, .ref (rM 3), .ref (rM 4), .ref (rM 5), .ref (rM 6), .ref (rM 7), .ref (rM 8), .ref (rM 9), .ref (rM 10), .ref (rM 11), .ref (rM 12), .ref (rM 13), .ref (rM 14), .ref (rM 15), .ref (rM 16), .ref (rM 17), .ref (rM 18), .ref (rM 19), .ref (rM 20), .ref (rM 21), .ref (rM 22), .ref (rM 23), .ref (rM 24), .int 0, .int 0, .int 0, .int 0, .int 0, .int 0, .int 0, .int 0, .int 0, .ref (rM 25), .ref (rM 26), .ref (rM 27), .int 0, .int 0, .ref (rM 28), .int 0, .ref (rM 29), .ref (rM 30), .ref (rM 31), .ref (rM 32), .ref (rM 33), .ref (rM 34), .ref (rM 35), .ref (rM 36), .int 0, .int 0, .int 0, .ref (rM 37), .ref (rM 38)])), (rM 4, .inl ((cM 4), 2, .inl (fM 4)))]) [0, 1] (by decide) rfl
  have hFc := va_free (wc := [(rM 0, .inr (8, [.ref (rM 1), .ref (rM 2), .int 0, .int 0, .int 0, .int (-1), .int 0, .int 0, .int 0, .int 0, .long 0, .ref (rM 3), .ref (rM 4), .ref (rM 5), .ref (rM 6), .ref (rM 7), .ref (rM 8), .ref (rM 9), .ref (rM 10), .ref (rM 11), .ref (rM 12), .ref (rM 13), .ref (rM 14), .ref (rM 15), .ref (rM 16), .ref (rM 17), .ref (rM 18), .ref (rM 19), .ref (rM 20), .ref (rM 21), .ref (rM 22), .ref (rM 23), .ref (rM 24), .int 0, .int 0, .int 0, .int 0, .int 0, .int 0, .int 0, .int 0, .int 0, .ref (rM 25), .ref (rM 26), .ref (rM 27), .int 0, .int 0, .ref (rM 28), .int 0, .ref (rM 29), .ref (rM 30), .ref (rM 31), .ref (rM 32), .ref (rM 33), .ref (rM 34), .ref (rM 35), .ref (rM 36), .int 0, .int 0, .int 0, .ref (rM 37), .ref (rM 38)])), (rM 4, .inl ((cM 4), 2, .inl (fM 4)))]) hD hS hA [0, 1] rfl
  refine va_calli (va_runV (As := []) (rest := [.int 0]) ⟨hx, hb, hml, hown, hG⟩ (kX9_earned l dC dI rM cM (fM 4) H1.size hfM_4_0) (cwV 0 hG (goodV gw1676 gw1677 gw1678 gw138 gw1679) rfl rfl rfl hd_X9_earned ⟨(Nat.le_of_ble_eq_true rfl), (Nat.le_of_ble_eq_true rfl)⟩) ⟨fbW, va_recv hKc hPc (ci := 8) (q0 := 0) rfl rfl, pW_in hPc hKc hDc⟩ rfl rfl hl.1 rfl (lv_room (Nat.le_of_ble_eq_true rfl)) dL_law_1213 ⟨(Nat.le_of_ble_eq_true rfl), (Nat.le_of_ble_eq_true rfl)⟩) hS (fun q _ h => hFc q h) hFc (fun r_4 u t H3 locs ht hvm hw hB hz1 hk1 hS => ?_)
  obtain ⟨hP, hD⟩ := va_join (wr := []) (w1 := []) hP hD [0, 1] [] rfl rfl (by decide) (by decide) hk1 hFc (fun k q h => by simp at h) ⟨fun i j p q h => by simp at h, fun k q h => by simp at h⟩
  refine wt_c (v := 0) hw ?_
  refine lv_icmp_eq (tgt := 1540) hx hb dL_law_1216 (by decide) (fun c_5 => ?_) (fun c_5 => absurd (by decide) c_5)
  exact law_end l C0 hS hl
set_option maxHeartbeats 4000000 in
set_option maxRecDepth 100000 in
theorem law_37 {p : Program} {e : Env} {s : State} {m : MethodId} {below : List Frame} {meth : Method} {c : Code} (l : Launch) {b : Nat} {xs : Nat → Int32} (C0 : lw_At p s m meth c b 6 xs) (dC : Nat → ClassId) (dI : Nat → Nat → Nat) (rX rM : Nat → Nat) (cX cM : Nat → ClassId) (fX fM : Nat → Nat → Int32) (gX gM : Nat → Nat → Int64) (hfM_7_0 : fM 7 0 = 0) (hfM_7_1 : fM 7 1 = 0) {H : Heap} {locs : List Loc} (hK : va_K (dC, dI) vwCl [((cM 7), .int)] s) (hP : va_P (dC, dI) vwCl [(rX 0, .inr (7, [.ref (rX 1), .int 0, .ref (rX 2), .ref (rX 55), .ref (rX 57), .ref (rX 30), .ref (rX 56), .ref (rX 36), .ref (rX 37), .ref (rX 38), .int 0, .ref (rX 51), .int 0, .ref (rX 52), .ref (rX 53), .ref (rX 54)])), (rX 55, .inr (3, [.int 1, .int 0, .int 0, .int 0, .ref (rX 20), .ref (rX 21), .ref (rX 22), .int 0, .ref (rX 23), .ref (rX 24), .ref (rX 25), .int 0, .ref (rX 28), .ref (rX 27)])), (rM 0, .inr (8, [.ref (rM 1), .ref (rM 2), .int 0, .int 0, .int 0, .int (-1), .int 0, .int 0, .int 0, .int 0, .long 0, .ref (rM 3), .ref (rM 4), .ref (rM 5), .ref (rM 6), .ref (rM 7), .ref (rM 8), .ref (rM 9), .ref (rM 10), .ref (rM 11), .ref (rM 12), .ref (rM 13), .ref (rM 14), .ref (rM 15), .ref (rM 16), .ref (rM 17), .ref (rM 18), .ref (rM 19), .ref (rM 20), .ref (rM 21), .ref (rM 22), .ref (rM 23), .ref (rM 24), .int 0, .int 0, .int 0, .int 0, .int 0, .int 0, .int 0, .int 0, .int 0, .ref (rM 25), .ref (rM 26), .ref (rM 27), .int 0, .int 0, .ref (rM 28), .int 0, .ref (rM 29), .ref (rM 30), .ref (rM 31), .ref (rM 32), .ref (rM 33), .ref (rM 34), .ref (rM 35), .ref (rM 36), .int 0, .int 0, .int 0, .ref (rM 37), .ref (rM 38)])), (rM 7, .inl ((cM 7), 2, .inl (fM 7)))] H) (hD : va_D (fun q : Nat => s.heap.size ≤ q) [(rX 0, .inr (7, [.ref (rX 1), .int 0, .ref (rX 2), .ref (rX 55), .ref (rX 57), .ref (rX 30), .ref (rX 56), .ref (rX 36), .ref (rX 37), .ref (rX 38), .int 0, .ref (rX 51), .int 0, .ref (rX 52), .ref (rX 53), .ref (rX 54)])), (rX 55, .inr (3, [.int 1, .int 0, .int 0, .int 0, .ref (rX 20), .ref (rX 21), .ref (rX 22), .int 0, .ref (rX 23), .ref (rX 24), .ref (rX 25), .int 0, .ref (rX 28), .ref (rX 27)])), (rM 0, .inr (8, [.ref (rM 1), .ref (rM 2), .int 0, .int 0, .int 0, .int (-1), .int 0, .int 0, .int 0, .int 0, .long 0, .ref (rM 3), .ref (rM 4), .ref (rM 5), .ref (rM 6), .ref (rM 7), .ref (rM 8), .ref (rM 9), .ref (rM 10), .ref (rM 11), .ref (rM 12), .ref (rM 13), .ref (rM 14), .ref (rM 15), .ref (rM 16), .ref (rM 17), .ref (rM 18), .ref (rM 19), .ref (rM 20), .ref (rM 21), .ref (rM 22), .ref (rM 23), .ref (rM 24), .int 0, .int 0, .int 0, .int 0, .int 0, .int 0, .int 0, .int 0, .int 0, .ref (rM 25), .ref (rM 26), .ref (rM 27), .int 0, .int 0, .ref (rM 28), .int 0, .ref (rM 29), .ref (rM 30), .ref (rM 31), .ref (rM 32), .ref (rM 33), .ref (rM 34), .ref (rM 35), .ref (rM 36), .int 0, .int 0, .int 0, .ref (rM 37), .ref (rM 38)])), (rM 7, .inl ((cM 7), 2, .inl (fM 7)))]) (hS : va_S (fun q : Nat => s.heap.size ≤ q) s.heap H locs) {ls : Array Slot} (hl : lv_has ls 4 [(3, .int 0), (2, .ref (rM 0)), (1, .ref (rX 0)), (0, .ref b)]) : W p l e room_1 s m #[Value.ref b] below meth c H locs 103 20190 (lw_Z below #[Value.ref b] s) (F0 m 1221 ls []) := by
  obtain ⟨hx, hb, hr, hml, hown, hts, hX, hbl, hlocks, hgv⟩ := id C0
  have hown : s.vm.findClass RL = some m.cls := hown
  have hG : ∀ w ∈ GW, w.before _ s = true := fun w h => hts w (List.mem_filter.mp h).1
  have hA : ∀ q : Nat, s.heap.size ≤ q → (fun q : Nat => s.heap.size ≤ q) q := fun _ h => h
  have hbA : ¬ (fun q : Nat => s.heap.size ≤ q) b := Nat.not_le.mpr hbl
  refine lv_aload_n hx hb dL_law_1221 rfl (lv_at hl 2 rfl) ?_
  refine lv_aload_n hx hb dL_law_1222 rfl (lv_at hl 3 rfl) ?_
  refine lv_iload_n hx hb dL_law_1223 rfl (lv_at hl 0 rfl) ?_
  refine lv_iconst (v := 1) hx hb dL_law_1224 (by decide) ?_
  refine lv_iadd hx hb dL_law_1225 ?_
  refine wt_c (v := 1) (by decide) ?_
  refine va_sld hx hb hX hbl hbA hS (vin (by decide)) dL_law_1226 ?_
  refine wt_c (v := xs 1) (congrArg xs (by decide)) ?_
  refine lv_aload_n hx hb dL_law_1227 rfl (lv_at hl 3 rfl) ?_
  refine lv_iload_n hx hb dL_law_1228 rfl (lv_at hl 0 rfl) ?_
  refine lv_iconst (v := 2) hx hb dL_law_1229 (by decide) ?_
  refine lv_iadd hx hb dL_law_1230 ?_
  refine wt_c (v := 2) (by decide) ?_
  refine va_sld hx hb hX hbl hbA hS (vin (by decide)) dL_law_1231 ?_
  refine wt_c (v := xs 2) (congrArg xs (by decide)) ?_
  have hPc := hP.sub (ws' := [(rX 0, .inr (7, [.ref (rX 1), .int 0, .ref (rX 2), .ref (rX 55), .ref (rX 57), .ref (rX 30), .ref (rX 56), .ref (rX 36), .ref (rX 37), .ref (rX 38), .int 0, .ref (rX 51), .int 0, .ref (rX 52), .ref (rX 53), .ref (rX 54)])), (rX 55, .inr (3, [.int 1, .int 0, .int 0, .int 0, .ref (rX 20), .ref (rX 21), .ref (rX 22), .int 0, .ref (rX 23), .ref (rX 24), .ref (rX 25), .int 0, .ref (rX 28), .ref (rX 27)]))]) [0, 1] rfl
  have hKc := hK.sub (tys' := []) [] rfl
  have hDc := hD.sub (ws' := [(rX 0, .inr (7, [.ref (rX 1), .int 0, .ref (rX 2), .ref (rX 55), .ref (rX 57), .ref (rX 30), .ref (rX 56), .ref (rX 36), .ref (rX 37), .ref (rX 38), .int 0, .ref (rX 51), .int 0, .ref (rX 52), .ref (rX 53), .ref (rX 54)])), (rX 55, .inr (3, [.int 1, .int 0, .int 0, .int 0, .ref (rX 20), .ref (rX 21), .ref (rX 22), .int 0, .ref (rX 23), .ref (rX 24), .ref (rX 25), .int 0, .ref (rX 28), .ref (rX 27)]))]) [0, 1] (by decide) rfl
  have hFc := va_free (wc := [(rX 0, .inr (7, [.ref (rX 1), .int 0, .ref (rX 2), .ref (rX 55), .ref (rX 57), .ref (rX 30), .ref (rX 56), .ref (rX 36), .ref (rX 37), .ref (rX 38), .int 0, .ref (rX 51), .int 0, .ref (rX 52), .ref (rX 53), .ref (rX 54)])), (rX 55, .inr (3, [.int 1, .int 0, .int 0, .int 0, .ref (rX 20), .ref (rX 21), .ref (rX 22), .int 0, .ref (rX 23), .ref (rX 24), .ref (rX 25), .int 0, .ref (rX 28), .ref (rX 27)]))]) hD hS hA [0, 1] rfl
  refine va_calli (va_runV (As := [.int (xs 1), .int (xs 2)]) (rest := []) ⟨hx, hb, hml, hown, hG⟩ (kX8_odds l dC dI rX cX (xs 1) (xs 2) H.size ) (cwV 2 hG (goodV gw1042 gw1043 gw1044 gw129 gw1045) rfl rfl rfl hd_X8_odds ⟨(Nat.le_of_ble_eq_true rfl), (Nat.le_of_ble_eq_true rfl)⟩) ⟨fbW, va_recv hKc hPc (ci := 7) (q0 := 0) rfl rfl, pW_in hPc hKc hDc⟩ rfl rfl hl.1 rfl (lv_room (Nat.le_of_ble_eq_true rfl)) dL_law_1232 ⟨(Nat.le_of_ble_eq_true rfl), (Nat.le_of_ble_eq_true rfl)⟩) hS (fun q _ h => hFc q h) hFc (fun r_2 u t H1 locs ht hvm hw hB hz1 hk1 hS => ?_)
  rcases hw with ⟨rfl, hy3, hw⟩ | ⟨rfl, hy4, hy5, hw⟩ | ⟨rfl, hy6, hy7, hy8, hw⟩ | ⟨rfl, hy9, hy10, hy11, hy12, hy13, hy14, hw⟩ | ⟨rfl, hy15, hy16, hy17, hy18, hy19, hy20, hw⟩ | ⟨rfl, hy21, hy22, hy23, hy24, hy25, hy26, hy27, hw⟩ | ⟨rfl, hy28, hy29, hy30, hy31, hy32, hy33, hy34, hw⟩ | ⟨rfl, hy35, hy36, hy37, hy38, hy39, hy40, hy41, hy42, hw⟩ | ⟨rfl, hy43, hy44, hy45, hy46, hy47, hy48, hy49, hy50, hw⟩ | ⟨rfl, hy51, hy52, hy53, hy54, hy55, hy56, hy57, hy58, hy59, hw⟩ | ⟨rfl, hy60, hy61, hy62, hy63, hy64, hy65, hy66, hy67, hy68, hw⟩ | ⟨rfl, hy69, hy70, hy71, hy72, hy73, hy74, hy75, hy76, hy77, hy78, hw⟩ | ⟨rfl, hy79, hy80, hy81, hy82, hy83, hy84, hy85, hy86, hy87, hy88, hw⟩ | ⟨rfl, hy89, hy90, hy91, hy92, hw⟩
  · skip
    obtain ⟨hP, hD⟩ := va_join (wr := [(rM 0, .inr (8, [.ref (rM 1), .ref (rM 2), .int 0, .int 0, .int 0, .int (-1), .int 0, .int 0, .int 0, .int 0, .long 0, .ref (rM 3), .ref (rM 4), .ref (rM 5), .ref (rM 6), .ref (rM 7), .ref (rM 8), .ref (rM 9), .ref (rM 10), .ref (rM 11), .ref (rM 12), .ref (rM 13), .ref (rM 14), .ref (rM 15), .ref (rM 16), .ref (rM 17), .ref (rM 18), .ref (rM 19), .ref (rM 20), .ref (rM 21), .ref (rM 22), .ref (rM 23), .ref (rM 24), .int 0, .int 0, .int 0, .int 0, .int 0, .int 0, .int 0, .int 0, .int 0, .ref (rM 25), .ref (rM 26), .ref (rM 27), .int 0, .int 0, .ref (rM 28), .int 0, .ref (rM 29), .ref (rM 30), .ref (rM 31), .ref (rM 32), .ref (rM 33), .ref (rM 34), .ref (rM 35), .ref (rM 36), .int 0, .int 0, .int 0, .ref (rM 37), .ref (rM 38)])), (rM 7, .inl ((cM 7), 2, .inl (fM 7)))]) (w1 := []) hP hD [0, 1] [2, 3] rfl rfl (by decide) (by decide) hk1 hFc (fun k q h => by simp at h) ⟨fun i j p q h => by simp at h, fun k q h => by simp at h⟩
    refine wt_c (v := (-1)) hw ?_
    refine lv_aload_n hx hb dL_law_1235 rfl (lv_at hl 1 rfl) ?_
    refine lv_aload_n hx hb dL_law_1236 rfl (lv_at hl 3 rfl) ?_
    refine lv_iload_n hx hb dL_law_1237 rfl (lv_at hl 0 rfl) ?_
    refine lv_iconst (v := 1) hx hb dL_law_1238 (by decide) ?_
    refine lv_iadd hx hb dL_law_1239 ?_
    refine wt_c (v := 1) (by decide) ?_
    refine va_sld hx hb hX hbl hbA hS (vin (by decide)) dL_law_1240 ?_
    refine wt_c (v := xs 1) (congrArg xs (by decide)) ?_
    refine lv_aload_n hx hb dL_law_1241 rfl (lv_at hl 3 rfl) ?_
    refine lv_iload_n hx hb dL_law_1242 rfl (lv_at hl 0 rfl) ?_
    refine lv_iconst (v := 2) hx hb dL_law_1243 (by decide) ?_
    refine lv_iadd hx hb dL_law_1244 ?_
    refine wt_c (v := 2) (by decide) ?_
    refine va_sld hx hb hX hbl hbA hS (vin (by decide)) dL_law_1245 ?_
    refine wt_c (v := xs 2) (congrArg xs (by decide)) ?_
    have hPc := hP.sub (ws' := [(rM 0, .inr (8, [.ref (rM 1), .ref (rM 2), .int 0, .int 0, .int 0, .int (-1), .int 0, .int 0, .int 0, .int 0, .long 0, .ref (rM 3), .ref (rM 4), .ref (rM 5), .ref (rM 6), .ref (rM 7), .ref (rM 8), .ref (rM 9), .ref (rM 10), .ref (rM 11), .ref (rM 12), .ref (rM 13), .ref (rM 14), .ref (rM 15), .ref (rM 16), .ref (rM 17), .ref (rM 18), .ref (rM 19), .ref (rM 20), .ref (rM 21), .ref (rM 22), .ref (rM 23), .ref (rM 24), .int 0, .int 0, .int 0, .int 0, .int 0, .int 0, .int 0, .int 0, .int 0, .ref (rM 25), .ref (rM 26), .ref (rM 27), .int 0, .int 0, .ref (rM 28), .int 0, .ref (rM 29), .ref (rM 30), .ref (rM 31), .ref (rM 32), .ref (rM 33), .ref (rM 34), .ref (rM 35), .ref (rM 36), .int 0, .int 0, .int 0, .ref (rM 37), .ref (rM 38)])), (rM 7, .inl ((cM 7), 2, .inl (fM 7)))]) [0, 1] rfl
    have hKc := hK.sub (tys' := [((cM 7), .int)]) [0] rfl
    have hDc := hD.sub (ws' := [(rM 0, .inr (8, [.ref (rM 1), .ref (rM 2), .int 0, .int 0, .int 0, .int (-1), .int 0, .int 0, .int 0, .int 0, .long 0, .ref (rM 3), .ref (rM 4), .ref (rM 5), .ref (rM 6), .ref (rM 7), .ref (rM 8), .ref (rM 9), .ref (rM 10), .ref (rM 11), .ref (rM 12), .ref (rM 13), .ref (rM 14), .ref (rM 15), .ref (rM 16), .ref (rM 17), .ref (rM 18), .ref (rM 19), .ref (rM 20), .ref (rM 21), .ref (rM 22), .ref (rM 23), .ref (rM 24), .int 0, .int 0, .int 0, .int 0, .int 0, .int 0, .int 0, .int 0, .int 0, .ref (rM 25), .ref (rM 26), .ref (rM 27), .int 0, .int 0, .ref (rM 28), .int 0, .ref (rM 29), .ref (rM 30), .ref (rM 31), .ref (rM 32), .ref (rM 33), .ref (rM 34), .ref (rM 35), .ref (rM 36), .int 0, .int 0, .int 0, .ref (rM 37), .ref (rM 38)])), (rM 7, .inl ((cM 7), 2, .inl (fM 7)))]) [0, 1] (by decide) rfl
    have hFc := va_free (wc := [(rM 0, .inr (8, [.ref (rM 1), .ref (rM 2), .int 0, .int 0, .int 0, .int (-1), .int 0, .int 0, .int 0, .int 0, .long 0, .ref (rM 3), .ref (rM 4), .ref (rM 5), .ref (rM 6), .ref (rM 7), .ref (rM 8), .ref (rM 9), .ref (rM 10), .ref (rM 11), .ref (rM 12), .ref (rM 13), .ref (rM 14), .ref (rM 15), .ref (rM 16), .ref (rM 17), .ref (rM 18), .ref (rM 19), .ref (rM 20), .ref (rM 21), .ref (rM 22), .ref (rM 23), .ref (rM 24), .int 0, .int 0, .int 0, .int 0, .int 0, .int 0, .int 0, .int 0, .int 0, .ref (rM 25), .ref (rM 26), .ref (rM 27), .int 0, .int 0, .ref (rM 28), .int 0, .ref (rM 29), .ref (rM 30), .ref (rM 31), .ref (rM 32), .ref (rM 33), .ref (rM 34), .ref (rM 35), .ref (rM 36), .int 0, .int 0, .int 0, .ref (rM 37), .ref (rM 38)])), (rM 7, .inl ((cM 7), 2, .inl (fM 7)))]) hD hS hA [0, 1] rfl
    refine va_calli (va_runV (As := [.int (xs 1), .int (xs 2)]) (rest := [.int (-1)]) ⟨hx, hb, hml, hown, hG⟩ (kX9_odds l dC dI rM cM (fM 7) (xs 1) (xs 2) H1.size hfM_7_0) (cwV 2 hG (goodV gw1810 gw1811 gw1812 gw138 gw1813) rfl rfl rfl hd_X9_odds ⟨(Nat.le_of_ble_eq_true rfl), (Nat.le_of_ble_eq_true rfl)⟩) ⟨fbW, va_recv hKc hPc (ci := 8) (q0 := 0) rfl rfl, pW_in hPc hKc hDc⟩ rfl rfl hl.1 rfl (lv_room (Nat.le_of_ble_eq_true rfl)) dL_law_1246 ⟨(Nat.le_of_ble_eq_true rfl), (Nat.le_of_ble_eq_true rfl)⟩) hS (fun q _ h => hFc q h) hFc (fun r_94 u t H93 locs ht hvm hw hB hz1 hk1 hS => ?_)
    rcases hw with ⟨rfl, hy95, hw⟩ | ⟨rfl, hy96, hy97, hw⟩ | ⟨rfl, hy98, hy99, hy100, hw⟩ | ⟨rfl, hy101, hy102, hy103, hy104, hw⟩ | ⟨rfl, hy105, hy106, hy107, hy108, hw⟩ | ⟨rfl, hy109, hy110, hy111, hy112, hw⟩ | ⟨rfl, hy113, hy114, hy115, hy116, hw⟩ | ⟨rfl, hy117, hy118, hy119, hy120, hw⟩ | ⟨rfl, hy121, hy122, hy123, hy124, hw⟩ | ⟨rfl, hy125, hy126, hy127, hy128, hw⟩ | ⟨rfl, hy129, hy130, hy131, hy132, hw⟩ | ⟨rfl, hy133, hy134, hy135, hy136, hw⟩ | ⟨rfl, hy137, hy138, hy139, hy140, hw⟩ | ⟨rfl, hy141, hy142, hy143, hy144, hw⟩
    · skip
      obtain ⟨hP, hD⟩ := va_join (wr := []) (w1 := []) hP hD [0, 1] [] rfl rfl (by decide) (by decide) hk1 hFc (fun k q h => by simp at h) ⟨fun i j p q h => by simp at h, fun k q h => by simp at h⟩
      refine wt_c (v := (-1)) hw ?_
      refine lv_icmp_eq (tgt := 1540) hx hb dL_law_1249 (by decide) (fun c_145 => ?_) (fun c_145 => absurd (by decide) c_145)
      exact law_end l C0 hS hl
    · skip
      exact ((by have k0 := q_lt hy3; have k1 := q_nlt hy96; have k2 := q_lt hy97; have z0 : (0 : Int32).toInt = 0 := (by decide); have z4 : (4 : Int32).toInt = 4 := (by decide); omega) : False).elim
    · skip
      exact ((by have k0 := q_lt hy3; have k1 := q_nlt hy98; have k2 := q_nlt hy99; have z0 : (0 : Int32).toInt = 0 := (by decide); have z4 : (4 : Int32).toInt = 4 := (by decide); omega) : False).elim
    · skip
      exact ((by have k0 := q_lt hy3; have k1 := q_nlt hy101; have k2 := q_nlt hy102; have z0 : (0 : Int32).toInt = 0 := (by decide); have z4 : (4 : Int32).toInt = 4 := (by decide); omega) : False).elim
    · skip
      exact ((by have k0 := q_lt hy3; have k1 := q_eq hy105; have z0 : (0 : Int32).toInt = 0 := (by decide); omega) : False).elim
    · skip
      exact ((by have k0 := q_lt hy3; have k1 := q_eq hy109; have z0 : (0 : Int32).toInt = 0 := (by decide); omega) : False).elim
    · skip
      exact ((by have k0 := q_lt hy3; have k1 := q_eq hy113; have z0 : (0 : Int32).toInt = 0 := (by decide); have z1 : (1 : Int32).toInt = 1 := (by decide); omega) : False).elim
    · skip
      exact ((by have k0 := q_lt hy3; have k1 := q_eq hy117; have z0 : (0 : Int32).toInt = 0 := (by decide); have z1 : (1 : Int32).toInt = 1 := (by decide); omega) : False).elim
    · skip
      exact ((by have k0 := q_lt hy3; have k1 := q_eq hy121; have z0 : (0 : Int32).toInt = 0 := (by decide); have z2 : (2 : Int32).toInt = 2 := (by decide); omega) : False).elim
    · skip
      exact ((by have k0 := q_lt hy3; have k1 := q_eq hy125; have z0 : (0 : Int32).toInt = 0 := (by decide); have z2 : (2 : Int32).toInt = 2 := (by decide); omega) : False).elim
    · skip
      exact ((by have k0 := q_lt hy3; have k1 := q_eq hy129; have z0 : (0 : Int32).toInt = 0 := (by decide); have z3 : (3 : Int32).toInt = 3 := (by decide); omega) : False).elim
    · skip
      exact ((by have k0 := q_lt hy3; have k1 := q_eq hy133; have z0 : (0 : Int32).toInt = 0 := (by decide); have z3 : (3 : Int32).toInt = 3 := (by decide); omega) : False).elim
    · skip
      exact ((by have k0 := q_lt hy3; have k1 := q_eq hy137; have z0 : (0 : Int32).toInt = 0 := (by decide); have z4 : (4 : Int32).toInt = 4 := (by decide); omega) : False).elim
    · skip
      exact ((by have k0 := q_lt hy3; have k1 := q_eq hy141; have z0 : (0 : Int32).toInt = 0 := (by decide); have z4 : (4 : Int32).toInt = 4 := (by decide); omega) : False).elim
  · skip
    obtain ⟨hP, hD⟩ := va_join (wr := [(rM 0, .inr (8, [.ref (rM 1), .ref (rM 2), .int 0, .int 0, .int 0, .int (-1), .int 0, .int 0, .int 0, .int 0, .long 0, .ref (rM 3), .ref (rM 4), .ref (rM 5), .ref (rM 6), .ref (rM 7), .ref (rM 8), .ref (rM 9), .ref (rM 10), .ref (rM 11), .ref (rM 12), .ref (rM 13), .ref (rM 14), .ref (rM 15), .ref (rM 16), .ref (rM 17), .ref (rM 18), .ref (rM 19), .ref (rM 20), .ref (rM 21), .ref (rM 22), .ref (rM 23), .ref (rM 24), .int 0, .int 0, .int 0, .int 0, .int 0, .int 0, .int 0, .int 0, .int 0, .ref (rM 25), .ref (rM 26), .ref (rM 27), .int 0, .int 0, .ref (rM 28), .int 0, .ref (rM 29), .ref (rM 30), .ref (rM 31), .ref (rM 32), .ref (rM 33), .ref (rM 34), .ref (rM 35), .ref (rM 36), .int 0, .int 0, .int 0, .ref (rM 37), .ref (rM 38)])), (rM 7, .inl ((cM 7), 2, .inl (fM 7)))]) (w1 := []) hP hD [0, 1] [2, 3] rfl rfl (by decide) (by decide) hk1 hFc (fun k q h => by simp at h) ⟨fun i j p q h => by simp at h, fun k q h => by simp at h⟩
    refine wt_c (v := (-1)) hw ?_
    refine lv_aload_n hx hb dL_law_1235 rfl (lv_at hl 1 rfl) ?_
    refine lv_aload_n hx hb dL_law_1236 rfl (lv_at hl 3 rfl) ?_
    refine lv_iload_n hx hb dL_law_1237 rfl (lv_at hl 0 rfl) ?_
    refine lv_iconst (v := 1) hx hb dL_law_1238 (by decide) ?_
    refine lv_iadd hx hb dL_law_1239 ?_
    refine wt_c (v := 1) (by decide) ?_
    refine va_sld hx hb hX hbl hbA hS (vin (by decide)) dL_law_1240 ?_
    refine wt_c (v := xs 1) (congrArg xs (by decide)) ?_
    refine lv_aload_n hx hb dL_law_1241 rfl (lv_at hl 3 rfl) ?_
    refine lv_iload_n hx hb dL_law_1242 rfl (lv_at hl 0 rfl) ?_
    refine lv_iconst (v := 2) hx hb dL_law_1243 (by decide) ?_
    refine lv_iadd hx hb dL_law_1244 ?_
    refine wt_c (v := 2) (by decide) ?_
    refine va_sld hx hb hX hbl hbA hS (vin (by decide)) dL_law_1245 ?_
    refine wt_c (v := xs 2) (congrArg xs (by decide)) ?_
    have hPc := hP.sub (ws' := [(rM 0, .inr (8, [.ref (rM 1), .ref (rM 2), .int 0, .int 0, .int 0, .int (-1), .int 0, .int 0, .int 0, .int 0, .long 0, .ref (rM 3), .ref (rM 4), .ref (rM 5), .ref (rM 6), .ref (rM 7), .ref (rM 8), .ref (rM 9), .ref (rM 10), .ref (rM 11), .ref (rM 12), .ref (rM 13), .ref (rM 14), .ref (rM 15), .ref (rM 16), .ref (rM 17), .ref (rM 18), .ref (rM 19), .ref (rM 20), .ref (rM 21), .ref (rM 22), .ref (rM 23), .ref (rM 24), .int 0, .int 0, .int 0, .int 0, .int 0, .int 0, .int 0, .int 0, .int 0, .ref (rM 25), .ref (rM 26), .ref (rM 27), .int 0, .int 0, .ref (rM 28), .int 0, .ref (rM 29), .ref (rM 30), .ref (rM 31), .ref (rM 32), .ref (rM 33), .ref (rM 34), .ref (rM 35), .ref (rM 36), .int 0, .int 0, .int 0, .ref (rM 37), .ref (rM 38)])), (rM 7, .inl ((cM 7), 2, .inl (fM 7)))]) [0, 1] rfl
    have hKc := hK.sub (tys' := [((cM 7), .int)]) [0] rfl
    have hDc := hD.sub (ws' := [(rM 0, .inr (8, [.ref (rM 1), .ref (rM 2), .int 0, .int 0, .int 0, .int (-1), .int 0, .int 0, .int 0, .int 0, .long 0, .ref (rM 3), .ref (rM 4), .ref (rM 5), .ref (rM 6), .ref (rM 7), .ref (rM 8), .ref (rM 9), .ref (rM 10), .ref (rM 11), .ref (rM 12), .ref (rM 13), .ref (rM 14), .ref (rM 15), .ref (rM 16), .ref (rM 17), .ref (rM 18), .ref (rM 19), .ref (rM 20), .ref (rM 21), .ref (rM 22), .ref (rM 23), .ref (rM 24), .int 0, .int 0, .int 0, .int 0, .int 0, .int 0, .int 0, .int 0, .int 0, .ref (rM 25), .ref (rM 26), .ref (rM 27), .int 0, .int 0, .ref (rM 28), .int 0, .ref (rM 29), .ref (rM 30), .ref (rM 31), .ref (rM 32), .ref (rM 33), .ref (rM 34), .ref (rM 35), .ref (rM 36), .int 0, .int 0, .int 0, .ref (rM 37), .ref (rM 38)])), (rM 7, .inl ((cM 7), 2, .inl (fM 7)))]) [0, 1] (by decide) rfl
    have hFc := va_free (wc := [(rM 0, .inr (8, [.ref (rM 1), .ref (rM 2), .int 0, .int 0, .int 0, .int (-1), .int 0, .int 0, .int 0, .int 0, .long 0, .ref (rM 3), .ref (rM 4), .ref (rM 5), .ref (rM 6), .ref (rM 7), .ref (rM 8), .ref (rM 9), .ref (rM 10), .ref (rM 11), .ref (rM 12), .ref (rM 13), .ref (rM 14), .ref (rM 15), .ref (rM 16), .ref (rM 17), .ref (rM 18), .ref (rM 19), .ref (rM 20), .ref (rM 21), .ref (rM 22), .ref (rM 23), .ref (rM 24), .int 0, .int 0, .int 0, .int 0, .int 0, .int 0, .int 0, .int 0, .int 0, .ref (rM 25), .ref (rM 26), .ref (rM 27), .int 0, .int 0, .ref (rM 28), .int 0, .ref (rM 29), .ref (rM 30), .ref (rM 31), .ref (rM 32), .ref (rM 33), .ref (rM 34), .ref (rM 35), .ref (rM 36), .int 0, .int 0, .int 0, .ref (rM 37), .ref (rM 38)])), (rM 7, .inl ((cM 7), 2, .inl (fM 7)))]) hD hS hA [0, 1] rfl
    refine va_calli (va_runV (As := [.int (xs 1), .int (xs 2)]) (rest := [.int (-1)]) ⟨hx, hb, hml, hown, hG⟩ (kX9_odds l dC dI rM cM (fM 7) (xs 1) (xs 2) H1.size hfM_7_0) (cwV 2 hG (goodV gw1810 gw1811 gw1812 gw138 gw1813) rfl rfl rfl hd_X9_odds ⟨(Nat.le_of_ble_eq_true rfl), (Nat.le_of_ble_eq_true rfl)⟩) ⟨fbW, va_recv hKc hPc (ci := 8) (q0 := 0) rfl rfl, pW_in hPc hKc hDc⟩ rfl rfl hl.1 rfl (lv_room (Nat.le_of_ble_eq_true rfl)) dL_law_1246 ⟨(Nat.le_of_ble_eq_true rfl), (Nat.le_of_ble_eq_true rfl)⟩) hS (fun q _ h => hFc q h) hFc (fun r_147 u t H146 locs ht hvm hw hB hz1 hk1 hS => ?_)
    rcases hw with ⟨rfl, hy148, hw⟩ | ⟨rfl, hy149, hy150, hw⟩ | ⟨rfl, hy151, hy152, hy153, hw⟩ | ⟨rfl, hy154, hy155, hy156, hy157, hw⟩ | ⟨rfl, hy158, hy159, hy160, hy161, hw⟩ | ⟨rfl, hy162, hy163, hy164, hy165, hw⟩ | ⟨rfl, hy166, hy167, hy168, hy169, hw⟩ | ⟨rfl, hy170, hy171, hy172, hy173, hw⟩ | ⟨rfl, hy174, hy175, hy176, hy177, hw⟩ | ⟨rfl, hy178, hy179, hy180, hy181, hw⟩ | ⟨rfl, hy182, hy183, hy184, hy185, hw⟩ | ⟨rfl, hy186, hy187, hy188, hy189, hw⟩ | ⟨rfl, hy190, hy191, hy192, hy193, hw⟩ | ⟨rfl, hy194, hy195, hy196, hy197, hw⟩
    · skip
      exact ((by have k0 := q_nlt hy4; have k1 := q_lt hy5; have k2 := q_lt hy148; have z0 : (0 : Int32).toInt = 0 := (by decide); have z4 : (4 : Int32).toInt = 4 := (by decide); omega) : False).elim
    · skip
      obtain ⟨hP, hD⟩ := va_join (wr := []) (w1 := []) hP hD [0, 1] [] rfl rfl (by decide) (by decide) hk1 hFc (fun k q h => by simp at h) ⟨fun i j p q h => by simp at h, fun k q h => by simp at h⟩
      refine wt_c (v := (-1)) hw ?_
      refine lv_icmp_eq (tgt := 1540) hx hb dL_law_1249 (by decide) (fun c_198 => ?_) (fun c_198 => absurd (by decide) c_198)
      exact law_end l C0 hS hl
    · skip
      exact ((by have k0 := q_nlt hy4; have k1 := q_lt hy5; have k2 := q_nlt hy151; have k3 := q_nlt hy152; have z0 : (0 : Int32).toInt = 0 := (by decide); have z4 : (4 : Int32).toInt = 4 := (by decide); omega) : False).elim
    · skip
      exact ((by have k0 := q_nlt hy4; have k1 := q_lt hy5; have k2 := q_nlt hy154; have k3 := q_nlt hy155; have z0 : (0 : Int32).toInt = 0 := (by decide); have z4 : (4 : Int32).toInt = 4 := (by decide); omega) : False).elim
    · skip
      exact ((by have k0 := q_nlt hy4; have k1 := q_lt hy5; have k2 := q_eq hy158; have z0 : (0 : Int32).toInt = 0 := (by decide); have z4 : (4 : Int32).toInt = 4 := (by decide); omega) : False).elim
    · skip
      exact ((by have k0 := q_nlt hy4; have k1 := q_lt hy5; have k2 := q_eq hy162; have z0 : (0 : Int32).toInt = 0 := (by decide); have z4 : (4 : Int32).toInt = 4 := (by decide); omega) : False).elim
    · skip
      exact ((by have k0 := q_nlt hy4; have k1 := q_lt hy5; have k2 := q_eq hy166; have z0 : (0 : Int32).toInt = 0 := (by decide); have z1 : (1 : Int32).toInt = 1 := (by decide); have z4 : (4 : Int32).toInt = 4 := (by decide); omega) : False).elim
    · skip
      exact ((by have k0 := q_nlt hy4; have k1 := q_lt hy5; have k2 := q_eq hy170; have z0 : (0 : Int32).toInt = 0 := (by decide); have z1 : (1 : Int32).toInt = 1 := (by decide); have z4 : (4 : Int32).toInt = 4 := (by decide); omega) : False).elim
    · skip
      exact ((by have k0 := q_nlt hy4; have k1 := q_lt hy5; have k2 := q_eq hy174; have z0 : (0 : Int32).toInt = 0 := (by decide); have z2 : (2 : Int32).toInt = 2 := (by decide); have z4 : (4 : Int32).toInt = 4 := (by decide); omega) : False).elim
    · skip
      exact ((by have k0 := q_nlt hy4; have k1 := q_lt hy5; have k2 := q_eq hy178; have z0 : (0 : Int32).toInt = 0 := (by decide); have z2 : (2 : Int32).toInt = 2 := (by decide); have z4 : (4 : Int32).toInt = 4 := (by decide); omega) : False).elim
    · skip
      exact ((by have k0 := q_nlt hy4; have k1 := q_lt hy5; have k2 := q_eq hy182; have z0 : (0 : Int32).toInt = 0 := (by decide); have z3 : (3 : Int32).toInt = 3 := (by decide); have z4 : (4 : Int32).toInt = 4 := (by decide); omega) : False).elim
    · skip
      exact ((by have k0 := q_nlt hy4; have k1 := q_lt hy5; have k2 := q_eq hy186; have z0 : (0 : Int32).toInt = 0 := (by decide); have z3 : (3 : Int32).toInt = 3 := (by decide); have z4 : (4 : Int32).toInt = 4 := (by decide); omega) : False).elim
    · skip
      exact ((by have k0 := q_nlt hy4; have k1 := q_lt hy5; have k2 := q_eq hy190; have z0 : (0 : Int32).toInt = 0 := (by decide); have z4 : (4 : Int32).toInt = 4 := (by decide); omega) : False).elim
    · skip
      exact ((by have k0 := q_nlt hy4; have k1 := q_lt hy5; have k2 := q_eq hy194; have z0 : (0 : Int32).toInt = 0 := (by decide); have z4 : (4 : Int32).toInt = 4 := (by decide); omega) : False).elim
  · skip
    obtain ⟨hP, hD⟩ := va_join (wr := [(rM 0, .inr (8, [.ref (rM 1), .ref (rM 2), .int 0, .int 0, .int 0, .int (-1), .int 0, .int 0, .int 0, .int 0, .long 0, .ref (rM 3), .ref (rM 4), .ref (rM 5), .ref (rM 6), .ref (rM 7), .ref (rM 8), .ref (rM 9), .ref (rM 10), .ref (rM 11), .ref (rM 12), .ref (rM 13), .ref (rM 14), .ref (rM 15), .ref (rM 16), .ref (rM 17), .ref (rM 18), .ref (rM 19), .ref (rM 20), .ref (rM 21), .ref (rM 22), .ref (rM 23), .ref (rM 24), .int 0, .int 0, .int 0, .int 0, .int 0, .int 0, .int 0, .int 0, .int 0, .ref (rM 25), .ref (rM 26), .ref (rM 27), .int 0, .int 0, .ref (rM 28), .int 0, .ref (rM 29), .ref (rM 30), .ref (rM 31), .ref (rM 32), .ref (rM 33), .ref (rM 34), .ref (rM 35), .ref (rM 36), .int 0, .int 0, .int 0, .ref (rM 37), .ref (rM 38)])), (rM 7, .inl ((cM 7), 2, .inl (fM 7)))]) (w1 := []) hP hD [0, 1] [2, 3] rfl rfl (by decide) (by decide) hk1 hFc (fun k q h => by simp at h) ⟨fun i j p q h => by simp at h, fun k q h => by simp at h⟩
    refine wt_c (v := (-1)) hw ?_
    refine lv_aload_n hx hb dL_law_1235 rfl (lv_at hl 1 rfl) ?_
    refine lv_aload_n hx hb dL_law_1236 rfl (lv_at hl 3 rfl) ?_
    refine lv_iload_n hx hb dL_law_1237 rfl (lv_at hl 0 rfl) ?_
    refine lv_iconst (v := 1) hx hb dL_law_1238 (by decide) ?_
    refine lv_iadd hx hb dL_law_1239 ?_
    refine wt_c (v := 1) (by decide) ?_
    refine va_sld hx hb hX hbl hbA hS (vin (by decide)) dL_law_1240 ?_
    refine wt_c (v := xs 1) (congrArg xs (by decide)) ?_
    refine lv_aload_n hx hb dL_law_1241 rfl (lv_at hl 3 rfl) ?_
    refine lv_iload_n hx hb dL_law_1242 rfl (lv_at hl 0 rfl) ?_
    refine lv_iconst (v := 2) hx hb dL_law_1243 (by decide) ?_
    refine lv_iadd hx hb dL_law_1244 ?_
    refine wt_c (v := 2) (by decide) ?_
    refine va_sld hx hb hX hbl hbA hS (vin (by decide)) dL_law_1245 ?_
    refine wt_c (v := xs 2) (congrArg xs (by decide)) ?_
    have hPc := hP.sub (ws' := [(rM 0, .inr (8, [.ref (rM 1), .ref (rM 2), .int 0, .int 0, .int 0, .int (-1), .int 0, .int 0, .int 0, .int 0, .long 0, .ref (rM 3), .ref (rM 4), .ref (rM 5), .ref (rM 6), .ref (rM 7), .ref (rM 8), .ref (rM 9), .ref (rM 10), .ref (rM 11), .ref (rM 12), .ref (rM 13), .ref (rM 14), .ref (rM 15), .ref (rM 16), .ref (rM 17), .ref (rM 18), .ref (rM 19), .ref (rM 20), .ref (rM 21), .ref (rM 22), .ref (rM 23), .ref (rM 24), .int 0, .int 0, .int 0, .int 0, .int 0, .int 0, .int 0, .int 0, .int 0, .ref (rM 25), .ref (rM 26), .ref (rM 27), .int 0, .int 0, .ref (rM 28), .int 0, .ref (rM 29), .ref (rM 30), .ref (rM 31), .ref (rM 32), .ref (rM 33), .ref (rM 34), .ref (rM 35), .ref (rM 36), .int 0, .int 0, .int 0, .ref (rM 37), .ref (rM 38)])), (rM 7, .inl ((cM 7), 2, .inl (fM 7)))]) [0, 1] rfl
    have hKc := hK.sub (tys' := [((cM 7), .int)]) [0] rfl
    have hDc := hD.sub (ws' := [(rM 0, .inr (8, [.ref (rM 1), .ref (rM 2), .int 0, .int 0, .int 0, .int (-1), .int 0, .int 0, .int 0, .int 0, .long 0, .ref (rM 3), .ref (rM 4), .ref (rM 5), .ref (rM 6), .ref (rM 7), .ref (rM 8), .ref (rM 9), .ref (rM 10), .ref (rM 11), .ref (rM 12), .ref (rM 13), .ref (rM 14), .ref (rM 15), .ref (rM 16), .ref (rM 17), .ref (rM 18), .ref (rM 19), .ref (rM 20), .ref (rM 21), .ref (rM 22), .ref (rM 23), .ref (rM 24), .int 0, .int 0, .int 0, .int 0, .int 0, .int 0, .int 0, .int 0, .int 0, .ref (rM 25), .ref (rM 26), .ref (rM 27), .int 0, .int 0, .ref (rM 28), .int 0, .ref (rM 29), .ref (rM 30), .ref (rM 31), .ref (rM 32), .ref (rM 33), .ref (rM 34), .ref (rM 35), .ref (rM 36), .int 0, .int 0, .int 0, .ref (rM 37), .ref (rM 38)])), (rM 7, .inl ((cM 7), 2, .inl (fM 7)))]) [0, 1] (by decide) rfl
    have hFc := va_free (wc := [(rM 0, .inr (8, [.ref (rM 1), .ref (rM 2), .int 0, .int 0, .int 0, .int (-1), .int 0, .int 0, .int 0, .int 0, .long 0, .ref (rM 3), .ref (rM 4), .ref (rM 5), .ref (rM 6), .ref (rM 7), .ref (rM 8), .ref (rM 9), .ref (rM 10), .ref (rM 11), .ref (rM 12), .ref (rM 13), .ref (rM 14), .ref (rM 15), .ref (rM 16), .ref (rM 17), .ref (rM 18), .ref (rM 19), .ref (rM 20), .ref (rM 21), .ref (rM 22), .ref (rM 23), .ref (rM 24), .int 0, .int 0, .int 0, .int 0, .int 0, .int 0, .int 0, .int 0, .int 0, .ref (rM 25), .ref (rM 26), .ref (rM 27), .int 0, .int 0, .ref (rM 28), .int 0, .ref (rM 29), .ref (rM 30), .ref (rM 31), .ref (rM 32), .ref (rM 33), .ref (rM 34), .ref (rM 35), .ref (rM 36), .int 0, .int 0, .int 0, .ref (rM 37), .ref (rM 38)])), (rM 7, .inl ((cM 7), 2, .inl (fM 7)))]) hD hS hA [0, 1] rfl
    refine va_calli (va_runV (As := [.int (xs 1), .int (xs 2)]) (rest := [.int (-1)]) ⟨hx, hb, hml, hown, hG⟩ (kX9_odds l dC dI rM cM (fM 7) (xs 1) (xs 2) H1.size hfM_7_0) (cwV 2 hG (goodV gw1810 gw1811 gw1812 gw138 gw1813) rfl rfl rfl hd_X9_odds ⟨(Nat.le_of_ble_eq_true rfl), (Nat.le_of_ble_eq_true rfl)⟩) ⟨fbW, va_recv hKc hPc (ci := 8) (q0 := 0) rfl rfl, pW_in hPc hKc hDc⟩ rfl rfl hl.1 rfl (lv_room (Nat.le_of_ble_eq_true rfl)) dL_law_1246 ⟨(Nat.le_of_ble_eq_true rfl), (Nat.le_of_ble_eq_true rfl)⟩) hS (fun q _ h => hFc q h) hFc (fun r_200 u t H199 locs ht hvm hw hB hz1 hk1 hS => ?_)
    rcases hw with ⟨rfl, hy201, hw⟩ | ⟨rfl, hy202, hy203, hw⟩ | ⟨rfl, hy204, hy205, hy206, hw⟩ | ⟨rfl, hy207, hy208, hy209, hy210, hw⟩ | ⟨rfl, hy211, hy212, hy213, hy214, hw⟩ | ⟨rfl, hy215, hy216, hy217, hy218, hw⟩ | ⟨rfl, hy219, hy220, hy221, hy222, hw⟩ | ⟨rfl, hy223, hy224, hy225, hy226, hw⟩ | ⟨rfl, hy227, hy228, hy229, hy230, hw⟩ | ⟨rfl, hy231, hy232, hy233, hy234, hw⟩ | ⟨rfl, hy235, hy236, hy237, hy238, hw⟩ | ⟨rfl, hy239, hy240, hy241, hy242, hw⟩ | ⟨rfl, hy243, hy244, hy245, hy246, hw⟩ | ⟨rfl, hy247, hy248, hy249, hy250, hw⟩
    · skip
      exact ((by have k0 := q_nlt hy6; have k1 := q_nlt hy7; have k3 := q_lt hy201; have z0 : (0 : Int32).toInt = 0 := (by decide); have z4 : (4 : Int32).toInt = 4 := (by decide); omega) : False).elim
    · skip
      exact ((by have k0 := q_nlt hy6; have k1 := q_nlt hy7; have k3 := q_nlt hy202; have k4 := q_lt hy203; have z0 : (0 : Int32).toInt = 0 := (by decide); have z4 : (4 : Int32).toInt = 4 := (by decide); omega) : False).elim
    · skip
      obtain ⟨hP, hD⟩ := va_join (wr := []) (w1 := []) hP hD [0, 1] [] rfl rfl (by decide) (by decide) hk1 hFc (fun k q h => by simp at h) ⟨fun i j p q h => by simp at h, fun k q h => by simp at h⟩
      refine wt_c (v := (-1)) hw ?_
      refine lv_icmp_eq (tgt := 1540) hx hb dL_law_1249 (by decide) (fun c_251 => ?_) (fun c_251 => absurd (by decide) c_251)
      exact law_end l C0 hS hl
    · skip
      exact ((by have k2 := q_lt hy8; have k5 := q_nlt hy209; have k6 := q_lt hy210; have z0 : (0 : Int32).toInt = 0 := (by decide); have z1 : (1 : Int32).toInt = 1 := (by decide); omega) : False).elim
    · skip
      exact ((by have k2 := q_lt hy8; have k4 := q_nlt hy212; have k5 := q_nlt hy213; have k6 := q_ne hy214; have z0 : (0 : Int32).toInt = 0 := (by decide); have z1 : (1 : Int32).toInt = 1 := (by decide); omega) : False).elim
    · skip
      exact ((by have k2 := q_lt hy8; have k4 := q_nlt hy216; have k5 := q_nlt hy217; have k6 := q_eq hy218; have z0 : (0 : Int32).toInt = 0 := (by decide); have z1 : (1 : Int32).toInt = 1 := (by decide); omega) : False).elim
    · skip
      exact ((by have k2 := q_lt hy8; have k4 := q_nlt hy220; have k5 := q_nlt hy221; have k6 := q_ne hy222; have z0 : (0 : Int32).toInt = 0 := (by decide); have z1 : (1 : Int32).toInt = 1 := (by decide); omega) : False).elim
    · skip
      exact ((by have k2 := q_lt hy8; have k4 := q_nlt hy224; have k5 := q_nlt hy225; have k6 := q_eq hy226; have z0 : (0 : Int32).toInt = 0 := (by decide); have z1 : (1 : Int32).toInt = 1 := (by decide); omega) : False).elim
    · skip
      exact ((by have k2 := q_lt hy8; have k4 := q_nlt hy228; have k5 := q_nlt hy229; have k6 := q_ne hy230; have z0 : (0 : Int32).toInt = 0 := (by decide); have z1 : (1 : Int32).toInt = 1 := (by decide); omega) : False).elim
    · skip
      exact ((by have k2 := q_lt hy8; have k4 := q_nlt hy232; have k5 := q_nlt hy233; have k6 := q_eq hy234; have z0 : (0 : Int32).toInt = 0 := (by decide); have z1 : (1 : Int32).toInt = 1 := (by decide); omega) : False).elim
    · skip
      exact ((by have k2 := q_lt hy8; have k4 := q_nlt hy236; have k5 := q_nlt hy237; have k6 := q_ne hy238; have z0 : (0 : Int32).toInt = 0 := (by decide); have z1 : (1 : Int32).toInt = 1 := (by decide); omega) : False).elim
    · skip
      exact ((by have k2 := q_lt hy8; have k4 := q_nlt hy240; have k5 := q_nlt hy241; have k6 := q_eq hy242; have z0 : (0 : Int32).toInt = 0 := (by decide); have z1 : (1 : Int32).toInt = 1 := (by decide); omega) : False).elim
    · skip
      exact ((by have k2 := q_lt hy8; have k4 := q_nlt hy244; have k5 := q_nlt hy245; have k6 := q_ne hy246; have z0 : (0 : Int32).toInt = 0 := (by decide); have z1 : (1 : Int32).toInt = 1 := (by decide); omega) : False).elim
    · skip
      exact ((by have k2 := q_lt hy8; have k4 := q_nlt hy248; have k5 := q_nlt hy249; have k6 := q_eq hy250; have z0 : (0 : Int32).toInt = 0 := (by decide); have z1 : (1 : Int32).toInt = 1 := (by decide); omega) : False).elim
  · skip
    obtain ⟨hP, hD⟩ := va_join (wr := [(rM 0, .inr (8, [.ref (rM 1), .ref (rM 2), .int 0, .int 0, .int 0, .int (-1), .int 0, .int 0, .int 0, .int 0, .long 0, .ref (rM 3), .ref (rM 4), .ref (rM 5), .ref (rM 6), .ref (rM 7), .ref (rM 8), .ref (rM 9), .ref (rM 10), .ref (rM 11), .ref (rM 12), .ref (rM 13), .ref (rM 14), .ref (rM 15), .ref (rM 16), .ref (rM 17), .ref (rM 18), .ref (rM 19), .ref (rM 20), .ref (rM 21), .ref (rM 22), .ref (rM 23), .ref (rM 24), .int 0, .int 0, .int 0, .int 0, .int 0, .int 0, .int 0, .int 0, .int 0, .ref (rM 25), .ref (rM 26), .ref (rM 27), .int 0, .int 0, .ref (rM 28), .int 0, .ref (rM 29), .ref (rM 30), .ref (rM 31), .ref (rM 32), .ref (rM 33), .ref (rM 34), .ref (rM 35), .ref (rM 36), .int 0, .int 0, .int 0, .ref (rM 37), .ref (rM 38)])), (rM 7, .inl ((cM 7), 2, .inl (fM 7)))]) (w1 := []) hP hD [0, 1] [2, 3] rfl rfl (by decide) (by decide) hk1 hFc (fun k q h => by simp at h) ⟨fun i j p q h => by simp at h, fun k q h => by simp at h⟩
    refine wt_c (v := 1) hw ?_
    refine lv_aload_n hx hb dL_law_1235 rfl (lv_at hl 1 rfl) ?_
    refine lv_aload_n hx hb dL_law_1236 rfl (lv_at hl 3 rfl) ?_
    refine lv_iload_n hx hb dL_law_1237 rfl (lv_at hl 0 rfl) ?_
    refine lv_iconst (v := 1) hx hb dL_law_1238 (by decide) ?_
    refine lv_iadd hx hb dL_law_1239 ?_
    refine wt_c (v := 1) (by decide) ?_
    refine va_sld hx hb hX hbl hbA hS (vin (by decide)) dL_law_1240 ?_
    refine wt_c (v := xs 1) (congrArg xs (by decide)) ?_
    refine lv_aload_n hx hb dL_law_1241 rfl (lv_at hl 3 rfl) ?_
    refine lv_iload_n hx hb dL_law_1242 rfl (lv_at hl 0 rfl) ?_
    refine lv_iconst (v := 2) hx hb dL_law_1243 (by decide) ?_
    refine lv_iadd hx hb dL_law_1244 ?_
    refine wt_c (v := 2) (by decide) ?_
    refine va_sld hx hb hX hbl hbA hS (vin (by decide)) dL_law_1245 ?_
    refine wt_c (v := xs 2) (congrArg xs (by decide)) ?_
    have hPc := hP.sub (ws' := [(rM 0, .inr (8, [.ref (rM 1), .ref (rM 2), .int 0, .int 0, .int 0, .int (-1), .int 0, .int 0, .int 0, .int 0, .long 0, .ref (rM 3), .ref (rM 4), .ref (rM 5), .ref (rM 6), .ref (rM 7), .ref (rM 8), .ref (rM 9), .ref (rM 10), .ref (rM 11), .ref (rM 12), .ref (rM 13), .ref (rM 14), .ref (rM 15), .ref (rM 16), .ref (rM 17), .ref (rM 18), .ref (rM 19), .ref (rM 20), .ref (rM 21), .ref (rM 22), .ref (rM 23), .ref (rM 24), .int 0, .int 0, .int 0, .int 0, .int 0, .int 0, .int 0, .int 0, .int 0, .ref (rM 25), .ref (rM 26), .ref (rM 27), .int 0, .int 0, .ref (rM 28), .int 0, .ref (rM 29), .ref (rM 30), .ref (rM 31), .ref (rM 32), .ref (rM 33), .ref (rM 34), .ref (rM 35), .ref (rM 36), .int 0, .int 0, .int 0, .ref (rM 37), .ref (rM 38)])), (rM 7, .inl ((cM 7), 2, .inl (fM 7)))]) [0, 1] rfl
    have hKc := hK.sub (tys' := [((cM 7), .int)]) [0] rfl
    have hDc := hD.sub (ws' := [(rM 0, .inr (8, [.ref (rM 1), .ref (rM 2), .int 0, .int 0, .int 0, .int (-1), .int 0, .int 0, .int 0, .int 0, .long 0, .ref (rM 3), .ref (rM 4), .ref (rM 5), .ref (rM 6), .ref (rM 7), .ref (rM 8), .ref (rM 9), .ref (rM 10), .ref (rM 11), .ref (rM 12), .ref (rM 13), .ref (rM 14), .ref (rM 15), .ref (rM 16), .ref (rM 17), .ref (rM 18), .ref (rM 19), .ref (rM 20), .ref (rM 21), .ref (rM 22), .ref (rM 23), .ref (rM 24), .int 0, .int 0, .int 0, .int 0, .int 0, .int 0, .int 0, .int 0, .int 0, .ref (rM 25), .ref (rM 26), .ref (rM 27), .int 0, .int 0, .ref (rM 28), .int 0, .ref (rM 29), .ref (rM 30), .ref (rM 31), .ref (rM 32), .ref (rM 33), .ref (rM 34), .ref (rM 35), .ref (rM 36), .int 0, .int 0, .int 0, .ref (rM 37), .ref (rM 38)])), (rM 7, .inl ((cM 7), 2, .inl (fM 7)))]) [0, 1] (by decide) rfl
    have hFc := va_free (wc := [(rM 0, .inr (8, [.ref (rM 1), .ref (rM 2), .int 0, .int 0, .int 0, .int (-1), .int 0, .int 0, .int 0, .int 0, .long 0, .ref (rM 3), .ref (rM 4), .ref (rM 5), .ref (rM 6), .ref (rM 7), .ref (rM 8), .ref (rM 9), .ref (rM 10), .ref (rM 11), .ref (rM 12), .ref (rM 13), .ref (rM 14), .ref (rM 15), .ref (rM 16), .ref (rM 17), .ref (rM 18), .ref (rM 19), .ref (rM 20), .ref (rM 21), .ref (rM 22), .ref (rM 23), .ref (rM 24), .int 0, .int 0, .int 0, .int 0, .int 0, .int 0, .int 0, .int 0, .int 0, .ref (rM 25), .ref (rM 26), .ref (rM 27), .int 0, .int 0, .ref (rM 28), .int 0, .ref (rM 29), .ref (rM 30), .ref (rM 31), .ref (rM 32), .ref (rM 33), .ref (rM 34), .ref (rM 35), .ref (rM 36), .int 0, .int 0, .int 0, .ref (rM 37), .ref (rM 38)])), (rM 7, .inl ((cM 7), 2, .inl (fM 7)))]) hD hS hA [0, 1] rfl
    refine va_calli (va_runV (As := [.int (xs 1), .int (xs 2)]) (rest := [.int 1]) ⟨hx, hb, hml, hown, hG⟩ (kX9_odds l dC dI rM cM (fM 7) (xs 1) (xs 2) H1.size hfM_7_0) (cwV 2 hG (goodV gw1810 gw1811 gw1812 gw138 gw1813) rfl rfl rfl hd_X9_odds ⟨(Nat.le_of_ble_eq_true rfl), (Nat.le_of_ble_eq_true rfl)⟩) ⟨fbW, va_recv hKc hPc (ci := 8) (q0 := 0) rfl rfl, pW_in hPc hKc hDc⟩ rfl rfl hl.1 rfl (lv_room (Nat.le_of_ble_eq_true rfl)) dL_law_1246 ⟨(Nat.le_of_ble_eq_true rfl), (Nat.le_of_ble_eq_true rfl)⟩) hS (fun q _ h => hFc q h) hFc (fun r_253 u t H252 locs ht hvm hw hB hz1 hk1 hS => ?_)
    rcases hw with ⟨rfl, hy254, hw⟩ | ⟨rfl, hy255, hy256, hw⟩ | ⟨rfl, hy257, hy258, hy259, hw⟩ | ⟨rfl, hy260, hy261, hy262, hy263, hw⟩ | ⟨rfl, hy264, hy265, hy266, hy267, hw⟩ | ⟨rfl, hy268, hy269, hy270, hy271, hw⟩ | ⟨rfl, hy272, hy273, hy274, hy275, hw⟩ | ⟨rfl, hy276, hy277, hy278, hy279, hw⟩ | ⟨rfl, hy280, hy281, hy282, hy283, hw⟩ | ⟨rfl, hy284, hy285, hy286, hy287, hw⟩ | ⟨rfl, hy288, hy289, hy290, hy291, hw⟩ | ⟨rfl, hy292, hy293, hy294, hy295, hw⟩ | ⟨rfl, hy296, hy297, hy298, hy299, hw⟩ | ⟨rfl, hy300, hy301, hy302, hy303, hw⟩
    · skip
      exact ((by have k0 := q_nlt hy9; have k1 := q_nlt hy10; have k4 := q_le hy13; have k6 := q_lt hy254; have z0 : (0 : Int32).toInt = 0 := (by decide); have z4 : (4 : Int32).toInt = 4 := (by decide); omega) : False).elim
    · skip
      exact ((by have k0 := q_nlt hy9; have k1 := q_nlt hy10; have k4 := q_le hy13; have k6 := q_nlt hy255; have k7 := q_lt hy256; have z0 : (0 : Int32).toInt = 0 := (by decide); have z4 : (4 : Int32).toInt = 4 := (by decide); omega) : False).elim
    · skip
      exact ((by have k2 := q_nlt hy11; have k3 := q_le hy12; have k5 := q_ne hy14; have k8 := q_lt hy259; have z0 : (0 : Int32).toInt = 0 := (by decide); have z1 : (1 : Int32).toInt = 1 := (by decide); omega) : False).elim
    · skip
      exact ((by have k2 := q_nlt hy11; have k3 := q_le hy12; have k5 := q_ne hy14; have k8 := q_nlt hy262; have k9 := q_lt hy263; have z0 : (0 : Int32).toInt = 0 := (by decide); have z1 : (1 : Int32).toInt = 1 := (by decide); omega) : False).elim
    · skip
      obtain ⟨hP, hD⟩ := va_join (wr := []) (w1 := []) hP hD [0, 1] [] rfl rfl (by decide) (by decide) hk1 hFc (fun k q h => by simp at h) ⟨fun i j p q h => by simp at h, fun k q h => by simp at h⟩
      refine wt_c (v := 1) hw ?_
      refine lv_icmp_eq (tgt := 1540) hx hb dL_law_1249 (by decide) (fun c_304 => ?_) (fun c_304 => absurd (by decide) c_304)
      exact law_end l C0 hS hl
    · skip
      exact ((by have k2 := q_nlt hy11; have k3 := q_le hy12; have k5 := q_ne hy14; have k7 := q_nlt hy269; have k8 := q_nlt hy270; have k9 := q_eq hy271; have z0 : (0 : Int32).toInt = 0 := (by decide); have z1 : (1 : Int32).toInt = 1 := (by decide); omega) : False).elim
    · skip
      exact ((by have k0 := q_nlt hy9; have k1 := q_nlt hy10; have k4 := q_le hy13; have k6 := q_eq hy272; have z0 : (0 : Int32).toInt = 0 := (by decide); have z1 : (1 : Int32).toInt = 1 := (by decide); have z4 : (4 : Int32).toInt = 4 := (by decide); omega) : False).elim
    · skip
      exact ((by have k0 := q_nlt hy9; have k1 := q_nlt hy10; have k4 := q_le hy13; have k6 := q_eq hy276; have z0 : (0 : Int32).toInt = 0 := (by decide); have z1 : (1 : Int32).toInt = 1 := (by decide); have z4 : (4 : Int32).toInt = 4 := (by decide); omega) : False).elim
    · skip
      exact ((by have k0 := q_nlt hy9; have k1 := q_nlt hy10; have k4 := q_le hy13; have k6 := q_eq hy280; have z0 : (0 : Int32).toInt = 0 := (by decide); have z2 : (2 : Int32).toInt = 2 := (by decide); have z4 : (4 : Int32).toInt = 4 := (by decide); omega) : False).elim
    · skip
      exact ((by have k0 := q_nlt hy9; have k1 := q_nlt hy10; have k4 := q_le hy13; have k6 := q_eq hy284; have z0 : (0 : Int32).toInt = 0 := (by decide); have z2 : (2 : Int32).toInt = 2 := (by decide); have z4 : (4 : Int32).toInt = 4 := (by decide); omega) : False).elim
    · skip
      exact ((by have k0 := q_nlt hy9; have k1 := q_nlt hy10; have k4 := q_le hy13; have k6 := q_eq hy288; have z0 : (0 : Int32).toInt = 0 := (by decide); have z3 : (3 : Int32).toInt = 3 := (by decide); have z4 : (4 : Int32).toInt = 4 := (by decide); omega) : False).elim
    · skip
      exact ((by have k0 := q_nlt hy9; have k1 := q_nlt hy10; have k4 := q_le hy13; have k6 := q_eq hy292; have z0 : (0 : Int32).toInt = 0 := (by decide); have z3 : (3 : Int32).toInt = 3 := (by decide); have z4 : (4 : Int32).toInt = 4 := (by decide); omega) : False).elim
    · skip
      exact ((by have k0 := q_nlt hy9; have k1 := q_nlt hy10; have k4 := q_le hy13; have k6 := q_eq hy296; have z0 : (0 : Int32).toInt = 0 := (by decide); have z4 : (4 : Int32).toInt = 4 := (by decide); omega) : False).elim
    · skip
      exact ((by have k0 := q_nlt hy9; have k1 := q_nlt hy10; have k4 := q_le hy13; have k6 := q_eq hy300; have z0 : (0 : Int32).toInt = 0 := (by decide); have z4 : (4 : Int32).toInt = 4 := (by decide); omega) : False).elim
  · skip
    obtain ⟨hP, hD⟩ := va_join (wr := [(rM 0, .inr (8, [.ref (rM 1), .ref (rM 2), .int 0, .int 0, .int 0, .int (-1), .int 0, .int 0, .int 0, .int 0, .long 0, .ref (rM 3), .ref (rM 4), .ref (rM 5), .ref (rM 6), .ref (rM 7), .ref (rM 8), .ref (rM 9), .ref (rM 10), .ref (rM 11), .ref (rM 12), .ref (rM 13), .ref (rM 14), .ref (rM 15), .ref (rM 16), .ref (rM 17), .ref (rM 18), .ref (rM 19), .ref (rM 20), .ref (rM 21), .ref (rM 22), .ref (rM 23), .ref (rM 24), .int 0, .int 0, .int 0, .int 0, .int 0, .int 0, .int 0, .int 0, .int 0, .ref (rM 25), .ref (rM 26), .ref (rM 27), .int 0, .int 0, .ref (rM 28), .int 0, .ref (rM 29), .ref (rM 30), .ref (rM 31), .ref (rM 32), .ref (rM 33), .ref (rM 34), .ref (rM 35), .ref (rM 36), .int 0, .int 0, .int 0, .ref (rM 37), .ref (rM 38)])), (rM 7, .inl ((cM 7), 2, .inl (fM 7)))]) (w1 := []) hP hD [0, 1] [2, 3] rfl rfl (by decide) (by decide) hk1 hFc (fun k q h => by simp at h) ⟨fun i j p q h => by simp at h, fun k q h => by simp at h⟩
    refine wt_c (v := 1) hw ?_
    refine lv_aload_n hx hb dL_law_1235 rfl (lv_at hl 1 rfl) ?_
    refine lv_aload_n hx hb dL_law_1236 rfl (lv_at hl 3 rfl) ?_
    refine lv_iload_n hx hb dL_law_1237 rfl (lv_at hl 0 rfl) ?_
    refine lv_iconst (v := 1) hx hb dL_law_1238 (by decide) ?_
    refine lv_iadd hx hb dL_law_1239 ?_
    refine wt_c (v := 1) (by decide) ?_
    refine va_sld hx hb hX hbl hbA hS (vin (by decide)) dL_law_1240 ?_
    refine wt_c (v := xs 1) (congrArg xs (by decide)) ?_
    refine lv_aload_n hx hb dL_law_1241 rfl (lv_at hl 3 rfl) ?_
    refine lv_iload_n hx hb dL_law_1242 rfl (lv_at hl 0 rfl) ?_
    refine lv_iconst (v := 2) hx hb dL_law_1243 (by decide) ?_
    refine lv_iadd hx hb dL_law_1244 ?_
    refine wt_c (v := 2) (by decide) ?_
    refine va_sld hx hb hX hbl hbA hS (vin (by decide)) dL_law_1245 ?_
    refine wt_c (v := xs 2) (congrArg xs (by decide)) ?_
    have hPc := hP.sub (ws' := [(rM 0, .inr (8, [.ref (rM 1), .ref (rM 2), .int 0, .int 0, .int 0, .int (-1), .int 0, .int 0, .int 0, .int 0, .long 0, .ref (rM 3), .ref (rM 4), .ref (rM 5), .ref (rM 6), .ref (rM 7), .ref (rM 8), .ref (rM 9), .ref (rM 10), .ref (rM 11), .ref (rM 12), .ref (rM 13), .ref (rM 14), .ref (rM 15), .ref (rM 16), .ref (rM 17), .ref (rM 18), .ref (rM 19), .ref (rM 20), .ref (rM 21), .ref (rM 22), .ref (rM 23), .ref (rM 24), .int 0, .int 0, .int 0, .int 0, .int 0, .int 0, .int 0, .int 0, .int 0, .ref (rM 25), .ref (rM 26), .ref (rM 27), .int 0, .int 0, .ref (rM 28), .int 0, .ref (rM 29), .ref (rM 30), .ref (rM 31), .ref (rM 32), .ref (rM 33), .ref (rM 34), .ref (rM 35), .ref (rM 36), .int 0, .int 0, .int 0, .ref (rM 37), .ref (rM 38)])), (rM 7, .inl ((cM 7), 2, .inl (fM 7)))]) [0, 1] rfl
    have hKc := hK.sub (tys' := [((cM 7), .int)]) [0] rfl
    have hDc := hD.sub (ws' := [(rM 0, .inr (8, [.ref (rM 1), .ref (rM 2), .int 0, .int 0, .int 0, .int (-1), .int 0, .int 0, .int 0, .int 0, .long 0, .ref (rM 3), .ref (rM 4), .ref (rM 5), .ref (rM 6), .ref (rM 7), .ref (rM 8), .ref (rM 9), .ref (rM 10), .ref (rM 11), .ref (rM 12), .ref (rM 13), .ref (rM 14), .ref (rM 15), .ref (rM 16), .ref (rM 17), .ref (rM 18), .ref (rM 19), .ref (rM 20), .ref (rM 21), .ref (rM 22), .ref (rM 23), .ref (rM 24), .int 0, .int 0, .int 0, .int 0, .int 0, .int 0, .int 0, .int 0, .int 0, .ref (rM 25), .ref (rM 26), .ref (rM 27), .int 0, .int 0, .ref (rM 28), .int 0, .ref (rM 29), .ref (rM 30), .ref (rM 31), .ref (rM 32), .ref (rM 33), .ref (rM 34), .ref (rM 35), .ref (rM 36), .int 0, .int 0, .int 0, .ref (rM 37), .ref (rM 38)])), (rM 7, .inl ((cM 7), 2, .inl (fM 7)))]) [0, 1] (by decide) rfl
    have hFc := va_free (wc := [(rM 0, .inr (8, [.ref (rM 1), .ref (rM 2), .int 0, .int 0, .int 0, .int (-1), .int 0, .int 0, .int 0, .int 0, .long 0, .ref (rM 3), .ref (rM 4), .ref (rM 5), .ref (rM 6), .ref (rM 7), .ref (rM 8), .ref (rM 9), .ref (rM 10), .ref (rM 11), .ref (rM 12), .ref (rM 13), .ref (rM 14), .ref (rM 15), .ref (rM 16), .ref (rM 17), .ref (rM 18), .ref (rM 19), .ref (rM 20), .ref (rM 21), .ref (rM 22), .ref (rM 23), .ref (rM 24), .int 0, .int 0, .int 0, .int 0, .int 0, .int 0, .int 0, .int 0, .int 0, .ref (rM 25), .ref (rM 26), .ref (rM 27), .int 0, .int 0, .ref (rM 28), .int 0, .ref (rM 29), .ref (rM 30), .ref (rM 31), .ref (rM 32), .ref (rM 33), .ref (rM 34), .ref (rM 35), .ref (rM 36), .int 0, .int 0, .int 0, .ref (rM 37), .ref (rM 38)])), (rM 7, .inl ((cM 7), 2, .inl (fM 7)))]) hD hS hA [0, 1] rfl
    refine va_calli (va_runV (As := [.int (xs 1), .int (xs 2)]) (rest := [.int 1]) ⟨hx, hb, hml, hown, hG⟩ (kX9_odds l dC dI rM cM (fM 7) (xs 1) (xs 2) H1.size hfM_7_0) (cwV 2 hG (goodV gw1810 gw1811 gw1812 gw138 gw1813) rfl rfl rfl hd_X9_odds ⟨(Nat.le_of_ble_eq_true rfl), (Nat.le_of_ble_eq_true rfl)⟩) ⟨fbW, va_recv hKc hPc (ci := 8) (q0 := 0) rfl rfl, pW_in hPc hKc hDc⟩ rfl rfl hl.1 rfl (lv_room (Nat.le_of_ble_eq_true rfl)) dL_law_1246 ⟨(Nat.le_of_ble_eq_true rfl), (Nat.le_of_ble_eq_true rfl)⟩) hS (fun q _ h => hFc q h) hFc (fun r_306 u t H305 locs ht hvm hw hB hz1 hk1 hS => ?_)
    rcases hw with ⟨rfl, hy307, hw⟩ | ⟨rfl, hy308, hy309, hw⟩ | ⟨rfl, hy310, hy311, hy312, hw⟩ | ⟨rfl, hy313, hy314, hy315, hy316, hw⟩ | ⟨rfl, hy317, hy318, hy319, hy320, hw⟩ | ⟨rfl, hy321, hy322, hy323, hy324, hw⟩ | ⟨rfl, hy325, hy326, hy327, hy328, hw⟩ | ⟨rfl, hy329, hy330, hy331, hy332, hw⟩ | ⟨rfl, hy333, hy334, hy335, hy336, hw⟩ | ⟨rfl, hy337, hy338, hy339, hy340, hw⟩ | ⟨rfl, hy341, hy342, hy343, hy344, hw⟩ | ⟨rfl, hy345, hy346, hy347, hy348, hw⟩ | ⟨rfl, hy349, hy350, hy351, hy352, hw⟩ | ⟨rfl, hy353, hy354, hy355, hy356, hw⟩
    · skip
      exact ((by have k0 := q_nlt hy15; have k1 := q_nlt hy16; have k4 := q_le hy19; have k6 := q_lt hy307; have z0 : (0 : Int32).toInt = 0 := (by decide); have z4 : (4 : Int32).toInt = 4 := (by decide); omega) : False).elim
    · skip
      exact ((by have k0 := q_nlt hy15; have k1 := q_nlt hy16; have k4 := q_le hy19; have k6 := q_nlt hy308; have k7 := q_lt hy309; have z0 : (0 : Int32).toInt = 0 := (by decide); have z4 : (4 : Int32).toInt = 4 := (by decide); omega) : False).elim
    · skip
      exact ((by have k2 := q_nlt hy17; have k3 := q_le hy18; have k5 := q_eq hy20; have k8 := q_lt hy312; have z0 : (0 : Int32).toInt = 0 := (by decide); have z1 : (1 : Int32).toInt = 1 := (by decide); omega) : False).elim
    · skip
      exact ((by have k2 := q_nlt hy17; have k3 := q_le hy18; have k5 := q_eq hy20; have k8 := q_nlt hy315; have k9 := q_lt hy316; have z0 : (0 : Int32).toInt = 0 := (by decide); have z1 : (1 : Int32).toInt = 1 := (by decide); omega) : False).elim
    · skip
      exact ((by have k2 := q_nlt hy17; have k3 := q_le hy18; have k5 := q_eq hy20; have k7 := q_nlt hy318; have k8 := q_nlt hy319; have k9 := q_ne hy320; have z0 : (0 : Int32).toInt = 0 := (by decide); have z1 : (1 : Int32).toInt = 1 := (by decide); omega) : False).elim
    · skip
      obtain ⟨hP, hD⟩ := va_join (wr := []) (w1 := []) hP hD [0, 1] [] rfl rfl (by decide) (by decide) hk1 hFc (fun k q h => by simp at h) ⟨fun i j p q h => by simp at h, fun k q h => by simp at h⟩
      refine wt_c (v := 1) hw ?_
      refine lv_icmp_eq (tgt := 1540) hx hb dL_law_1249 (by decide) (fun c_357 => ?_) (fun c_357 => absurd (by decide) c_357)
      exact law_end l C0 hS hl
    · skip
      exact ((by have k0 := q_nlt hy15; have k1 := q_nlt hy16; have k4 := q_le hy19; have k6 := q_eq hy325; have z0 : (0 : Int32).toInt = 0 := (by decide); have z1 : (1 : Int32).toInt = 1 := (by decide); have z4 : (4 : Int32).toInt = 4 := (by decide); omega) : False).elim
    · skip
      exact ((by have k0 := q_nlt hy15; have k1 := q_nlt hy16; have k4 := q_le hy19; have k6 := q_eq hy329; have z0 : (0 : Int32).toInt = 0 := (by decide); have z1 : (1 : Int32).toInt = 1 := (by decide); have z4 : (4 : Int32).toInt = 4 := (by decide); omega) : False).elim
    · skip
      exact ((by have k0 := q_nlt hy15; have k1 := q_nlt hy16; have k4 := q_le hy19; have k6 := q_eq hy333; have z0 : (0 : Int32).toInt = 0 := (by decide); have z2 : (2 : Int32).toInt = 2 := (by decide); have z4 : (4 : Int32).toInt = 4 := (by decide); omega) : False).elim
    · skip
      exact ((by have k0 := q_nlt hy15; have k1 := q_nlt hy16; have k4 := q_le hy19; have k6 := q_eq hy337; have z0 : (0 : Int32).toInt = 0 := (by decide); have z2 : (2 : Int32).toInt = 2 := (by decide); have z4 : (4 : Int32).toInt = 4 := (by decide); omega) : False).elim
    · skip
      exact ((by have k0 := q_nlt hy15; have k1 := q_nlt hy16; have k4 := q_le hy19; have k6 := q_eq hy341; have z0 : (0 : Int32).toInt = 0 := (by decide); have z3 : (3 : Int32).toInt = 3 := (by decide); have z4 : (4 : Int32).toInt = 4 := (by decide); omega) : False).elim
    · skip
      exact ((by have k0 := q_nlt hy15; have k1 := q_nlt hy16; have k4 := q_le hy19; have k6 := q_eq hy345; have z0 : (0 : Int32).toInt = 0 := (by decide); have z3 : (3 : Int32).toInt = 3 := (by decide); have z4 : (4 : Int32).toInt = 4 := (by decide); omega) : False).elim
    · skip
      exact ((by have k0 := q_nlt hy15; have k1 := q_nlt hy16; have k4 := q_le hy19; have k6 := q_eq hy349; have z0 : (0 : Int32).toInt = 0 := (by decide); have z4 : (4 : Int32).toInt = 4 := (by decide); omega) : False).elim
    · skip
      exact ((by have k0 := q_nlt hy15; have k1 := q_nlt hy16; have k4 := q_le hy19; have k6 := q_eq hy353; have z0 : (0 : Int32).toInt = 0 := (by decide); have z4 : (4 : Int32).toInt = 4 := (by decide); omega) : False).elim
  · skip
    obtain ⟨hP, hD⟩ := va_join (wr := [(rM 0, .inr (8, [.ref (rM 1), .ref (rM 2), .int 0, .int 0, .int 0, .int (-1), .int 0, .int 0, .int 0, .int 0, .long 0, .ref (rM 3), .ref (rM 4), .ref (rM 5), .ref (rM 6), .ref (rM 7), .ref (rM 8), .ref (rM 9), .ref (rM 10), .ref (rM 11), .ref (rM 12), .ref (rM 13), .ref (rM 14), .ref (rM 15), .ref (rM 16), .ref (rM 17), .ref (rM 18), .ref (rM 19), .ref (rM 20), .ref (rM 21), .ref (rM 22), .ref (rM 23), .ref (rM 24), .int 0, .int 0, .int 0, .int 0, .int 0, .int 0, .int 0, .int 0, .int 0, .ref (rM 25), .ref (rM 26), .ref (rM 27), .int 0, .int 0, .ref (rM 28), .int 0, .ref (rM 29), .ref (rM 30), .ref (rM 31), .ref (rM 32), .ref (rM 33), .ref (rM 34), .ref (rM 35), .ref (rM 36), .int 0, .int 0, .int 0, .ref (rM 37), .ref (rM 38)])), (rM 7, .inl ((cM 7), 2, .inl (fM 7)))]) (w1 := []) hP hD [0, 1] [2, 3] rfl rfl (by decide) (by decide) hk1 hFc (fun k q h => by simp at h) ⟨fun i j p q h => by simp at h, fun k q h => by simp at h⟩
    refine wt_c (v := 1) hw ?_
    refine lv_aload_n hx hb dL_law_1235 rfl (lv_at hl 1 rfl) ?_
    refine lv_aload_n hx hb dL_law_1236 rfl (lv_at hl 3 rfl) ?_
    refine lv_iload_n hx hb dL_law_1237 rfl (lv_at hl 0 rfl) ?_
    refine lv_iconst (v := 1) hx hb dL_law_1238 (by decide) ?_
    refine lv_iadd hx hb dL_law_1239 ?_
    refine wt_c (v := 1) (by decide) ?_
    refine va_sld hx hb hX hbl hbA hS (vin (by decide)) dL_law_1240 ?_
    refine wt_c (v := xs 1) (congrArg xs (by decide)) ?_
    refine lv_aload_n hx hb dL_law_1241 rfl (lv_at hl 3 rfl) ?_
    refine lv_iload_n hx hb dL_law_1242 rfl (lv_at hl 0 rfl) ?_
    refine lv_iconst (v := 2) hx hb dL_law_1243 (by decide) ?_
    refine lv_iadd hx hb dL_law_1244 ?_
    refine wt_c (v := 2) (by decide) ?_
    refine va_sld hx hb hX hbl hbA hS (vin (by decide)) dL_law_1245 ?_
    refine wt_c (v := xs 2) (congrArg xs (by decide)) ?_
    have hPc := hP.sub (ws' := [(rM 0, .inr (8, [.ref (rM 1), .ref (rM 2), .int 0, .int 0, .int 0, .int (-1), .int 0, .int 0, .int 0, .int 0, .long 0, .ref (rM 3), .ref (rM 4), .ref (rM 5), .ref (rM 6), .ref (rM 7), .ref (rM 8), .ref (rM 9), .ref (rM 10), .ref (rM 11), .ref (rM 12), .ref (rM 13), .ref (rM 14), .ref (rM 15), .ref (rM 16), .ref (rM 17), .ref (rM 18), .ref (rM 19), .ref (rM 20), .ref (rM 21), .ref (rM 22), .ref (rM 23), .ref (rM 24), .int 0, .int 0, .int 0, .int 0, .int 0, .int 0, .int 0, .int 0, .int 0, .ref (rM 25), .ref (rM 26), .ref (rM 27), .int 0, .int 0, .ref (rM 28), .int 0, .ref (rM 29), .ref (rM 30), .ref (rM 31), .ref (rM 32), .ref (rM 33), .ref (rM 34), .ref (rM 35), .ref (rM 36), .int 0, .int 0, .int 0, .ref (rM 37), .ref (rM 38)])), (rM 7, .inl ((cM 7), 2, .inl (fM 7)))]) [0, 1] rfl
    have hKc := hK.sub (tys' := [((cM 7), .int)]) [0] rfl
    have hDc := hD.sub (ws' := [(rM 0, .inr (8, [.ref (rM 1), .ref (rM 2), .int 0, .int 0, .int 0, .int (-1), .int 0, .int 0, .int 0, .int 0, .long 0, .ref (rM 3), .ref (rM 4), .ref (rM 5), .ref (rM 6), .ref (rM 7), .ref (rM 8), .ref (rM 9), .ref (rM 10), .ref (rM 11), .ref (rM 12), .ref (rM 13), .ref (rM 14), .ref (rM 15), .ref (rM 16), .ref (rM 17), .ref (rM 18), .ref (rM 19), .ref (rM 20), .ref (rM 21), .ref (rM 22), .ref (rM 23), .ref (rM 24), .int 0, .int 0, .int 0, .int 0, .int 0, .int 0, .int 0, .int 0, .int 0, .ref (rM 25), .ref (rM 26), .ref (rM 27), .int 0, .int 0, .ref (rM 28), .int 0, .ref (rM 29), .ref (rM 30), .ref (rM 31), .ref (rM 32), .ref (rM 33), .ref (rM 34), .ref (rM 35), .ref (rM 36), .int 0, .int 0, .int 0, .ref (rM 37), .ref (rM 38)])), (rM 7, .inl ((cM 7), 2, .inl (fM 7)))]) [0, 1] (by decide) rfl
    have hFc := va_free (wc := [(rM 0, .inr (8, [.ref (rM 1), .ref (rM 2), .int 0, .int 0, .int 0, .int (-1), .int 0, .int 0, .int 0, .int 0, .long 0, .ref (rM 3), .ref (rM 4), .ref (rM 5), .ref (rM 6), .ref (rM 7), .ref (rM 8), .ref (rM 9), .ref (rM 10), .ref (rM 11), .ref (rM 12), .ref (rM 13), .ref (rM 14), .ref (rM 15), .ref (rM 16), .ref (rM 17), .ref (rM 18), .ref (rM 19), .ref (rM 20), .ref (rM 21), .ref (rM 22), .ref (rM 23), .ref (rM 24), .int 0, .int 0, .int 0, .int 0, .int 0, .int 0, .int 0, .int 0, .int 0, .ref (rM 25), .ref (rM 26), .ref (rM 27), .int 0, .int 0, .ref (rM 28), .int 0, .ref (rM 29), .ref (rM 30), .ref (rM 31), .ref (rM 32), .ref (rM 33), .ref (rM 34), .ref (rM 35), .ref (rM 36), .int 0, .int 0, .int 0, .ref (rM 37), .ref (rM 38)])), (rM 7, .inl ((cM 7), 2, .inl (fM 7)))]) hD hS hA [0, 1] rfl
    refine va_calli (va_runV (As := [.int (xs 1), .int (xs 2)]) (rest := [.int 1]) ⟨hx, hb, hml, hown, hG⟩ (kX9_odds l dC dI rM cM (fM 7) (xs 1) (xs 2) H1.size hfM_7_0) (cwV 2 hG (goodV gw1810 gw1811 gw1812 gw138 gw1813) rfl rfl rfl hd_X9_odds ⟨(Nat.le_of_ble_eq_true rfl), (Nat.le_of_ble_eq_true rfl)⟩) ⟨fbW, va_recv hKc hPc (ci := 8) (q0 := 0) rfl rfl, pW_in hPc hKc hDc⟩ rfl rfl hl.1 rfl (lv_room (Nat.le_of_ble_eq_true rfl)) dL_law_1246 ⟨(Nat.le_of_ble_eq_true rfl), (Nat.le_of_ble_eq_true rfl)⟩) hS (fun q _ h => hFc q h) hFc (fun r_359 u t H358 locs ht hvm hw hB hz1 hk1 hS => ?_)
    rcases hw with ⟨rfl, hy360, hw⟩ | ⟨rfl, hy361, hy362, hw⟩ | ⟨rfl, hy363, hy364, hy365, hw⟩ | ⟨rfl, hy366, hy367, hy368, hy369, hw⟩ | ⟨rfl, hy370, hy371, hy372, hy373, hw⟩ | ⟨rfl, hy374, hy375, hy376, hy377, hw⟩ | ⟨rfl, hy378, hy379, hy380, hy381, hw⟩ | ⟨rfl, hy382, hy383, hy384, hy385, hw⟩ | ⟨rfl, hy386, hy387, hy388, hy389, hw⟩ | ⟨rfl, hy390, hy391, hy392, hy393, hw⟩ | ⟨rfl, hy394, hy395, hy396, hy397, hw⟩ | ⟨rfl, hy398, hy399, hy400, hy401, hw⟩ | ⟨rfl, hy402, hy403, hy404, hy405, hw⟩ | ⟨rfl, hy406, hy407, hy408, hy409, hw⟩
    · skip
      exact ((by have k0 := q_nlt hy21; have k1 := q_nlt hy22; have k4 := q_nle hy25; have k5 := q_le hy26; have k7 := q_lt hy360; have z0 : (0 : Int32).toInt = 0 := (by decide); have z1 : (1 : Int32).toInt = 1 := (by decide); have z4 : (4 : Int32).toInt = 4 := (by decide); omega) : False).elim
    · skip
      exact ((by have k0 := q_nlt hy21; have k1 := q_nlt hy22; have k4 := q_nle hy25; have k5 := q_le hy26; have k7 := q_nlt hy361; have k8 := q_lt hy362; have z0 : (0 : Int32).toInt = 0 := (by decide); have z1 : (1 : Int32).toInt = 1 := (by decide); have z4 : (4 : Int32).toInt = 4 := (by decide); omega) : False).elim
    · skip
      exact ((by have k2 := q_nlt hy23; have k3 := q_le hy24; have k6 := q_ne hy27; have k9 := q_lt hy365; have z0 : (0 : Int32).toInt = 0 := (by decide); have z1 : (1 : Int32).toInt = 1 := (by decide); omega) : False).elim
    · skip
      exact ((by have k2 := q_nlt hy23; have k3 := q_le hy24; have k6 := q_ne hy27; have k9 := q_nlt hy368; have k10 := q_lt hy369; have z0 : (0 : Int32).toInt = 0 := (by decide); have z1 : (1 : Int32).toInt = 1 := (by decide); omega) : False).elim
    · skip
      exact ((by have k0 := q_nlt hy21; have k1 := q_nlt hy22; have k4 := q_nle hy25; have k5 := q_le hy26; have k7 := q_eq hy370; have z0 : (0 : Int32).toInt = 0 := (by decide); have z1 : (1 : Int32).toInt = 1 := (by decide); have z4 : (4 : Int32).toInt = 4 := (by decide); omega) : False).elim
    · skip
      exact ((by have k0 := q_nlt hy21; have k1 := q_nlt hy22; have k4 := q_nle hy25; have k5 := q_le hy26; have k7 := q_eq hy374; have z0 : (0 : Int32).toInt = 0 := (by decide); have z1 : (1 : Int32).toInt = 1 := (by decide); have z4 : (4 : Int32).toInt = 4 := (by decide); omega) : False).elim
    · skip
      obtain ⟨hP, hD⟩ := va_join (wr := []) (w1 := []) hP hD [0, 1] [] rfl rfl (by decide) (by decide) hk1 hFc (fun k q h => by simp at h) ⟨fun i j p q h => by simp at h, fun k q h => by simp at h⟩
      refine wt_c (v := 1) hw ?_
      refine lv_icmp_eq (tgt := 1540) hx hb dL_law_1249 (by decide) (fun c_410 => ?_) (fun c_410 => absurd (by decide) c_410)
      exact law_end l C0 hS hl
    · skip
      exact ((by have k2 := q_nlt hy23; have k3 := q_le hy24; have k6 := q_ne hy27; have k8 := q_nlt hy383; have k9 := q_nlt hy384; have k10 := q_eq hy385; have z0 : (0 : Int32).toInt = 0 := (by decide); have z1 : (1 : Int32).toInt = 1 := (by decide); omega) : False).elim
    · skip
      exact ((by have k0 := q_nlt hy21; have k1 := q_nlt hy22; have k4 := q_nle hy25; have k5 := q_le hy26; have k7 := q_eq hy386; have z0 : (0 : Int32).toInt = 0 := (by decide); have z1 : (1 : Int32).toInt = 1 := (by decide); have z2 : (2 : Int32).toInt = 2 := (by decide); have z4 : (4 : Int32).toInt = 4 := (by decide); omega) : False).elim
    · skip
      exact ((by have k0 := q_nlt hy21; have k1 := q_nlt hy22; have k4 := q_nle hy25; have k5 := q_le hy26; have k7 := q_eq hy390; have z0 : (0 : Int32).toInt = 0 := (by decide); have z1 : (1 : Int32).toInt = 1 := (by decide); have z2 : (2 : Int32).toInt = 2 := (by decide); have z4 : (4 : Int32).toInt = 4 := (by decide); omega) : False).elim
    · skip
      exact ((by have k0 := q_nlt hy21; have k1 := q_nlt hy22; have k4 := q_nle hy25; have k5 := q_le hy26; have k7 := q_eq hy394; have z0 : (0 : Int32).toInt = 0 := (by decide); have z1 : (1 : Int32).toInt = 1 := (by decide); have z3 : (3 : Int32).toInt = 3 := (by decide); have z4 : (4 : Int32).toInt = 4 := (by decide); omega) : False).elim
    · skip
      exact ((by have k0 := q_nlt hy21; have k1 := q_nlt hy22; have k4 := q_nle hy25; have k5 := q_le hy26; have k7 := q_eq hy398; have z0 : (0 : Int32).toInt = 0 := (by decide); have z1 : (1 : Int32).toInt = 1 := (by decide); have z3 : (3 : Int32).toInt = 3 := (by decide); have z4 : (4 : Int32).toInt = 4 := (by decide); omega) : False).elim
    · skip
      exact ((by have k0 := q_nlt hy21; have k1 := q_nlt hy22; have k4 := q_nle hy25; have k5 := q_le hy26; have k7 := q_eq hy402; have z0 : (0 : Int32).toInt = 0 := (by decide); have z1 : (1 : Int32).toInt = 1 := (by decide); have z4 : (4 : Int32).toInt = 4 := (by decide); omega) : False).elim
    · skip
      exact ((by have k0 := q_nlt hy21; have k1 := q_nlt hy22; have k4 := q_nle hy25; have k5 := q_le hy26; have k7 := q_eq hy406; have z0 : (0 : Int32).toInt = 0 := (by decide); have z1 : (1 : Int32).toInt = 1 := (by decide); have z4 : (4 : Int32).toInt = 4 := (by decide); omega) : False).elim
  · skip
    obtain ⟨hP, hD⟩ := va_join (wr := [(rM 0, .inr (8, [.ref (rM 1), .ref (rM 2), .int 0, .int 0, .int 0, .int (-1), .int 0, .int 0, .int 0, .int 0, .long 0, .ref (rM 3), .ref (rM 4), .ref (rM 5), .ref (rM 6), .ref (rM 7), .ref (rM 8), .ref (rM 9), .ref (rM 10), .ref (rM 11), .ref (rM 12), .ref (rM 13), .ref (rM 14), .ref (rM 15), .ref (rM 16), .ref (rM 17), .ref (rM 18), .ref (rM 19), .ref (rM 20), .ref (rM 21), .ref (rM 22), .ref (rM 23), .ref (rM 24), .int 0, .int 0, .int 0, .int 0, .int 0, .int 0, .int 0, .int 0, .int 0, .ref (rM 25), .ref (rM 26), .ref (rM 27), .int 0, .int 0, .ref (rM 28), .int 0, .ref (rM 29), .ref (rM 30), .ref (rM 31), .ref (rM 32), .ref (rM 33), .ref (rM 34), .ref (rM 35), .ref (rM 36), .int 0, .int 0, .int 0, .ref (rM 37), .ref (rM 38)])), (rM 7, .inl ((cM 7), 2, .inl (fM 7)))]) (w1 := []) hP hD [0, 1] [2, 3] rfl rfl (by decide) (by decide) hk1 hFc (fun k q h => by simp at h) ⟨fun i j p q h => by simp at h, fun k q h => by simp at h⟩
    refine wt_c (v := 1) hw ?_
    refine lv_aload_n hx hb dL_law_1235 rfl (lv_at hl 1 rfl) ?_
    refine lv_aload_n hx hb dL_law_1236 rfl (lv_at hl 3 rfl) ?_
    refine lv_iload_n hx hb dL_law_1237 rfl (lv_at hl 0 rfl) ?_
    refine lv_iconst (v := 1) hx hb dL_law_1238 (by decide) ?_
    refine lv_iadd hx hb dL_law_1239 ?_
    refine wt_c (v := 1) (by decide) ?_
    refine va_sld hx hb hX hbl hbA hS (vin (by decide)) dL_law_1240 ?_
    refine wt_c (v := xs 1) (congrArg xs (by decide)) ?_
    refine lv_aload_n hx hb dL_law_1241 rfl (lv_at hl 3 rfl) ?_
    refine lv_iload_n hx hb dL_law_1242 rfl (lv_at hl 0 rfl) ?_
    refine lv_iconst (v := 2) hx hb dL_law_1243 (by decide) ?_
    refine lv_iadd hx hb dL_law_1244 ?_
    refine wt_c (v := 2) (by decide) ?_
    refine va_sld hx hb hX hbl hbA hS (vin (by decide)) dL_law_1245 ?_
    refine wt_c (v := xs 2) (congrArg xs (by decide)) ?_
    have hPc := hP.sub (ws' := [(rM 0, .inr (8, [.ref (rM 1), .ref (rM 2), .int 0, .int 0, .int 0, .int (-1), .int 0, .int 0, .int 0, .int 0, .long 0, .ref (rM 3), .ref (rM 4), .ref (rM 5), .ref (rM 6), .ref (rM 7), .ref (rM 8), .ref (rM 9), .ref (rM 10), .ref (rM 11), .ref (rM 12), .ref (rM 13), .ref (rM 14), .ref (rM 15), .ref (rM 16), .ref (rM 17), .ref (rM 18), .ref (rM 19), .ref (rM 20), .ref (rM 21), .ref (rM 22), .ref (rM 23), .ref (rM 24), .int 0, .int 0, .int 0, .int 0, .int 0, .int 0, .int 0, .int 0, .int 0, .ref (rM 25), .ref (rM 26), .ref (rM 27), .int 0, .int 0, .ref (rM 28), .int 0, .ref (rM 29), .ref (rM 30), .ref (rM 31), .ref (rM 32), .ref (rM 33), .ref (rM 34), .ref (rM 35), .ref (rM 36), .int 0, .int 0, .int 0, .ref (rM 37), .ref (rM 38)])), (rM 7, .inl ((cM 7), 2, .inl (fM 7)))]) [0, 1] rfl
    have hKc := hK.sub (tys' := [((cM 7), .int)]) [0] rfl
    have hDc := hD.sub (ws' := [(rM 0, .inr (8, [.ref (rM 1), .ref (rM 2), .int 0, .int 0, .int 0, .int (-1), .int 0, .int 0, .int 0, .int 0, .long 0, .ref (rM 3), .ref (rM 4), .ref (rM 5), .ref (rM 6), .ref (rM 7), .ref (rM 8), .ref (rM 9), .ref (rM 10), .ref (rM 11), .ref (rM 12), .ref (rM 13), .ref (rM 14), .ref (rM 15), .ref (rM 16), .ref (rM 17), .ref (rM 18), .ref (rM 19), .ref (rM 20), .ref (rM 21), .ref (rM 22), .ref (rM 23), .ref (rM 24), .int 0, .int 0, .int 0, .int 0, .int 0, .int 0, .int 0, .int 0, .int 0, .ref (rM 25), .ref (rM 26), .ref (rM 27), .int 0, .int 0, .ref (rM 28), .int 0, .ref (rM 29), .ref (rM 30), .ref (rM 31), .ref (rM 32), .ref (rM 33), .ref (rM 34), .ref (rM 35), .ref (rM 36), .int 0, .int 0, .int 0, .ref (rM 37), .ref (rM 38)])), (rM 7, .inl ((cM 7), 2, .inl (fM 7)))]) [0, 1] (by decide) rfl
    have hFc := va_free (wc := [(rM 0, .inr (8, [.ref (rM 1), .ref (rM 2), .int 0, .int 0, .int 0, .int (-1), .int 0, .int 0, .int 0, .int 0, .long 0, .ref (rM 3), .ref (rM 4), .ref (rM 5), .ref (rM 6), .ref (rM 7), .ref (rM 8), .ref (rM 9), .ref (rM 10), .ref (rM 11), .ref (rM 12), .ref (rM 13), .ref (rM 14), .ref (rM 15), .ref (rM 16), .ref (rM 17), .ref (rM 18), .ref (rM 19), .ref (rM 20), .ref (rM 21), .ref (rM 22), .ref (rM 23), .ref (rM 24), .int 0, .int 0, .int 0, .int 0, .int 0, .int 0, .int 0, .int 0, .int 0, .ref (rM 25), .ref (rM 26), .ref (rM 27), .int 0, .int 0, .ref (rM 28), .int 0, .ref (rM 29), .ref (rM 30), .ref (rM 31), .ref (rM 32), .ref (rM 33), .ref (rM 34), .ref (rM 35), .ref (rM 36), .int 0, .int 0, .int 0, .ref (rM 37), .ref (rM 38)])), (rM 7, .inl ((cM 7), 2, .inl (fM 7)))]) hD hS hA [0, 1] rfl
    refine va_calli (va_runV (As := [.int (xs 1), .int (xs 2)]) (rest := [.int 1]) ⟨hx, hb, hml, hown, hG⟩ (kX9_odds l dC dI rM cM (fM 7) (xs 1) (xs 2) H1.size hfM_7_0) (cwV 2 hG (goodV gw1810 gw1811 gw1812 gw138 gw1813) rfl rfl rfl hd_X9_odds ⟨(Nat.le_of_ble_eq_true rfl), (Nat.le_of_ble_eq_true rfl)⟩) ⟨fbW, va_recv hKc hPc (ci := 8) (q0 := 0) rfl rfl, pW_in hPc hKc hDc⟩ rfl rfl hl.1 rfl (lv_room (Nat.le_of_ble_eq_true rfl)) dL_law_1246 ⟨(Nat.le_of_ble_eq_true rfl), (Nat.le_of_ble_eq_true rfl)⟩) hS (fun q _ h => hFc q h) hFc (fun r_412 u t H411 locs ht hvm hw hB hz1 hk1 hS => ?_)
    rcases hw with ⟨rfl, hy413, hw⟩ | ⟨rfl, hy414, hy415, hw⟩ | ⟨rfl, hy416, hy417, hy418, hw⟩ | ⟨rfl, hy419, hy420, hy421, hy422, hw⟩ | ⟨rfl, hy423, hy424, hy425, hy426, hw⟩ | ⟨rfl, hy427, hy428, hy429, hy430, hw⟩ | ⟨rfl, hy431, hy432, hy433, hy434, hw⟩ | ⟨rfl, hy435, hy436, hy437, hy438, hw⟩ | ⟨rfl, hy439, hy440, hy441, hy442, hw⟩ | ⟨rfl, hy443, hy444, hy445, hy446, hw⟩ | ⟨rfl, hy447, hy448, hy449, hy450, hw⟩ | ⟨rfl, hy451, hy452, hy453, hy454, hw⟩ | ⟨rfl, hy455, hy456, hy457, hy458, hw⟩ | ⟨rfl, hy459, hy460, hy461, hy462, hw⟩
    · skip
      exact ((by have k0 := q_nlt hy28; have k1 := q_nlt hy29; have k4 := q_nle hy32; have k5 := q_le hy33; have k7 := q_lt hy413; have z0 : (0 : Int32).toInt = 0 := (by decide); have z1 : (1 : Int32).toInt = 1 := (by decide); have z4 : (4 : Int32).toInt = 4 := (by decide); omega) : False).elim
    · skip
      exact ((by have k0 := q_nlt hy28; have k1 := q_nlt hy29; have k4 := q_nle hy32; have k5 := q_le hy33; have k7 := q_nlt hy414; have k8 := q_lt hy415; have z0 : (0 : Int32).toInt = 0 := (by decide); have z1 : (1 : Int32).toInt = 1 := (by decide); have z4 : (4 : Int32).toInt = 4 := (by decide); omega) : False).elim
    · skip
      exact ((by have k2 := q_nlt hy30; have k3 := q_le hy31; have k6 := q_eq hy34; have k9 := q_lt hy418; have z0 : (0 : Int32).toInt = 0 := (by decide); have z1 : (1 : Int32).toInt = 1 := (by decide); omega) : False).elim
    · skip
      exact ((by have k2 := q_nlt hy30; have k3 := q_le hy31; have k6 := q_eq hy34; have k9 := q_nlt hy421; have k10 := q_lt hy422; have z0 : (0 : Int32).toInt = 0 := (by decide); have z1 : (1 : Int32).toInt = 1 := (by decide); omega) : False).elim
    · skip
      exact ((by have k0 := q_nlt hy28; have k1 := q_nlt hy29; have k4 := q_nle hy32; have k5 := q_le hy33; have k7 := q_eq hy423; have z0 : (0 : Int32).toInt = 0 := (by decide); have z1 : (1 : Int32).toInt = 1 := (by decide); have z4 : (4 : Int32).toInt = 4 := (by decide); omega) : False).elim
    · skip
      exact ((by have k0 := q_nlt hy28; have k1 := q_nlt hy29; have k4 := q_nle hy32; have k5 := q_le hy33; have k7 := q_eq hy427; have z0 : (0 : Int32).toInt = 0 := (by decide); have z1 : (1 : Int32).toInt = 1 := (by decide); have z4 : (4 : Int32).toInt = 4 := (by decide); omega) : False).elim
    · skip
      exact ((by have k2 := q_nlt hy30; have k3 := q_le hy31; have k6 := q_eq hy34; have k8 := q_nlt hy432; have k9 := q_nlt hy433; have k10 := q_ne hy434; have z0 : (0 : Int32).toInt = 0 := (by decide); have z1 : (1 : Int32).toInt = 1 := (by decide); omega) : False).elim
    · skip
      obtain ⟨hP, hD⟩ := va_join (wr := []) (w1 := []) hP hD [0, 1] [] rfl rfl (by decide) (by decide) hk1 hFc (fun k q h => by simp at h) ⟨fun i j p q h => by simp at h, fun k q h => by simp at h⟩
      refine wt_c (v := 1) hw ?_
      refine lv_icmp_eq (tgt := 1540) hx hb dL_law_1249 (by decide) (fun c_463 => ?_) (fun c_463 => absurd (by decide) c_463)
      exact law_end l C0 hS hl
    · skip
      exact ((by have k0 := q_nlt hy28; have k1 := q_nlt hy29; have k4 := q_nle hy32; have k5 := q_le hy33; have k7 := q_eq hy439; have z0 : (0 : Int32).toInt = 0 := (by decide); have z1 : (1 : Int32).toInt = 1 := (by decide); have z2 : (2 : Int32).toInt = 2 := (by decide); have z4 : (4 : Int32).toInt = 4 := (by decide); omega) : False).elim
    · skip
      exact ((by have k0 := q_nlt hy28; have k1 := q_nlt hy29; have k4 := q_nle hy32; have k5 := q_le hy33; have k7 := q_eq hy443; have z0 : (0 : Int32).toInt = 0 := (by decide); have z1 : (1 : Int32).toInt = 1 := (by decide); have z2 : (2 : Int32).toInt = 2 := (by decide); have z4 : (4 : Int32).toInt = 4 := (by decide); omega) : False).elim
    · skip
      exact ((by have k0 := q_nlt hy28; have k1 := q_nlt hy29; have k4 := q_nle hy32; have k5 := q_le hy33; have k7 := q_eq hy447; have z0 : (0 : Int32).toInt = 0 := (by decide); have z1 : (1 : Int32).toInt = 1 := (by decide); have z3 : (3 : Int32).toInt = 3 := (by decide); have z4 : (4 : Int32).toInt = 4 := (by decide); omega) : False).elim
    · skip
      exact ((by have k0 := q_nlt hy28; have k1 := q_nlt hy29; have k4 := q_nle hy32; have k5 := q_le hy33; have k7 := q_eq hy451; have z0 : (0 : Int32).toInt = 0 := (by decide); have z1 : (1 : Int32).toInt = 1 := (by decide); have z3 : (3 : Int32).toInt = 3 := (by decide); have z4 : (4 : Int32).toInt = 4 := (by decide); omega) : False).elim
    · skip
      exact ((by have k0 := q_nlt hy28; have k1 := q_nlt hy29; have k4 := q_nle hy32; have k5 := q_le hy33; have k7 := q_eq hy455; have z0 : (0 : Int32).toInt = 0 := (by decide); have z1 : (1 : Int32).toInt = 1 := (by decide); have z4 : (4 : Int32).toInt = 4 := (by decide); omega) : False).elim
    · skip
      exact ((by have k0 := q_nlt hy28; have k1 := q_nlt hy29; have k4 := q_nle hy32; have k5 := q_le hy33; have k7 := q_eq hy459; have z0 : (0 : Int32).toInt = 0 := (by decide); have z1 : (1 : Int32).toInt = 1 := (by decide); have z4 : (4 : Int32).toInt = 4 := (by decide); omega) : False).elim
  · skip
    obtain ⟨hP, hD⟩ := va_join (wr := [(rM 0, .inr (8, [.ref (rM 1), .ref (rM 2), .int 0, .int 0, .int 0, .int (-1), .int 0, .int 0, .int 0, .int 0, .long 0, .ref (rM 3), .ref (rM 4), .ref (rM 5), .ref (rM 6), .ref (rM 7), .ref (rM 8), .ref (rM 9), .ref (rM 10), .ref (rM 11), .ref (rM 12), .ref (rM 13), .ref (rM 14), .ref (rM 15), .ref (rM 16), .ref (rM 17), .ref (rM 18), .ref (rM 19), .ref (rM 20), .ref (rM 21), .ref (rM 22), .ref (rM 23), .ref (rM 24), .int 0, .int 0, .int 0, .int 0, .int 0, .int 0, .int 0, .int 0, .int 0, .ref (rM 25), .ref (rM 26), .ref (rM 27), .int 0, .int 0, .ref (rM 28), .int 0, .ref (rM 29), .ref (rM 30), .ref (rM 31), .ref (rM 32), .ref (rM 33), .ref (rM 34), .ref (rM 35), .ref (rM 36), .int 0, .int 0, .int 0, .ref (rM 37), .ref (rM 38)])), (rM 7, .inl ((cM 7), 2, .inl (fM 7)))]) (w1 := []) hP hD [0, 1] [2, 3] rfl rfl (by decide) (by decide) hk1 hFc (fun k q h => by simp at h) ⟨fun i j p q h => by simp at h, fun k q h => by simp at h⟩
    refine wt_c (v := 1) hw ?_
    refine lv_aload_n hx hb dL_law_1235 rfl (lv_at hl 1 rfl) ?_
    refine lv_aload_n hx hb dL_law_1236 rfl (lv_at hl 3 rfl) ?_
    refine lv_iload_n hx hb dL_law_1237 rfl (lv_at hl 0 rfl) ?_
    refine lv_iconst (v := 1) hx hb dL_law_1238 (by decide) ?_
    refine lv_iadd hx hb dL_law_1239 ?_
    refine wt_c (v := 1) (by decide) ?_
    refine va_sld hx hb hX hbl hbA hS (vin (by decide)) dL_law_1240 ?_
    refine wt_c (v := xs 1) (congrArg xs (by decide)) ?_
    refine lv_aload_n hx hb dL_law_1241 rfl (lv_at hl 3 rfl) ?_
    refine lv_iload_n hx hb dL_law_1242 rfl (lv_at hl 0 rfl) ?_
    refine lv_iconst (v := 2) hx hb dL_law_1243 (by decide) ?_
    refine lv_iadd hx hb dL_law_1244 ?_
    refine wt_c (v := 2) (by decide) ?_
    refine va_sld hx hb hX hbl hbA hS (vin (by decide)) dL_law_1245 ?_
    refine wt_c (v := xs 2) (congrArg xs (by decide)) ?_
    have hPc := hP.sub (ws' := [(rM 0, .inr (8, [.ref (rM 1), .ref (rM 2), .int 0, .int 0, .int 0, .int (-1), .int 0, .int 0, .int 0, .int 0, .long 0, .ref (rM 3), .ref (rM 4), .ref (rM 5), .ref (rM 6), .ref (rM 7), .ref (rM 8), .ref (rM 9), .ref (rM 10), .ref (rM 11), .ref (rM 12), .ref (rM 13), .ref (rM 14), .ref (rM 15), .ref (rM 16), .ref (rM 17), .ref (rM 18), .ref (rM 19), .ref (rM 20), .ref (rM 21), .ref (rM 22), .ref (rM 23), .ref (rM 24), .int 0, .int 0, .int 0, .int 0, .int 0, .int 0, .int 0, .int 0, .int 0, .ref (rM 25), .ref (rM 26), .ref (rM 27), .int 0, .int 0, .ref (rM 28), .int 0, .ref (rM 29), .ref (rM 30), .ref (rM 31), .ref (rM 32), .ref (rM 33), .ref (rM 34), .ref (rM 35), .ref (rM 36), .int 0, .int 0, .int 0, .ref (rM 37), .ref (rM 38)])), (rM 7, .inl ((cM 7), 2, .inl (fM 7)))]) [0, 1] rfl
    have hKc := hK.sub (tys' := [((cM 7), .int)]) [0] rfl
    have hDc := hD.sub (ws' := [(rM 0, .inr (8, [.ref (rM 1), .ref (rM 2), .int 0, .int 0, .int 0, .int (-1), .int 0, .int 0, .int 0, .int 0, .long 0, .ref (rM 3), .ref (rM 4), .ref (rM 5), .ref (rM 6), .ref (rM 7), .ref (rM 8), .ref (rM 9), .ref (rM 10), .ref (rM 11), .ref (rM 12), .ref (rM 13), .ref (rM 14), .ref (rM 15), .ref (rM 16), .ref (rM 17), .ref (rM 18), .ref (rM 19), .ref (rM 20), .ref (rM 21), .ref (rM 22), .ref (rM 23), .ref (rM 24), .int 0, .int 0, .int 0, .int 0, .int 0, .int 0, .int 0, .int 0, .int 0, .ref (rM 25), .ref (rM 26), .ref (rM 27), .int 0, .int 0, .ref (rM 28), .int 0, .ref (rM 29), .ref (rM 30), .ref (rM 31), .ref (rM 32), .ref (rM 33), .ref (rM 34), .ref (rM 35), .ref (rM 36), .int 0, .int 0, .int 0, .ref (rM 37), .ref (rM 38)])), (rM 7, .inl ((cM 7), 2, .inl (fM 7)))]) [0, 1] (by decide) rfl
    have hFc := va_free (wc := [(rM 0, .inr (8, [.ref (rM 1), .ref (rM 2), .int 0, .int 0, .int 0, .int (-1), .int 0, .int 0, .int 0, .int 0, .long 0, .ref (rM 3), .ref (rM 4), .ref (rM 5), .ref (rM 6), .ref (rM 7), .ref (rM 8), .ref (rM 9), .ref (rM 10), .ref (rM 11), .ref (rM 12), .ref (rM 13), .ref (rM 14), .ref (rM 15), .ref (rM 16), .ref (rM 17), .ref (rM 18), .ref (rM 19), .ref (rM 20), .ref (rM 21), .ref (rM 22), .ref (rM 23), .ref (rM 24), .int 0, .int 0, .int 0, .int 0, .int 0, .int 0, .int 0, .int 0, .int 0, .ref (rM 25), .ref (rM 26), .ref (rM 27), .int 0, .int 0, .ref (rM 28), .int 0, .ref (rM 29), .ref (rM 30), .ref (rM 31), .ref (rM 32), .ref (rM 33), .ref (rM 34), .ref (rM 35), .ref (rM 36), .int 0, .int 0, .int 0, .ref (rM 37), .ref (rM 38)])), (rM 7, .inl ((cM 7), 2, .inl (fM 7)))]) hD hS hA [0, 1] rfl
    refine va_calli (va_runV (As := [.int (xs 1), .int (xs 2)]) (rest := [.int 1]) ⟨hx, hb, hml, hown, hG⟩ (kX9_odds l dC dI rM cM (fM 7) (xs 1) (xs 2) H1.size hfM_7_0) (cwV 2 hG (goodV gw1810 gw1811 gw1812 gw138 gw1813) rfl rfl rfl hd_X9_odds ⟨(Nat.le_of_ble_eq_true rfl), (Nat.le_of_ble_eq_true rfl)⟩) ⟨fbW, va_recv hKc hPc (ci := 8) (q0 := 0) rfl rfl, pW_in hPc hKc hDc⟩ rfl rfl hl.1 rfl (lv_room (Nat.le_of_ble_eq_true rfl)) dL_law_1246 ⟨(Nat.le_of_ble_eq_true rfl), (Nat.le_of_ble_eq_true rfl)⟩) hS (fun q _ h => hFc q h) hFc (fun r_465 u t H464 locs ht hvm hw hB hz1 hk1 hS => ?_)
    rcases hw with ⟨rfl, hy466, hw⟩ | ⟨rfl, hy467, hy468, hw⟩ | ⟨rfl, hy469, hy470, hy471, hw⟩ | ⟨rfl, hy472, hy473, hy474, hy475, hw⟩ | ⟨rfl, hy476, hy477, hy478, hy479, hw⟩ | ⟨rfl, hy480, hy481, hy482, hy483, hw⟩ | ⟨rfl, hy484, hy485, hy486, hy487, hw⟩ | ⟨rfl, hy488, hy489, hy490, hy491, hw⟩ | ⟨rfl, hy492, hy493, hy494, hy495, hw⟩ | ⟨rfl, hy496, hy497, hy498, hy499, hw⟩ | ⟨rfl, hy500, hy501, hy502, hy503, hw⟩ | ⟨rfl, hy504, hy505, hy506, hy507, hw⟩ | ⟨rfl, hy508, hy509, hy510, hy511, hw⟩ | ⟨rfl, hy512, hy513, hy514, hy515, hw⟩
    · skip
      exact ((by have k0 := q_nlt hy35; have k1 := q_nlt hy36; have k4 := q_nle hy39; have k5 := q_nle hy40; have k6 := q_le hy41; have k8 := q_lt hy466; have z0 : (0 : Int32).toInt = 0 := (by decide); have z1 : (1 : Int32).toInt = 1 := (by decide); have z2 : (2 : Int32).toInt = 2 := (by decide); have z4 : (4 : Int32).toInt = 4 := (by decide); omega) : False).elim
    · skip
      exact ((by have k0 := q_nlt hy35; have k1 := q_nlt hy36; have k4 := q_nle hy39; have k5 := q_nle hy40; have k6 := q_le hy41; have k8 := q_nlt hy467; have k9 := q_lt hy468; have z0 : (0 : Int32).toInt = 0 := (by decide); have z1 : (1 : Int32).toInt = 1 := (by decide); have z2 : (2 : Int32).toInt = 2 := (by decide); have z4 : (4 : Int32).toInt = 4 := (by decide); omega) : False).elim
    · skip
      exact ((by have k2 := q_nlt hy37; have k3 := q_le hy38; have k7 := q_ne hy42; have k10 := q_lt hy471; have z0 : (0 : Int32).toInt = 0 := (by decide); have z1 : (1 : Int32).toInt = 1 := (by decide); omega) : False).elim
    · skip
      exact ((by have k2 := q_nlt hy37; have k3 := q_le hy38; have k7 := q_ne hy42; have k10 := q_nlt hy474; have k11 := q_lt hy475; have z0 : (0 : Int32).toInt = 0 := (by decide); have z1 : (1 : Int32).toInt = 1 := (by decide); omega) : False).elim
    · skip
      exact ((by have k0 := q_nlt hy35; have k1 := q_nlt hy36; have k4 := q_nle hy39; have k5 := q_nle hy40; have k6 := q_le hy41; have k8 := q_eq hy476; have z0 : (0 : Int32).toInt = 0 := (by decide); have z1 : (1 : Int32).toInt = 1 := (by decide); have z2 : (2 : Int32).toInt = 2 := (by decide); have z4 : (4 : Int32).toInt = 4 := (by decide); omega) : False).elim
    · skip
      exact ((by have k0 := q_nlt hy35; have k1 := q_nlt hy36; have k4 := q_nle hy39; have k5 := q_nle hy40; have k6 := q_le hy41; have k8 := q_eq hy480; have z0 : (0 : Int32).toInt = 0 := (by decide); have z1 : (1 : Int32).toInt = 1 := (by decide); have z2 : (2 : Int32).toInt = 2 := (by decide); have z4 : (4 : Int32).toInt = 4 := (by decide); omega) : False).elim
    · skip
      exact ((by have k0 := q_nlt hy35; have k1 := q_nlt hy36; have k4 := q_nle hy39; have k5 := q_nle hy40; have k6 := q_le hy41; have k8 := q_eq hy484; have z0 : (0 : Int32).toInt = 0 := (by decide); have z1 : (1 : Int32).toInt = 1 := (by decide); have z2 : (2 : Int32).toInt = 2 := (by decide); have z4 : (4 : Int32).toInt = 4 := (by decide); omega) : False).elim
    · skip
      exact ((by have k0 := q_nlt hy35; have k1 := q_nlt hy36; have k4 := q_nle hy39; have k5 := q_nle hy40; have k6 := q_le hy41; have k8 := q_eq hy488; have z0 : (0 : Int32).toInt = 0 := (by decide); have z1 : (1 : Int32).toInt = 1 := (by decide); have z2 : (2 : Int32).toInt = 2 := (by decide); have z4 : (4 : Int32).toInt = 4 := (by decide); omega) : False).elim
    · skip
      obtain ⟨hP, hD⟩ := va_join (wr := []) (w1 := []) hP hD [0, 1] [] rfl rfl (by decide) (by decide) hk1 hFc (fun k q h => by simp at h) ⟨fun i j p q h => by simp at h, fun k q h => by simp at h⟩
      refine wt_c (v := 1) hw ?_
      refine lv_icmp_eq (tgt := 1540) hx hb dL_law_1249 (by decide) (fun c_516 => ?_) (fun c_516 => absurd (by decide) c_516)
      exact law_end l C0 hS hl
    · skip
      exact ((by have k2 := q_nlt hy37; have k3 := q_le hy38; have k7 := q_ne hy42; have k9 := q_nlt hy497; have k10 := q_nlt hy498; have k11 := q_eq hy499; have z0 : (0 : Int32).toInt = 0 := (by decide); have z1 : (1 : Int32).toInt = 1 := (by decide); omega) : False).elim
    · skip
      exact ((by have k0 := q_nlt hy35; have k1 := q_nlt hy36; have k4 := q_nle hy39; have k5 := q_nle hy40; have k6 := q_le hy41; have k8 := q_eq hy500; have z0 : (0 : Int32).toInt = 0 := (by decide); have z1 : (1 : Int32).toInt = 1 := (by decide); have z2 : (2 : Int32).toInt = 2 := (by decide); have z3 : (3 : Int32).toInt = 3 := (by decide); have z4 : (4 : Int32).toInt = 4 := (by decide); omega) : False).elim
    · skip
      exact ((by have k0 := q_nlt hy35; have k1 := q_nlt hy36; have k4 := q_nle hy39; have k5 := q_nle hy40; have k6 := q_le hy41; have k8 := q_eq hy504; have z0 : (0 : Int32).toInt = 0 := (by decide); have z1 : (1 : Int32).toInt = 1 := (by decide); have z2 : (2 : Int32).toInt = 2 := (by decide); have z3 : (3 : Int32).toInt = 3 := (by decide); have z4 : (4 : Int32).toInt = 4 := (by decide); omega) : False).elim
    · skip
      exact ((by have k0 := q_nlt hy35; have k1 := q_nlt hy36; have k4 := q_nle hy39; have k5 := q_nle hy40; have k6 := q_le hy41; have k8 := q_eq hy508; have z0 : (0 : Int32).toInt = 0 := (by decide); have z1 : (1 : Int32).toInt = 1 := (by decide); have z2 : (2 : Int32).toInt = 2 := (by decide); have z4 : (4 : Int32).toInt = 4 := (by decide); omega) : False).elim
    · skip
      exact ((by have k0 := q_nlt hy35; have k1 := q_nlt hy36; have k4 := q_nle hy39; have k5 := q_nle hy40; have k6 := q_le hy41; have k8 := q_eq hy512; have z0 : (0 : Int32).toInt = 0 := (by decide); have z1 : (1 : Int32).toInt = 1 := (by decide); have z2 : (2 : Int32).toInt = 2 := (by decide); have z4 : (4 : Int32).toInt = 4 := (by decide); omega) : False).elim
  · skip
    obtain ⟨hP, hD⟩ := va_join (wr := [(rM 0, .inr (8, [.ref (rM 1), .ref (rM 2), .int 0, .int 0, .int 0, .int (-1), .int 0, .int 0, .int 0, .int 0, .long 0, .ref (rM 3), .ref (rM 4), .ref (rM 5), .ref (rM 6), .ref (rM 7), .ref (rM 8), .ref (rM 9), .ref (rM 10), .ref (rM 11), .ref (rM 12), .ref (rM 13), .ref (rM 14), .ref (rM 15), .ref (rM 16), .ref (rM 17), .ref (rM 18), .ref (rM 19), .ref (rM 20), .ref (rM 21), .ref (rM 22), .ref (rM 23), .ref (rM 24), .int 0, .int 0, .int 0, .int 0, .int 0, .int 0, .int 0, .int 0, .int 0, .ref (rM 25), .ref (rM 26), .ref (rM 27), .int 0, .int 0, .ref (rM 28), .int 0, .ref (rM 29), .ref (rM 30), .ref (rM 31), .ref (rM 32), .ref (rM 33), .ref (rM 34), .ref (rM 35), .ref (rM 36), .int 0, .int 0, .int 0, .ref (rM 37), .ref (rM 38)])), (rM 7, .inl ((cM 7), 2, .inl (fM 7)))]) (w1 := []) hP hD [0, 1] [2, 3] rfl rfl (by decide) (by decide) hk1 hFc (fun k q h => by simp at h) ⟨fun i j p q h => by simp at h, fun k q h => by simp at h⟩
    refine wt_c (v := 1) hw ?_
    refine lv_aload_n hx hb dL_law_1235 rfl (lv_at hl 1 rfl) ?_
    refine lv_aload_n hx hb dL_law_1236 rfl (lv_at hl 3 rfl) ?_
    refine lv_iload_n hx hb dL_law_1237 rfl (lv_at hl 0 rfl) ?_
    refine lv_iconst (v := 1) hx hb dL_law_1238 (by decide) ?_
    refine lv_iadd hx hb dL_law_1239 ?_
    refine wt_c (v := 1) (by decide) ?_
    refine va_sld hx hb hX hbl hbA hS (vin (by decide)) dL_law_1240 ?_
    refine wt_c (v := xs 1) (congrArg xs (by decide)) ?_
    refine lv_aload_n hx hb dL_law_1241 rfl (lv_at hl 3 rfl) ?_
    refine lv_iload_n hx hb dL_law_1242 rfl (lv_at hl 0 rfl) ?_
    refine lv_iconst (v := 2) hx hb dL_law_1243 (by decide) ?_
    refine lv_iadd hx hb dL_law_1244 ?_
    refine wt_c (v := 2) (by decide) ?_
    refine va_sld hx hb hX hbl hbA hS (vin (by decide)) dL_law_1245 ?_
    refine wt_c (v := xs 2) (congrArg xs (by decide)) ?_
    have hPc := hP.sub (ws' := [(rM 0, .inr (8, [.ref (rM 1), .ref (rM 2), .int 0, .int 0, .int 0, .int (-1), .int 0, .int 0, .int 0, .int 0, .long 0, .ref (rM 3), .ref (rM 4), .ref (rM 5), .ref (rM 6), .ref (rM 7), .ref (rM 8), .ref (rM 9), .ref (rM 10), .ref (rM 11), .ref (rM 12), .ref (rM 13), .ref (rM 14), .ref (rM 15), .ref (rM 16), .ref (rM 17), .ref (rM 18), .ref (rM 19), .ref (rM 20), .ref (rM 21), .ref (rM 22), .ref (rM 23), .ref (rM 24), .int 0, .int 0, .int 0, .int 0, .int 0, .int 0, .int 0, .int 0, .int 0, .ref (rM 25), .ref (rM 26), .ref (rM 27), .int 0, .int 0, .ref (rM 28), .int 0, .ref (rM 29), .ref (rM 30), .ref (rM 31), .ref (rM 32), .ref (rM 33), .ref (rM 34), .ref (rM 35), .ref (rM 36), .int 0, .int 0, .int 0, .ref (rM 37), .ref (rM 38)])), (rM 7, .inl ((cM 7), 2, .inl (fM 7)))]) [0, 1] rfl
    have hKc := hK.sub (tys' := [((cM 7), .int)]) [0] rfl
    have hDc := hD.sub (ws' := [(rM 0, .inr (8, [.ref (rM 1), .ref (rM 2), .int 0, .int 0, .int 0, .int (-1), .int 0, .int 0, .int 0, .int 0, .long 0, .ref (rM 3), .ref (rM 4), .ref (rM 5), .ref (rM 6), .ref (rM 7), .ref (rM 8), .ref (rM 9), .ref (rM 10), .ref (rM 11), .ref (rM 12), .ref (rM 13), .ref (rM 14), .ref (rM 15), .ref (rM 16), .ref (rM 17), .ref (rM 18), .ref (rM 19), .ref (rM 20), .ref (rM 21), .ref (rM 22), .ref (rM 23), .ref (rM 24), .int 0, .int 0, .int 0, .int 0, .int 0, .int 0, .int 0, .int 0, .int 0, .ref (rM 25), .ref (rM 26), .ref (rM 27), .int 0, .int 0, .ref (rM 28), .int 0, .ref (rM 29), .ref (rM 30), .ref (rM 31), .ref (rM 32), .ref (rM 33), .ref (rM 34), .ref (rM 35), .ref (rM 36), .int 0, .int 0, .int 0, .ref (rM 37), .ref (rM 38)])), (rM 7, .inl ((cM 7), 2, .inl (fM 7)))]) [0, 1] (by decide) rfl
    have hFc := va_free (wc := [(rM 0, .inr (8, [.ref (rM 1), .ref (rM 2), .int 0, .int 0, .int 0, .int (-1), .int 0, .int 0, .int 0, .int 0, .long 0, .ref (rM 3), .ref (rM 4), .ref (rM 5), .ref (rM 6), .ref (rM 7), .ref (rM 8), .ref (rM 9), .ref (rM 10), .ref (rM 11), .ref (rM 12), .ref (rM 13), .ref (rM 14), .ref (rM 15), .ref (rM 16), .ref (rM 17), .ref (rM 18), .ref (rM 19), .ref (rM 20), .ref (rM 21), .ref (rM 22), .ref (rM 23), .ref (rM 24), .int 0, .int 0, .int 0, .int 0, .int 0, .int 0, .int 0, .int 0, .int 0, .ref (rM 25), .ref (rM 26), .ref (rM 27), .int 0, .int 0, .ref (rM 28), .int 0, .ref (rM 29), .ref (rM 30), .ref (rM 31), .ref (rM 32), .ref (rM 33), .ref (rM 34), .ref (rM 35), .ref (rM 36), .int 0, .int 0, .int 0, .ref (rM 37), .ref (rM 38)])), (rM 7, .inl ((cM 7), 2, .inl (fM 7)))]) hD hS hA [0, 1] rfl
    refine va_calli (va_runV (As := [.int (xs 1), .int (xs 2)]) (rest := [.int 1]) ⟨hx, hb, hml, hown, hG⟩ (kX9_odds l dC dI rM cM (fM 7) (xs 1) (xs 2) H1.size hfM_7_0) (cwV 2 hG (goodV gw1810 gw1811 gw1812 gw138 gw1813) rfl rfl rfl hd_X9_odds ⟨(Nat.le_of_ble_eq_true rfl), (Nat.le_of_ble_eq_true rfl)⟩) ⟨fbW, va_recv hKc hPc (ci := 8) (q0 := 0) rfl rfl, pW_in hPc hKc hDc⟩ rfl rfl hl.1 rfl (lv_room (Nat.le_of_ble_eq_true rfl)) dL_law_1246 ⟨(Nat.le_of_ble_eq_true rfl), (Nat.le_of_ble_eq_true rfl)⟩) hS (fun q _ h => hFc q h) hFc (fun r_518 u t H517 locs ht hvm hw hB hz1 hk1 hS => ?_)
    rcases hw with ⟨rfl, hy519, hw⟩ | ⟨rfl, hy520, hy521, hw⟩ | ⟨rfl, hy522, hy523, hy524, hw⟩ | ⟨rfl, hy525, hy526, hy527, hy528, hw⟩ | ⟨rfl, hy529, hy530, hy531, hy532, hw⟩ | ⟨rfl, hy533, hy534, hy535, hy536, hw⟩ | ⟨rfl, hy537, hy538, hy539, hy540, hw⟩ | ⟨rfl, hy541, hy542, hy543, hy544, hw⟩ | ⟨rfl, hy545, hy546, hy547, hy548, hw⟩ | ⟨rfl, hy549, hy550, hy551, hy552, hw⟩ | ⟨rfl, hy553, hy554, hy555, hy556, hw⟩ | ⟨rfl, hy557, hy558, hy559, hy560, hw⟩ | ⟨rfl, hy561, hy562, hy563, hy564, hw⟩ | ⟨rfl, hy565, hy566, hy567, hy568, hw⟩
    · skip
      exact ((by have k0 := q_nlt hy43; have k1 := q_nlt hy44; have k4 := q_nle hy47; have k5 := q_nle hy48; have k6 := q_le hy49; have k8 := q_lt hy519; have z0 : (0 : Int32).toInt = 0 := (by decide); have z1 : (1 : Int32).toInt = 1 := (by decide); have z2 : (2 : Int32).toInt = 2 := (by decide); have z4 : (4 : Int32).toInt = 4 := (by decide); omega) : False).elim
    · skip
      exact ((by have k0 := q_nlt hy43; have k1 := q_nlt hy44; have k4 := q_nle hy47; have k5 := q_nle hy48; have k6 := q_le hy49; have k8 := q_nlt hy520; have k9 := q_lt hy521; have z0 : (0 : Int32).toInt = 0 := (by decide); have z1 : (1 : Int32).toInt = 1 := (by decide); have z2 : (2 : Int32).toInt = 2 := (by decide); have z4 : (4 : Int32).toInt = 4 := (by decide); omega) : False).elim
    · skip
      exact ((by have k2 := q_nlt hy45; have k3 := q_le hy46; have k7 := q_eq hy50; have k10 := q_lt hy524; have z0 : (0 : Int32).toInt = 0 := (by decide); have z1 : (1 : Int32).toInt = 1 := (by decide); omega) : False).elim
    · skip
      exact ((by have k2 := q_nlt hy45; have k3 := q_le hy46; have k7 := q_eq hy50; have k10 := q_nlt hy527; have k11 := q_lt hy528; have z0 : (0 : Int32).toInt = 0 := (by decide); have z1 : (1 : Int32).toInt = 1 := (by decide); omega) : False).elim
    · skip
      exact ((by have k0 := q_nlt hy43; have k1 := q_nlt hy44; have k4 := q_nle hy47; have k5 := q_nle hy48; have k6 := q_le hy49; have k8 := q_eq hy529; have z0 : (0 : Int32).toInt = 0 := (by decide); have z1 : (1 : Int32).toInt = 1 := (by decide); have z2 : (2 : Int32).toInt = 2 := (by decide); have z4 : (4 : Int32).toInt = 4 := (by decide); omega) : False).elim
    · skip
      exact ((by have k0 := q_nlt hy43; have k1 := q_nlt hy44; have k4 := q_nle hy47; have k5 := q_nle hy48; have k6 := q_le hy49; have k8 := q_eq hy533; have z0 : (0 : Int32).toInt = 0 := (by decide); have z1 : (1 : Int32).toInt = 1 := (by decide); have z2 : (2 : Int32).toInt = 2 := (by decide); have z4 : (4 : Int32).toInt = 4 := (by decide); omega) : False).elim
    · skip
      exact ((by have k0 := q_nlt hy43; have k1 := q_nlt hy44; have k4 := q_nle hy47; have k5 := q_nle hy48; have k6 := q_le hy49; have k8 := q_eq hy537; have z0 : (0 : Int32).toInt = 0 := (by decide); have z1 : (1 : Int32).toInt = 1 := (by decide); have z2 : (2 : Int32).toInt = 2 := (by decide); have z4 : (4 : Int32).toInt = 4 := (by decide); omega) : False).elim
    · skip
      exact ((by have k0 := q_nlt hy43; have k1 := q_nlt hy44; have k4 := q_nle hy47; have k5 := q_nle hy48; have k6 := q_le hy49; have k8 := q_eq hy541; have z0 : (0 : Int32).toInt = 0 := (by decide); have z1 : (1 : Int32).toInt = 1 := (by decide); have z2 : (2 : Int32).toInt = 2 := (by decide); have z4 : (4 : Int32).toInt = 4 := (by decide); omega) : False).elim
    · skip
      exact ((by have k2 := q_nlt hy45; have k3 := q_le hy46; have k7 := q_eq hy50; have k9 := q_nlt hy546; have k10 := q_nlt hy547; have k11 := q_ne hy548; have z0 : (0 : Int32).toInt = 0 := (by decide); have z1 : (1 : Int32).toInt = 1 := (by decide); omega) : False).elim
    · skip
      obtain ⟨hP, hD⟩ := va_join (wr := []) (w1 := []) hP hD [0, 1] [] rfl rfl (by decide) (by decide) hk1 hFc (fun k q h => by simp at h) ⟨fun i j p q h => by simp at h, fun k q h => by simp at h⟩
      refine wt_c (v := 1) hw ?_
      refine lv_icmp_eq (tgt := 1540) hx hb dL_law_1249 (by decide) (fun c_569 => ?_) (fun c_569 => absurd (by decide) c_569)
      exact law_end l C0 hS hl
    · skip
      exact ((by have k0 := q_nlt hy43; have k1 := q_nlt hy44; have k4 := q_nle hy47; have k5 := q_nle hy48; have k6 := q_le hy49; have k8 := q_eq hy553; have z0 : (0 : Int32).toInt = 0 := (by decide); have z1 : (1 : Int32).toInt = 1 := (by decide); have z2 : (2 : Int32).toInt = 2 := (by decide); have z3 : (3 : Int32).toInt = 3 := (by decide); have z4 : (4 : Int32).toInt = 4 := (by decide); omega) : False).elim
    · skip
      exact ((by have k0 := q_nlt hy43; have k1 := q_nlt hy44; have k4 := q_nle hy47; have k5 := q_nle hy48; have k6 := q_le hy49; have k8 := q_eq hy557; have z0 : (0 : Int32).toInt = 0 := (by decide); have z1 : (1 : Int32).toInt = 1 := (by decide); have z2 : (2 : Int32).toInt = 2 := (by decide); have z3 : (3 : Int32).toInt = 3 := (by decide); have z4 : (4 : Int32).toInt = 4 := (by decide); omega) : False).elim
    · skip
      exact ((by have k0 := q_nlt hy43; have k1 := q_nlt hy44; have k4 := q_nle hy47; have k5 := q_nle hy48; have k6 := q_le hy49; have k8 := q_eq hy561; have z0 : (0 : Int32).toInt = 0 := (by decide); have z1 : (1 : Int32).toInt = 1 := (by decide); have z2 : (2 : Int32).toInt = 2 := (by decide); have z4 : (4 : Int32).toInt = 4 := (by decide); omega) : False).elim
    · skip
      exact ((by have k0 := q_nlt hy43; have k1 := q_nlt hy44; have k4 := q_nle hy47; have k5 := q_nle hy48; have k6 := q_le hy49; have k8 := q_eq hy565; have z0 : (0 : Int32).toInt = 0 := (by decide); have z1 : (1 : Int32).toInt = 1 := (by decide); have z2 : (2 : Int32).toInt = 2 := (by decide); have z4 : (4 : Int32).toInt = 4 := (by decide); omega) : False).elim
  · skip
    obtain ⟨hP, hD⟩ := va_join (wr := [(rM 0, .inr (8, [.ref (rM 1), .ref (rM 2), .int 0, .int 0, .int 0, .int (-1), .int 0, .int 0, .int 0, .int 0, .long 0, .ref (rM 3), .ref (rM 4), .ref (rM 5), .ref (rM 6), .ref (rM 7), .ref (rM 8), .ref (rM 9), .ref (rM 10), .ref (rM 11), .ref (rM 12), .ref (rM 13), .ref (rM 14), .ref (rM 15), .ref (rM 16), .ref (rM 17), .ref (rM 18), .ref (rM 19), .ref (rM 20), .ref (rM 21), .ref (rM 22), .ref (rM 23), .ref (rM 24), .int 0, .int 0, .int 0, .int 0, .int 0, .int 0, .int 0, .int 0, .int 0, .ref (rM 25), .ref (rM 26), .ref (rM 27), .int 0, .int 0, .ref (rM 28), .int 0, .ref (rM 29), .ref (rM 30), .ref (rM 31), .ref (rM 32), .ref (rM 33), .ref (rM 34), .ref (rM 35), .ref (rM 36), .int 0, .int 0, .int 0, .ref (rM 37), .ref (rM 38)])), (rM 7, .inl ((cM 7), 2, .inl (fM 7)))]) (w1 := []) hP hD [0, 1] [2, 3] rfl rfl (by decide) (by decide) hk1 hFc (fun k q h => by simp at h) ⟨fun i j p q h => by simp at h, fun k q h => by simp at h⟩
    refine wt_c (v := 1) hw ?_
    refine lv_aload_n hx hb dL_law_1235 rfl (lv_at hl 1 rfl) ?_
    refine lv_aload_n hx hb dL_law_1236 rfl (lv_at hl 3 rfl) ?_
    refine lv_iload_n hx hb dL_law_1237 rfl (lv_at hl 0 rfl) ?_
    refine lv_iconst (v := 1) hx hb dL_law_1238 (by decide) ?_
    refine lv_iadd hx hb dL_law_1239 ?_
    refine wt_c (v := 1) (by decide) ?_
    refine va_sld hx hb hX hbl hbA hS (vin (by decide)) dL_law_1240 ?_
    refine wt_c (v := xs 1) (congrArg xs (by decide)) ?_
    refine lv_aload_n hx hb dL_law_1241 rfl (lv_at hl 3 rfl) ?_
    refine lv_iload_n hx hb dL_law_1242 rfl (lv_at hl 0 rfl) ?_
    refine lv_iconst (v := 2) hx hb dL_law_1243 (by decide) ?_
    refine lv_iadd hx hb dL_law_1244 ?_
    refine wt_c (v := 2) (by decide) ?_
    refine va_sld hx hb hX hbl hbA hS (vin (by decide)) dL_law_1245 ?_
    refine wt_c (v := xs 2) (congrArg xs (by decide)) ?_
    have hPc := hP.sub (ws' := [(rM 0, .inr (8, [.ref (rM 1), .ref (rM 2), .int 0, .int 0, .int 0, .int (-1), .int 0, .int 0, .int 0, .int 0, .long 0, .ref (rM 3), .ref (rM 4), .ref (rM 5), .ref (rM 6), .ref (rM 7), .ref (rM 8), .ref (rM 9), .ref (rM 10), .ref (rM 11), .ref (rM 12), .ref (rM 13), .ref (rM 14), .ref (rM 15), .ref (rM 16), .ref (rM 17), .ref (rM 18), .ref (rM 19), .ref (rM 20), .ref (rM 21), .ref (rM 22), .ref (rM 23), .ref (rM 24), .int 0, .int 0, .int 0, .int 0, .int 0, .int 0, .int 0, .int 0, .int 0, .ref (rM 25), .ref (rM 26), .ref (rM 27), .int 0, .int 0, .ref (rM 28), .int 0, .ref (rM 29), .ref (rM 30), .ref (rM 31), .ref (rM 32), .ref (rM 33), .ref (rM 34), .ref (rM 35), .ref (rM 36), .int 0, .int 0, .int 0, .ref (rM 37), .ref (rM 38)])), (rM 7, .inl ((cM 7), 2, .inl (fM 7)))]) [0, 1] rfl
    have hKc := hK.sub (tys' := [((cM 7), .int)]) [0] rfl
    have hDc := hD.sub (ws' := [(rM 0, .inr (8, [.ref (rM 1), .ref (rM 2), .int 0, .int 0, .int 0, .int (-1), .int 0, .int 0, .int 0, .int 0, .long 0, .ref (rM 3), .ref (rM 4), .ref (rM 5), .ref (rM 6), .ref (rM 7), .ref (rM 8), .ref (rM 9), .ref (rM 10), .ref (rM 11), .ref (rM 12), .ref (rM 13), .ref (rM 14), .ref (rM 15), .ref (rM 16), .ref (rM 17), .ref (rM 18), .ref (rM 19), .ref (rM 20), .ref (rM 21), .ref (rM 22), .ref (rM 23), .ref (rM 24), .int 0, .int 0, .int 0, .int 0, .int 0, .int 0, .int 0, .int 0, .int 0, .ref (rM 25), .ref (rM 26), .ref (rM 27), .int 0, .int 0, .ref (rM 28), .int 0, .ref (rM 29), .ref (rM 30), .ref (rM 31), .ref (rM 32), .ref (rM 33), .ref (rM 34), .ref (rM 35), .ref (rM 36), .int 0, .int 0, .int 0, .ref (rM 37), .ref (rM 38)])), (rM 7, .inl ((cM 7), 2, .inl (fM 7)))]) [0, 1] (by decide) rfl
    have hFc := va_free (wc := [(rM 0, .inr (8, [.ref (rM 1), .ref (rM 2), .int 0, .int 0, .int 0, .int (-1), .int 0, .int 0, .int 0, .int 0, .long 0, .ref (rM 3), .ref (rM 4), .ref (rM 5), .ref (rM 6), .ref (rM 7), .ref (rM 8), .ref (rM 9), .ref (rM 10), .ref (rM 11), .ref (rM 12), .ref (rM 13), .ref (rM 14), .ref (rM 15), .ref (rM 16), .ref (rM 17), .ref (rM 18), .ref (rM 19), .ref (rM 20), .ref (rM 21), .ref (rM 22), .ref (rM 23), .ref (rM 24), .int 0, .int 0, .int 0, .int 0, .int 0, .int 0, .int 0, .int 0, .int 0, .ref (rM 25), .ref (rM 26), .ref (rM 27), .int 0, .int 0, .ref (rM 28), .int 0, .ref (rM 29), .ref (rM 30), .ref (rM 31), .ref (rM 32), .ref (rM 33), .ref (rM 34), .ref (rM 35), .ref (rM 36), .int 0, .int 0, .int 0, .ref (rM 37), .ref (rM 38)])), (rM 7, .inl ((cM 7), 2, .inl (fM 7)))]) hD hS hA [0, 1] rfl
    refine va_calli (va_runV (As := [.int (xs 1), .int (xs 2)]) (rest := [.int 1]) ⟨hx, hb, hml, hown, hG⟩ (kX9_odds l dC dI rM cM (fM 7) (xs 1) (xs 2) H1.size hfM_7_0) (cwV 2 hG (goodV gw1810 gw1811 gw1812 gw138 gw1813) rfl rfl rfl hd_X9_odds ⟨(Nat.le_of_ble_eq_true rfl), (Nat.le_of_ble_eq_true rfl)⟩) ⟨fbW, va_recv hKc hPc (ci := 8) (q0 := 0) rfl rfl, pW_in hPc hKc hDc⟩ rfl rfl hl.1 rfl (lv_room (Nat.le_of_ble_eq_true rfl)) dL_law_1246 ⟨(Nat.le_of_ble_eq_true rfl), (Nat.le_of_ble_eq_true rfl)⟩) hS (fun q _ h => hFc q h) hFc (fun r_571 u t H570 locs ht hvm hw hB hz1 hk1 hS => ?_)
    rcases hw with ⟨rfl, hy572, hw⟩ | ⟨rfl, hy573, hy574, hw⟩ | ⟨rfl, hy575, hy576, hy577, hw⟩ | ⟨rfl, hy578, hy579, hy580, hy581, hw⟩ | ⟨rfl, hy582, hy583, hy584, hy585, hw⟩ | ⟨rfl, hy586, hy587, hy588, hy589, hw⟩ | ⟨rfl, hy590, hy591, hy592, hy593, hw⟩ | ⟨rfl, hy594, hy595, hy596, hy597, hw⟩ | ⟨rfl, hy598, hy599, hy600, hy601, hw⟩ | ⟨rfl, hy602, hy603, hy604, hy605, hw⟩ | ⟨rfl, hy606, hy607, hy608, hy609, hw⟩ | ⟨rfl, hy610, hy611, hy612, hy613, hw⟩ | ⟨rfl, hy614, hy615, hy616, hy617, hw⟩ | ⟨rfl, hy618, hy619, hy620, hy621, hw⟩
    · skip
      exact ((by have k0 := q_nlt hy51; have k1 := q_nlt hy52; have k4 := q_nle hy55; have k5 := q_nle hy56; have k6 := q_nle hy57; have k7 := q_le hy58; have k9 := q_lt hy572; have z0 : (0 : Int32).toInt = 0 := (by decide); have z1 : (1 : Int32).toInt = 1 := (by decide); have z2 : (2 : Int32).toInt = 2 := (by decide); have z3 : (3 : Int32).toInt = 3 := (by decide); have z4 : (4 : Int32).toInt = 4 := (by decide); omega) : False).elim
    · skip
      exact ((by have k0 := q_nlt hy51; have k1 := q_nlt hy52; have k4 := q_nle hy55; have k5 := q_nle hy56; have k6 := q_nle hy57; have k7 := q_le hy58; have k9 := q_nlt hy573; have k10 := q_lt hy574; have z0 : (0 : Int32).toInt = 0 := (by decide); have z1 : (1 : Int32).toInt = 1 := (by decide); have z2 : (2 : Int32).toInt = 2 := (by decide); have z3 : (3 : Int32).toInt = 3 := (by decide); have z4 : (4 : Int32).toInt = 4 := (by decide); omega) : False).elim
    · skip
      exact ((by have k2 := q_nlt hy53; have k3 := q_le hy54; have k8 := q_ne hy59; have k11 := q_lt hy577; have z0 : (0 : Int32).toInt = 0 := (by decide); have z1 : (1 : Int32).toInt = 1 := (by decide); omega) : False).elim
    · skip
      exact ((by have k2 := q_nlt hy53; have k3 := q_le hy54; have k8 := q_ne hy59; have k11 := q_nlt hy580; have k12 := q_lt hy581; have z0 : (0 : Int32).toInt = 0 := (by decide); have z1 : (1 : Int32).toInt = 1 := (by decide); omega) : False).elim
    · skip
      exact ((by have k0 := q_nlt hy51; have k1 := q_nlt hy52; have k4 := q_nle hy55; have k5 := q_nle hy56; have k6 := q_nle hy57; have k7 := q_le hy58; have k9 := q_eq hy582; have z0 : (0 : Int32).toInt = 0 := (by decide); have z1 : (1 : Int32).toInt = 1 := (by decide); have z2 : (2 : Int32).toInt = 2 := (by decide); have z3 : (3 : Int32).toInt = 3 := (by decide); have z4 : (4 : Int32).toInt = 4 := (by decide); omega) : False).elim
    · skip
      exact ((by have k0 := q_nlt hy51; have k1 := q_nlt hy52; have k4 := q_nle hy55; have k5 := q_nle hy56; have k6 := q_nle hy57; have k7 := q_le hy58; have k9 := q_eq hy586; have z0 : (0 : Int32).toInt = 0 := (by decide); have z1 : (1 : Int32).toInt = 1 := (by decide); have z2 : (2 : Int32).toInt = 2 := (by decide); have z3 : (3 : Int32).toInt = 3 := (by decide); have z4 : (4 : Int32).toInt = 4 := (by decide); omega) : False).elim
    · skip
      exact ((by have k0 := q_nlt hy51; have k1 := q_nlt hy52; have k4 := q_nle hy55; have k5 := q_nle hy56; have k6 := q_nle hy57; have k7 := q_le hy58; have k9 := q_eq hy590; have z0 : (0 : Int32).toInt = 0 := (by decide); have z1 : (1 : Int32).toInt = 1 := (by decide); have z2 : (2 : Int32).toInt = 2 := (by decide); have z3 : (3 : Int32).toInt = 3 := (by decide); have z4 : (4 : Int32).toInt = 4 := (by decide); omega) : False).elim
    · skip
      exact ((by have k0 := q_nlt hy51; have k1 := q_nlt hy52; have k4 := q_nle hy55; have k5 := q_nle hy56; have k6 := q_nle hy57; have k7 := q_le hy58; have k9 := q_eq hy594; have z0 : (0 : Int32).toInt = 0 := (by decide); have z1 : (1 : Int32).toInt = 1 := (by decide); have z2 : (2 : Int32).toInt = 2 := (by decide); have z3 : (3 : Int32).toInt = 3 := (by decide); have z4 : (4 : Int32).toInt = 4 := (by decide); omega) : False).elim
    · skip
      exact ((by have k0 := q_nlt hy51; have k1 := q_nlt hy52; have k4 := q_nle hy55; have k5 := q_nle hy56; have k6 := q_nle hy57; have k7 := q_le hy58; have k9 := q_eq hy598; have z0 : (0 : Int32).toInt = 0 := (by decide); have z1 : (1 : Int32).toInt = 1 := (by decide); have z2 : (2 : Int32).toInt = 2 := (by decide); have z3 : (3 : Int32).toInt = 3 := (by decide); have z4 : (4 : Int32).toInt = 4 := (by decide); omega) : False).elim
    · skip
      exact ((by have k0 := q_nlt hy51; have k1 := q_nlt hy52; have k4 := q_nle hy55; have k5 := q_nle hy56; have k6 := q_nle hy57; have k7 := q_le hy58; have k9 := q_eq hy602; have z0 : (0 : Int32).toInt = 0 := (by decide); have z1 : (1 : Int32).toInt = 1 := (by decide); have z2 : (2 : Int32).toInt = 2 := (by decide); have z3 : (3 : Int32).toInt = 3 := (by decide); have z4 : (4 : Int32).toInt = 4 := (by decide); omega) : False).elim
    · skip
      obtain ⟨hP, hD⟩ := va_join (wr := []) (w1 := []) hP hD [0, 1] [] rfl rfl (by decide) (by decide) hk1 hFc (fun k q h => by simp at h) ⟨fun i j p q h => by simp at h, fun k q h => by simp at h⟩
      refine wt_c (v := 1) hw ?_
      refine lv_icmp_eq (tgt := 1540) hx hb dL_law_1249 (by decide) (fun c_622 => ?_) (fun c_622 => absurd (by decide) c_622)
      exact law_end l C0 hS hl
    · skip
      exact ((by have k2 := q_nlt hy53; have k3 := q_le hy54; have k8 := q_ne hy59; have k10 := q_nlt hy611; have k11 := q_nlt hy612; have k12 := q_eq hy613; have z0 : (0 : Int32).toInt = 0 := (by decide); have z1 : (1 : Int32).toInt = 1 := (by decide); omega) : False).elim
    · skip
      exact ((by have k0 := q_nlt hy51; have k1 := q_nlt hy52; have k4 := q_nle hy55; have k5 := q_nle hy56; have k6 := q_nle hy57; have k7 := q_le hy58; have k9 := q_eq hy614; have z0 : (0 : Int32).toInt = 0 := (by decide); have z1 : (1 : Int32).toInt = 1 := (by decide); have z2 : (2 : Int32).toInt = 2 := (by decide); have z3 : (3 : Int32).toInt = 3 := (by decide); have z4 : (4 : Int32).toInt = 4 := (by decide); omega) : False).elim
    · skip
      exact ((by have k0 := q_nlt hy51; have k1 := q_nlt hy52; have k4 := q_nle hy55; have k5 := q_nle hy56; have k6 := q_nle hy57; have k7 := q_le hy58; have k9 := q_eq hy618; have z0 : (0 : Int32).toInt = 0 := (by decide); have z1 : (1 : Int32).toInt = 1 := (by decide); have z2 : (2 : Int32).toInt = 2 := (by decide); have z3 : (3 : Int32).toInt = 3 := (by decide); have z4 : (4 : Int32).toInt = 4 := (by decide); omega) : False).elim
  · skip
    obtain ⟨hP, hD⟩ := va_join (wr := [(rM 0, .inr (8, [.ref (rM 1), .ref (rM 2), .int 0, .int 0, .int 0, .int (-1), .int 0, .int 0, .int 0, .int 0, .long 0, .ref (rM 3), .ref (rM 4), .ref (rM 5), .ref (rM 6), .ref (rM 7), .ref (rM 8), .ref (rM 9), .ref (rM 10), .ref (rM 11), .ref (rM 12), .ref (rM 13), .ref (rM 14), .ref (rM 15), .ref (rM 16), .ref (rM 17), .ref (rM 18), .ref (rM 19), .ref (rM 20), .ref (rM 21), .ref (rM 22), .ref (rM 23), .ref (rM 24), .int 0, .int 0, .int 0, .int 0, .int 0, .int 0, .int 0, .int 0, .int 0, .ref (rM 25), .ref (rM 26), .ref (rM 27), .int 0, .int 0, .ref (rM 28), .int 0, .ref (rM 29), .ref (rM 30), .ref (rM 31), .ref (rM 32), .ref (rM 33), .ref (rM 34), .ref (rM 35), .ref (rM 36), .int 0, .int 0, .int 0, .ref (rM 37), .ref (rM 38)])), (rM 7, .inl ((cM 7), 2, .inl (fM 7)))]) (w1 := []) hP hD [0, 1] [2, 3] rfl rfl (by decide) (by decide) hk1 hFc (fun k q h => by simp at h) ⟨fun i j p q h => by simp at h, fun k q h => by simp at h⟩
    refine wt_c (v := 1) hw ?_
    refine lv_aload_n hx hb dL_law_1235 rfl (lv_at hl 1 rfl) ?_
    refine lv_aload_n hx hb dL_law_1236 rfl (lv_at hl 3 rfl) ?_
    refine lv_iload_n hx hb dL_law_1237 rfl (lv_at hl 0 rfl) ?_
    refine lv_iconst (v := 1) hx hb dL_law_1238 (by decide) ?_
    refine lv_iadd hx hb dL_law_1239 ?_
    refine wt_c (v := 1) (by decide) ?_
    refine va_sld hx hb hX hbl hbA hS (vin (by decide)) dL_law_1240 ?_
    refine wt_c (v := xs 1) (congrArg xs (by decide)) ?_
    refine lv_aload_n hx hb dL_law_1241 rfl (lv_at hl 3 rfl) ?_
    refine lv_iload_n hx hb dL_law_1242 rfl (lv_at hl 0 rfl) ?_
    refine lv_iconst (v := 2) hx hb dL_law_1243 (by decide) ?_
    refine lv_iadd hx hb dL_law_1244 ?_
    refine wt_c (v := 2) (by decide) ?_
    refine va_sld hx hb hX hbl hbA hS (vin (by decide)) dL_law_1245 ?_
    refine wt_c (v := xs 2) (congrArg xs (by decide)) ?_
    have hPc := hP.sub (ws' := [(rM 0, .inr (8, [.ref (rM 1), .ref (rM 2), .int 0, .int 0, .int 0, .int (-1), .int 0, .int 0, .int 0, .int 0, .long 0, .ref (rM 3), .ref (rM 4), .ref (rM 5), .ref (rM 6), .ref (rM 7), .ref (rM 8), .ref (rM 9), .ref (rM 10), .ref (rM 11), .ref (rM 12), .ref (rM 13), .ref (rM 14), .ref (rM 15), .ref (rM 16), .ref (rM 17), .ref (rM 18), .ref (rM 19), .ref (rM 20), .ref (rM 21), .ref (rM 22), .ref (rM 23), .ref (rM 24), .int 0, .int 0, .int 0, .int 0, .int 0, .int 0, .int 0, .int 0, .int 0, .ref (rM 25), .ref (rM 26), .ref (rM 27), .int 0, .int 0, .ref (rM 28), .int 0, .ref (rM 29), .ref (rM 30), .ref (rM 31), .ref (rM 32), .ref (rM 33), .ref (rM 34), .ref (rM 35), .ref (rM 36), .int 0, .int 0, .int 0, .ref (rM 37), .ref (rM 38)])), (rM 7, .inl ((cM 7), 2, .inl (fM 7)))]) [0, 1] rfl
    have hKc := hK.sub (tys' := [((cM 7), .int)]) [0] rfl
    have hDc := hD.sub (ws' := [(rM 0, .inr (8, [.ref (rM 1), .ref (rM 2), .int 0, .int 0, .int 0, .int (-1), .int 0, .int 0, .int 0, .int 0, .long 0, .ref (rM 3), .ref (rM 4), .ref (rM 5), .ref (rM 6), .ref (rM 7), .ref (rM 8), .ref (rM 9), .ref (rM 10), .ref (rM 11), .ref (rM 12), .ref (rM 13), .ref (rM 14), .ref (rM 15), .ref (rM 16), .ref (rM 17), .ref (rM 18), .ref (rM 19), .ref (rM 20), .ref (rM 21), .ref (rM 22), .ref (rM 23), .ref (rM 24), .int 0, .int 0, .int 0, .int 0, .int 0, .int 0, .int 0, .int 0, .int 0, .ref (rM 25), .ref (rM 26), .ref (rM 27), .int 0, .int 0, .ref (rM 28), .int 0, .ref (rM 29), .ref (rM 30), .ref (rM 31), .ref (rM 32), .ref (rM 33), .ref (rM 34), .ref (rM 35), .ref (rM 36), .int 0, .int 0, .int 0, .ref (rM 37), .ref (rM 38)])), (rM 7, .inl ((cM 7), 2, .inl (fM 7)))]) [0, 1] (by decide) rfl
    have hFc := va_free (wc := [(rM 0, .inr (8, [.ref (rM 1), .ref (rM 2), .int 0, .int 0, .int 0, .int (-1), .int 0, .int 0, .int 0, .int 0, .long 0, .ref (rM 3), .ref (rM 4), .ref (rM 5), .ref (rM 6), .ref (rM 7), .ref (rM 8), .ref (rM 9), .ref (rM 10), .ref (rM 11), .ref (rM 12), .ref (rM 13), .ref (rM 14), .ref (rM 15), .ref (rM 16), .ref (rM 17), .ref (rM 18), .ref (rM 19), .ref (rM 20), .ref (rM 21), .ref (rM 22), .ref (rM 23), .ref (rM 24), .int 0, .int 0, .int 0, .int 0, .int 0, .int 0, .int 0, .int 0, .int 0, .ref (rM 25), .ref (rM 26), .ref (rM 27), .int 0, .int 0, .ref (rM 28), .int 0, .ref (rM 29), .ref (rM 30), .ref (rM 31), .ref (rM 32), .ref (rM 33), .ref (rM 34), .ref (rM 35), .ref (rM 36), .int 0, .int 0, .int 0, .ref (rM 37), .ref (rM 38)])), (rM 7, .inl ((cM 7), 2, .inl (fM 7)))]) hD hS hA [0, 1] rfl
    refine va_calli (va_runV (As := [.int (xs 1), .int (xs 2)]) (rest := [.int 1]) ⟨hx, hb, hml, hown, hG⟩ (kX9_odds l dC dI rM cM (fM 7) (xs 1) (xs 2) H1.size hfM_7_0) (cwV 2 hG (goodV gw1810 gw1811 gw1812 gw138 gw1813) rfl rfl rfl hd_X9_odds ⟨(Nat.le_of_ble_eq_true rfl), (Nat.le_of_ble_eq_true rfl)⟩) ⟨fbW, va_recv hKc hPc (ci := 8) (q0 := 0) rfl rfl, pW_in hPc hKc hDc⟩ rfl rfl hl.1 rfl (lv_room (Nat.le_of_ble_eq_true rfl)) dL_law_1246 ⟨(Nat.le_of_ble_eq_true rfl), (Nat.le_of_ble_eq_true rfl)⟩) hS (fun q _ h => hFc q h) hFc (fun r_624 u t H623 locs ht hvm hw hB hz1 hk1 hS => ?_)
    rcases hw with ⟨rfl, hy625, hw⟩ | ⟨rfl, hy626, hy627, hw⟩ | ⟨rfl, hy628, hy629, hy630, hw⟩ | ⟨rfl, hy631, hy632, hy633, hy634, hw⟩ | ⟨rfl, hy635, hy636, hy637, hy638, hw⟩ | ⟨rfl, hy639, hy640, hy641, hy642, hw⟩ | ⟨rfl, hy643, hy644, hy645, hy646, hw⟩ | ⟨rfl, hy647, hy648, hy649, hy650, hw⟩ | ⟨rfl, hy651, hy652, hy653, hy654, hw⟩ | ⟨rfl, hy655, hy656, hy657, hy658, hw⟩ | ⟨rfl, hy659, hy660, hy661, hy662, hw⟩ | ⟨rfl, hy663, hy664, hy665, hy666, hw⟩ | ⟨rfl, hy667, hy668, hy669, hy670, hw⟩ | ⟨rfl, hy671, hy672, hy673, hy674, hw⟩
    · skip
      exact ((by have k0 := q_nlt hy60; have k1 := q_nlt hy61; have k4 := q_nle hy64; have k5 := q_nle hy65; have k6 := q_nle hy66; have k7 := q_le hy67; have k9 := q_lt hy625; have z0 : (0 : Int32).toInt = 0 := (by decide); have z1 : (1 : Int32).toInt = 1 := (by decide); have z2 : (2 : Int32).toInt = 2 := (by decide); have z3 : (3 : Int32).toInt = 3 := (by decide); have z4 : (4 : Int32).toInt = 4 := (by decide); omega) : False).elim
    · skip
      exact ((by have k0 := q_nlt hy60; have k1 := q_nlt hy61; have k4 := q_nle hy64; have k5 := q_nle hy65; have k6 := q_nle hy66; have k7 := q_le hy67; have k9 := q_nlt hy626; have k10 := q_lt hy627; have z0 : (0 : Int32).toInt = 0 := (by decide); have z1 : (1 : Int32).toInt = 1 := (by decide); have z2 : (2 : Int32).toInt = 2 := (by decide); have z3 : (3 : Int32).toInt = 3 := (by decide); have z4 : (4 : Int32).toInt = 4 := (by decide); omega) : False).elim
    · skip
      exact ((by have k2 := q_nlt hy62; have k3 := q_le hy63; have k8 := q_eq hy68; have k11 := q_lt hy630; have z0 : (0 : Int32).toInt = 0 := (by decide); have z1 : (1 : Int32).toInt = 1 := (by decide); omega) : False).elim
    · skip
      exact ((by have k2 := q_nlt hy62; have k3 := q_le hy63; have k8 := q_eq hy68; have k11 := q_nlt hy633; have k12 := q_lt hy634; have z0 : (0 : Int32).toInt = 0 := (by decide); have z1 : (1 : Int32).toInt = 1 := (by decide); omega) : False).elim
    · skip
      exact ((by have k0 := q_nlt hy60; have k1 := q_nlt hy61; have k4 := q_nle hy64; have k5 := q_nle hy65; have k6 := q_nle hy66; have k7 := q_le hy67; have k9 := q_eq hy635; have z0 : (0 : Int32).toInt = 0 := (by decide); have z1 : (1 : Int32).toInt = 1 := (by decide); have z2 : (2 : Int32).toInt = 2 := (by decide); have z3 : (3 : Int32).toInt = 3 := (by decide); have z4 : (4 : Int32).toInt = 4 := (by decide); omega) : False).elim
    · skip
      exact ((by have k0 := q_nlt hy60; have k1 := q_nlt hy61; have k4 := q_nle hy64; have k5 := q_nle hy65; have k6 := q_nle hy66; have k7 := q_le hy67; have k9 := q_eq hy639; have z0 : (0 : Int32).toInt = 0 := (by decide); have z1 : (1 : Int32).toInt = 1 := (by decide); have z2 : (2 : Int32).toInt = 2 := (by decide); have z3 : (3 : Int32).toInt = 3 := (by decide); have z4 : (4 : Int32).toInt = 4 := (by decide); omega) : False).elim
    · skip
      exact ((by have k0 := q_nlt hy60; have k1 := q_nlt hy61; have k4 := q_nle hy64; have k5 := q_nle hy65; have k6 := q_nle hy66; have k7 := q_le hy67; have k9 := q_eq hy643; have z0 : (0 : Int32).toInt = 0 := (by decide); have z1 : (1 : Int32).toInt = 1 := (by decide); have z2 : (2 : Int32).toInt = 2 := (by decide); have z3 : (3 : Int32).toInt = 3 := (by decide); have z4 : (4 : Int32).toInt = 4 := (by decide); omega) : False).elim
    · skip
      exact ((by have k0 := q_nlt hy60; have k1 := q_nlt hy61; have k4 := q_nle hy64; have k5 := q_nle hy65; have k6 := q_nle hy66; have k7 := q_le hy67; have k9 := q_eq hy647; have z0 : (0 : Int32).toInt = 0 := (by decide); have z1 : (1 : Int32).toInt = 1 := (by decide); have z2 : (2 : Int32).toInt = 2 := (by decide); have z3 : (3 : Int32).toInt = 3 := (by decide); have z4 : (4 : Int32).toInt = 4 := (by decide); omega) : False).elim
    · skip
      exact ((by have k0 := q_nlt hy60; have k1 := q_nlt hy61; have k4 := q_nle hy64; have k5 := q_nle hy65; have k6 := q_nle hy66; have k7 := q_le hy67; have k9 := q_eq hy651; have z0 : (0 : Int32).toInt = 0 := (by decide); have z1 : (1 : Int32).toInt = 1 := (by decide); have z2 : (2 : Int32).toInt = 2 := (by decide); have z3 : (3 : Int32).toInt = 3 := (by decide); have z4 : (4 : Int32).toInt = 4 := (by decide); omega) : False).elim
    · skip
      exact ((by have k0 := q_nlt hy60; have k1 := q_nlt hy61; have k4 := q_nle hy64; have k5 := q_nle hy65; have k6 := q_nle hy66; have k7 := q_le hy67; have k9 := q_eq hy655; have z0 : (0 : Int32).toInt = 0 := (by decide); have z1 : (1 : Int32).toInt = 1 := (by decide); have z2 : (2 : Int32).toInt = 2 := (by decide); have z3 : (3 : Int32).toInt = 3 := (by decide); have z4 : (4 : Int32).toInt = 4 := (by decide); omega) : False).elim
    · skip
      exact ((by have k2 := q_nlt hy62; have k3 := q_le hy63; have k8 := q_eq hy68; have k10 := q_nlt hy660; have k11 := q_nlt hy661; have k12 := q_ne hy662; have z0 : (0 : Int32).toInt = 0 := (by decide); have z1 : (1 : Int32).toInt = 1 := (by decide); omega) : False).elim
    · skip
      obtain ⟨hP, hD⟩ := va_join (wr := []) (w1 := []) hP hD [0, 1] [] rfl rfl (by decide) (by decide) hk1 hFc (fun k q h => by simp at h) ⟨fun i j p q h => by simp at h, fun k q h => by simp at h⟩
      refine wt_c (v := 1) hw ?_
      refine lv_icmp_eq (tgt := 1540) hx hb dL_law_1249 (by decide) (fun c_675 => ?_) (fun c_675 => absurd (by decide) c_675)
      exact law_end l C0 hS hl
    · skip
      exact ((by have k0 := q_nlt hy60; have k1 := q_nlt hy61; have k4 := q_nle hy64; have k5 := q_nle hy65; have k6 := q_nle hy66; have k7 := q_le hy67; have k9 := q_eq hy667; have z0 : (0 : Int32).toInt = 0 := (by decide); have z1 : (1 : Int32).toInt = 1 := (by decide); have z2 : (2 : Int32).toInt = 2 := (by decide); have z3 : (3 : Int32).toInt = 3 := (by decide); have z4 : (4 : Int32).toInt = 4 := (by decide); omega) : False).elim
    · skip
      exact ((by have k0 := q_nlt hy60; have k1 := q_nlt hy61; have k4 := q_nle hy64; have k5 := q_nle hy65; have k6 := q_nle hy66; have k7 := q_le hy67; have k9 := q_eq hy671; have z0 : (0 : Int32).toInt = 0 := (by decide); have z1 : (1 : Int32).toInt = 1 := (by decide); have z2 : (2 : Int32).toInt = 2 := (by decide); have z3 : (3 : Int32).toInt = 3 := (by decide); have z4 : (4 : Int32).toInt = 4 := (by decide); omega) : False).elim
  · skip
    obtain ⟨hP, hD⟩ := va_join (wr := [(rM 0, .inr (8, [.ref (rM 1), .ref (rM 2), .int 0, .int 0, .int 0, .int (-1), .int 0, .int 0, .int 0, .int 0, .long 0, .ref (rM 3), .ref (rM 4), .ref (rM 5), .ref (rM 6), .ref (rM 7), .ref (rM 8), .ref (rM 9), .ref (rM 10), .ref (rM 11), .ref (rM 12), .ref (rM 13), .ref (rM 14), .ref (rM 15), .ref (rM 16), .ref (rM 17), .ref (rM 18), .ref (rM 19), .ref (rM 20), .ref (rM 21), .ref (rM 22), .ref (rM 23), .ref (rM 24), .int 0, .int 0, .int 0, .int 0, .int 0, .int 0, .int 0, .int 0, .int 0, .ref (rM 25), .ref (rM 26), .ref (rM 27), .int 0, .int 0, .ref (rM 28), .int 0, .ref (rM 29), .ref (rM 30), .ref (rM 31), .ref (rM 32), .ref (rM 33), .ref (rM 34), .ref (rM 35), .ref (rM 36), .int 0, .int 0, .int 0, .ref (rM 37), .ref (rM 38)])), (rM 7, .inl ((cM 7), 2, .inl (fM 7)))]) (w1 := []) hP hD [0, 1] [2, 3] rfl rfl (by decide) (by decide) hk1 hFc (fun k q h => by simp at h) ⟨fun i j p q h => by simp at h, fun k q h => by simp at h⟩
    refine wt_c (v := 1) hw ?_
    refine lv_aload_n hx hb dL_law_1235 rfl (lv_at hl 1 rfl) ?_
    refine lv_aload_n hx hb dL_law_1236 rfl (lv_at hl 3 rfl) ?_
    refine lv_iload_n hx hb dL_law_1237 rfl (lv_at hl 0 rfl) ?_
    refine lv_iconst (v := 1) hx hb dL_law_1238 (by decide) ?_
    refine lv_iadd hx hb dL_law_1239 ?_
    refine wt_c (v := 1) (by decide) ?_
    refine va_sld hx hb hX hbl hbA hS (vin (by decide)) dL_law_1240 ?_
    refine wt_c (v := xs 1) (congrArg xs (by decide)) ?_
    refine lv_aload_n hx hb dL_law_1241 rfl (lv_at hl 3 rfl) ?_
    refine lv_iload_n hx hb dL_law_1242 rfl (lv_at hl 0 rfl) ?_
    refine lv_iconst (v := 2) hx hb dL_law_1243 (by decide) ?_
    refine lv_iadd hx hb dL_law_1244 ?_
    refine wt_c (v := 2) (by decide) ?_
    refine va_sld hx hb hX hbl hbA hS (vin (by decide)) dL_law_1245 ?_
    refine wt_c (v := xs 2) (congrArg xs (by decide)) ?_
    have hPc := hP.sub (ws' := [(rM 0, .inr (8, [.ref (rM 1), .ref (rM 2), .int 0, .int 0, .int 0, .int (-1), .int 0, .int 0, .int 0, .int 0, .long 0, .ref (rM 3), .ref (rM 4), .ref (rM 5), .ref (rM 6), .ref (rM 7), .ref (rM 8), .ref (rM 9), .ref (rM 10), .ref (rM 11), .ref (rM 12), .ref (rM 13), .ref (rM 14), .ref (rM 15), .ref (rM 16), .ref (rM 17), .ref (rM 18), .ref (rM 19), .ref (rM 20), .ref (rM 21), .ref (rM 22), .ref (rM 23), .ref (rM 24), .int 0, .int 0, .int 0, .int 0, .int 0, .int 0, .int 0, .int 0, .int 0, .ref (rM 25), .ref (rM 26), .ref (rM 27), .int 0, .int 0, .ref (rM 28), .int 0, .ref (rM 29), .ref (rM 30), .ref (rM 31), .ref (rM 32), .ref (rM 33), .ref (rM 34), .ref (rM 35), .ref (rM 36), .int 0, .int 0, .int 0, .ref (rM 37), .ref (rM 38)])), (rM 7, .inl ((cM 7), 2, .inl (fM 7)))]) [0, 1] rfl
    have hKc := hK.sub (tys' := [((cM 7), .int)]) [0] rfl
    have hDc := hD.sub (ws' := [(rM 0, .inr (8, [.ref (rM 1), .ref (rM 2), .int 0, .int 0, .int 0, .int (-1), .int 0, .int 0, .int 0, .int 0, .long 0, .ref (rM 3), .ref (rM 4), .ref (rM 5), .ref (rM 6), .ref (rM 7), .ref (rM 8), .ref (rM 9), .ref (rM 10), .ref (rM 11), .ref (rM 12), .ref (rM 13), .ref (rM 14), .ref (rM 15), .ref (rM 16), .ref (rM 17), .ref (rM 18), .ref (rM 19), .ref (rM 20), .ref (rM 21), .ref (rM 22), .ref (rM 23), .ref (rM 24), .int 0, .int 0, .int 0, .int 0, .int 0, .int 0, .int 0, .int 0, .int 0, .ref (rM 25), .ref (rM 26), .ref (rM 27), .int 0, .int 0, .ref (rM 28), .int 0, .ref (rM 29), .ref (rM 30), .ref (rM 31), .ref (rM 32), .ref (rM 33), .ref (rM 34), .ref (rM 35), .ref (rM 36), .int 0, .int 0, .int 0, .ref (rM 37), .ref (rM 38)])), (rM 7, .inl ((cM 7), 2, .inl (fM 7)))]) [0, 1] (by decide) rfl
    have hFc := va_free (wc := [(rM 0, .inr (8, [.ref (rM 1), .ref (rM 2), .int 0, .int 0, .int 0, .int (-1), .int 0, .int 0, .int 0, .int 0, .long 0, .ref (rM 3), .ref (rM 4), .ref (rM 5), .ref (rM 6), .ref (rM 7), .ref (rM 8), .ref (rM 9), .ref (rM 10), .ref (rM 11), .ref (rM 12), .ref (rM 13), .ref (rM 14), .ref (rM 15), .ref (rM 16), .ref (rM 17), .ref (rM 18), .ref (rM 19), .ref (rM 20), .ref (rM 21), .ref (rM 22), .ref (rM 23), .ref (rM 24), .int 0, .int 0, .int 0, .int 0, .int 0, .int 0, .int 0, .int 0, .int 0, .ref (rM 25), .ref (rM 26), .ref (rM 27), .int 0, .int 0, .ref (rM 28), .int 0, .ref (rM 29), .ref (rM 30), .ref (rM 31), .ref (rM 32), .ref (rM 33), .ref (rM 34), .ref (rM 35), .ref (rM 36), .int 0, .int 0, .int 0, .ref (rM 37), .ref (rM 38)])), (rM 7, .inl ((cM 7), 2, .inl (fM 7)))]) hD hS hA [0, 1] rfl
    refine va_calli (va_runV (As := [.int (xs 1), .int (xs 2)]) (rest := [.int 1]) ⟨hx, hb, hml, hown, hG⟩ (kX9_odds l dC dI rM cM (fM 7) (xs 1) (xs 2) H1.size hfM_7_0) (cwV 2 hG (goodV gw1810 gw1811 gw1812 gw138 gw1813) rfl rfl rfl hd_X9_odds ⟨(Nat.le_of_ble_eq_true rfl), (Nat.le_of_ble_eq_true rfl)⟩) ⟨fbW, va_recv hKc hPc (ci := 8) (q0 := 0) rfl rfl, pW_in hPc hKc hDc⟩ rfl rfl hl.1 rfl (lv_room (Nat.le_of_ble_eq_true rfl)) dL_law_1246 ⟨(Nat.le_of_ble_eq_true rfl), (Nat.le_of_ble_eq_true rfl)⟩) hS (fun q _ h => hFc q h) hFc (fun r_677 u t H676 locs ht hvm hw hB hz1 hk1 hS => ?_)
    rcases hw with ⟨rfl, hy678, hw⟩ | ⟨rfl, hy679, hy680, hw⟩ | ⟨rfl, hy681, hy682, hy683, hw⟩ | ⟨rfl, hy684, hy685, hy686, hy687, hw⟩ | ⟨rfl, hy688, hy689, hy690, hy691, hw⟩ | ⟨rfl, hy692, hy693, hy694, hy695, hw⟩ | ⟨rfl, hy696, hy697, hy698, hy699, hw⟩ | ⟨rfl, hy700, hy701, hy702, hy703, hw⟩ | ⟨rfl, hy704, hy705, hy706, hy707, hw⟩ | ⟨rfl, hy708, hy709, hy710, hy711, hw⟩ | ⟨rfl, hy712, hy713, hy714, hy715, hw⟩ | ⟨rfl, hy716, hy717, hy718, hy719, hw⟩ | ⟨rfl, hy720, hy721, hy722, hy723, hw⟩ | ⟨rfl, hy724, hy725, hy726, hy727, hw⟩
    · skip
      exact ((by have k0 := q_nlt hy69; have k1 := q_nlt hy70; have k4 := q_nle hy73; have k5 := q_nle hy74; have k6 := q_nle hy75; have k7 := q_nle hy76; have k8 := q_le hy77; have k10 := q_lt hy678; have z0 : (0 : Int32).toInt = 0 := (by decide); have z1 : (1 : Int32).toInt = 1 := (by decide); have z2 : (2 : Int32).toInt = 2 := (by decide); have z3 : (3 : Int32).toInt = 3 := (by decide); have z4 : (4 : Int32).toInt = 4 := (by decide); omega) : False).elim
    · skip
      exact ((by have k0 := q_nlt hy69; have k1 := q_nlt hy70; have k4 := q_nle hy73; have k5 := q_nle hy74; have k6 := q_nle hy75; have k7 := q_nle hy76; have k8 := q_le hy77; have k10 := q_nlt hy679; have k11 := q_lt hy680; have z0 : (0 : Int32).toInt = 0 := (by decide); have z1 : (1 : Int32).toInt = 1 := (by decide); have z2 : (2 : Int32).toInt = 2 := (by decide); have z3 : (3 : Int32).toInt = 3 := (by decide); have z4 : (4 : Int32).toInt = 4 := (by decide); omega) : False).elim
    · skip
      exact ((by have k2 := q_nlt hy71; have k3 := q_le hy72; have k9 := q_ne hy78; have k12 := q_lt hy683; have z0 : (0 : Int32).toInt = 0 := (by decide); have z1 : (1 : Int32).toInt = 1 := (by decide); omega) : False).elim
    · skip
      exact ((by have k2 := q_nlt hy71; have k3 := q_le hy72; have k9 := q_ne hy78; have k12 := q_nlt hy686; have k13 := q_lt hy687; have z0 : (0 : Int32).toInt = 0 := (by decide); have z1 : (1 : Int32).toInt = 1 := (by decide); omega) : False).elim
    · skip
      exact ((by have k0 := q_nlt hy69; have k1 := q_nlt hy70; have k4 := q_nle hy73; have k5 := q_nle hy74; have k6 := q_nle hy75; have k7 := q_nle hy76; have k8 := q_le hy77; have k10 := q_eq hy688; have z0 : (0 : Int32).toInt = 0 := (by decide); have z1 : (1 : Int32).toInt = 1 := (by decide); have z2 : (2 : Int32).toInt = 2 := (by decide); have z3 : (3 : Int32).toInt = 3 := (by decide); have z4 : (4 : Int32).toInt = 4 := (by decide); omega) : False).elim
    · skip
      exact ((by have k0 := q_nlt hy69; have k1 := q_nlt hy70; have k4 := q_nle hy73; have k5 := q_nle hy74; have k6 := q_nle hy75; have k7 := q_nle hy76; have k8 := q_le hy77; have k10 := q_eq hy692; have z0 : (0 : Int32).toInt = 0 := (by decide); have z1 : (1 : Int32).toInt = 1 := (by decide); have z2 : (2 : Int32).toInt = 2 := (by decide); have z3 : (3 : Int32).toInt = 3 := (by decide); have z4 : (4 : Int32).toInt = 4 := (by decide); omega) : False).elim
    · skip
      exact ((by have k0 := q_nlt hy69; have k1 := q_nlt hy70; have k4 := q_nle hy73; have k5 := q_nle hy74; have k6 := q_nle hy75; have k7 := q_nle hy76; have k8 := q_le hy77; have k10 := q_eq hy696; have z0 : (0 : Int32).toInt = 0 := (by decide); have z1 : (1 : Int32).toInt = 1 := (by decide); have z2 : (2 : Int32).toInt = 2 := (by decide); have z3 : (3 : Int32).toInt = 3 := (by decide); have z4 : (4 : Int32).toInt = 4 := (by decide); omega) : False).elim
    · skip
      exact ((by have k0 := q_nlt hy69; have k1 := q_nlt hy70; have k4 := q_nle hy73; have k5 := q_nle hy74; have k6 := q_nle hy75; have k7 := q_nle hy76; have k8 := q_le hy77; have k10 := q_eq hy700; have z0 : (0 : Int32).toInt = 0 := (by decide); have z1 : (1 : Int32).toInt = 1 := (by decide); have z2 : (2 : Int32).toInt = 2 := (by decide); have z3 : (3 : Int32).toInt = 3 := (by decide); have z4 : (4 : Int32).toInt = 4 := (by decide); omega) : False).elim
    · skip
      exact ((by have k0 := q_nlt hy69; have k1 := q_nlt hy70; have k4 := q_nle hy73; have k5 := q_nle hy74; have k6 := q_nle hy75; have k7 := q_nle hy76; have k8 := q_le hy77; have k10 := q_eq hy704; have z0 : (0 : Int32).toInt = 0 := (by decide); have z1 : (1 : Int32).toInt = 1 := (by decide); have z2 : (2 : Int32).toInt = 2 := (by decide); have z3 : (3 : Int32).toInt = 3 := (by decide); have z4 : (4 : Int32).toInt = 4 := (by decide); omega) : False).elim
    · skip
      exact ((by have k0 := q_nlt hy69; have k1 := q_nlt hy70; have k4 := q_nle hy73; have k5 := q_nle hy74; have k6 := q_nle hy75; have k7 := q_nle hy76; have k8 := q_le hy77; have k10 := q_eq hy708; have z0 : (0 : Int32).toInt = 0 := (by decide); have z1 : (1 : Int32).toInt = 1 := (by decide); have z2 : (2 : Int32).toInt = 2 := (by decide); have z3 : (3 : Int32).toInt = 3 := (by decide); have z4 : (4 : Int32).toInt = 4 := (by decide); omega) : False).elim
    · skip
      exact ((by have k0 := q_nlt hy69; have k1 := q_nlt hy70; have k4 := q_nle hy73; have k5 := q_nle hy74; have k6 := q_nle hy75; have k7 := q_nle hy76; have k8 := q_le hy77; have k10 := q_eq hy712; have z0 : (0 : Int32).toInt = 0 := (by decide); have z1 : (1 : Int32).toInt = 1 := (by decide); have z2 : (2 : Int32).toInt = 2 := (by decide); have z3 : (3 : Int32).toInt = 3 := (by decide); have z4 : (4 : Int32).toInt = 4 := (by decide); omega) : False).elim
    · skip
      exact ((by have k0 := q_nlt hy69; have k1 := q_nlt hy70; have k4 := q_nle hy73; have k5 := q_nle hy74; have k6 := q_nle hy75; have k7 := q_nle hy76; have k8 := q_le hy77; have k10 := q_eq hy716; have z0 : (0 : Int32).toInt = 0 := (by decide); have z1 : (1 : Int32).toInt = 1 := (by decide); have z2 : (2 : Int32).toInt = 2 := (by decide); have z3 : (3 : Int32).toInt = 3 := (by decide); have z4 : (4 : Int32).toInt = 4 := (by decide); omega) : False).elim
    · skip
      obtain ⟨hP, hD⟩ := va_join (wr := []) (w1 := []) hP hD [0, 1] [] rfl rfl (by decide) (by decide) hk1 hFc (fun k q h => by simp at h) ⟨fun i j p q h => by simp at h, fun k q h => by simp at h⟩
      refine wt_c (v := 1) hw ?_
      refine lv_icmp_eq (tgt := 1540) hx hb dL_law_1249 (by decide) (fun c_728 => ?_) (fun c_728 => absurd (by decide) c_728)
      exact law_end l C0 hS hl
    · skip
      exact ((by have k2 := q_nlt hy71; have k3 := q_le hy72; have k9 := q_ne hy78; have k11 := q_nlt hy725; have k12 := q_nlt hy726; have k13 := q_eq hy727; have z0 : (0 : Int32).toInt = 0 := (by decide); have z1 : (1 : Int32).toInt = 1 := (by decide); omega) : False).elim
  · skip
    obtain ⟨hP, hD⟩ := va_join (wr := [(rM 0, .inr (8, [.ref (rM 1), .ref (rM 2), .int 0, .int 0, .int 0, .int (-1), .int 0, .int 0, .int 0, .int 0, .long 0, .ref (rM 3), .ref (rM 4), .ref (rM 5), .ref (rM 6), .ref (rM 7), .ref (rM 8), .ref (rM 9), .ref (rM 10), .ref (rM 11), .ref (rM 12), .ref (rM 13), .ref (rM 14), .ref (rM 15), .ref (rM 16), .ref (rM 17), .ref (rM 18), .ref (rM 19), .ref (rM 20), .ref (rM 21), .ref (rM 22), .ref (rM 23), .ref (rM 24), .int 0, .int 0, .int 0, .int 0, .int 0, .int 0, .int 0, .int 0, .int 0, .ref (rM 25), .ref (rM 26), .ref (rM 27), .int 0, .int 0, .ref (rM 28), .int 0, .ref (rM 29), .ref (rM 30), .ref (rM 31), .ref (rM 32), .ref (rM 33), .ref (rM 34), .ref (rM 35), .ref (rM 36), .int 0, .int 0, .int 0, .ref (rM 37), .ref (rM 38)])), (rM 7, .inl ((cM 7), 2, .inl (fM 7)))]) (w1 := []) hP hD [0, 1] [2, 3] rfl rfl (by decide) (by decide) hk1 hFc (fun k q h => by simp at h) ⟨fun i j p q h => by simp at h, fun k q h => by simp at h⟩
    refine wt_c (v := 1) hw ?_
    refine lv_aload_n hx hb dL_law_1235 rfl (lv_at hl 1 rfl) ?_
    refine lv_aload_n hx hb dL_law_1236 rfl (lv_at hl 3 rfl) ?_
    refine lv_iload_n hx hb dL_law_1237 rfl (lv_at hl 0 rfl) ?_
    refine lv_iconst (v := 1) hx hb dL_law_1238 (by decide) ?_
    refine lv_iadd hx hb dL_law_1239 ?_
    refine wt_c (v := 1) (by decide) ?_
    refine va_sld hx hb hX hbl hbA hS (vin (by decide)) dL_law_1240 ?_
    refine wt_c (v := xs 1) (congrArg xs (by decide)) ?_
    refine lv_aload_n hx hb dL_law_1241 rfl (lv_at hl 3 rfl) ?_
    refine lv_iload_n hx hb dL_law_1242 rfl (lv_at hl 0 rfl) ?_
    refine lv_iconst (v := 2) hx hb dL_law_1243 (by decide) ?_
    refine lv_iadd hx hb dL_law_1244 ?_
    refine wt_c (v := 2) (by decide) ?_
    refine va_sld hx hb hX hbl hbA hS (vin (by decide)) dL_law_1245 ?_
    refine wt_c (v := xs 2) (congrArg xs (by decide)) ?_
    have hPc := hP.sub (ws' := [(rM 0, .inr (8, [.ref (rM 1), .ref (rM 2), .int 0, .int 0, .int 0, .int (-1), .int 0, .int 0, .int 0, .int 0, .long 0, .ref (rM 3), .ref (rM 4), .ref (rM 5), .ref (rM 6), .ref (rM 7), .ref (rM 8), .ref (rM 9), .ref (rM 10), .ref (rM 11), .ref (rM 12), .ref (rM 13), .ref (rM 14), .ref (rM 15), .ref (rM 16), .ref (rM 17), .ref (rM 18), .ref (rM 19), .ref (rM 20), .ref (rM 21), .ref (rM 22), .ref (rM 23), .ref (rM 24), .int 0, .int 0, .int 0, .int 0, .int 0, .int 0, .int 0, .int 0, .int 0, .ref (rM 25), .ref (rM 26), .ref (rM 27), .int 0, .int 0, .ref (rM 28), .int 0, .ref (rM 29), .ref (rM 30), .ref (rM 31), .ref (rM 32), .ref (rM 33), .ref (rM 34), .ref (rM 35), .ref (rM 36), .int 0, .int 0, .int 0, .ref (rM 37), .ref (rM 38)])), (rM 7, .inl ((cM 7), 2, .inl (fM 7)))]) [0, 1] rfl
    have hKc := hK.sub (tys' := [((cM 7), .int)]) [0] rfl
    have hDc := hD.sub (ws' := [(rM 0, .inr (8, [.ref (rM 1), .ref (rM 2), .int 0, .int 0, .int 0, .int (-1), .int 0, .int 0, .int 0, .int 0, .long 0, .ref (rM 3), .ref (rM 4), .ref (rM 5), .ref (rM 6), .ref (rM 7), .ref (rM 8), .ref (rM 9), .ref (rM 10), .ref (rM 11), .ref (rM 12), .ref (rM 13), .ref (rM 14), .ref (rM 15), .ref (rM 16), .ref (rM 17), .ref (rM 18), .ref (rM 19), .ref (rM 20), .ref (rM 21), .ref (rM 22), .ref (rM 23), .ref (rM 24), .int 0, .int 0, .int 0, .int 0, .int 0, .int 0, .int 0, .int 0, .int 0, .ref (rM 25), .ref (rM 26), .ref (rM 27), .int 0, .int 0, .ref (rM 28), .int 0, .ref (rM 29), .ref (rM 30), .ref (rM 31), .ref (rM 32), .ref (rM 33), .ref (rM 34), .ref (rM 35), .ref (rM 36), .int 0, .int 0, .int 0, .ref (rM 37), .ref (rM 38)])), (rM 7, .inl ((cM 7), 2, .inl (fM 7)))]) [0, 1] (by decide) rfl
    have hFc := va_free (wc := [(rM 0, .inr (8, [.ref (rM 1), .ref (rM 2), .int 0, .int 0, .int 0, .int (-1), .int 0, .int 0, .int 0, .int 0, .long 0, .ref (rM 3), .ref (rM 4), .ref (rM 5), .ref (rM 6), .ref (rM 7), .ref (rM 8), .ref (rM 9), .ref (rM 10), .ref (rM 11), .ref (rM 12), .ref (rM 13), .ref (rM 14), .ref (rM 15), .ref (rM 16), .ref (rM 17), .ref (rM 18), .ref (rM 19), .ref (rM 20), .ref (rM 21), .ref (rM 22), .ref (rM 23), .ref (rM 24), .int 0, .int 0, .int 0, .int 0, .int 0, .int 0, .int 0, .int 0, .int 0, .ref (rM 25), .ref (rM 26), .ref (rM 27), .int 0, .int 0, .ref (rM 28), .int 0, .ref (rM 29), .ref (rM 30), .ref (rM 31), .ref (rM 32), .ref (rM 33), .ref (rM 34), .ref (rM 35), .ref (rM 36), .int 0, .int 0, .int 0, .ref (rM 37), .ref (rM 38)])), (rM 7, .inl ((cM 7), 2, .inl (fM 7)))]) hD hS hA [0, 1] rfl
    refine va_calli (va_runV (As := [.int (xs 1), .int (xs 2)]) (rest := [.int 1]) ⟨hx, hb, hml, hown, hG⟩ (kX9_odds l dC dI rM cM (fM 7) (xs 1) (xs 2) H1.size hfM_7_0) (cwV 2 hG (goodV gw1810 gw1811 gw1812 gw138 gw1813) rfl rfl rfl hd_X9_odds ⟨(Nat.le_of_ble_eq_true rfl), (Nat.le_of_ble_eq_true rfl)⟩) ⟨fbW, va_recv hKc hPc (ci := 8) (q0 := 0) rfl rfl, pW_in hPc hKc hDc⟩ rfl rfl hl.1 rfl (lv_room (Nat.le_of_ble_eq_true rfl)) dL_law_1246 ⟨(Nat.le_of_ble_eq_true rfl), (Nat.le_of_ble_eq_true rfl)⟩) hS (fun q _ h => hFc q h) hFc (fun r_730 u t H729 locs ht hvm hw hB hz1 hk1 hS => ?_)
    rcases hw with ⟨rfl, hy731, hw⟩ | ⟨rfl, hy732, hy733, hw⟩ | ⟨rfl, hy734, hy735, hy736, hw⟩ | ⟨rfl, hy737, hy738, hy739, hy740, hw⟩ | ⟨rfl, hy741, hy742, hy743, hy744, hw⟩ | ⟨rfl, hy745, hy746, hy747, hy748, hw⟩ | ⟨rfl, hy749, hy750, hy751, hy752, hw⟩ | ⟨rfl, hy753, hy754, hy755, hy756, hw⟩ | ⟨rfl, hy757, hy758, hy759, hy760, hw⟩ | ⟨rfl, hy761, hy762, hy763, hy764, hw⟩ | ⟨rfl, hy765, hy766, hy767, hy768, hw⟩ | ⟨rfl, hy769, hy770, hy771, hy772, hw⟩ | ⟨rfl, hy773, hy774, hy775, hy776, hw⟩ | ⟨rfl, hy777, hy778, hy779, hy780, hw⟩
    · skip
      exact ((by have k0 := q_nlt hy79; have k1 := q_nlt hy80; have k4 := q_nle hy83; have k5 := q_nle hy84; have k6 := q_nle hy85; have k7 := q_nle hy86; have k8 := q_le hy87; have k10 := q_lt hy731; have z0 : (0 : Int32).toInt = 0 := (by decide); have z1 : (1 : Int32).toInt = 1 := (by decide); have z2 : (2 : Int32).toInt = 2 := (by decide); have z3 : (3 : Int32).toInt = 3 := (by decide); have z4 : (4 : Int32).toInt = 4 := (by decide); omega) : False).elim
    · skip
      exact ((by have k0 := q_nlt hy79; have k1 := q_nlt hy80; have k4 := q_nle hy83; have k5 := q_nle hy84; have k6 := q_nle hy85; have k7 := q_nle hy86; have k8 := q_le hy87; have k10 := q_nlt hy732; have k11 := q_lt hy733; have z0 : (0 : Int32).toInt = 0 := (by decide); have z1 : (1 : Int32).toInt = 1 := (by decide); have z2 : (2 : Int32).toInt = 2 := (by decide); have z3 : (3 : Int32).toInt = 3 := (by decide); have z4 : (4 : Int32).toInt = 4 := (by decide); omega) : False).elim
    · skip
      exact ((by have k2 := q_nlt hy81; have k3 := q_le hy82; have k9 := q_eq hy88; have k12 := q_lt hy736; have z0 : (0 : Int32).toInt = 0 := (by decide); have z1 : (1 : Int32).toInt = 1 := (by decide); omega) : False).elim
    · skip
      exact ((by have k2 := q_nlt hy81; have k3 := q_le hy82; have k9 := q_eq hy88; have k12 := q_nlt hy739; have k13 := q_lt hy740; have z0 : (0 : Int32).toInt = 0 := (by decide); have z1 : (1 : Int32).toInt = 1 := (by decide); omega) : False).elim
    · skip
      exact ((by have k0 := q_nlt hy79; have k1 := q_nlt hy80; have k4 := q_nle hy83; have k5 := q_nle hy84; have k6 := q_nle hy85; have k7 := q_nle hy86; have k8 := q_le hy87; have k10 := q_eq hy741; have z0 : (0 : Int32).toInt = 0 := (by decide); have z1 : (1 : Int32).toInt = 1 := (by decide); have z2 : (2 : Int32).toInt = 2 := (by decide); have z3 : (3 : Int32).toInt = 3 := (by decide); have z4 : (4 : Int32).toInt = 4 := (by decide); omega) : False).elim
    · skip
      exact ((by have k0 := q_nlt hy79; have k1 := q_nlt hy80; have k4 := q_nle hy83; have k5 := q_nle hy84; have k6 := q_nle hy85; have k7 := q_nle hy86; have k8 := q_le hy87; have k10 := q_eq hy745; have z0 : (0 : Int32).toInt = 0 := (by decide); have z1 : (1 : Int32).toInt = 1 := (by decide); have z2 : (2 : Int32).toInt = 2 := (by decide); have z3 : (3 : Int32).toInt = 3 := (by decide); have z4 : (4 : Int32).toInt = 4 := (by decide); omega) : False).elim
    · skip
      exact ((by have k0 := q_nlt hy79; have k1 := q_nlt hy80; have k4 := q_nle hy83; have k5 := q_nle hy84; have k6 := q_nle hy85; have k7 := q_nle hy86; have k8 := q_le hy87; have k10 := q_eq hy749; have z0 : (0 : Int32).toInt = 0 := (by decide); have z1 : (1 : Int32).toInt = 1 := (by decide); have z2 : (2 : Int32).toInt = 2 := (by decide); have z3 : (3 : Int32).toInt = 3 := (by decide); have z4 : (4 : Int32).toInt = 4 := (by decide); omega) : False).elim
    · skip
      exact ((by have k0 := q_nlt hy79; have k1 := q_nlt hy80; have k4 := q_nle hy83; have k5 := q_nle hy84; have k6 := q_nle hy85; have k7 := q_nle hy86; have k8 := q_le hy87; have k10 := q_eq hy753; have z0 : (0 : Int32).toInt = 0 := (by decide); have z1 : (1 : Int32).toInt = 1 := (by decide); have z2 : (2 : Int32).toInt = 2 := (by decide); have z3 : (3 : Int32).toInt = 3 := (by decide); have z4 : (4 : Int32).toInt = 4 := (by decide); omega) : False).elim
    · skip
      exact ((by have k0 := q_nlt hy79; have k1 := q_nlt hy80; have k4 := q_nle hy83; have k5 := q_nle hy84; have k6 := q_nle hy85; have k7 := q_nle hy86; have k8 := q_le hy87; have k10 := q_eq hy757; have z0 : (0 : Int32).toInt = 0 := (by decide); have z1 : (1 : Int32).toInt = 1 := (by decide); have z2 : (2 : Int32).toInt = 2 := (by decide); have z3 : (3 : Int32).toInt = 3 := (by decide); have z4 : (4 : Int32).toInt = 4 := (by decide); omega) : False).elim
    · skip
      exact ((by have k0 := q_nlt hy79; have k1 := q_nlt hy80; have k4 := q_nle hy83; have k5 := q_nle hy84; have k6 := q_nle hy85; have k7 := q_nle hy86; have k8 := q_le hy87; have k10 := q_eq hy761; have z0 : (0 : Int32).toInt = 0 := (by decide); have z1 : (1 : Int32).toInt = 1 := (by decide); have z2 : (2 : Int32).toInt = 2 := (by decide); have z3 : (3 : Int32).toInt = 3 := (by decide); have z4 : (4 : Int32).toInt = 4 := (by decide); omega) : False).elim
    · skip
      exact ((by have k0 := q_nlt hy79; have k1 := q_nlt hy80; have k4 := q_nle hy83; have k5 := q_nle hy84; have k6 := q_nle hy85; have k7 := q_nle hy86; have k8 := q_le hy87; have k10 := q_eq hy765; have z0 : (0 : Int32).toInt = 0 := (by decide); have z1 : (1 : Int32).toInt = 1 := (by decide); have z2 : (2 : Int32).toInt = 2 := (by decide); have z3 : (3 : Int32).toInt = 3 := (by decide); have z4 : (4 : Int32).toInt = 4 := (by decide); omega) : False).elim
    · skip
      exact ((by have k0 := q_nlt hy79; have k1 := q_nlt hy80; have k4 := q_nle hy83; have k5 := q_nle hy84; have k6 := q_nle hy85; have k7 := q_nle hy86; have k8 := q_le hy87; have k10 := q_eq hy769; have z0 : (0 : Int32).toInt = 0 := (by decide); have z1 : (1 : Int32).toInt = 1 := (by decide); have z2 : (2 : Int32).toInt = 2 := (by decide); have z3 : (3 : Int32).toInt = 3 := (by decide); have z4 : (4 : Int32).toInt = 4 := (by decide); omega) : False).elim
    · skip
      exact ((by have k2 := q_nlt hy81; have k3 := q_le hy82; have k9 := q_eq hy88; have k11 := q_nlt hy774; have k12 := q_nlt hy775; have k13 := q_ne hy776; have z0 : (0 : Int32).toInt = 0 := (by decide); have z1 : (1 : Int32).toInt = 1 := (by decide); omega) : False).elim
    · skip
      obtain ⟨hP, hD⟩ := va_join (wr := []) (w1 := []) hP hD [0, 1] [] rfl rfl (by decide) (by decide) hk1 hFc (fun k q h => by simp at h) ⟨fun i j p q h => by simp at h, fun k q h => by simp at h⟩
      refine wt_c (v := 1) hw ?_
      refine lv_icmp_eq (tgt := 1540) hx hb dL_law_1249 (by decide) (fun c_781 => ?_) (fun c_781 => absurd (by decide) c_781)
      exact law_end l C0 hS hl
  · skip
    obtain ⟨hP, hD⟩ := va_join (wr := [(rM 0, .inr (8, [.ref (rM 1), .ref (rM 2), .int 0, .int 0, .int 0, .int (-1), .int 0, .int 0, .int 0, .int 0, .long 0, .ref (rM 3), .ref (rM 4), .ref (rM 5), .ref (rM 6), .ref (rM 7), .ref (rM 8), .ref (rM 9), .ref (rM 10), .ref (rM 11), .ref (rM 12), .ref (rM 13), .ref (rM 14), .ref (rM 15), .ref (rM 16), .ref (rM 17), .ref (rM 18), .ref (rM 19), .ref (rM 20), .ref (rM 21), .ref (rM 22), .ref (rM 23), .ref (rM 24), .int 0, .int 0, .int 0, .int 0, .int 0, .int 0, .int 0, .int 0, .int 0, .ref (rM 25), .ref (rM 26), .ref (rM 27), .int 0, .int 0, .ref (rM 28), .int 0, .ref (rM 29), .ref (rM 30), .ref (rM 31), .ref (rM 32), .ref (rM 33), .ref (rM 34), .ref (rM 35), .ref (rM 36), .int 0, .int 0, .int 0, .ref (rM 37), .ref (rM 38)])), (rM 7, .inl ((cM 7), 2, .inl (fM 7)))]) (w1 := []) hP hD [0, 1] [2, 3] rfl rfl (by decide) (by decide) hk1 hFc (fun k q h => by simp at h) ⟨fun i j p q h => by simp at h, fun k q h => by simp at h⟩
    refine wt_c (v := (-1)) hw ?_
    refine lv_aload_n hx hb dL_law_1235 rfl (lv_at hl 1 rfl) ?_
    refine lv_aload_n hx hb dL_law_1236 rfl (lv_at hl 3 rfl) ?_
    refine lv_iload_n hx hb dL_law_1237 rfl (lv_at hl 0 rfl) ?_
    refine lv_iconst (v := 1) hx hb dL_law_1238 (by decide) ?_
    refine lv_iadd hx hb dL_law_1239 ?_
    refine wt_c (v := 1) (by decide) ?_
    refine va_sld hx hb hX hbl hbA hS (vin (by decide)) dL_law_1240 ?_
    refine wt_c (v := xs 1) (congrArg xs (by decide)) ?_
    refine lv_aload_n hx hb dL_law_1241 rfl (lv_at hl 3 rfl) ?_
    refine lv_iload_n hx hb dL_law_1242 rfl (lv_at hl 0 rfl) ?_
    refine lv_iconst (v := 2) hx hb dL_law_1243 (by decide) ?_
    refine lv_iadd hx hb dL_law_1244 ?_
    refine wt_c (v := 2) (by decide) ?_
    refine va_sld hx hb hX hbl hbA hS (vin (by decide)) dL_law_1245 ?_
    refine wt_c (v := xs 2) (congrArg xs (by decide)) ?_
    have hPc := hP.sub (ws' := [(rM 0, .inr (8, [.ref (rM 1), .ref (rM 2), .int 0, .int 0, .int 0, .int (-1), .int 0, .int 0, .int 0, .int 0, .long 0, .ref (rM 3), .ref (rM 4), .ref (rM 5), .ref (rM 6), .ref (rM 7), .ref (rM 8), .ref (rM 9), .ref (rM 10), .ref (rM 11), .ref (rM 12), .ref (rM 13), .ref (rM 14), .ref (rM 15), .ref (rM 16), .ref (rM 17), .ref (rM 18), .ref (rM 19), .ref (rM 20), .ref (rM 21), .ref (rM 22), .ref (rM 23), .ref (rM 24), .int 0, .int 0, .int 0, .int 0, .int 0, .int 0, .int 0, .int 0, .int 0, .ref (rM 25), .ref (rM 26), .ref (rM 27), .int 0, .int 0, .ref (rM 28), .int 0, .ref (rM 29), .ref (rM 30), .ref (rM 31), .ref (rM 32), .ref (rM 33), .ref (rM 34), .ref (rM 35), .ref (rM 36), .int 0, .int 0, .int 0, .ref (rM 37), .ref (rM 38)])), (rM 7, .inl ((cM 7), 2, .inl (fM 7)))]) [0, 1] rfl
    have hKc := hK.sub (tys' := [((cM 7), .int)]) [0] rfl
    have hDc := hD.sub (ws' := [(rM 0, .inr (8, [.ref (rM 1), .ref (rM 2), .int 0, .int 0, .int 0, .int (-1), .int 0, .int 0, .int 0, .int 0, .long 0, .ref (rM 3), .ref (rM 4), .ref (rM 5), .ref (rM 6), .ref (rM 7), .ref (rM 8), .ref (rM 9), .ref (rM 10), .ref (rM 11), .ref (rM 12), .ref (rM 13), .ref (rM 14), .ref (rM 15), .ref (rM 16), .ref (rM 17), .ref (rM 18), .ref (rM 19), .ref (rM 20), .ref (rM 21), .ref (rM 22), .ref (rM 23), .ref (rM 24), .int 0, .int 0, .int 0, .int 0, .int 0, .int 0, .int 0, .int 0, .int 0, .ref (rM 25), .ref (rM 26), .ref (rM 27), .int 0, .int 0, .ref (rM 28), .int 0, .ref (rM 29), .ref (rM 30), .ref (rM 31), .ref (rM 32), .ref (rM 33), .ref (rM 34), .ref (rM 35), .ref (rM 36), .int 0, .int 0, .int 0, .ref (rM 37), .ref (rM 38)])), (rM 7, .inl ((cM 7), 2, .inl (fM 7)))]) [0, 1] (by decide) rfl
    have hFc := va_free (wc := [(rM 0, .inr (8, [.ref (rM 1), .ref (rM 2), .int 0, .int 0, .int 0, .int (-1), .int 0, .int 0, .int 0, .int 0, .long 0, .ref (rM 3), .ref (rM 4), .ref (rM 5), .ref (rM 6), .ref (rM 7), .ref (rM 8), .ref (rM 9), .ref (rM 10), .ref (rM 11), .ref (rM 12), .ref (rM 13), .ref (rM 14), .ref (rM 15), .ref (rM 16), .ref (rM 17), .ref (rM 18), .ref (rM 19), .ref (rM 20), .ref (rM 21), .ref (rM 22), .ref (rM 23), .ref (rM 24), .int 0, .int 0, .int 0, .int 0, .int 0, .int 0, .int 0, .int 0, .int 0, .ref (rM 25), .ref (rM 26), .ref (rM 27), .int 0, .int 0, .ref (rM 28), .int 0, .ref (rM 29), .ref (rM 30), .ref (rM 31), .ref (rM 32), .ref (rM 33), .ref (rM 34), .ref (rM 35), .ref (rM 36), .int 0, .int 0, .int 0, .ref (rM 37), .ref (rM 38)])), (rM 7, .inl ((cM 7), 2, .inl (fM 7)))]) hD hS hA [0, 1] rfl
    refine va_calli (va_runV (As := [.int (xs 1), .int (xs 2)]) (rest := [.int (-1)]) ⟨hx, hb, hml, hown, hG⟩ (kX9_odds l dC dI rM cM (fM 7) (xs 1) (xs 2) H1.size hfM_7_0) (cwV 2 hG (goodV gw1810 gw1811 gw1812 gw138 gw1813) rfl rfl rfl hd_X9_odds ⟨(Nat.le_of_ble_eq_true rfl), (Nat.le_of_ble_eq_true rfl)⟩) ⟨fbW, va_recv hKc hPc (ci := 8) (q0 := 0) rfl rfl, pW_in hPc hKc hDc⟩ rfl rfl hl.1 rfl (lv_room (Nat.le_of_ble_eq_true rfl)) dL_law_1246 ⟨(Nat.le_of_ble_eq_true rfl), (Nat.le_of_ble_eq_true rfl)⟩) hS (fun q _ h => hFc q h) hFc (fun r_783 u t H782 locs ht hvm hw hB hz1 hk1 hS => ?_)
    rcases hw with ⟨rfl, hy784, hw⟩ | ⟨rfl, hy785, hy786, hw⟩ | ⟨rfl, hy787, hy788, hy789, hw⟩ | ⟨rfl, hy790, hy791, hy792, hy793, hw⟩ | ⟨rfl, hy794, hy795, hy796, hy797, hw⟩ | ⟨rfl, hy798, hy799, hy800, hy801, hw⟩ | ⟨rfl, hy802, hy803, hy804, hy805, hw⟩ | ⟨rfl, hy806, hy807, hy808, hy809, hw⟩ | ⟨rfl, hy810, hy811, hy812, hy813, hw⟩ | ⟨rfl, hy814, hy815, hy816, hy817, hw⟩ | ⟨rfl, hy818, hy819, hy820, hy821, hw⟩ | ⟨rfl, hy822, hy823, hy824, hy825, hw⟩ | ⟨rfl, hy826, hy827, hy828, hy829, hw⟩ | ⟨rfl, hy830, hy831, hy832, hy833, hw⟩
    · skip
      exact ((by have k0 := q_nlt hy89; have k1 := q_nlt hy90; have k4 := q_lt hy784; have z0 : (0 : Int32).toInt = 0 := (by decide); have z4 : (4 : Int32).toInt = 4 := (by decide); omega) : False).elim
    · skip
      exact ((by have k0 := q_nlt hy89; have k1 := q_nlt hy90; have k4 := q_nlt hy785; have k5 := q_lt hy786; have z0 : (0 : Int32).toInt = 0 := (by decide); have z4 : (4 : Int32).toInt = 4 := (by decide); omega) : False).elim
    · skip
      exact ((by have k2 := q_nlt hy91; have k3 := q_nle hy92; have k6 := q_lt hy789; have z0 : (0 : Int32).toInt = 0 := (by decide); have z1 : (1 : Int32).toInt = 1 := (by decide); omega) : False).elim
    · skip
      obtain ⟨hP, hD⟩ := va_join (wr := []) (w1 := []) hP hD [0, 1] [] rfl rfl (by decide) (by decide) hk1 hFc (fun k q h => by simp at h) ⟨fun i j p q h => by simp at h, fun k q h => by simp at h⟩
      refine wt_c (v := (-1)) hw ?_
      refine lv_icmp_eq (tgt := 1540) hx hb dL_law_1249 (by decide) (fun c_834 => ?_) (fun c_834 => absurd (by decide) c_834)
      exact law_end l C0 hS hl
    · skip
      exact ((by have k2 := q_nlt hy91; have k3 := q_nle hy92; have k5 := q_nlt hy795; have k6 := q_nlt hy796; have k7 := q_ne hy797; have z0 : (0 : Int32).toInt = 0 := (by decide); have z1 : (1 : Int32).toInt = 1 := (by decide); omega) : False).elim
    · skip
      exact ((by have k2 := q_nlt hy91; have k3 := q_nle hy92; have k5 := q_nlt hy799; have k6 := q_nlt hy800; have k7 := q_eq hy801; have z0 : (0 : Int32).toInt = 0 := (by decide); have z1 : (1 : Int32).toInt = 1 := (by decide); omega) : False).elim
    · skip
      exact ((by have k2 := q_nlt hy91; have k3 := q_nle hy92; have k5 := q_nlt hy803; have k6 := q_nlt hy804; have k7 := q_ne hy805; have z0 : (0 : Int32).toInt = 0 := (by decide); have z1 : (1 : Int32).toInt = 1 := (by decide); omega) : False).elim
    · skip
      exact ((by have k2 := q_nlt hy91; have k3 := q_nle hy92; have k5 := q_nlt hy807; have k6 := q_nlt hy808; have k7 := q_eq hy809; have z0 : (0 : Int32).toInt = 0 := (by decide); have z1 : (1 : Int32).toInt = 1 := (by decide); omega) : False).elim
    · skip
      exact ((by have k2 := q_nlt hy91; have k3 := q_nle hy92; have k5 := q_nlt hy811; have k6 := q_nlt hy812; have k7 := q_ne hy813; have z0 : (0 : Int32).toInt = 0 := (by decide); have z1 : (1 : Int32).toInt = 1 := (by decide); omega) : False).elim
    · skip
      exact ((by have k2 := q_nlt hy91; have k3 := q_nle hy92; have k5 := q_nlt hy815; have k6 := q_nlt hy816; have k7 := q_eq hy817; have z0 : (0 : Int32).toInt = 0 := (by decide); have z1 : (1 : Int32).toInt = 1 := (by decide); omega) : False).elim
    · skip
      exact ((by have k2 := q_nlt hy91; have k3 := q_nle hy92; have k5 := q_nlt hy819; have k6 := q_nlt hy820; have k7 := q_ne hy821; have z0 : (0 : Int32).toInt = 0 := (by decide); have z1 : (1 : Int32).toInt = 1 := (by decide); omega) : False).elim
    · skip
      exact ((by have k2 := q_nlt hy91; have k3 := q_nle hy92; have k5 := q_nlt hy823; have k6 := q_nlt hy824; have k7 := q_eq hy825; have z0 : (0 : Int32).toInt = 0 := (by decide); have z1 : (1 : Int32).toInt = 1 := (by decide); omega) : False).elim
    · skip
      exact ((by have k2 := q_nlt hy91; have k3 := q_nle hy92; have k5 := q_nlt hy827; have k6 := q_nlt hy828; have k7 := q_ne hy829; have z0 : (0 : Int32).toInt = 0 := (by decide); have z1 : (1 : Int32).toInt = 1 := (by decide); omega) : False).elim
    · skip
      exact ((by have k2 := q_nlt hy91; have k3 := q_nle hy92; have k5 := q_nlt hy831; have k6 := q_nlt hy832; have k7 := q_eq hy833; have z0 : (0 : Int32).toInt = 0 := (by decide); have z1 : (1 : Int32).toInt = 1 := (by decide); omega) : False).elim
set_option maxHeartbeats 4000000 in
set_option maxRecDepth 100000 in
theorem law_38 {p : Program} {e : Env} {s : State} {m : MethodId} {below : List Frame} {meth : Method} {c : Code} (l : Launch) {b : Nat} {xs : Nat → Int32} (C0 : lw_At p s m meth c b 6 xs) (dC : Nat → ClassId) (dI : Nat → Nat → Nat) (rX rM : Nat → Nat) (cX cM : Nat → ClassId) (fX fM : Nat → Nat → Int32) (gX gM : Nat → Nat → Int64) {H : Heap} {locs : List Loc} (hK : va_K (dC, dI) vwCl [] s) (hP : va_P (dC, dI) vwCl [(rX 0, .inr (7, [.ref (rX 1), .int 0, .ref (rX 2), .ref (rX 55), .ref (rX 57), .ref (rX 30), .ref (rX 56), .ref (rX 36), .ref (rX 37), .ref (rX 38), .int 0, .ref (rX 51), .int 0, .ref (rX 52), .ref (rX 53), .ref (rX 54)])), (rM 0, .inr (8, [.ref (rM 1), .ref (rM 2), .int 0, .int 0, .int 0, .int (-1), .int 0, .int 0, .int 0, .int 0, .long 0, .ref (rM 3), .ref (rM 4), .ref (rM 5), .ref (rM 6), .ref (rM 7), .ref (rM 8), .ref (rM 9), .ref (rM 10), .ref (rM 11), .ref (rM 12), .ref (rM 13), .ref (rM 14), .ref (rM 15), .ref (rM 16), .ref (rM 17), .ref (rM 18), .ref (rM 19), .ref (rM 20), .ref (rM 21), .ref (rM 22), .ref (rM 23), .ref (rM 24), .int 0, .int 0, .int 0, .int 0, .int 0, .int 0, .int 0, .int 0, .int 0, .ref (rM 25), .ref (rM 26), .ref (rM 27), .int 0, .int 0, .ref (rM 28), .int 0, .ref (rM 29), .ref (rM 30), .ref (rM 31), .ref (rM 32), .ref (rM 33), .ref (rM 34), .ref (rM 35), .ref (rM 36), .int 0, .int 0, .int 0, .ref (rM 37), .ref (rM 38)]))] H) (hD : va_D (fun q : Nat => s.heap.size ≤ q) [(rX 0, .inr (7, [.ref (rX 1), .int 0, .ref (rX 2), .ref (rX 55), .ref (rX 57), .ref (rX 30), .ref (rX 56), .ref (rX 36), .ref (rX 37), .ref (rX 38), .int 0, .ref (rX 51), .int 0, .ref (rX 52), .ref (rX 53), .ref (rX 54)])), (rM 0, .inr (8, [.ref (rM 1), .ref (rM 2), .int 0, .int 0, .int 0, .int (-1), .int 0, .int 0, .int 0, .int 0, .long 0, .ref (rM 3), .ref (rM 4), .ref (rM 5), .ref (rM 6), .ref (rM 7), .ref (rM 8), .ref (rM 9), .ref (rM 10), .ref (rM 11), .ref (rM 12), .ref (rM 13), .ref (rM 14), .ref (rM 15), .ref (rM 16), .ref (rM 17), .ref (rM 18), .ref (rM 19), .ref (rM 20), .ref (rM 21), .ref (rM 22), .ref (rM 23), .ref (rM 24), .int 0, .int 0, .int 0, .int 0, .int 0, .int 0, .int 0, .int 0, .int 0, .ref (rM 25), .ref (rM 26), .ref (rM 27), .int 0, .int 0, .ref (rM 28), .int 0, .ref (rM 29), .ref (rM 30), .ref (rM 31), .ref (rM 32), .ref (rM 33), .ref (rM 34), .ref (rM 35), .ref (rM 36), .int 0, .int 0, .int 0, .ref (rM 37), .ref (rM 38)]))]) (hS : va_S (fun q : Nat => s.heap.size ≤ q) s.heap H locs) {ls : Array Slot} (hl : lv_has ls 4 [(3, .int 0), (2, .ref (rM 0)), (1, .ref (rX 0)), (0, .ref b)]) : W p l e room_1 s m #[Value.ref b] below meth c H locs 103 20190 (lw_Z below #[Value.ref b] s) (F0 m 1254 ls []) := by
  obtain ⟨hx, hb, hr, hml, hown, hts, hX, hbl, hlocks, hgv⟩ := id C0
  have hown : s.vm.findClass RL = some m.cls := hown
  have hG : ∀ w ∈ GW, w.before _ s = true := fun w h => hts w (List.mem_filter.mp h).1
  have hA : ∀ q : Nat, s.heap.size ≤ q → (fun q : Nat => s.heap.size ≤ q) q := fun _ h => h
  have hbA : ¬ (fun q : Nat => s.heap.size ≤ q) b := Nat.not_le.mpr hbl
  refine lv_aload_n hx hb dL_law_1254 rfl (lv_at hl 2 rfl) ?_
  refine lv_aload_n hx hb dL_law_1255 rfl (lv_at hl 3 rfl) ?_
  refine lv_iload_n hx hb dL_law_1256 rfl (lv_at hl 0 rfl) ?_
  refine lv_iconst (v := 1) hx hb dL_law_1257 (by decide) ?_
  refine lv_iadd hx hb dL_law_1258 ?_
  refine wt_c (v := 1) (by decide) ?_
  refine va_sld hx hb hX hbl hbA hS (vin (by decide)) dL_law_1259 ?_
  refine wt_c (v := xs 1) (congrArg xs (by decide)) ?_
  have hPc := hP.sub (ws' := [(rX 0, .inr (7, [.ref (rX 1), .int 0, .ref (rX 2), .ref (rX 55), .ref (rX 57), .ref (rX 30), .ref (rX 56), .ref (rX 36), .ref (rX 37), .ref (rX 38), .int 0, .ref (rX 51), .int 0, .ref (rX 52), .ref (rX 53), .ref (rX 54)]))]) [0] rfl
  have hKc := hK.sub (tys' := []) [] rfl
  refine va_calli (va_runV (As := [.int (xs 1)]) (rest := []) ⟨hx, hb, hml, hown, hG⟩ (kX8_lies_v1 l dC dI rX cX (xs 1) H.size ) (cwV 1 hG (goodV gw1049 gw1050 gw1051 gw129 gw1052) rfl rfl rfl hd_X8_lies ⟨(Nat.le_of_ble_eq_true rfl), (Nat.le_of_ble_eq_true rfl)⟩) ⟨fbR, va_recv hKc hPc (ci := 7) (q0 := 0) rfl rfl, pR_in hPc hKc⟩ rfl rfl hl.1 rfl (lv_room (Nat.le_of_ble_eq_true rfl)) dL_law_1260 ⟨(Nat.le_of_ble_eq_true rfl), (Nat.le_of_ble_eq_true rfl)⟩) hS (fun q hq h => absurd hq (Nat.not_lt.mpr h)) (fun q h => hA q (Nat.le_trans hS.1 h)) (fun r_2 u t H1 locs ht hvm hw hB hz1 hk1 hS => ?_)
  have hP := wk hP hk1
  refine wt_c (v := (-2)) hw ?_
  refine lv_aload_n hx hb dL_law_1263 rfl (lv_at hl 1 rfl) ?_
  refine lv_aload_n hx hb dL_law_1264 rfl (lv_at hl 3 rfl) ?_
  refine lv_iload_n hx hb dL_law_1265 rfl (lv_at hl 0 rfl) ?_
  refine lv_iconst (v := 1) hx hb dL_law_1266 (by decide) ?_
  refine lv_iadd hx hb dL_law_1267 ?_
  refine wt_c (v := 1) (by decide) ?_
  refine va_sld hx hb hX hbl hbA hS (vin (by decide)) dL_law_1268 ?_
  refine wt_c (v := xs 1) (congrArg xs (by decide)) ?_
  have hPc := hP.sub (ws' := [(rM 0, .inr (8, [.ref (rM 1), .ref (rM 2), .int 0, .int 0, .int 0, .int (-1), .int 0, .int 0, .int 0, .int 0, .long 0, .ref (rM 3), .ref (rM 4), .ref (rM 5), .ref (rM 6), .ref (rM 7), .ref (rM 8), .ref (rM 9), .ref (rM 10), .ref (rM 11), .ref (rM 12), .ref (rM 13), .ref (rM 14), .ref (rM 15), .ref (rM 16), .ref (rM 17), .ref (rM 18), .ref (rM 19), .ref (rM 20), .ref (rM 21), .ref (rM 22), .ref (rM 23), .ref (rM 24), .int 0, .int 0, .int 0, .int 0, .int 0, .int 0, .int 0, .int 0, .int 0, .ref (rM 25), .ref (rM 26), .ref (rM 27), .int 0, .int 0, .ref (rM 28), .int 0, .ref (rM 29), .ref (rM 30), .ref (rM 31), .ref (rM 32), .ref (rM 33), .ref (rM 34), .ref (rM 35), .ref (rM 36), .int 0, .int 0, .int 0, .ref (rM 37), .ref (rM 38)]))]) [1] rfl
  have hKc := hK.sub (tys' := []) [] rfl
  refine va_calli (va_runV (As := [.int (xs 1)]) (rest := [.int (-2)]) ⟨hx, hb, hml, hown, hG⟩ (kX9_lies_v1 l dC dI rM cM (xs 1) H1.size ) (cwV 1 hG (goodV gw1748 gw1749 gw1750 gw138 gw1751) rfl rfl rfl hd_X9_lies ⟨(Nat.le_of_ble_eq_true rfl), (Nat.le_of_ble_eq_true rfl)⟩) ⟨fbR, va_recv hKc hPc (ci := 8) (q0 := 0) rfl rfl, pR_in hPc hKc⟩ rfl rfl hl.1 rfl (lv_room (Nat.le_of_ble_eq_true rfl)) dL_law_1269 ⟨(Nat.le_of_ble_eq_true rfl), (Nat.le_of_ble_eq_true rfl)⟩) hS (fun q hq h => absurd hq (Nat.not_lt.mpr h)) (fun q h => hA q (Nat.le_trans hS.1 h)) (fun r_4 u t H3 locs ht hvm hw hB hz1 hk1 hS => ?_)
  have hP := wk hP hk1
  refine wt_c (v := (-2)) hw ?_
  refine lv_icmp_eq (tgt := 1540) hx hb dL_law_1272 (by decide) (fun c_5 => ?_) (fun c_5 => absurd (by decide) c_5)
  exact law_end l C0 hS hl
set_option maxHeartbeats 4000000 in
set_option maxRecDepth 100000 in
theorem law_39 {p : Program} {e : Env} {s : State} {m : MethodId} {below : List Frame} {meth : Method} {c : Code} (l : Launch) {b : Nat} {xs : Nat → Int32} (C0 : lw_At p s m meth c b 6 xs) (dC : Nat → ClassId) (dI : Nat → Nat → Nat) (rX rM : Nat → Nat) (cX cM : Nat → ClassId) (fX fM : Nat → Nat → Int32) (gX gM : Nat → Nat → Int64) (hfM_4_0 : fM 4 0 = 0) (hfM_4_1 : fM 4 1 = 0) {H : Heap} {locs : List Loc} (hK : va_K (dC, dI) vwCl [((cM 4), .int)] s) (hP : va_P (dC, dI) vwCl [(rX 0, .inr (7, [.ref (rX 1), .int 0, .ref (rX 2), .ref (rX 55), .ref (rX 57), .ref (rX 30), .ref (rX 56), .ref (rX 36), .ref (rX 37), .ref (rX 38), .int 0, .ref (rX 51), .int 0, .ref (rX 52), .ref (rX 53), .ref (rX 54)])), (rX 55, .inr (3, [.int 1, .int 0, .int 0, .int 0, .ref (rX 20), .ref (rX 21), .ref (rX 22), .int 0, .ref (rX 23), .ref (rX 24), .ref (rX 25), .int 0, .ref (rX 28), .ref (rX 27)])), (rM 0, .inr (8, [.ref (rM 1), .ref (rM 2), .int 0, .int 0, .int 0, .int (-1), .int 0, .int 0, .int 0, .int 0, .long 0, .ref (rM 3), .ref (rM 4), .ref (rM 5), .ref (rM 6), .ref (rM 7), .ref (rM 8), .ref (rM 9), .ref (rM 10), .ref (rM 11), .ref (rM 12), .ref (rM 13), .ref (rM 14), .ref (rM 15), .ref (rM 16), .ref (rM 17), .ref (rM 18), .ref (rM 19), .ref (rM 20), .ref (rM 21), .ref (rM 22), .ref (rM 23), .ref (rM 24), .int 0, .int 0, .int 0, .int 0, .int 0, .int 0, .int 0, .int 0, .int 0, .ref (rM 25), .ref (rM 26), .ref (rM 27), .int 0, .int 0, .ref (rM 28), .int 0, .ref (rM 29), .ref (rM 30), .ref (rM 31), .ref (rM 32), .ref (rM 33), .ref (rM 34), .ref (rM 35), .ref (rM 36), .int 0, .int 0, .int 0, .ref (rM 37), .ref (rM 38)])), (rM 4, .inl ((cM 4), 2, .inl (fM 4)))] H) (hD : va_D (fun q : Nat => s.heap.size ≤ q) [(rX 0, .inr (7, [.ref (rX 1), .int 0, .ref (rX 2), .ref (rX 55), .ref (rX 57), .ref (rX 30), .ref (rX 56), .ref (rX 36), .ref (rX 37), .ref (rX 38), .int 0, .ref (rX 51), .int 0, .ref (rX 52), .ref (rX 53), .ref (rX 54)])), (rX 55, .inr (3, [.int 1, .int 0, .int 0, .int 0, .ref (rX 20), .ref (rX 21), .ref (rX 22), .int 0, .ref (rX 23), .ref (rX 24), .ref (rX 25), .int 0, .ref (rX 28), .ref (rX 27)])), (rM 0, .inr (8, [.ref (rM 1), .ref (rM 2), .int 0, .int 0, .int 0, .int (-1), .int 0, .int 0, .int 0, .int 0, .long 0, .ref (rM 3), .ref (rM 4), .ref (rM 5), .ref (rM 6), .ref (rM 7), .ref (rM 8), .ref (rM 9), .ref (rM 10), .ref (rM 11), .ref (rM 12), .ref (rM 13), .ref (rM 14), .ref (rM 15), .ref (rM 16), .ref (rM 17), .ref (rM 18), .ref (rM 19), .ref (rM 20), .ref (rM 21), .ref (rM 22), .ref (rM 23), .ref (rM 24), .int 0, .int 0, .int 0, .int 0, .int 0, .int 0, .int 0, .int 0, .int 0, .ref (rM 25), .ref (rM 26), .ref (rM 27), .int 0, .int 0, .ref (rM 28), .int 0, .ref (rM 29), .ref (rM 30), .ref (rM 31), .ref (rM 32), .ref (rM 33), .ref (rM 34), .ref (rM 35), .ref (rM 36), .int 0, .int 0, .int 0, .ref (rM 37), .ref (rM 38)])), (rM 4, .inl ((cM 4), 2, .inl (fM 4)))]) (hS : va_S (fun q : Nat => s.heap.size ≤ q) s.heap H locs) {ls : Array Slot} (hl : lv_has ls 4 [(3, .int 0), (2, .ref (rM 0)), (1, .ref (rX 0)), (0, .ref b)]) : W p l e room_1 s m #[Value.ref b] below meth c H locs 103 20190 (lw_Z below #[Value.ref b] s) (F0 m 1277 ls []) := by
  obtain ⟨hx, hb, hr, hml, hown, hts, hX, hbl, hlocks, hgv⟩ := id C0
  have hown : s.vm.findClass RL = some m.cls := hown
  have hG : ∀ w ∈ GW, w.before _ s = true := fun w h => hts w (List.mem_filter.mp h).1
  have hA : ∀ q : Nat, s.heap.size ≤ q → (fun q : Nat => s.heap.size ≤ q) q := fun _ h => h
  have hbA : ¬ (fun q : Nat => s.heap.size ≤ q) b := Nat.not_le.mpr hbl
  refine lv_aload_n hx hb dL_law_1277 rfl (lv_at hl 2 rfl) ?_
  refine lv_aload_n hx hb dL_law_1278 rfl (lv_at hl 3 rfl) ?_
  refine lv_iload_n hx hb dL_law_1279 rfl (lv_at hl 0 rfl) ?_
  refine lv_iconst (v := 1) hx hb dL_law_1280 (by decide) ?_
  refine lv_iadd hx hb dL_law_1281 ?_
  refine wt_c (v := 1) (by decide) ?_
  refine va_sld hx hb hX hbl hbA hS (vin (by decide)) dL_law_1282 ?_
  refine wt_c (v := xs 1) (congrArg xs (by decide)) ?_
  refine lv_aload_n hx hb dL_law_1283 rfl (lv_at hl 3 rfl) ?_
  refine lv_iload_n hx hb dL_law_1284 rfl (lv_at hl 0 rfl) ?_
  refine lv_iconst (v := 2) hx hb dL_law_1285 (by decide) ?_
  refine lv_iadd hx hb dL_law_1286 ?_
  refine wt_c (v := 2) (by decide) ?_
  refine va_sld hx hb hX hbl hbA hS (vin (by decide)) dL_law_1287 ?_
  refine wt_c (v := xs 2) (congrArg xs (by decide)) ?_
  refine lv_aload_n hx hb dL_law_1288 rfl (lv_at hl 3 rfl) ?_
  refine lv_iload_n hx hb dL_law_1289 rfl (lv_at hl 0 rfl) ?_
  refine lv_iconst (v := 3) hx hb dL_law_1290 (by decide) ?_
  refine lv_iadd hx hb dL_law_1291 ?_
  refine wt_c (v := 3) (by decide) ?_
  refine va_sld hx hb hX hbl hbA hS (vin (by decide)) dL_law_1292 ?_
  refine wt_c (v := xs 3) (congrArg xs (by decide)) ?_
  refine lv_if_eq (tgt := 1300) hx hb dL_law_1293 (by decide) (fun c_1 => ?_) (fun c_1 => ?_)
  · skip
    refine lv_iconst (v := 0) hx hb dL_law_1300 (by decide) ?_
    have hPc := hP.sub (ws' := [(rX 0, .inr (7, [.ref (rX 1), .int 0, .ref (rX 2), .ref (rX 55), .ref (rX 57), .ref (rX 30), .ref (rX 56), .ref (rX 36), .ref (rX 37), .ref (rX 38), .int 0, .ref (rX 51), .int 0, .ref (rX 52), .ref (rX 53), .ref (rX 54)])), (rX 55, .inr (3, [.int 1, .int 0, .int 0, .int 0, .ref (rX 20), .ref (rX 21), .ref (rX 22), .int 0, .ref (rX 23), .ref (rX 24), .ref (rX 25), .int 0, .ref (rX 28), .ref (rX 27)]))]) [0, 1] rfl
    have hKc := hK.sub (tys' := []) [] rfl
    have hDc := hD.sub (ws' := [(rX 0, .inr (7, [.ref (rX 1), .int 0, .ref (rX 2), .ref (rX 55), .ref (rX 57), .ref (rX 30), .ref (rX 56), .ref (rX 36), .ref (rX 37), .ref (rX 38), .int 0, .ref (rX 51), .int 0, .ref (rX 52), .ref (rX 53), .ref (rX 54)])), (rX 55, .inr (3, [.int 1, .int 0, .int 0, .int 0, .ref (rX 20), .ref (rX 21), .ref (rX 22), .int 0, .ref (rX 23), .ref (rX 24), .ref (rX 25), .int 0, .ref (rX 28), .ref (rX 27)]))]) [0, 1] (by decide) rfl
    have hFc := va_free (wc := [(rX 0, .inr (7, [.ref (rX 1), .int 0, .ref (rX 2), .ref (rX 55), .ref (rX 57), .ref (rX 30), .ref (rX 56), .ref (rX 36), .ref (rX 37), .ref (rX 38), .int 0, .ref (rX 51), .int 0, .ref (rX 52), .ref (rX 53), .ref (rX 54)])), (rX 55, .inr (3, [.int 1, .int 0, .int 0, .int 0, .ref (rX 20), .ref (rX 21), .ref (rX 22), .int 0, .ref (rX 23), .ref (rX 24), .ref (rX 25), .int 0, .ref (rX 28), .ref (rX 27)]))]) hD hS hA [0, 1] rfl
    refine va_calli (va_runV (As := [.int (xs 1), .int (xs 2), .int 0]) (rest := []) ⟨hx, hb, hml, hown, hG⟩ (kX8_known l dC dI rX cX (xs 1) (xs 2) H.size ) (cwV 3 hG (goodV gw1053 gw1054 gw1055 gw129 gw1056) rfl rfl rfl hd_X8_known ⟨(Nat.le_of_ble_eq_true rfl), (Nat.le_of_ble_eq_true rfl)⟩) ⟨fbW, va_recv hKc hPc (ci := 7) (q0 := 0) rfl rfl, pW_in hPc hKc hDc⟩ rfl rfl hl.1 rfl (lv_room (Nat.le_of_ble_eq_true rfl)) dL_law_1301 ⟨(Nat.le_of_ble_eq_true rfl), (Nat.le_of_ble_eq_true rfl)⟩) hS (fun q _ h => hFc q h) hFc (fun r_3 u t H2 locs ht hvm hw hB hz1 hk1 hS => ?_)
    obtain ⟨hP, hD⟩ := va_join (wr := [(rM 0, .inr (8, [.ref (rM 1), .ref (rM 2), .int 0, .int 0, .int 0, .int (-1), .int 0, .int 0, .int 0, .int 0, .long 0, .ref (rM 3), .ref (rM 4), .ref (rM 5), .ref (rM 6), .ref (rM 7), .ref (rM 8), .ref (rM 9), .ref (rM 10), .ref (rM 11), .ref (rM 12), .ref (rM 13), .ref (rM 14), .ref (rM 15), .ref (rM 16), .ref (rM 17), .ref (rM 18), .ref (rM 19), .ref (rM 20), .ref (rM 21), .ref (rM 22), .ref (rM 23), .ref (rM 24), .int 0, .int 0, .int 0, .int 0, .int 0, .int 0, .int 0, .int 0, .int 0, .ref (rM 25), .ref (rM 26), .ref (rM 27), .int 0, .int 0, .ref (rM 28), .int 0, .ref (rM 29), .ref (rM 30), .ref (rM 31), .ref (rM 32), .ref (rM 33), .ref (rM 34), .ref (rM 35), .ref (rM 36), .int 0, .int 0, .int 0, .ref (rM 37), .ref (rM 38)])), (rM 4, .inl ((cM 4), 2, .inl (fM 4)))]) (w1 := []) hP hD [0, 1] [2, 3] rfl rfl (by decide) (by decide) hk1 hFc (fun k q h => by simp at h) ⟨fun i j p q h => by simp at h, fun k q h => by simp at h⟩
    refine wt_c (v := (-1)) hw ?_
    refine lv_aload_n hx hb dL_law_1304 rfl (lv_at hl 1 rfl) ?_
    refine lv_aload_n hx hb dL_law_1305 rfl (lv_at hl 3 rfl) ?_
    refine lv_iload_n hx hb dL_law_1306 rfl (lv_at hl 0 rfl) ?_
    refine lv_iconst (v := 1) hx hb dL_law_1307 (by decide) ?_
    refine lv_iadd hx hb dL_law_1308 ?_
    refine wt_c (v := 1) (by decide) ?_
    refine va_sld hx hb hX hbl hbA hS (vin (by decide)) dL_law_1309 ?_
    refine wt_c (v := xs 1) (congrArg xs (by decide)) ?_
    refine lv_aload_n hx hb dL_law_1310 rfl (lv_at hl 3 rfl) ?_
    refine lv_iload_n hx hb dL_law_1311 rfl (lv_at hl 0 rfl) ?_
    refine lv_iconst (v := 2) hx hb dL_law_1312 (by decide) ?_
    refine lv_iadd hx hb dL_law_1313 ?_
    refine wt_c (v := 2) (by decide) ?_
    refine va_sld hx hb hX hbl hbA hS (vin (by decide)) dL_law_1314 ?_
    refine wt_c (v := xs 2) (congrArg xs (by decide)) ?_
    refine lv_aload_n hx hb dL_law_1315 rfl (lv_at hl 3 rfl) ?_
    refine lv_iload_n hx hb dL_law_1316 rfl (lv_at hl 0 rfl) ?_
    refine lv_iconst (v := 3) hx hb dL_law_1317 (by decide) ?_
    refine lv_iadd hx hb dL_law_1318 ?_
    refine wt_c (v := 3) (by decide) ?_
    refine va_sld hx hb hX hbl hbA hS (vin (by decide)) dL_law_1319 ?_
    refine wt_c (v := xs 3) (congrArg xs (by decide)) ?_
    refine lv_if_eq (tgt := 1327) hx hb dL_law_1320 (by decide) (fun c_4 => ?_) (fun c_4 => ((by have k0 := q_eq c_1; have k1 := q_ne c_4; have z0 : (0 : Int32).toInt = 0 := (by decide); omega) : False).elim)
    refine lv_iconst (v := 0) hx hb dL_law_1327 (by decide) ?_
    have hPc := hP.sub (ws' := [(rM 0, .inr (8, [.ref (rM 1), .ref (rM 2), .int 0, .int 0, .int 0, .int (-1), .int 0, .int 0, .int 0, .int 0, .long 0, .ref (rM 3), .ref (rM 4), .ref (rM 5), .ref (rM 6), .ref (rM 7), .ref (rM 8), .ref (rM 9), .ref (rM 10), .ref (rM 11), .ref (rM 12), .ref (rM 13), .ref (rM 14), .ref (rM 15), .ref (rM 16), .ref (rM 17), .ref (rM 18), .ref (rM 19), .ref (rM 20), .ref (rM 21), .ref (rM 22), .ref (rM 23), .ref (rM 24), .int 0, .int 0, .int 0, .int 0, .int 0, .int 0, .int 0, .int 0, .int 0, .ref (rM 25), .ref (rM 26), .ref (rM 27), .int 0, .int 0, .ref (rM 28), .int 0, .ref (rM 29), .ref (rM 30), .ref (rM 31), .ref (rM 32), .ref (rM 33), .ref (rM 34), .ref (rM 35), .ref (rM 36), .int 0, .int 0, .int 0, .ref (rM 37), .ref (rM 38)])), (rM 4, .inl ((cM 4), 2, .inl (fM 4)))]) [0, 1] rfl
    have hKc := hK.sub (tys' := [((cM 4), .int)]) [0] rfl
    have hDc := hD.sub (ws' := [(rM 0, .inr (8, [.ref (rM 1), .ref (rM 2), .int 0, .int 0, .int 0, .int (-1), .int 0, .int 0, .int 0, .int 0, .long 0, .ref (rM 3), .ref (rM 4), .ref (rM 5), .ref (rM 6), .ref (rM 7), .ref (rM 8), .ref (rM 9), .ref (rM 10), .ref (rM 11), .ref (rM 12), .ref (rM 13), .ref (rM 14), .ref (rM 15), .ref (rM 16), .ref (rM 17), .ref (rM 18), .ref (rM 19), .ref (rM 20), .ref (rM 21), .ref (rM 22), .ref (rM 23), .ref (rM 24), .int 0, .int 0, .int 0, .int 0, .int 0, .int 0, .int 0, .int 0, .int 0, .ref (rM 25), .ref (rM 26), .ref (rM 27), .int 0, .int 0, .ref (rM 28), .int 0, .ref (rM 29), .ref (rM 30), .ref (rM 31), .ref (rM 32), .ref (rM 33), .ref (rM 34), .ref (rM 35), .ref (rM 36), .int 0, .int 0, .int 0, .ref (rM 37), .ref (rM 38)])), (rM 4, .inl ((cM 4), 2, .inl (fM 4)))]) [0, 1] (by decide) rfl
    have hFc := va_free (wc := [(rM 0, .inr (8, [.ref (rM 1), .ref (rM 2), .int 0, .int 0, .int 0, .int (-1), .int 0, .int 0, .int 0, .int 0, .long 0, .ref (rM 3), .ref (rM 4), .ref (rM 5), .ref (rM 6), .ref (rM 7), .ref (rM 8), .ref (rM 9), .ref (rM 10), .ref (rM 11), .ref (rM 12), .ref (rM 13), .ref (rM 14), .ref (rM 15), .ref (rM 16), .ref (rM 17), .ref (rM 18), .ref (rM 19), .ref (rM 20), .ref (rM 21), .ref (rM 22), .ref (rM 23), .ref (rM 24), .int 0, .int 0, .int 0, .int 0, .int 0, .int 0, .int 0, .int 0, .int 0, .ref (rM 25), .ref (rM 26), .ref (rM 27), .int 0, .int 0, .ref (rM 28), .int 0, .ref (rM 29), .ref (rM 30), .ref (rM 31), .ref (rM 32), .ref (rM 33), .ref (rM 34), .ref (rM 35), .ref (rM 36), .int 0, .int 0, .int 0, .ref (rM 37), .ref (rM 38)])), (rM 4, .inl ((cM 4), 2, .inl (fM 4)))]) hD hS hA [0, 1] rfl
    refine va_calli (va_runV (As := [.int (xs 1), .int (xs 2), .int 0]) (rest := [.int (-1)]) ⟨hx, hb, hml, hown, hG⟩ (kX9_known l dC dI rM cM (fM 4) (xs 1) (xs 2) H2.size hfM_4_0) (cwV 3 hG (goodV gw1817 gw1818 gw1819 gw138 gw1820) rfl rfl rfl hd_X9_known ⟨(Nat.le_of_ble_eq_true rfl), (Nat.le_of_ble_eq_true rfl)⟩) ⟨fbW, va_recv hKc hPc (ci := 8) (q0 := 0) rfl rfl, pW_in hPc hKc hDc⟩ rfl rfl hl.1 rfl (lv_room (Nat.le_of_ble_eq_true rfl)) dL_law_1328 ⟨(Nat.le_of_ble_eq_true rfl), (Nat.le_of_ble_eq_true rfl)⟩) hS (fun q _ h => hFc q h) hFc (fun r_6 u t H5 locs ht hvm hw hB hz1 hk1 hS => ?_)
    obtain ⟨hP, hD⟩ := va_join (wr := []) (w1 := []) hP hD [0, 1] [] rfl rfl (by decide) (by decide) hk1 hFc (fun k q h => by simp at h) ⟨fun i j p q h => by simp at h, fun k q h => by simp at h⟩
    refine wt_c (v := (-1)) hw ?_
    refine lv_icmp_eq (tgt := 1540) hx hb dL_law_1331 (by decide) (fun c_7 => ?_) (fun c_7 => absurd (by decide) c_7)
    exact law_end l C0 hS hl
  · skip
    refine lv_iconst (v := 1) hx hb dL_law_1296 (by decide) ?_
    refine lv_goto (tgt := 1301) hx hb dL_law_1297 (by decide) ?_
    have hPc := hP.sub (ws' := [(rX 0, .inr (7, [.ref (rX 1), .int 0, .ref (rX 2), .ref (rX 55), .ref (rX 57), .ref (rX 30), .ref (rX 56), .ref (rX 36), .ref (rX 37), .ref (rX 38), .int 0, .ref (rX 51), .int 0, .ref (rX 52), .ref (rX 53), .ref (rX 54)])), (rX 55, .inr (3, [.int 1, .int 0, .int 0, .int 0, .ref (rX 20), .ref (rX 21), .ref (rX 22), .int 0, .ref (rX 23), .ref (rX 24), .ref (rX 25), .int 0, .ref (rX 28), .ref (rX 27)]))]) [0, 1] rfl
    have hKc := hK.sub (tys' := []) [] rfl
    have hDc := hD.sub (ws' := [(rX 0, .inr (7, [.ref (rX 1), .int 0, .ref (rX 2), .ref (rX 55), .ref (rX 57), .ref (rX 30), .ref (rX 56), .ref (rX 36), .ref (rX 37), .ref (rX 38), .int 0, .ref (rX 51), .int 0, .ref (rX 52), .ref (rX 53), .ref (rX 54)])), (rX 55, .inr (3, [.int 1, .int 0, .int 0, .int 0, .ref (rX 20), .ref (rX 21), .ref (rX 22), .int 0, .ref (rX 23), .ref (rX 24), .ref (rX 25), .int 0, .ref (rX 28), .ref (rX 27)]))]) [0, 1] (by decide) rfl
    have hFc := va_free (wc := [(rX 0, .inr (7, [.ref (rX 1), .int 0, .ref (rX 2), .ref (rX 55), .ref (rX 57), .ref (rX 30), .ref (rX 56), .ref (rX 36), .ref (rX 37), .ref (rX 38), .int 0, .ref (rX 51), .int 0, .ref (rX 52), .ref (rX 53), .ref (rX 54)])), (rX 55, .inr (3, [.int 1, .int 0, .int 0, .int 0, .ref (rX 20), .ref (rX 21), .ref (rX 22), .int 0, .ref (rX 23), .ref (rX 24), .ref (rX 25), .int 0, .ref (rX 28), .ref (rX 27)]))]) hD hS hA [0, 1] rfl
    refine va_calli (va_runV (As := [.int (xs 1), .int (xs 2), .int 1]) (rest := []) ⟨hx, hb, hml, hown, hG⟩ (kX8_known_v1 l dC dI rX cX (xs 1) (xs 2) H.size ) (cwV 3 hG (goodV gw1053 gw1054 gw1055 gw129 gw1056) rfl rfl rfl hd_X8_known ⟨(Nat.le_of_ble_eq_true rfl), (Nat.le_of_ble_eq_true rfl)⟩) ⟨fbW, va_recv hKc hPc (ci := 7) (q0 := 0) rfl rfl, pW_in hPc hKc hDc⟩ rfl rfl hl.1 rfl (lv_room (Nat.le_of_ble_eq_true rfl)) dL_law_1301 ⟨(Nat.le_of_ble_eq_true rfl), (Nat.le_of_ble_eq_true rfl)⟩) hS (fun q _ h => hFc q h) hFc (fun r_9 u t H8 locs ht hvm hw hB hz1 hk1 hS => ?_)
    obtain ⟨hP, hD⟩ := va_join (wr := [(rM 0, .inr (8, [.ref (rM 1), .ref (rM 2), .int 0, .int 0, .int 0, .int (-1), .int 0, .int 0, .int 0, .int 0, .long 0, .ref (rM 3), .ref (rM 4), .ref (rM 5), .ref (rM 6), .ref (rM 7), .ref (rM 8), .ref (rM 9), .ref (rM 10), .ref (rM 11), .ref (rM 12), .ref (rM 13), .ref (rM 14), .ref (rM 15), .ref (rM 16), .ref (rM 17), .ref (rM 18), .ref (rM 19), .ref (rM 20), .ref (rM 21), .ref (rM 22), .ref (rM 23), .ref (rM 24), .int 0, .int 0, .int 0, .int 0, .int 0, .int 0, .int 0, .int 0, .int 0, .ref (rM 25), .ref (rM 26), .ref (rM 27), .int 0, .int 0, .ref (rM 28), .int 0, .ref (rM 29), .ref (rM 30), .ref (rM 31), .ref (rM 32), .ref (rM 33), .ref (rM 34), .ref (rM 35), .ref (rM 36), .int 0, .int 0, .int 0, .ref (rM 37), .ref (rM 38)])), (rM 4, .inl ((cM 4), 2, .inl (fM 4)))]) (w1 := []) hP hD [0, 1] [2, 3] rfl rfl (by decide) (by decide) hk1 hFc (fun k q h => by simp at h) ⟨fun i j p q h => by simp at h, fun k q h => by simp at h⟩
    refine wt_c (v := (-1)) hw ?_
    refine lv_aload_n hx hb dL_law_1304 rfl (lv_at hl 1 rfl) ?_
    refine lv_aload_n hx hb dL_law_1305 rfl (lv_at hl 3 rfl) ?_
    refine lv_iload_n hx hb dL_law_1306 rfl (lv_at hl 0 rfl) ?_
    refine lv_iconst (v := 1) hx hb dL_law_1307 (by decide) ?_
    refine lv_iadd hx hb dL_law_1308 ?_
    refine wt_c (v := 1) (by decide) ?_
    refine va_sld hx hb hX hbl hbA hS (vin (by decide)) dL_law_1309 ?_
    refine wt_c (v := xs 1) (congrArg xs (by decide)) ?_
    refine lv_aload_n hx hb dL_law_1310 rfl (lv_at hl 3 rfl) ?_
    refine lv_iload_n hx hb dL_law_1311 rfl (lv_at hl 0 rfl) ?_
    refine lv_iconst (v := 2) hx hb dL_law_1312 (by decide) ?_
    refine lv_iadd hx hb dL_law_1313 ?_
    refine wt_c (v := 2) (by decide) ?_
    refine va_sld hx hb hX hbl hbA hS (vin (by decide)) dL_law_1314 ?_
    refine wt_c (v := xs 2) (congrArg xs (by decide)) ?_
    refine lv_aload_n hx hb dL_law_1315 rfl (lv_at hl 3 rfl) ?_
    refine lv_iload_n hx hb dL_law_1316 rfl (lv_at hl 0 rfl) ?_
    refine lv_iconst (v := 3) hx hb dL_law_1317 (by decide) ?_
    refine lv_iadd hx hb dL_law_1318 ?_
    refine wt_c (v := 3) (by decide) ?_
    refine va_sld hx hb hX hbl hbA hS (vin (by decide)) dL_law_1319 ?_
    refine wt_c (v := xs 3) (congrArg xs (by decide)) ?_
    refine lv_if_eq (tgt := 1327) hx hb dL_law_1320 (by decide) (fun c_10 => ((by have k0 := q_ne c_1; have k1 := q_eq c_10; have z0 : (0 : Int32).toInt = 0 := (by decide); omega) : False).elim) (fun c_10 => ?_)
    refine lv_iconst (v := 1) hx hb dL_law_1323 (by decide) ?_
    refine lv_goto (tgt := 1328) hx hb dL_law_1324 (by decide) ?_
    have hPc := hP.sub (ws' := [(rM 0, .inr (8, [.ref (rM 1), .ref (rM 2), .int 0, .int 0, .int 0, .int (-1), .int 0, .int 0, .int 0, .int 0, .long 0, .ref (rM 3), .ref (rM 4), .ref (rM 5), .ref (rM 6), .ref (rM 7), .ref (rM 8), .ref (rM 9), .ref (rM 10), .ref (rM 11), .ref (rM 12), .ref (rM 13), .ref (rM 14), .ref (rM 15), .ref (rM 16), .ref (rM 17), .ref (rM 18), .ref (rM 19), .ref (rM 20), .ref (rM 21), .ref (rM 22), .ref (rM 23), .ref (rM 24), .int 0, .int 0, .int 0, .int 0, .int 0, .int 0, .int 0, .int 0, .int 0, .ref (rM 25), .ref (rM 26), .ref (rM 27), .int 0, .int 0, .ref (rM 28), .int 0, .ref (rM 29), .ref (rM 30), .ref (rM 31), .ref (rM 32), .ref (rM 33), .ref (rM 34), .ref (rM 35), .ref (rM 36), .int 0, .int 0, .int 0, .ref (rM 37), .ref (rM 38)])), (rM 4, .inl ((cM 4), 2, .inl (fM 4)))]) [0, 1] rfl
    have hKc := hK.sub (tys' := [((cM 4), .int)]) [0] rfl
    have hDc := hD.sub (ws' := [(rM 0, .inr (8, [.ref (rM 1), .ref (rM 2), .int 0, .int 0, .int 0, .int (-1), .int 0, .int 0, .int 0, .int 0, .long 0, .ref (rM 3), .ref (rM 4), .ref (rM 5), .ref (rM 6), .ref (rM 7), .ref (rM 8), .ref (rM 9), .ref (rM 10), .ref (rM 11), .ref (rM 12), .ref (rM 13), .ref (rM 14), .ref (rM 15), .ref (rM 16), .ref (rM 17), .ref (rM 18), .ref (rM 19), .ref (rM 20), .ref (rM 21), .ref (rM 22), .ref (rM 23), .ref (rM 24), .int 0, .int 0, .int 0, .int 0, .int 0, .int 0, .int 0, .int 0, .int 0, .ref (rM 25), .ref (rM 26), .ref (rM 27), .int 0, .int 0, .ref (rM 28), .int 0, .ref (rM 29), .ref (rM 30), .ref (rM 31), .ref (rM 32), .ref (rM 33), .ref (rM 34), .ref (rM 35), .ref (rM 36), .int 0, .int 0, .int 0, .ref (rM 37), .ref (rM 38)])), (rM 4, .inl ((cM 4), 2, .inl (fM 4)))]) [0, 1] (by decide) rfl
    have hFc := va_free (wc := [(rM 0, .inr (8, [.ref (rM 1), .ref (rM 2), .int 0, .int 0, .int 0, .int (-1), .int 0, .int 0, .int 0, .int 0, .long 0, .ref (rM 3), .ref (rM 4), .ref (rM 5), .ref (rM 6), .ref (rM 7), .ref (rM 8), .ref (rM 9), .ref (rM 10), .ref (rM 11), .ref (rM 12), .ref (rM 13), .ref (rM 14), .ref (rM 15), .ref (rM 16), .ref (rM 17), .ref (rM 18), .ref (rM 19), .ref (rM 20), .ref (rM 21), .ref (rM 22), .ref (rM 23), .ref (rM 24), .int 0, .int 0, .int 0, .int 0, .int 0, .int 0, .int 0, .int 0, .int 0, .ref (rM 25), .ref (rM 26), .ref (rM 27), .int 0, .int 0, .ref (rM 28), .int 0, .ref (rM 29), .ref (rM 30), .ref (rM 31), .ref (rM 32), .ref (rM 33), .ref (rM 34), .ref (rM 35), .ref (rM 36), .int 0, .int 0, .int 0, .ref (rM 37), .ref (rM 38)])), (rM 4, .inl ((cM 4), 2, .inl (fM 4)))]) hD hS hA [0, 1] rfl
    refine va_calli (va_runV (As := [.int (xs 1), .int (xs 2), .int 1]) (rest := [.int (-1)]) ⟨hx, hb, hml, hown, hG⟩ (kX9_known_v1 l dC dI rM cM (fM 4) (xs 1) (xs 2) H8.size hfM_4_0) (cwV 3 hG (goodV gw1817 gw1818 gw1819 gw138 gw1820) rfl rfl rfl hd_X9_known ⟨(Nat.le_of_ble_eq_true rfl), (Nat.le_of_ble_eq_true rfl)⟩) ⟨fbW, va_recv hKc hPc (ci := 8) (q0 := 0) rfl rfl, pW_in hPc hKc hDc⟩ rfl rfl hl.1 rfl (lv_room (Nat.le_of_ble_eq_true rfl)) dL_law_1328 ⟨(Nat.le_of_ble_eq_true rfl), (Nat.le_of_ble_eq_true rfl)⟩) hS (fun q _ h => hFc q h) hFc (fun r_12 u t H11 locs ht hvm hw hB hz1 hk1 hS => ?_)
    obtain ⟨hP, hD⟩ := va_join (wr := []) (w1 := []) hP hD [0, 1] [] rfl rfl (by decide) (by decide) hk1 hFc (fun k q h => by simp at h) ⟨fun i j p q h => by simp at h, fun k q h => by simp at h⟩
    refine wt_c (v := (-1)) hw ?_
    refine lv_icmp_eq (tgt := 1540) hx hb dL_law_1331 (by decide) (fun c_13 => ?_) (fun c_13 => absurd (by decide) c_13)
    exact law_end l C0 hS hl
set_option maxHeartbeats 4000000 in
set_option maxRecDepth 100000 in
theorem law_40 {p : Program} {e : Env} {s : State} {m : MethodId} {below : List Frame} {meth : Method} {c : Code} (l : Launch) {b : Nat} {xs : Nat → Int32} (C0 : lw_At p s m meth c b 6 xs) (dC : Nat → ClassId) (dI : Nat → Nat → Nat) (rX rM : Nat → Nat) (cX cM : Nat → ClassId) (fX fM : Nat → Nat → Int32) (gX gM : Nat → Nat → Int64) {H : Heap} {locs : List Loc} (hK : va_K (dC, dI) vwCl [] s) (hP : va_P (dC, dI) vwCl [(rX 0, .inr (7, [.ref (rX 1), .int 0, .ref (rX 2), .ref (rX 55), .ref (rX 57), .ref (rX 30), .ref (rX 56), .ref (rX 36), .ref (rX 37), .ref (rX 38), .int 0, .ref (rX 51), .int 0, .ref (rX 52), .ref (rX 53), .ref (rX 54)])), (rX 38, .inr (2, [.int 0, .ref (rX 39), .ref (rX 40), .ref (rX 41), .ref (rX 42), .ref (rX 43), .ref (rX 44), .int 0, .ref (rX 45), .ref (rX 46), .ref (rX 47), .ref (rX 48), .ref (rX 49), .ref (rX 50)])), (rM 0, .inr (8, [.ref (rM 1), .ref (rM 2), .int 0, .int 0, .int 0, .int (-1), .int 0, .int 0, .int 0, .int 0, .long 0, .ref (rM 3), .ref (rM 4), .ref (rM 5), .ref (rM 6), .ref (rM 7), .ref (rM 8), .ref (rM 9), .ref (rM 10), .ref (rM 11), .ref (rM 12), .ref (rM 13), .ref (rM 14), .ref (rM 15), .ref (rM 16), .ref (rM 17), .ref (rM 18), .ref (rM 19), .ref (rM 20), .ref (rM 21), .ref (rM 22), .ref (rM 23), .ref (rM 24), .int 0, .int 0, .int 0, .int 0, .int 0, .int 0, .int 0, .int 0, .int 0, .ref (rM 25), .ref (rM 26), .ref (rM 27), .int 0, .int 0, .ref (rM 28), .int 0, .ref (rM 29), .ref (rM 30), .ref (rM 31), .ref (rM 32), .ref (rM 33), .ref (rM 34), .ref (rM 35), .ref (rM 36), .int 0, .int 0, .int 0, .ref (rM 37), .ref (rM 38)]))] H) (hD : va_D (fun q : Nat => s.heap.size ≤ q) [(rX 0, .inr (7, [.ref (rX 1), .int 0, .ref (rX 2), .ref (rX 55), .ref (rX 57), .ref (rX 30), .ref (rX 56), .ref (rX 36), .ref (rX 37), .ref (rX 38), .int 0, .ref (rX 51), .int 0, .ref (rX 52), .ref (rX 53), .ref (rX 54)])), (rX 38, .inr (2, [.int 0, .ref (rX 39), .ref (rX 40), .ref (rX 41), .ref (rX 42), .ref (rX 43), .ref (rX 44), .int 0, .ref (rX 45), .ref (rX 46), .ref (rX 47), .ref (rX 48), .ref (rX 49), .ref (rX 50)])), (rM 0, .inr (8, [.ref (rM 1), .ref (rM 2), .int 0, .int 0, .int 0, .int (-1), .int 0, .int 0, .int 0, .int 0, .long 0, .ref (rM 3), .ref (rM 4), .ref (rM 5), .ref (rM 6), .ref (rM 7), .ref (rM 8), .ref (rM 9), .ref (rM 10), .ref (rM 11), .ref (rM 12), .ref (rM 13), .ref (rM 14), .ref (rM 15), .ref (rM 16), .ref (rM 17), .ref (rM 18), .ref (rM 19), .ref (rM 20), .ref (rM 21), .ref (rM 22), .ref (rM 23), .ref (rM 24), .int 0, .int 0, .int 0, .int 0, .int 0, .int 0, .int 0, .int 0, .int 0, .ref (rM 25), .ref (rM 26), .ref (rM 27), .int 0, .int 0, .ref (rM 28), .int 0, .ref (rM 29), .ref (rM 30), .ref (rM 31), .ref (rM 32), .ref (rM 33), .ref (rM 34), .ref (rM 35), .ref (rM 36), .int 0, .int 0, .int 0, .ref (rM 37), .ref (rM 38)]))]) (hS : va_S (fun q : Nat => s.heap.size ≤ q) s.heap H locs) {ls : Array Slot} (hl : lv_has ls 4 [(3, .int 0), (2, .ref (rM 0)), (1, .ref (rX 0)), (0, .ref b)]) : W p l e room_1 s m #[Value.ref b] below meth c H locs 103 20190 (lw_Z below #[Value.ref b] s) (F0 m 1336 ls []) := by
  obtain ⟨hx, hb, hr, hml, hown, hts, hX, hbl, hlocks, hgv⟩ := id C0
  have hown : s.vm.findClass RL = some m.cls := hown
  have hG : ∀ w ∈ GW, w.before _ s = true := fun w h => hts w (List.mem_filter.mp h).1
  have hA : ∀ q : Nat, s.heap.size ≤ q → (fun q : Nat => s.heap.size ≤ q) q := fun _ h => h
  have hbA : ¬ (fun q : Nat => s.heap.size ≤ q) b := Nat.not_le.mpr hbl
  refine lv_aload_n hx hb dL_law_1336 rfl (lv_at hl 2 rfl) ?_
  refine lv_aload_n hx hb dL_law_1337 rfl (lv_at hl 3 rfl) ?_
  refine lv_iload_n hx hb dL_law_1338 rfl (lv_at hl 0 rfl) ?_
  refine lv_iconst (v := 1) hx hb dL_law_1339 (by decide) ?_
  refine lv_iadd hx hb dL_law_1340 ?_
  refine wt_c (v := 1) (by decide) ?_
  refine va_sld hx hb hX hbl hbA hS (vin (by decide)) dL_law_1341 ?_
  refine wt_c (v := xs 1) (congrArg xs (by decide)) ?_
  have hPc := hP.sub (ws' := [(rX 0, .inr (7, [.ref (rX 1), .int 0, .ref (rX 2), .ref (rX 55), .ref (rX 57), .ref (rX 30), .ref (rX 56), .ref (rX 36), .ref (rX 37), .ref (rX 38), .int 0, .ref (rX 51), .int 0, .ref (rX 52), .ref (rX 53), .ref (rX 54)])), (rX 38, .inr (2, [.int 0, .ref (rX 39), .ref (rX 40), .ref (rX 41), .ref (rX 42), .ref (rX 43), .ref (rX 44), .int 0, .ref (rX 45), .ref (rX 46), .ref (rX 47), .ref (rX 48), .ref (rX 49), .ref (rX 50)]))]) [0, 1] rfl
  have hKc := hK.sub (tys' := []) [] rfl
  have hDc := hD.sub (ws' := [(rX 0, .inr (7, [.ref (rX 1), .int 0, .ref (rX 2), .ref (rX 55), .ref (rX 57), .ref (rX 30), .ref (rX 56), .ref (rX 36), .ref (rX 37), .ref (rX 38), .int 0, .ref (rX 51), .int 0, .ref (rX 52), .ref (rX 53), .ref (rX 54)])), (rX 38, .inr (2, [.int 0, .ref (rX 39), .ref (rX 40), .ref (rX 41), .ref (rX 42), .ref (rX 43), .ref (rX 44), .int 0, .ref (rX 45), .ref (rX 46), .ref (rX 47), .ref (rX 48), .ref (rX 49), .ref (rX 50)]))]) [0, 1] (by decide) rfl
  have hFc := va_free (wc := [(rX 0, .inr (7, [.ref (rX 1), .int 0, .ref (rX 2), .ref (rX 55), .ref (rX 57), .ref (rX 30), .ref (rX 56), .ref (rX 36), .ref (rX 37), .ref (rX 38), .int 0, .ref (rX 51), .int 0, .ref (rX 52), .ref (rX 53), .ref (rX 54)])), (rX 38, .inr (2, [.int 0, .ref (rX 39), .ref (rX 40), .ref (rX 41), .ref (rX 42), .ref (rX 43), .ref (rX 44), .int 0, .ref (rX 45), .ref (rX 46), .ref (rX 47), .ref (rX 48), .ref (rX 49), .ref (rX 50)]))]) hD hS hA [0, 1] rfl
  refine va_calli (va_runV (As := [.int (xs 1)]) (rest := []) ⟨hx, hb, hml, hown, hG⟩ (kX8_untell l dC dI rX cX (xs 1) H.size ) (cwV 1 hG (goodV gw1061 gw1062 gw1063 gw129 gw1064) rfl rfl rfl hd_X8_untell ⟨(Nat.le_of_ble_eq_true rfl), (Nat.le_of_ble_eq_true rfl)⟩) ⟨fbW, va_recv hKc hPc (ci := 7) (q0 := 0) rfl rfl, pW_in hPc hKc hDc⟩ rfl rfl hl.1 rfl (lv_room (Nat.le_of_ble_eq_true rfl)) dL_law_1342 ⟨(Nat.le_of_ble_eq_true rfl), (Nat.le_of_ble_eq_true rfl)⟩) hS (fun q _ h => hFc q h) hFc (fun r_2 u t H1 locs ht hvm hw hB hz1 hk1 hS => ?_)
  obtain ⟨hP, hD⟩ := va_join (wr := [(rM 0, .inr (8, [.ref (rM 1), .ref (rM 2), .int 0, .int 0, .int 0, .int (-1), .int 0, .int 0, .int 0, .int 0, .long 0, .ref (rM 3), .ref (rM 4), .ref (rM 5), .ref (rM 6), .ref (rM 7), .ref (rM 8), .ref (rM 9), .ref (rM 10), .ref (rM 11), .ref (rM 12), .ref (rM 13), .ref (rM 14), .ref (rM 15), .ref (rM 16), .ref (rM 17), .ref (rM 18), .ref (rM 19), .ref (rM 20), .ref (rM 21), .ref (rM 22), .ref (rM 23), .ref (rM 24), .int 0, .int 0, .int 0, .int 0, .int 0, .int 0, .int 0, .int 0, .int 0, .ref (rM 25), .ref (rM 26), .ref (rM 27), .int 0, .int 0, .ref (rM 28), .int 0, .ref (rM 29), .ref (rM 30), .ref (rM 31), .ref (rM 32), .ref (rM 33), .ref (rM 34), .ref (rM 35), .ref (rM 36), .int 0, .int 0, .int 0, .ref (rM 37), .ref (rM 38)]))]) (w1 := []) hP hD [0, 1] [2] rfl rfl (by decide) (by decide) hk1 hFc (fun k q h => by simp at h) ⟨fun i j p q h => by simp at h, fun k q h => by simp at h⟩
  refine wt_c (v := 0) hw ?_
  refine lv_aload_n hx hb dL_law_1345 rfl (lv_at hl 1 rfl) ?_
  refine lv_aload_n hx hb dL_law_1346 rfl (lv_at hl 3 rfl) ?_
  refine lv_iload_n hx hb dL_law_1347 rfl (lv_at hl 0 rfl) ?_
  refine lv_iconst (v := 1) hx hb dL_law_1348 (by decide) ?_
  refine lv_iadd hx hb dL_law_1349 ?_
  refine wt_c (v := 1) (by decide) ?_
  refine va_sld hx hb hX hbl hbA hS (vin (by decide)) dL_law_1350 ?_
  refine wt_c (v := xs 1) (congrArg xs (by decide)) ?_
  have hPc := hP.sub (ws' := [(rM 0, .inr (8, [.ref (rM 1), .ref (rM 2), .int 0, .int 0, .int 0, .int (-1), .int 0, .int 0, .int 0, .int 0, .long 0, .ref (rM 3), .ref (rM 4), .ref (rM 5), .ref (rM 6), .ref (rM 7), .ref (rM 8), .ref (rM 9), .ref (rM 10), .ref (rM 11), .ref (rM 12), .ref (rM 13), .ref (rM 14), .ref (rM 15), .ref (rM 16), .ref (rM 17), .ref (rM 18), .ref (rM 19), .ref (rM 20), .ref (rM 21), .ref (rM 22), .ref (rM 23), .ref (rM 24), .int 0, .int 0, .int 0, .int 0, .int 0, .int 0, .int 0, .int 0, .int 0, .ref (rM 25), .ref (rM 26), .ref (rM 27), .int 0, .int 0, .ref (rM 28), .int 0, .ref (rM 29), .ref (rM 30), .ref (rM 31), .ref (rM 32), .ref (rM 33), .ref (rM 34), .ref (rM 35), .ref (rM 36), .int 0, .int 0, .int 0, .ref (rM 37), .ref (rM 38)]))]) [0] rfl
  have hKc := hK.sub (tys' := []) [] rfl
  refine va_calli (va_runV (As := [.int (xs 1)]) (rest := [.int 0]) ⟨hx, hb, hml, hown, hG⟩ (kX9_untell_v1 l dC dI rM cM (xs 1) H1.size ) (cwV 1 hG (goodV gw1821 gw1822 gw1823 gw138 gw1824) rfl rfl rfl hd_X9_untell ⟨(Nat.le_of_ble_eq_true rfl), (Nat.le_of_ble_eq_true rfl)⟩) ⟨fbR, va_recv hKc hPc (ci := 8) (q0 := 0) rfl rfl, pR_in hPc hKc⟩ rfl rfl hl.1 rfl (lv_room (Nat.le_of_ble_eq_true rfl)) dL_law_1351 ⟨(Nat.le_of_ble_eq_true rfl), (Nat.le_of_ble_eq_true rfl)⟩) hS (fun q hq h => absurd hq (Nat.not_lt.mpr h)) (fun q h => hA q (Nat.le_trans hS.1 h)) (fun r_4 u t H3 locs ht hvm hw hB hz1 hk1 hS => ?_)
  have hP := wk hP hk1
  refine wt_c (v := 0) hw ?_
  refine lv_icmp_eq (tgt := 1540) hx hb dL_law_1354 (by decide) (fun c_5 => ?_) (fun c_5 => absurd (by decide) c_5)
  exact law_end l C0 hS hl
set_option maxHeartbeats 4000000 in
set_option maxRecDepth 100000 in
theorem law_41 {p : Program} {e : Env} {s : State} {m : MethodId} {below : List Frame} {meth : Method} {c : Code} (l : Launch) {b : Nat} {xs : Nat → Int32} (C0 : lw_At p s m meth c b 6 xs) (dC : Nat → ClassId) (dI : Nat → Nat → Nat) (rX rM : Nat → Nat) (cX cM : Nat → ClassId) (fX fM : Nat → Nat → Int32) (gX gM : Nat → Nat → Int64) {H : Heap} {locs : List Loc} (hK : va_K (dC, dI) vwCl [] s) (hP : va_P (dC, dI) vwCl [(rX 0, .inr (7, [.ref (rX 1), .int 0, .ref (rX 2), .ref (rX 55), .ref (rX 57), .ref (rX 30), .ref (rX 56), .ref (rX 36), .ref (rX 37), .ref (rX 38), .int 0, .ref (rX 51), .int 0, .ref (rX 52), .ref (rX 53), .ref (rX 54)])), (rM 0, .inr (8, [.ref (rM 1), .ref (rM 2), .int 0, .int 0, .int 0, .int (-1), .int 0, .int 0, .int 0, .int 0, .long 0, .ref (rM 3), .ref (rM 4), .ref (rM 5), .ref (rM 6), .ref (rM 7), .ref (rM 8), .ref (rM 9), .ref (rM 10), .ref (rM 11), .ref (rM 12), .ref (rM 13), .ref (rM 14), .ref (rM 15), .ref (rM 16), .ref (rM 17), .ref (rM 18), .ref (rM 19), .ref (rM 20), .ref (rM 21), .ref (rM 22), .ref (rM 23), .ref (rM 24), .int 0, .int 0, .int 0, .int 0, .int 0, .int 0, .int 0, .int 0, .int 0, .ref (rM 25), .ref (rM 26), .ref (rM 27), .int 0, .int 0, .ref (rM 28), .int 0, .ref (rM 29), .ref (rM 30), .ref (rM 31), .ref (rM 32), .ref (rM 33), .ref (rM 34), .ref (rM 35), .ref (rM 36), .int 0, .int 0, .int 0, .ref (rM 37), .ref (rM 38)]))] H) (hD : va_D (fun q : Nat => s.heap.size ≤ q) [(rX 0, .inr (7, [.ref (rX 1), .int 0, .ref (rX 2), .ref (rX 55), .ref (rX 57), .ref (rX 30), .ref (rX 56), .ref (rX 36), .ref (rX 37), .ref (rX 38), .int 0, .ref (rX 51), .int 0, .ref (rX 52), .ref (rX 53), .ref (rX 54)])), (rM 0, .inr (8, [.ref (rM 1), .ref (rM 2), .int 0, .int 0, .int 0, .int (-1), .int 0, .int 0, .int 0, .int 0, .long 0, .ref (rM 3), .ref (rM 4), .ref (rM 5), .ref (rM 6), .ref (rM 7), .ref (rM 8), .ref (rM 9), .ref (rM 10), .ref (rM 11), .ref (rM 12), .ref (rM 13), .ref (rM 14), .ref (rM 15), .ref (rM 16), .ref (rM 17), .ref (rM 18), .ref (rM 19), .ref (rM 20), .ref (rM 21), .ref (rM 22), .ref (rM 23), .ref (rM 24), .int 0, .int 0, .int 0, .int 0, .int 0, .int 0, .int 0, .int 0, .int 0, .ref (rM 25), .ref (rM 26), .ref (rM 27), .int 0, .int 0, .ref (rM 28), .int 0, .ref (rM 29), .ref (rM 30), .ref (rM 31), .ref (rM 32), .ref (rM 33), .ref (rM 34), .ref (rM 35), .ref (rM 36), .int 0, .int 0, .int 0, .ref (rM 37), .ref (rM 38)]))]) (hS : va_S (fun q : Nat => s.heap.size ≤ q) s.heap H locs) {ls : Array Slot} (hl : lv_has ls 4 [(3, .int 0), (2, .ref (rM 0)), (1, .ref (rX 0)), (0, .ref b)]) : W p l e room_1 s m #[Value.ref b] below meth c H locs 103 20190 (lw_Z below #[Value.ref b] s) (F0 m 1359 ls []) := by
  obtain ⟨hx, hb, hr, hml, hown, hts, hX, hbl, hlocks, hgv⟩ := id C0
  have hown : s.vm.findClass RL = some m.cls := hown
  have hG : ∀ w ∈ GW, w.before _ s = true := fun w h => hts w (List.mem_filter.mp h).1
  have hA : ∀ q : Nat, s.heap.size ≤ q → (fun q : Nat => s.heap.size ≤ q) q := fun _ h => h
  have hbA : ¬ (fun q : Nat => s.heap.size ≤ q) b := Nat.not_le.mpr hbl
  refine lv_aload_n hx hb dL_law_1359 rfl (lv_at hl 2 rfl) ?_
  refine lv_aload_n hx hb dL_law_1360 rfl (lv_at hl 3 rfl) ?_
  refine lv_iload_n hx hb dL_law_1361 rfl (lv_at hl 0 rfl) ?_
  refine lv_iconst (v := 1) hx hb dL_law_1362 (by decide) ?_
  refine lv_iadd hx hb dL_law_1363 ?_
  refine wt_c (v := 1) (by decide) ?_
  refine va_sld hx hb hX hbl hbA hS (vin (by decide)) dL_law_1364 ?_
  refine wt_c (v := xs 1) (congrArg xs (by decide)) ?_
  have hPc := hP.sub (ws' := [(rX 0, .inr (7, [.ref (rX 1), .int 0, .ref (rX 2), .ref (rX 55), .ref (rX 57), .ref (rX 30), .ref (rX 56), .ref (rX 36), .ref (rX 37), .ref (rX 38), .int 0, .ref (rX 51), .int 0, .ref (rX 52), .ref (rX 53), .ref (rX 54)]))]) [0] rfl
  have hKc := hK.sub (tys' := []) [] rfl
  have hDc := hD.sub (ws' := [(rX 0, .inr (7, [.ref (rX 1), .int 0, .ref (rX 2), .ref (rX 55), .ref (rX 57), .ref (rX 30), .ref (rX 56), .ref (rX 36), .ref (rX 37), .ref (rX 38), .int 0, .ref (rX 51), .int 0, .ref (rX 52), .ref (rX 53), .ref (rX 54)]))]) [0] (by decide) rfl
  have hFc := va_free (wc := [(rX 0, .inr (7, [.ref (rX 1), .int 0, .ref (rX 2), .ref (rX 55), .ref (rX 57), .ref (rX 30), .ref (rX 56), .ref (rX 36), .ref (rX 37), .ref (rX 38), .int 0, .ref (rX 51), .int 0, .ref (rX 52), .ref (rX 53), .ref (rX 54)]))]) hD hS hA [0] rfl
  refine va_calli (va_runV (As := [.int (xs 1)]) (rest := []) ⟨hx, hb, hml, hown, hG⟩ (kX8_later l dC dI rX cX (xs 1) H.size ) (cwV 1 hG (goodV gw1069 gw1070 gw1071 gw129 gw1072) rfl rfl rfl hd_X8_later ⟨(Nat.le_of_ble_eq_true rfl), (Nat.le_of_ble_eq_true rfl)⟩) ⟨fbW, va_recv hKc hPc (ci := 7) (q0 := 0) rfl rfl, pW_in hPc hKc hDc⟩ rfl rfl hl.1 rfl (lv_room (Nat.le_of_ble_eq_true rfl)) dL_law_1365 ⟨(Nat.le_of_ble_eq_true rfl), (Nat.le_of_ble_eq_true rfl)⟩) hS (fun q _ h => hFc q h) hFc (fun r_2 u t H1 locs ht hvm hw hB hz1 hk1 hS => ?_)
  rcases hw with ⟨rfl, hy3, hw⟩ | ⟨rfl, hy4, hy5, hw⟩ | ⟨rfl, hy6, hy7, hy8, hw⟩
  · skip
    obtain ⟨hP, hD⟩ := va_join (wr := [(rM 0, .inr (8, [.ref (rM 1), .ref (rM 2), .int 0, .int 0, .int 0, .int (-1), .int 0, .int 0, .int 0, .int 0, .long 0, .ref (rM 3), .ref (rM 4), .ref (rM 5), .ref (rM 6), .ref (rM 7), .ref (rM 8), .ref (rM 9), .ref (rM 10), .ref (rM 11), .ref (rM 12), .ref (rM 13), .ref (rM 14), .ref (rM 15), .ref (rM 16), .ref (rM 17), .ref (rM 18), .ref (rM 19), .ref (rM 20), .ref (rM 21), .ref (rM 22), .ref (rM 23), .ref (rM 24), .int 0, .int 0, .int 0, .int 0, .int 0, .int 0, .int 0, .int 0, .int 0, .ref (rM 25), .ref (rM 26), .ref (rM 27), .int 0, .int 0, .ref (rM 28), .int 0, .ref (rM 29), .ref (rM 30), .ref (rM 31), .ref (rM 32), .ref (rM 33), .ref (rM 34), .ref (rM 35), .ref (rM 36), .int 0, .int 0, .int 0, .ref (rM 37), .ref (rM 38)]))]) (w1 := []) hP hD [0] [1] rfl rfl (by decide) (by decide) hk1 hFc (fun k q h => by simp at h) ⟨fun i j p q h => by simp at h, fun k q h => by simp at h⟩
    refine wt_c (v := (-1)) hw ?_
    refine lv_aload_n hx hb dL_law_1368 rfl (lv_at hl 1 rfl) ?_
    refine lv_aload_n hx hb dL_law_1369 rfl (lv_at hl 3 rfl) ?_
    refine lv_iload_n hx hb dL_law_1370 rfl (lv_at hl 0 rfl) ?_
    refine lv_iconst (v := 1) hx hb dL_law_1371 (by decide) ?_
    refine lv_iadd hx hb dL_law_1372 ?_
    refine wt_c (v := 1) (by decide) ?_
    refine va_sld hx hb hX hbl hbA hS (vin (by decide)) dL_law_1373 ?_
    refine wt_c (v := xs 1) (congrArg xs (by decide)) ?_
    have hPc := hP.sub (ws' := [(rM 0, .inr (8, [.ref (rM 1), .ref (rM 2), .int 0, .int 0, .int 0, .int (-1), .int 0, .int 0, .int 0, .int 0, .long 0, .ref (rM 3), .ref (rM 4), .ref (rM 5), .ref (rM 6), .ref (rM 7), .ref (rM 8), .ref (rM 9), .ref (rM 10), .ref (rM 11), .ref (rM 12), .ref (rM 13), .ref (rM 14), .ref (rM 15), .ref (rM 16), .ref (rM 17), .ref (rM 18), .ref (rM 19), .ref (rM 20), .ref (rM 21), .ref (rM 22), .ref (rM 23), .ref (rM 24), .int 0, .int 0, .int 0, .int 0, .int 0, .int 0, .int 0, .int 0, .int 0, .ref (rM 25), .ref (rM 26), .ref (rM 27), .int 0, .int 0, .ref (rM 28), .int 0, .ref (rM 29), .ref (rM 30), .ref (rM 31), .ref (rM 32), .ref (rM 33), .ref (rM 34), .ref (rM 35), .ref (rM 36), .int 0, .int 0, .int 0, .ref (rM 37), .ref (rM 38)]))]) [0] rfl
    have hKc := hK.sub (tys' := []) [] rfl
    have hDc := hD.sub (ws' := [(rM 0, .inr (8, [.ref (rM 1), .ref (rM 2), .int 0, .int 0, .int 0, .int (-1), .int 0, .int 0, .int 0, .int 0, .long 0, .ref (rM 3), .ref (rM 4), .ref (rM 5), .ref (rM 6), .ref (rM 7), .ref (rM 8), .ref (rM 9), .ref (rM 10), .ref (rM 11), .ref (rM 12), .ref (rM 13), .ref (rM 14), .ref (rM 15), .ref (rM 16), .ref (rM 17), .ref (rM 18), .ref (rM 19), .ref (rM 20), .ref (rM 21), .ref (rM 22), .ref (rM 23), .ref (rM 24), .int 0, .int 0, .int 0, .int 0, .int 0, .int 0, .int 0, .int 0, .int 0, .ref (rM 25), .ref (rM 26), .ref (rM 27), .int 0, .int 0, .ref (rM 28), .int 0, .ref (rM 29), .ref (rM 30), .ref (rM 31), .ref (rM 32), .ref (rM 33), .ref (rM 34), .ref (rM 35), .ref (rM 36), .int 0, .int 0, .int 0, .ref (rM 37), .ref (rM 38)]))]) [0] (by decide) rfl
    have hFc := va_free (wc := [(rM 0, .inr (8, [.ref (rM 1), .ref (rM 2), .int 0, .int 0, .int 0, .int (-1), .int 0, .int 0, .int 0, .int 0, .long 0, .ref (rM 3), .ref (rM 4), .ref (rM 5), .ref (rM 6), .ref (rM 7), .ref (rM 8), .ref (rM 9), .ref (rM 10), .ref (rM 11), .ref (rM 12), .ref (rM 13), .ref (rM 14), .ref (rM 15), .ref (rM 16), .ref (rM 17), .ref (rM 18), .ref (rM 19), .ref (rM 20), .ref (rM 21), .ref (rM 22), .ref (rM 23), .ref (rM 24), .int 0, .int 0, .int 0, .int 0, .int 0, .int 0, .int 0, .int 0, .int 0, .ref (rM 25), .ref (rM 26), .ref (rM 27), .int 0, .int 0, .ref (rM 28), .int 0, .ref (rM 29), .ref (rM 30), .ref (rM 31), .ref (rM 32), .ref (rM 33), .ref (rM 34), .ref (rM 35), .ref (rM 36), .int 0, .int 0, .int 0, .ref (rM 37), .ref (rM 38)]))]) hD hS hA [0] rfl
    refine va_calli (va_runV (As := [.int (xs 1)]) (rest := [.int (-1)]) ⟨hx, hb, hml, hown, hG⟩ (kX9_later l dC dI rM cM (xs 1) H1.size ) (cwV 1 hG (goodV gw1825 gw1826 gw1827 gw138 gw1828) rfl rfl rfl hd_X9_later ⟨(Nat.le_of_ble_eq_true rfl), (Nat.le_of_ble_eq_true rfl)⟩) ⟨fbW, va_recv hKc hPc (ci := 8) (q0 := 0) rfl rfl, pW_in hPc hKc hDc⟩ rfl rfl hl.1 rfl (lv_room (Nat.le_of_ble_eq_true rfl)) dL_law_1374 ⟨(Nat.le_of_ble_eq_true rfl), (Nat.le_of_ble_eq_true rfl)⟩) hS (fun q _ h => hFc q h) hFc (fun r_10 u t H9 locs ht hvm hw hB hz1 hk1 hS => ?_)
    rcases hw with ⟨rfl, hy11, hw⟩ | ⟨rfl, hy12, hy13, hw⟩ | ⟨rfl, hy14, hy15, hy16, hw⟩
    · skip
      obtain ⟨hP, hD⟩ := va_join (wr := []) (w1 := []) hP hD [0] [] rfl rfl (by decide) (by decide) hk1 hFc (fun k q h => by simp at h) ⟨fun i j p q h => by simp at h, fun k q h => by simp at h⟩
      refine wt_c (v := (-1)) hw ?_
      refine lv_icmp_eq (tgt := 1540) hx hb dL_law_1377 (by decide) (fun c_17 => ?_) (fun c_17 => absurd (by decide) c_17)
      exact law_end l C0 hS hl
    · skip
      exact ((by have k0 := q_lt hy3; have k1 := q_nlt hy12; have k2 := q_lt hy13; have z0 : (0 : Int32).toInt = 0 := (by decide); have z1000 : (1000 : Int32).toInt = 1000 := (by decide); omega) : False).elim
    · skip
      exact ((by have k0 := q_lt hy3; have k1 := q_nlt hy14; have k2 := q_nlt hy15; have k3 := q_le hy16; have z0 : (0 : Int32).toInt = 0 := (by decide); have z1000 : (1000 : Int32).toInt = 1000 := (by decide); have z100000 : (100000 : Int32).toInt = 100000 := (by decide); omega) : False).elim
  · skip
    obtain ⟨hP, hD⟩ := va_join (wr := [(rM 0, .inr (8, [.ref (rM 1), .ref (rM 2), .int 0, .int 0, .int 0, .int (-1), .int 0, .int 0, .int 0, .int 0, .long 0, .ref (rM 3), .ref (rM 4), .ref (rM 5), .ref (rM 6), .ref (rM 7), .ref (rM 8), .ref (rM 9), .ref (rM 10), .ref (rM 11), .ref (rM 12), .ref (rM 13), .ref (rM 14), .ref (rM 15), .ref (rM 16), .ref (rM 17), .ref (rM 18), .ref (rM 19), .ref (rM 20), .ref (rM 21), .ref (rM 22), .ref (rM 23), .ref (rM 24), .int 0, .int 0, .int 0, .int 0, .int 0, .int 0, .int 0, .int 0, .int 0, .ref (rM 25), .ref (rM 26), .ref (rM 27), .int 0, .int 0, .ref (rM 28), .int 0, .ref (rM 29), .ref (rM 30), .ref (rM 31), .ref (rM 32), .ref (rM 33), .ref (rM 34), .ref (rM 35), .ref (rM 36), .int 0, .int 0, .int 0, .ref (rM 37), .ref (rM 38)]))]) (w1 := []) hP hD [0] [1] rfl rfl (by decide) (by decide) hk1 hFc (fun k q h => by simp at h) ⟨fun i j p q h => by simp at h, fun k q h => by simp at h⟩
    refine wt_c (v := (-1)) hw ?_
    refine lv_aload_n hx hb dL_law_1368 rfl (lv_at hl 1 rfl) ?_
    refine lv_aload_n hx hb dL_law_1369 rfl (lv_at hl 3 rfl) ?_
    refine lv_iload_n hx hb dL_law_1370 rfl (lv_at hl 0 rfl) ?_
    refine lv_iconst (v := 1) hx hb dL_law_1371 (by decide) ?_
    refine lv_iadd hx hb dL_law_1372 ?_
    refine wt_c (v := 1) (by decide) ?_
    refine va_sld hx hb hX hbl hbA hS (vin (by decide)) dL_law_1373 ?_
    refine wt_c (v := xs 1) (congrArg xs (by decide)) ?_
    have hPc := hP.sub (ws' := [(rM 0, .inr (8, [.ref (rM 1), .ref (rM 2), .int 0, .int 0, .int 0, .int (-1), .int 0, .int 0, .int 0, .int 0, .long 0, .ref (rM 3), .ref (rM 4), .ref (rM 5), .ref (rM 6), .ref (rM 7), .ref (rM 8), .ref (rM 9), .ref (rM 10), .ref (rM 11), .ref (rM 12), .ref (rM 13), .ref (rM 14), .ref (rM 15), .ref (rM 16), .ref (rM 17), .ref (rM 18), .ref (rM 19), .ref (rM 20), .ref (rM 21), .ref (rM 22), .ref (rM 23), .ref (rM 24), .int 0, .int 0, .int 0, .int 0, .int 0, .int 0, .int 0, .int 0, .int 0, .ref (rM 25), .ref (rM 26), .ref (rM 27), .int 0, .int 0, .ref (rM 28), .int 0, .ref (rM 29), .ref (rM 30), .ref (rM 31), .ref (rM 32), .ref (rM 33), .ref (rM 34), .ref (rM 35), .ref (rM 36), .int 0, .int 0, .int 0, .ref (rM 37), .ref (rM 38)]))]) [0] rfl
    have hKc := hK.sub (tys' := []) [] rfl
    have hDc := hD.sub (ws' := [(rM 0, .inr (8, [.ref (rM 1), .ref (rM 2), .int 0, .int 0, .int 0, .int (-1), .int 0, .int 0, .int 0, .int 0, .long 0, .ref (rM 3), .ref (rM 4), .ref (rM 5), .ref (rM 6), .ref (rM 7), .ref (rM 8), .ref (rM 9), .ref (rM 10), .ref (rM 11), .ref (rM 12), .ref (rM 13), .ref (rM 14), .ref (rM 15), .ref (rM 16), .ref (rM 17), .ref (rM 18), .ref (rM 19), .ref (rM 20), .ref (rM 21), .ref (rM 22), .ref (rM 23), .ref (rM 24), .int 0, .int 0, .int 0, .int 0, .int 0, .int 0, .int 0, .int 0, .int 0, .ref (rM 25), .ref (rM 26), .ref (rM 27), .int 0, .int 0, .ref (rM 28), .int 0, .ref (rM 29), .ref (rM 30), .ref (rM 31), .ref (rM 32), .ref (rM 33), .ref (rM 34), .ref (rM 35), .ref (rM 36), .int 0, .int 0, .int 0, .ref (rM 37), .ref (rM 38)]))]) [0] (by decide) rfl
    have hFc := va_free (wc := [(rM 0, .inr (8, [.ref (rM 1), .ref (rM 2), .int 0, .int 0, .int 0, .int (-1), .int 0, .int 0, .int 0, .int 0, .long 0, .ref (rM 3), .ref (rM 4), .ref (rM 5), .ref (rM 6), .ref (rM 7), .ref (rM 8), .ref (rM 9), .ref (rM 10), .ref (rM 11), .ref (rM 12), .ref (rM 13), .ref (rM 14), .ref (rM 15), .ref (rM 16), .ref (rM 17), .ref (rM 18), .ref (rM 19), .ref (rM 20), .ref (rM 21), .ref (rM 22), .ref (rM 23), .ref (rM 24), .int 0, .int 0, .int 0, .int 0, .int 0, .int 0, .int 0, .int 0, .int 0, .ref (rM 25), .ref (rM 26), .ref (rM 27), .int 0, .int 0, .ref (rM 28), .int 0, .ref (rM 29), .ref (rM 30), .ref (rM 31), .ref (rM 32), .ref (rM 33), .ref (rM 34), .ref (rM 35), .ref (rM 36), .int 0, .int 0, .int 0, .ref (rM 37), .ref (rM 38)]))]) hD hS hA [0] rfl
    refine va_calli (va_runV (As := [.int (xs 1)]) (rest := [.int (-1)]) ⟨hx, hb, hml, hown, hG⟩ (kX9_later l dC dI rM cM (xs 1) H1.size ) (cwV 1 hG (goodV gw1825 gw1826 gw1827 gw138 gw1828) rfl rfl rfl hd_X9_later ⟨(Nat.le_of_ble_eq_true rfl), (Nat.le_of_ble_eq_true rfl)⟩) ⟨fbW, va_recv hKc hPc (ci := 8) (q0 := 0) rfl rfl, pW_in hPc hKc hDc⟩ rfl rfl hl.1 rfl (lv_room (Nat.le_of_ble_eq_true rfl)) dL_law_1374 ⟨(Nat.le_of_ble_eq_true rfl), (Nat.le_of_ble_eq_true rfl)⟩) hS (fun q _ h => hFc q h) hFc (fun r_19 u t H18 locs ht hvm hw hB hz1 hk1 hS => ?_)
    rcases hw with ⟨rfl, hy20, hw⟩ | ⟨rfl, hy21, hy22, hw⟩ | ⟨rfl, hy23, hy24, hy25, hw⟩
    · skip
      exact ((by have k0 := q_nlt hy4; have k1 := q_lt hy5; have k2 := q_lt hy20; have z0 : (0 : Int32).toInt = 0 := (by decide); have z1000 : (1000 : Int32).toInt = 1000 := (by decide); omega) : False).elim
    · skip
      obtain ⟨hP, hD⟩ := va_join (wr := []) (w1 := []) hP hD [0] [] rfl rfl (by decide) (by decide) hk1 hFc (fun k q h => by simp at h) ⟨fun i j p q h => by simp at h, fun k q h => by simp at h⟩
      refine wt_c (v := (-1)) hw ?_
      refine lv_icmp_eq (tgt := 1540) hx hb dL_law_1377 (by decide) (fun c_26 => ?_) (fun c_26 => absurd (by decide) c_26)
      exact law_end l C0 hS hl
    · skip
      exact ((by have k0 := q_nlt hy4; have k1 := q_lt hy5; have k2 := q_nlt hy23; have k3 := q_nlt hy24; have k4 := q_le hy25; have z0 : (0 : Int32).toInt = 0 := (by decide); have z1000 : (1000 : Int32).toInt = 1000 := (by decide); have z100000 : (100000 : Int32).toInt = 100000 := (by decide); omega) : False).elim
  · skip
    obtain ⟨hP, hD⟩ := va_join (wr := [(rM 0, .inr (8, [.ref (rM 1), .ref (rM 2), .int 0, .int 0, .int 0, .int (-1), .int 0, .int 0, .int 0, .int 0, .long 0, .ref (rM 3), .ref (rM 4), .ref (rM 5), .ref (rM 6), .ref (rM 7), .ref (rM 8), .ref (rM 9), .ref (rM 10), .ref (rM 11), .ref (rM 12), .ref (rM 13), .ref (rM 14), .ref (rM 15), .ref (rM 16), .ref (rM 17), .ref (rM 18), .ref (rM 19), .ref (rM 20), .ref (rM 21), .ref (rM 22), .ref (rM 23), .ref (rM 24), .int 0, .int 0, .int 0, .int 0, .int 0, .int 0, .int 0, .int 0, .int 0, .ref (rM 25), .ref (rM 26), .ref (rM 27), .int 0, .int 0, .ref (rM 28), .int 0, .ref (rM 29), .ref (rM 30), .ref (rM 31), .ref (rM 32), .ref (rM 33), .ref (rM 34), .ref (rM 35), .ref (rM 36), .int 0, .int 0, .int 0, .ref (rM 37), .ref (rM 38)]))]) (w1 := []) hP hD [0] [1] rfl rfl (by decide) (by decide) hk1 hFc (fun k q h => by simp at h) ⟨fun i j p q h => by simp at h, fun k q h => by simp at h⟩
    refine wt_c (v := (xs 1)) hw ?_
    refine lv_aload_n hx hb dL_law_1368 rfl (lv_at hl 1 rfl) ?_
    refine lv_aload_n hx hb dL_law_1369 rfl (lv_at hl 3 rfl) ?_
    refine lv_iload_n hx hb dL_law_1370 rfl (lv_at hl 0 rfl) ?_
    refine lv_iconst (v := 1) hx hb dL_law_1371 (by decide) ?_
    refine lv_iadd hx hb dL_law_1372 ?_
    refine wt_c (v := 1) (by decide) ?_
    refine va_sld hx hb hX hbl hbA hS (vin (by decide)) dL_law_1373 ?_
    refine wt_c (v := xs 1) (congrArg xs (by decide)) ?_
    have hPc := hP.sub (ws' := [(rM 0, .inr (8, [.ref (rM 1), .ref (rM 2), .int 0, .int 0, .int 0, .int (-1), .int 0, .int 0, .int 0, .int 0, .long 0, .ref (rM 3), .ref (rM 4), .ref (rM 5), .ref (rM 6), .ref (rM 7), .ref (rM 8), .ref (rM 9), .ref (rM 10), .ref (rM 11), .ref (rM 12), .ref (rM 13), .ref (rM 14), .ref (rM 15), .ref (rM 16), .ref (rM 17), .ref (rM 18), .ref (rM 19), .ref (rM 20), .ref (rM 21), .ref (rM 22), .ref (rM 23), .ref (rM 24), .int 0, .int 0, .int 0, .int 0, .int 0, .int 0, .int 0, .int 0, .int 0, .ref (rM 25), .ref (rM 26), .ref (rM 27), .int 0, .int 0, .ref (rM 28), .int 0, .ref (rM 29), .ref (rM 30), .ref (rM 31), .ref (rM 32), .ref (rM 33), .ref (rM 34), .ref (rM 35), .ref (rM 36), .int 0, .int 0, .int 0, .ref (rM 37), .ref (rM 38)]))]) [0] rfl
    have hKc := hK.sub (tys' := []) [] rfl
    have hDc := hD.sub (ws' := [(rM 0, .inr (8, [.ref (rM 1), .ref (rM 2), .int 0, .int 0, .int 0, .int (-1), .int 0, .int 0, .int 0, .int 0, .long 0, .ref (rM 3), .ref (rM 4), .ref (rM 5), .ref (rM 6), .ref (rM 7), .ref (rM 8), .ref (rM 9), .ref (rM 10), .ref (rM 11), .ref (rM 12), .ref (rM 13), .ref (rM 14), .ref (rM 15), .ref (rM 16), .ref (rM 17), .ref (rM 18), .ref (rM 19), .ref (rM 20), .ref (rM 21), .ref (rM 22), .ref (rM 23), .ref (rM 24), .int 0, .int 0, .int 0, .int 0, .int 0, .int 0, .int 0, .int 0, .int 0, .ref (rM 25), .ref (rM 26), .ref (rM 27), .int 0, .int 0, .ref (rM 28), .int 0, .ref (rM 29), .ref (rM 30), .ref (rM 31), .ref (rM 32), .ref (rM 33), .ref (rM 34), .ref (rM 35), .ref (rM 36), .int 0, .int 0, .int 0, .ref (rM 37), .ref (rM 38)]))]) [0] (by decide) rfl
    have hFc := va_free (wc := [(rM 0, .inr (8, [.ref (rM 1), .ref (rM 2), .int 0, .int 0, .int 0, .int (-1), .int 0, .int 0, .int 0, .int 0, .long 0, .ref (rM 3), .ref (rM 4), .ref (rM 5), .ref (rM 6), .ref (rM 7), .ref (rM 8), .ref (rM 9), .ref (rM 10), .ref (rM 11), .ref (rM 12), .ref (rM 13), .ref (rM 14), .ref (rM 15), .ref (rM 16), .ref (rM 17), .ref (rM 18), .ref (rM 19), .ref (rM 20), .ref (rM 21), .ref (rM 22), .ref (rM 23), .ref (rM 24), .int 0, .int 0, .int 0, .int 0, .int 0, .int 0, .int 0, .int 0, .int 0, .ref (rM 25), .ref (rM 26), .ref (rM 27), .int 0, .int 0, .ref (rM 28), .int 0, .ref (rM 29), .ref (rM 30), .ref (rM 31), .ref (rM 32), .ref (rM 33), .ref (rM 34), .ref (rM 35), .ref (rM 36), .int 0, .int 0, .int 0, .ref (rM 37), .ref (rM 38)]))]) hD hS hA [0] rfl
    refine va_calli (va_runV (As := [.int (xs 1)]) (rest := [.int (xs 1)]) ⟨hx, hb, hml, hown, hG⟩ (kX9_later l dC dI rM cM (xs 1) H1.size ) (cwV 1 hG (goodV gw1825 gw1826 gw1827 gw138 gw1828) rfl rfl rfl hd_X9_later ⟨(Nat.le_of_ble_eq_true rfl), (Nat.le_of_ble_eq_true rfl)⟩) ⟨fbW, va_recv hKc hPc (ci := 8) (q0 := 0) rfl rfl, pW_in hPc hKc hDc⟩ rfl rfl hl.1 rfl (lv_room (Nat.le_of_ble_eq_true rfl)) dL_law_1374 ⟨(Nat.le_of_ble_eq_true rfl), (Nat.le_of_ble_eq_true rfl)⟩) hS (fun q _ h => hFc q h) hFc (fun r_28 u t H27 locs ht hvm hw hB hz1 hk1 hS => ?_)
    rcases hw with ⟨rfl, hy29, hw⟩ | ⟨rfl, hy30, hy31, hw⟩ | ⟨rfl, hy32, hy33, hy34, hw⟩
    · skip
      exact ((by have k0 := q_nlt hy6; have k1 := q_nlt hy7; have k2 := q_le hy8; have k3 := q_lt hy29; have z0 : (0 : Int32).toInt = 0 := (by decide); have z1000 : (1000 : Int32).toInt = 1000 := (by decide); have z100000 : (100000 : Int32).toInt = 100000 := (by decide); omega) : False).elim
    · skip
      exact ((by have k0 := q_nlt hy6; have k1 := q_nlt hy7; have k2 := q_le hy8; have k3 := q_nlt hy30; have k4 := q_lt hy31; have z0 : (0 : Int32).toInt = 0 := (by decide); have z1000 : (1000 : Int32).toInt = 1000 := (by decide); have z100000 : (100000 : Int32).toInt = 100000 := (by decide); omega) : False).elim
    · skip
      obtain ⟨hP, hD⟩ := va_join (wr := []) (w1 := []) hP hD [0] [] rfl rfl (by decide) (by decide) hk1 hFc (fun k q h => by simp at h) ⟨fun i j p q h => by simp at h, fun k q h => by simp at h⟩
      refine wt_c (v := (xs 1)) hw ?_
      refine lv_icmp_eq (tgt := 1540) hx hb dL_law_1377 (by decide) (fun c_35 => ?_) (fun c_35 => absurd (Eq.refl _) c_35)
      exact law_end l C0 hS hl
set_option maxHeartbeats 4000000 in
set_option maxRecDepth 100000 in
theorem law_42 {p : Program} {e : Env} {s : State} {m : MethodId} {below : List Frame} {meth : Method} {c : Code} (l : Launch) {b : Nat} {xs : Nat → Int32} (C0 : lw_At p s m meth c b 6 xs) (dC : Nat → ClassId) (dI : Nat → Nat → Nat) (rX rM : Nat → Nat) (cX cM : Nat → ClassId) (fX fM : Nat → Nat → Int32) (gX gM : Nat → Nat → Int64) (hfM_5_0 : fM 5 0 = 0) (hfM_5_1 : fM 5 1 = 0) {H : Heap} {locs : List Loc} (hK : va_K (dC, dI) vwCl [((cM 5), .int), ((cM 35), .int)] s) (hP : va_P (dC, dI) vwCl [(rX 0, .inr (7, [.ref (rX 1), .int 0, .ref (rX 2), .ref (rX 55), .ref (rX 57), .ref (rX 30), .ref (rX 56), .ref (rX 36), .ref (rX 37), .ref (rX 38), .int 0, .ref (rX 51), .int 0, .ref (rX 52), .ref (rX 53), .ref (rX 54)])), (rX 38, .inr (2, [.int 0, .ref (rX 39), .ref (rX 40), .ref (rX 41), .ref (rX 42), .ref (rX 43), .ref (rX 44), .int 0, .ref (rX 45), .ref (rX 46), .ref (rX 47), .ref (rX 48), .ref (rX 49), .ref (rX 50)])), (rX 55, .inr (3, [.int 1, .int 0, .int 0, .int 0, .ref (rX 20), .ref (rX 21), .ref (rX 22), .int 0, .ref (rX 23), .ref (rX 24), .ref (rX 25), .int 0, .ref (rX 28), .ref (rX 27)])), (rM 0, .inr (8, [.ref (rM 1), .ref (rM 2), .int 0, .int 0, .int 0, .int (-1), .int 0, .int 0, .int 0, .int 0, .long 0, .ref (rM 3), .ref (rM 4), .ref (rM 5), .ref (rM 6), .ref (rM 7), .ref (rM 8), .ref (rM 9), .ref (rM 10), .ref (rM 11), .ref (rM 12), .ref (rM 13), .ref (rM 14), .ref (rM 15), .ref (rM 16), .ref (rM 17), .ref (rM 18), .ref (rM 19), .ref (rM 20), .ref (rM 21), .ref (rM 22), .ref (rM 23), .ref (rM 24), .int 0, .int 0, .int 0, .int 0, .int 0, .int 0, .int 0, .int 0, .int 0, .ref (rM 25), .ref (rM 26), .ref (rM 27), .int 0, .int 0, .ref (rM 28), .int 0, .ref (rM 29), .ref (rM 30), .ref (rM 31), .ref (rM 32), .ref (rM 33), .ref (rM 34), .ref (rM 35), .ref (rM 36), .int 0, .int 0, .int 0, .ref (rM 37), .ref (rM 38)])), (rM 5, .inl ((cM 5), 2, .inl (fM 5))), (rM 35, .inl ((cM 35), 21, .inl (fun _ => 0)))] H) (hD : va_D (fun q : Nat => s.heap.size ≤ q) [(rX 0, .inr (7, [.ref (rX 1), .int 0, .ref (rX 2), .ref (rX 55), .ref (rX 57), .ref (rX 30), .ref (rX 56), .ref (rX 36), .ref (rX 37), .ref (rX 38), .int 0, .ref (rX 51), .int 0, .ref (rX 52), .ref (rX 53), .ref (rX 54)])), (rX 38, .inr (2, [.int 0, .ref (rX 39), .ref (rX 40), .ref (rX 41), .ref (rX 42), .ref (rX 43), .ref (rX 44), .int 0, .ref (rX 45), .ref (rX 46), .ref (rX 47), .ref (rX 48), .ref (rX 49), .ref (rX 50)])), (rX 55, .inr (3, [.int 1, .int 0, .int 0, .int 0, .ref (rX 20), .ref (rX 21), .ref (rX 22), .int 0, .ref (rX 23), .ref (rX 24), .ref (rX 25), .int 0, .ref (rX 28), .ref (rX 27)])), (rM 0, .inr (8, [.ref (rM 1), .ref (rM 2), .int 0, .int 0, .int 0, .int (-1), .int 0, .int 0, .int 0, .int 0, .long 0, .ref (rM 3), .ref (rM 4), .ref (rM 5), .ref (rM 6), .ref (rM 7), .ref (rM 8), .ref (rM 9), .ref (rM 10), .ref (rM 11), .ref (rM 12), .ref (rM 13), .ref (rM 14), .ref (rM 15), .ref (rM 16), .ref (rM 17), .ref (rM 18), .ref (rM 19), .ref (rM 20), .ref (rM 21), .ref (rM 22), .ref (rM 23), .ref (rM 24), .int 0, .int 0, .int 0, .int 0, .int 0, .int 0, .int 0, .int 0, .int 0, .ref (rM 25), .ref (rM 26), .ref (rM 27), .int 0, .int 0, .ref (rM 28), .int 0, .ref (rM 29), .ref (rM 30), .ref (rM 31), .ref (rM 32), .ref (rM 33), .ref (rM 34), .ref (rM 35), .ref (rM 36), .int 0, .int 0, .int 0, .ref (rM 37), .ref (rM 38)])), (rM 5, .inl ((cM 5), 2, .inl (fM 5))), (rM 35, .inl ((cM 35), 21, .inl (fun _ => 0)))]) (hS : va_S (fun q : Nat => s.heap.size ≤ q) s.heap H locs) {ls : Array Slot} (hl : lv_has ls 4 [(3, .int 0), (2, .ref (rM 0)), (1, .ref (rX 0)), (0, .ref b)]) : W p l e room_1 s m #[Value.ref b] below meth c H locs 103 20190 (lw_Z below #[Value.ref b] s) (F0 m 1382 ls []) := by
  obtain ⟨hx, hb, hr, hml, hown, hts, hX, hbl, hlocks, hgv⟩ := id C0
  have hown : s.vm.findClass RL = some m.cls := hown
  have hG : ∀ w ∈ GW, w.before _ s = true := fun w h => hts w (List.mem_filter.mp h).1
  have hA : ∀ q : Nat, s.heap.size ≤ q → (fun q : Nat => s.heap.size ≤ q) q := fun _ h => h
  have hbA : ¬ (fun q : Nat => s.heap.size ≤ q) b := Nat.not_le.mpr hbl
  refine lv_aload_n hx hb dL_law_1382 rfl (lv_at hl 2 rfl) ?_
  refine lv_aload_n hx hb dL_law_1383 rfl (lv_at hl 3 rfl) ?_
  refine lv_iload_n hx hb dL_law_1384 rfl (lv_at hl 0 rfl) ?_
  refine lv_iconst (v := 1) hx hb dL_law_1385 (by decide) ?_
  refine lv_iadd hx hb dL_law_1386 ?_
  refine wt_c (v := 1) (by decide) ?_
  refine va_sld hx hb hX hbl hbA hS (vin (by decide)) dL_law_1387 ?_
  refine wt_c (v := xs 1) (congrArg xs (by decide)) ?_
  have hPc := hP.sub (ws' := [(rX 0, .inr (7, [.ref (rX 1), .int 0, .ref (rX 2), .ref (rX 55), .ref (rX 57), .ref (rX 30), .ref (rX 56), .ref (rX 36), .ref (rX 37), .ref (rX 38), .int 0, .ref (rX 51), .int 0, .ref (rX 52), .ref (rX 53), .ref (rX 54)])), (rX 38, .inr (2, [.int 0, .ref (rX 39), .ref (rX 40), .ref (rX 41), .ref (rX 42), .ref (rX 43), .ref (rX 44), .int 0, .ref (rX 45), .ref (rX 46), .ref (rX 47), .ref (rX 48), .ref (rX 49), .ref (rX 50)])), (rX 55, .inr (3, [.int 1, .int 0, .int 0, .int 0, .ref (rX 20), .ref (rX 21), .ref (rX 22), .int 0, .ref (rX 23), .ref (rX 24), .ref (rX 25), .int 0, .ref (rX 28), .ref (rX 27)]))]) [0, 1, 2] rfl
  have hKc := hK.sub (tys' := []) [] rfl
  have hDc := hD.sub (ws' := [(rX 0, .inr (7, [.ref (rX 1), .int 0, .ref (rX 2), .ref (rX 55), .ref (rX 57), .ref (rX 30), .ref (rX 56), .ref (rX 36), .ref (rX 37), .ref (rX 38), .int 0, .ref (rX 51), .int 0, .ref (rX 52), .ref (rX 53), .ref (rX 54)])), (rX 38, .inr (2, [.int 0, .ref (rX 39), .ref (rX 40), .ref (rX 41), .ref (rX 42), .ref (rX 43), .ref (rX 44), .int 0, .ref (rX 45), .ref (rX 46), .ref (rX 47), .ref (rX 48), .ref (rX 49), .ref (rX 50)])), (rX 55, .inr (3, [.int 1, .int 0, .int 0, .int 0, .ref (rX 20), .ref (rX 21), .ref (rX 22), .int 0, .ref (rX 23), .ref (rX 24), .ref (rX 25), .int 0, .ref (rX 28), .ref (rX 27)]))]) [0, 1, 2] (by decide) rfl
  have hFc := va_free (wc := [(rX 0, .inr (7, [.ref (rX 1), .int 0, .ref (rX 2), .ref (rX 55), .ref (rX 57), .ref (rX 30), .ref (rX 56), .ref (rX 36), .ref (rX 37), .ref (rX 38), .int 0, .ref (rX 51), .int 0, .ref (rX 52), .ref (rX 53), .ref (rX 54)])), (rX 38, .inr (2, [.int 0, .ref (rX 39), .ref (rX 40), .ref (rX 41), .ref (rX 42), .ref (rX 43), .ref (rX 44), .int 0, .ref (rX 45), .ref (rX 46), .ref (rX 47), .ref (rX 48), .ref (rX 49), .ref (rX 50)])), (rX 55, .inr (3, [.int 1, .int 0, .int 0, .int 0, .ref (rX 20), .ref (rX 21), .ref (rX 22), .int 0, .ref (rX 23), .ref (rX 24), .ref (rX 25), .int 0, .ref (rX 28), .ref (rX 27)]))]) hD hS hA [0, 1, 2] rfl
  refine va_calli (va_runV (As := [.int (xs 1)]) (rest := []) ⟨hx, hb, hml, hown, hG⟩ (kX8_rows l dC dI rX cX (xs 1) H.size ) (cwV 1 hG (goodV gw1074 gw1075 gw1076 gw129 gw1077) rfl rfl rfl hd_X8_rows ⟨(Nat.le_of_ble_eq_true rfl), (Nat.le_of_ble_eq_true rfl)⟩) ⟨fbW, va_recv hKc hPc (ci := 7) (q0 := 0) rfl rfl, pW_in hPc hKc hDc⟩ rfl rfl hl.1 rfl (lv_room (Nat.le_of_ble_eq_true rfl)) dL_law_1388 ⟨(Nat.le_of_ble_eq_true rfl), (Nat.le_of_ble_eq_true rfl)⟩) hS (fun q _ h => hFc q h) hFc (fun r_2 u t H1 locs ht hvm hw hB hz1 hk1 hS => ?_)
  obtain ⟨hP, hD⟩ := va_join (wr := [(rM 0, .inr (8, [.ref (rM 1), .ref (rM 2), .int 0, .int 0, .int 0, .int (-1), .int 0, .int 0, .int 0, .int 0, .long 0, .ref (rM 3), .ref (rM 4), .ref (rM 5), .ref (rM 6), .ref (rM 7), .ref (rM 8), .ref (rM 9), .ref (rM 10), .ref (rM 11), .ref (rM 12), .ref (rM 13), .ref (rM 14), .ref (rM 15), .ref (rM 16), .ref (rM 17), .ref (rM 18), .ref (rM 19), .ref (rM 20), .ref (rM 21), .ref (rM 22), .ref (rM 23), .ref (rM 24), .int 0, .int 0, .int 0, .int 0, .int 0, .int 0, .int 0, .int 0, .int 0, .ref (rM 25), .ref (rM 26), .ref (rM 27), .int 0, .int 0, .ref (rM 28), .int 0, .ref (rM 29), .ref (rM 30), .ref (rM 31), .ref (rM 32), .ref (rM 33), .ref (rM 34), .ref (rM 35), .ref (rM 36), .int 0, .int 0, .int 0, .ref (rM 37), .ref (rM 38)])), (rM 5, .inl ((cM 5), 2, .inl (fM 5))), (rM 35, .inl ((cM 35), 21, .inl (fun _ => 0)))]) (w1 := []) hP hD [0, 1, 2] [3, 4, 5] rfl rfl (by decide) (by decide) hk1 hFc (fun k q h => by simp at h) ⟨fun i j p q h => by simp at h, fun k q h => by simp at h⟩
  refine wt_c (v := 0) hw ?_
  refine lv_aload_n hx hb dL_law_1391 rfl (lv_at hl 1 rfl) ?_
  refine lv_aload_n hx hb dL_law_1392 rfl (lv_at hl 3 rfl) ?_
  refine lv_iload_n hx hb dL_law_1393 rfl (lv_at hl 0 rfl) ?_
  refine lv_iconst (v := 1) hx hb dL_law_1394 (by decide) ?_
  refine lv_iadd hx hb dL_law_1395 ?_
  refine wt_c (v := 1) (by decide) ?_
  refine va_sld hx hb hX hbl hbA hS (vin (by decide)) dL_law_1396 ?_
  refine wt_c (v := xs 1) (congrArg xs (by decide)) ?_
  have hPc := hP.sub (ws' := [(rM 0, .inr (8, [.ref (rM 1), .ref (rM 2), .int 0, .int 0, .int 0, .int (-1), .int 0, .int 0, .int 0, .int 0, .long 0, .ref (rM 3), .ref (rM 4), .ref (rM 5), .ref (rM 6), .ref (rM 7), .ref (rM 8), .ref (rM 9), .ref (rM 10), .ref (rM 11), .ref (rM 12), .ref (rM 13), .ref (rM 14), .ref (rM 15), .ref (rM 16), .ref (rM 17), .ref (rM 18), .ref (rM 19), .ref (rM 20), .ref (rM 21), .ref (rM 22), .ref (rM 23), .ref (rM 24), .int 0, .int 0, .int 0, .int 0, .int 0, .int 0, .int 0, .int 0, .int 0, .ref (rM 25), .ref (rM 26), .ref (rM 27), .int 0, .int 0, .ref (rM 28), .int 0, .ref (rM 29), .ref (rM 30), .ref (rM 31), .ref (rM 32), .ref (rM 33), .ref (rM 34), .ref (rM 35), .ref (rM 36), .int 0, .int 0, .int 0, .ref (rM 37), .ref (rM 38)])), (rM 5, .inl ((cM 5), 2, .inl (fM 5))), (rM 35, .inl ((cM 35), 21, .inl (fun _ => 0)))]) [0, 1, 2] rfl
  have hKc := hK.sub (tys' := [((cM 5), .int), ((cM 35), .int)]) [0, 1] rfl
  have hDc := hD.sub (ws' := [(rM 0, .inr (8, [.ref (rM 1), .ref (rM 2), .int 0, .int 0, .int 0, .int (-1), .int 0, .int 0, .int 0, .int 0, .long 0, .ref (rM 3), .ref (rM 4), .ref (rM 5), .ref (rM 6), .ref (rM 7), .ref (rM 8), .ref (rM 9), .ref (rM 10), .ref (rM 11), .ref (rM 12), .ref (rM 13), .ref (rM 14), .ref (rM 15), .ref (rM 16), .ref (rM 17), .ref (rM 18), .ref (rM 19), .ref (rM 20), .ref (rM 21), .ref (rM 22), .ref (rM 23), .ref (rM 24), .int 0, .int 0, .int 0, .int 0, .int 0, .int 0, .int 0, .int 0, .int 0, .ref (rM 25), .ref (rM 26), .ref (rM 27), .int 0, .int 0, .ref (rM 28), .int 0, .ref (rM 29), .ref (rM 30), .ref (rM 31), .ref (rM 32), .ref (rM 33), .ref (rM 34), .ref (rM 35), .ref (rM 36), .int 0, .int 0, .int 0, .ref (rM 37), .ref (rM 38)])), (rM 5, .inl ((cM 5), 2, .inl (fM 5))), (rM 35, .inl ((cM 35), 21, .inl (fun _ => 0)))]) [0, 1, 2] (by decide) rfl
  have hFc := va_free (wc := [(rM 0, .inr (8, [.ref (rM 1), .ref (rM 2), .int 0, .int 0, .int 0, .int (-1), .int 0, .int 0, .int 0, .int 0, .long 0, .ref (rM 3), .ref (rM 4), .ref (rM 5), .ref (rM 6), .ref (rM 7), .ref (rM 8), .ref (rM 9), .ref (rM 10), .ref (rM 11), .ref (rM 12), .ref (rM 13), .ref (rM 14), .ref (rM 15), .ref (rM 16), .ref (rM 17), .ref (rM 18), .ref (rM 19), .ref (rM 20), .ref (rM 21), .ref (rM 22), .ref (rM 23), .ref (rM 24), .int 0, .int 0, .int 0, .int 0, .int 0, .int 0, .int 0, .int 0, .int 0, .ref (rM 25), .ref (rM 26), .ref (rM 27), .int 0, .int 0, .ref (rM 28), .int 0, .ref (rM 29), .ref (rM 30), .ref (rM 31), .ref (rM 32), .ref (rM 33), .ref (rM 34), .ref (rM 35), .ref (rM 36), .int 0, .int 0, .int 0, .ref (rM 37), .ref (rM 38)])), (rM 5, .inl ((cM 5), 2, .inl (fM 5))), (rM 35, .inl ((cM 35), 21, .inl (fun _ => 0)))]) hD hS hA [0, 1, 2] rfl
  refine va_calli (va_runV (As := [.int (xs 1)]) (rest := [.int 0]) ⟨hx, hb, hml, hown, hG⟩ (kX9_rows l dC dI rM cM (fM 5) (xs 1) H1.size hfM_5_0) (cwV 1 hG (goodV gw1830 gw1831 gw1832 gw138 gw1833) rfl rfl rfl hd_X9_rows ⟨(Nat.le_of_ble_eq_true rfl), (Nat.le_of_ble_eq_true rfl)⟩) ⟨fbW, va_recv hKc hPc (ci := 8) (q0 := 0) rfl rfl, pW_in hPc hKc hDc⟩ rfl rfl hl.1 rfl (lv_room (Nat.le_of_ble_eq_true rfl)) dL_law_1397 ⟨(Nat.le_of_ble_eq_true rfl), (Nat.le_of_ble_eq_true rfl)⟩) hS (fun q _ h => hFc q h) hFc (fun r_4 u t H3 locs ht hvm hw hB hz1 hk1 hS => ?_)
  obtain ⟨hP, hD⟩ := va_join (wr := []) (w1 := []) hP hD [0, 1, 2] [] rfl rfl (by decide) (by decide) hk1 hFc (fun k q h => by simp at h) ⟨fun i j p q h => by simp at h, fun k q h => by simp at h⟩
  refine wt_c (v := 0) hw ?_
  refine lv_icmp_eq (tgt := 1540) hx hb dL_law_1400 (by decide) (fun c_5 => ?_) (fun c_5 => absurd (by decide) c_5)
  exact law_end l C0 hS hl
set_option maxHeartbeats 4000000 in
set_option maxRecDepth 100000 in
theorem law_43 {p : Program} {e : Env} {s : State} {m : MethodId} {below : List Frame} {meth : Method} {c : Code} (l : Launch) {b : Nat} {xs : Nat → Int32} (C0 : lw_At p s m meth c b 6 xs) (dC : Nat → ClassId) (dI : Nat → Nat → Nat) (rX rM : Nat → Nat) (cX cM : Nat → ClassId) (fX fM : Nat → Nat → Int32) (gX gM : Nat → Nat → Int64) (hfM_5_0 : fM 5 0 = 0) (hfM_5_1 : fM 5 1 = 0) {H : Heap} {locs : List Loc} (hK : va_K (dC, dI) vwCl [((cM 5), .int), ((cM 35), .int)] s) (hP : va_P (dC, dI) vwCl [(rX 0, .inr (7, [.ref (rX 1), .int 0, .ref (rX 2), .ref (rX 55), .ref (rX 57), .ref (rX 30), .ref (rX 56), .ref (rX 36), .ref (rX 37), .ref (rX 38), .int 0, .ref (rX 51), .int 0, .ref (rX 52), .ref (rX 53), .ref (rX 54)])), (rX 38, .inr (2, [.int 0, .ref (rX 39), .ref (rX 40), .ref (rX 41), .ref (rX 42), .ref (rX 43), .ref (rX 44), .int 0, .ref (rX 45), .ref (rX 46), .ref (rX 47), .ref (rX 48), .ref (rX 49), .ref (rX 50)])), (rX 55, .inr (3, [.int 1, .int 0, .int 0, .int 0, .ref (rX 20), .ref (rX 21), .ref (rX 22), .int 0, .ref (rX 23), .ref (rX 24), .ref (rX 25), .int 0, .ref (rX 28), .ref (rX 27)])), (rM 0, .inr (8, [.ref (rM 1), .ref (rM 2), .int 0, .int 0, .int 0, .int (-1), .int 0, .int 0, .int 0, .int 0, .long 0, .ref (rM 3), .ref (rM 4), .ref (rM 5), .ref (rM 6), .ref (rM 7), .ref (rM 8), .ref (rM 9), .ref (rM 10), .ref (rM 11), .ref (rM 12), .ref (rM 13), .ref (rM 14), .ref (rM 15), .ref (rM 16), .ref (rM 17), .ref (rM 18), .ref (rM 19), .ref (rM 20), .ref (rM 21), .ref (rM 22), .ref (rM 23), .ref (rM 24), .int 0, .int 0, .int 0, .int 0, .int 0, .int 0, .int 0, .int 0, .int 0, .ref (rM 25), .ref (rM 26), .ref (rM 27), .int 0, .int 0, .ref (rM 28), .int 0, .ref (rM 29), .ref (rM 30), .ref (rM 31), .ref (rM 32), .ref (rM 33), .ref (rM 34), .ref (rM 35), .ref (rM 36), .int 0, .int 0, .int 0, .ref (rM 37), .ref (rM 38)])), (rM 5, .inl ((cM 5), 2, .inl (fM 5))), (rM 35, .inl ((cM 35), 21, .inl (fun _ => 0)))] H) (hD : va_D (fun q : Nat => s.heap.size ≤ q) [(rX 0, .inr (7, [.ref (rX 1), .int 0, .ref (rX 2), .ref (rX 55), .ref (rX 57), .ref (rX 30), .ref (rX 56), .ref (rX 36), .ref (rX 37), .ref (rX 38), .int 0, .ref (rX 51), .int 0, .ref (rX 52), .ref (rX 53), .ref (rX 54)])), (rX 38, .inr (2, [.int 0, .ref (rX 39), .ref (rX 40), .ref (rX 41), .ref (rX 42), .ref (rX 43), .ref (rX 44), .int 0, .ref (rX 45), .ref (rX 46), .ref (rX 47), .ref (rX 48), .ref (rX 49), .ref (rX 50)])), (rX 55, .inr (3, [.int 1, .int 0, .int 0, .int 0, .ref (rX 20), .ref (rX 21), .ref (rX 22), .int 0, .ref (rX 23), .ref (rX 24), .ref (rX 25), .int 0, .ref (rX 28), .ref (rX 27)])), (rM 0, .inr (8, [.ref (rM 1), .ref (rM 2), .int 0, .int 0, .int 0, .int (-1), .int 0, .int 0, .int 0, .int 0, .long 0, .ref (rM 3), .ref (rM 4), .ref (rM 5), .ref (rM 6), .ref (rM 7), .ref (rM 8), .ref (rM 9), .ref (rM 10), .ref (rM 11), .ref (rM 12), .ref (rM 13), .ref (rM 14), .ref (rM 15), .ref (rM 16), .ref (rM 17), .ref (rM 18), .ref (rM 19), .ref (rM 20), .ref (rM 21), .ref (rM 22), .ref (rM 23), .ref (rM 24), .int 0, .int 0, .int 0, .int 0, .int 0, .int 0, .int 0, .int 0, .int 0, .ref (rM 25), .ref (rM 26), .ref (rM 27), .int 0, .int 0, .ref (rM 28), .int 0, .ref (rM 29), .ref (rM 30), .ref (rM 31), .ref (rM 32), .ref (rM 33), .ref (rM 34), .ref (rM 35), .ref (rM 36), .int 0, .int 0, .int 0, .ref (rM 37), .ref (rM 38)])), (rM 5, .inl ((cM 5), 2, .inl (fM 5))), (rM 35, .inl ((cM 35), 21, .inl (fun _ => 0)))]) (hS : va_S (fun q : Nat => s.heap.size ≤ q) s.heap H locs) {ls : Array Slot} (hl : lv_has ls 4 [(3, .int 0), (2, .ref (rM 0)), (1, .ref (rX 0)), (0, .ref b)]) : W p l e room_1 s m #[Value.ref b] below meth c H locs 103 20190 (lw_Z below #[Value.ref b] s) (F0 m 1405 ls []) := by
  obtain ⟨hx, hb, hr, hml, hown, hts, hX, hbl, hlocks, hgv⟩ := id C0
  have hown : s.vm.findClass RL = some m.cls := hown
  have hG : ∀ w ∈ GW, w.before _ s = true := fun w h => hts w (List.mem_filter.mp h).1
  have hA : ∀ q : Nat, s.heap.size ≤ q → (fun q : Nat => s.heap.size ≤ q) q := fun _ h => h
  have hbA : ¬ (fun q : Nat => s.heap.size ≤ q) b := Nat.not_le.mpr hbl
  refine lv_aload_n hx hb dL_law_1405 rfl (lv_at hl 2 rfl) ?_
  refine lv_aload_n hx hb dL_law_1406 rfl (lv_at hl 3 rfl) ?_
  refine lv_iload_n hx hb dL_law_1407 rfl (lv_at hl 0 rfl) ?_
  refine lv_iconst (v := 1) hx hb dL_law_1408 (by decide) ?_
  refine lv_iadd hx hb dL_law_1409 ?_
  refine wt_c (v := 1) (by decide) ?_
  refine va_sld hx hb hX hbl hbA hS (vin (by decide)) dL_law_1410 ?_
  refine wt_c (v := xs 1) (congrArg xs (by decide)) ?_
  refine lv_aload_n hx hb dL_law_1411 rfl (lv_at hl 3 rfl) ?_
  refine lv_iload_n hx hb dL_law_1412 rfl (lv_at hl 0 rfl) ?_
  refine lv_iconst (v := 2) hx hb dL_law_1413 (by decide) ?_
  refine lv_iadd hx hb dL_law_1414 ?_
  refine wt_c (v := 2) (by decide) ?_
  refine va_sld hx hb hX hbl hbA hS (vin (by decide)) dL_law_1415 ?_
  refine wt_c (v := xs 2) (congrArg xs (by decide)) ?_
  have hPc := hP.sub (ws' := [(rX 0, .inr (7, [.ref (rX 1), .int 0, .ref (rX 2), .ref (rX 55), .ref (rX 57), .ref (rX 30), .ref (rX 56), .ref (rX 36), .ref (rX 37), .ref (rX 38), .int 0, .ref (rX 51), .int 0, .ref (rX 52), .ref (rX 53), .ref (rX 54)])), (rX 38, .inr (2, [.int 0, .ref (rX 39), .ref (rX 40), .ref (rX 41), .ref (rX 42), .ref (rX 43), .ref (rX 44), .int 0, .ref (rX 45), .ref (rX 46), .ref (rX 47), .ref (rX 48), .ref (rX 49), .ref (rX 50)])), (rX 55, .inr (3, [.int 1, .int 0, .int 0, .int 0, .ref (rX 20), .ref (rX 21), .ref (rX 22), .int 0, .ref (rX 23), .ref (rX 24), .ref (rX 25), .int 0, .ref (rX 28), .ref (rX 27)]))]) [0, 1, 2] rfl
  have hKc := hK.sub (tys' := []) [] rfl
  have hDc := hD.sub (ws' := [(rX 0, .inr (7, [.ref (rX 1), .int 0, .ref (rX 2), .ref (rX 55), .ref (rX 57), .ref (rX 30), .ref (rX 56), .ref (rX 36), .ref (rX 37), .ref (rX 38), .int 0, .ref (rX 51), .int 0, .ref (rX 52), .ref (rX 53), .ref (rX 54)])), (rX 38, .inr (2, [.int 0, .ref (rX 39), .ref (rX 40), .ref (rX 41), .ref (rX 42), .ref (rX 43), .ref (rX 44), .int 0, .ref (rX 45), .ref (rX 46), .ref (rX 47), .ref (rX 48), .ref (rX 49), .ref (rX 50)])), (rX 55, .inr (3, [.int 1, .int 0, .int 0, .int 0, .ref (rX 20), .ref (rX 21), .ref (rX 22), .int 0, .ref (rX 23), .ref (rX 24), .ref (rX 25), .int 0, .ref (rX 28), .ref (rX 27)]))]) [0, 1, 2] (by decide) rfl
  have hFc := va_free (wc := [(rX 0, .inr (7, [.ref (rX 1), .int 0, .ref (rX 2), .ref (rX 55), .ref (rX 57), .ref (rX 30), .ref (rX 56), .ref (rX 36), .ref (rX 37), .ref (rX 38), .int 0, .ref (rX 51), .int 0, .ref (rX 52), .ref (rX 53), .ref (rX 54)])), (rX 38, .inr (2, [.int 0, .ref (rX 39), .ref (rX 40), .ref (rX 41), .ref (rX 42), .ref (rX 43), .ref (rX 44), .int 0, .ref (rX 45), .ref (rX 46), .ref (rX 47), .ref (rX 48), .ref (rX 49), .ref (rX 50)])), (rX 55, .inr (3, [.int 1, .int 0, .int 0, .int 0, .ref (rX 20), .ref (rX 21), .ref (rX 22), .int 0, .ref (rX 23), .ref (rX 24), .ref (rX 25), .int 0, .ref (rX 28), .ref (rX 27)]))]) hD hS hA [0, 1, 2] rfl
  refine va_calli (va_runV (As := [.int (xs 1), .int (xs 2)]) (rest := []) ⟨hx, hb, hml, hown, hG⟩ (kX8_sure l dC dI rX cX (xs 1) (xs 2) H.size ) (cwV 2 hG (goodV gw1114 gw1115 gw1116 gw129 gw1117) rfl rfl rfl hd_X8_sure ⟨(Nat.le_of_ble_eq_true rfl), (Nat.le_of_ble_eq_true rfl)⟩) ⟨fbW, va_recv hKc hPc (ci := 7) (q0 := 0) rfl rfl, pW_in hPc hKc hDc⟩ rfl rfl hl.1 rfl (lv_room (Nat.le_of_ble_eq_true rfl)) dL_law_1416 ⟨(Nat.le_of_ble_eq_true rfl), (Nat.le_of_ble_eq_true rfl)⟩) hS (fun q _ h => hFc q h) hFc (fun r_2 u t H1 locs ht hvm hw hB hz1 hk1 hS => ?_)
  obtain ⟨hP, hD⟩ := va_join (wr := [(rM 0, .inr (8, [.ref (rM 1), .ref (rM 2), .int 0, .int 0, .int 0, .int (-1), .int 0, .int 0, .int 0, .int 0, .long 0, .ref (rM 3), .ref (rM 4), .ref (rM 5), .ref (rM 6), .ref (rM 7), .ref (rM 8), .ref (rM 9), .ref (rM 10), .ref (rM 11), .ref (rM 12), .ref (rM 13), .ref (rM 14), .ref (rM 15), .ref (rM 16), .ref (rM 17), .ref (rM 18), .ref (rM 19), .ref (rM 20), .ref (rM 21), .ref (rM 22), .ref (rM 23), .ref (rM 24), .int 0, .int 0, .int 0, .int 0, .int 0, .int 0, .int 0, .int 0, .int 0, .ref (rM 25), .ref (rM 26), .ref (rM 27), .int 0, .int 0, .ref (rM 28), .int 0, .ref (rM 29), .ref (rM 30), .ref (rM 31), .ref (rM 32), .ref (rM 33), .ref (rM 34), .ref (rM 35), .ref (rM 36), .int 0, .int 0, .int 0, .ref (rM 37), .ref (rM 38)])), (rM 5, .inl ((cM 5), 2, .inl (fM 5))), (rM 35, .inl ((cM 35), 21, .inl (fun _ => 0)))]) (w1 := []) hP hD [0, 1, 2] [3, 4, 5] rfl rfl (by decide) (by decide) hk1 hFc (fun k q h => by simp at h) ⟨fun i j p q h => by simp at h, fun k q h => by simp at h⟩
  refine wt_c (v := (-1)) hw ?_
  refine lv_aload_n hx hb dL_law_1419 rfl (lv_at hl 1 rfl) ?_
  refine lv_aload_n hx hb dL_law_1420 rfl (lv_at hl 3 rfl) ?_
  refine lv_iload_n hx hb dL_law_1421 rfl (lv_at hl 0 rfl) ?_
  refine lv_iconst (v := 1) hx hb dL_law_1422 (by decide) ?_
  refine lv_iadd hx hb dL_law_1423 ?_
  refine wt_c (v := 1) (by decide) ?_
  refine va_sld hx hb hX hbl hbA hS (vin (by decide)) dL_law_1424 ?_
  refine wt_c (v := xs 1) (congrArg xs (by decide)) ?_
  refine lv_aload_n hx hb dL_law_1425 rfl (lv_at hl 3 rfl) ?_
  refine lv_iload_n hx hb dL_law_1426 rfl (lv_at hl 0 rfl) ?_
  refine lv_iconst (v := 2) hx hb dL_law_1427 (by decide) ?_
  refine lv_iadd hx hb dL_law_1428 ?_
  refine wt_c (v := 2) (by decide) ?_
  refine va_sld hx hb hX hbl hbA hS (vin (by decide)) dL_law_1429 ?_
  refine wt_c (v := xs 2) (congrArg xs (by decide)) ?_
  have hPc := hP.sub (ws' := [(rM 0, .inr (8, [.ref (rM 1), .ref (rM 2), .int 0, .int 0, .int 0, .int (-1), .int 0, .int 0, .int 0, .int 0, .long 0, .ref (rM 3), .ref (rM 4), .ref (rM 5), .ref (rM 6), .ref (rM 7), .ref (rM 8), .ref (rM 9), .ref (rM 10), .ref (rM 11), .ref (rM 12), .ref (rM 13), .ref (rM 14), .ref (rM 15), .ref (rM 16), .ref (rM 17), .ref (rM 18), .ref (rM 19), .ref (rM 20), .ref (rM 21), .ref (rM 22), .ref (rM 23), .ref (rM 24), .int 0, .int 0, .int 0, .int 0, .int 0, .int 0, .int 0, .int 0, .int 0, .ref (rM 25), .ref (rM 26), .ref (rM 27), .int 0, .int 0, .ref (rM 28), .int 0, .ref (rM 29), .ref (rM 30), .ref (rM 31), .ref (rM 32), .ref (rM 33), .ref (rM 34), .ref (rM 35), .ref (rM 36), .int 0, .int 0, .int 0, .ref (rM 37), .ref (rM 38)])), (rM 5, .inl ((cM 5), 2, .inl (fM 5))), (rM 35, .inl ((cM 35), 21, .inl (fun _ => 0)))]) [0, 1, 2] rfl
  have hKc := hK.sub (tys' := [((cM 5), .int), ((cM 35), .int)]) [0, 1] rfl
  have hDc := hD.sub (ws' := [(rM 0, .inr (8, [.ref (rM 1), .ref (rM 2), .int 0, .int 0, .int 0, .int (-1), .int 0, .int 0, .int 0, .int 0, .long 0, .ref (rM 3), .ref (rM 4), .ref (rM 5), .ref (rM 6), .ref (rM 7), .ref (rM 8), .ref (rM 9), .ref (rM 10), .ref (rM 11), .ref (rM 12), .ref (rM 13), .ref (rM 14), .ref (rM 15), .ref (rM 16), .ref (rM 17), .ref (rM 18), .ref (rM 19), .ref (rM 20), .ref (rM 21), .ref (rM 22), .ref (rM 23), .ref (rM 24), .int 0, .int 0, .int 0, .int 0, .int 0, .int 0, .int 0, .int 0, .int 0, .ref (rM 25), .ref (rM 26), .ref (rM 27), .int 0, .int 0, .ref (rM 28), .int 0, .ref (rM 29), .ref (rM 30), .ref (rM 31), .ref (rM 32), .ref (rM 33), .ref (rM 34), .ref (rM 35), .ref (rM 36), .int 0, .int 0, .int 0, .ref (rM 37), .ref (rM 38)])), (rM 5, .inl ((cM 5), 2, .inl (fM 5))), (rM 35, .inl ((cM 35), 21, .inl (fun _ => 0)))]) [0, 1, 2] (by decide) rfl
  have hFc := va_free (wc := [(rM 0, .inr (8, [.ref (rM 1), .ref (rM 2), .int 0, .int 0, .int 0, .int (-1), .int 0, .int 0, .int 0, .int 0, .long 0, .ref (rM 3), .ref (rM 4), .ref (rM 5), .ref (rM 6), .ref (rM 7), .ref (rM 8), .ref (rM 9), .ref (rM 10), .ref (rM 11), .ref (rM 12), .ref (rM 13), .ref (rM 14), .ref (rM 15), .ref (rM 16), .ref (rM 17), .ref (rM 18), .ref (rM 19), .ref (rM 20), .ref (rM 21), .ref (rM 22), .ref (rM 23), .ref (rM 24), .int 0, .int 0, .int 0, .int 0, .int 0, .int 0, .int 0, .int 0, .int 0, .ref (rM 25), .ref (rM 26), .ref (rM 27), .int 0, .int 0, .ref (rM 28), .int 0, .ref (rM 29), .ref (rM 30), .ref (rM 31), .ref (rM 32), .ref (rM 33), .ref (rM 34), .ref (rM 35), .ref (rM 36), .int 0, .int 0, .int 0, .ref (rM 37), .ref (rM 38)])), (rM 5, .inl ((cM 5), 2, .inl (fM 5))), (rM 35, .inl ((cM 35), 21, .inl (fun _ => 0)))]) hD hS hA [0, 1, 2] rfl
  refine va_calli (va_runV (As := [.int (xs 1), .int (xs 2)]) (rest := [.int (-1)]) ⟨hx, hb, hml, hown, hG⟩ (kX9_sure l dC dI rM cM (fM 5) (xs 1) (xs 2) H1.size hfM_5_0) (cwV 2 hG (goodV gw1849 gw1850 gw1851 gw138 gw1852) rfl rfl rfl hd_X9_sure ⟨(Nat.le_of_ble_eq_true rfl), (Nat.le_of_ble_eq_true rfl)⟩) ⟨fbW, va_recv hKc hPc (ci := 8) (q0 := 0) rfl rfl, pW_in hPc hKc hDc⟩ rfl rfl hl.1 rfl (lv_room (Nat.le_of_ble_eq_true rfl)) dL_law_1430 ⟨(Nat.le_of_ble_eq_true rfl), (Nat.le_of_ble_eq_true rfl)⟩) hS (fun q _ h => hFc q h) hFc (fun r_4 u t H3 locs ht hvm hw hB hz1 hk1 hS => ?_)
  obtain ⟨hP, hD⟩ := va_join (wr := []) (w1 := []) hP hD [0, 1, 2] [] rfl rfl (by decide) (by decide) hk1 hFc (fun k q h => by simp at h) ⟨fun i j p q h => by simp at h, fun k q h => by simp at h⟩
  refine wt_c (v := (-1)) hw ?_
  refine lv_icmp_eq (tgt := 1540) hx hb dL_law_1433 (by decide) (fun c_5 => ?_) (fun c_5 => absurd (by decide) c_5)
  exact law_end l C0 hS hl
set_option maxHeartbeats 4000000 in
set_option maxRecDepth 100000 in
theorem law_44 {p : Program} {e : Env} {s : State} {m : MethodId} {below : List Frame} {meth : Method} {c : Code} (l : Launch) {b : Nat} {xs : Nat → Int32} (C0 : lw_At p s m meth c b 6 xs) (dC : Nat → ClassId) (dI : Nat → Nat → Nat) (rX rM : Nat → Nat) (cX cM : Nat → ClassId) (fX fM : Nat → Nat → Int32) (gX gM : Nat → Nat → Int64) (hfM_4_0 : fM 4 0 = 0) (hfM_4_1 : fM 4 1 = 0) (hfM_5_0 : fM 5 0 = 0) (hfM_5_1 : fM 5 1 = 0) {H : Heap} {locs : List Loc} (hK : va_K (dC, dI) vwCl [((cM 4), .int), ((cM 5), .int), ((cM 35), .int)] s) (hP : va_P (dC, dI) vwCl [(rX 0, .inr (7, [.ref (rX 1), .int 0, .ref (rX 2), .ref (rX 55), .ref (rX 57), .ref (rX 30), .ref (rX 56), .ref (rX 36), .ref (rX 37), .ref (rX 38), .int 0, .ref (rX 51), .int 0, .ref (rX 52), .ref (rX 53), .ref (rX 54)])), (rX 55, .inr (3, [.int 1, .int 0, .int 0, .int 0, .ref (rX 20), .ref (rX 21), .ref (rX 22), .int 0, .ref (rX 23), .ref (rX 24), .ref (rX 25), .int 0, .ref (rX 28), .ref (rX 27)])), (rM 0, .inr (8, [.ref (rM 1), .ref (rM 2), .int 0, .int 0, .int 0, .int (-1), .int 0, .int 0, .int 0, .int 0, .long 0, .ref (rM 3), .ref (rM 4), .ref (rM 5), .ref (rM 6), .ref (rM 7), .ref (rM 8), .ref (rM 9), .ref (rM 10), .ref (rM 11), .ref (rM 12), .ref (rM 13), .ref (rM 14), .ref (rM 15), .ref (rM 16), .ref (rM 17), .ref (rM 18), .ref (rM 19), .ref (rM 20), .ref (rM 21), .ref (rM 22), .ref (rM 23), .ref (rM 24), .int 0, .int 0, .int 0, .int 0, .int 0, .int 0, .int 0, .int 0, .int 0, .ref (rM 25), .ref (rM 26), .ref (rM 27), .int 0, .int 0, .ref (rM 28), .int 0, .ref (rM 29), .ref (rM 30), .ref (rM 31), .ref (rM 32), .ref (rM 33), .ref (rM 34), .ref (rM 35), .ref (rM 36), .int 0, .int 0, .int 0, .ref (rM 37), .ref (rM 38)])), (rM 4, .inl ((cM 4), 2, .inl (fM 4))), (rM 5, .inl ((cM 5), 2, .inl (fM 5))), (rM 35, .inl ((cM 35), 21, .inl (fun _ => 0)))] H) (hD : va_D (fun q : Nat => s.heap.size ≤ q) [(rX 0, .inr (7, [.ref (rX 1), .int 0, .ref (rX 2), .ref (rX 55), .ref (rX 57), .ref (rX 30), .ref (rX 56), .ref (rX 36), .ref (rX 37), .ref (rX 38), .int 0, .ref (rX 51), .int 0, .ref (rX 52), .ref (rX 53), .ref (rX 54)])), (rX 55, .inr (3, [.int 1, .int 0, .int 0, .int 0, .ref (rX 20), .ref (rX 21), .ref (rX 22), .int 0, .ref (rX 23), .ref (rX 24), .ref (rX 25), .int 0, .ref (rX 28), .ref (rX 27)])), (rM 0, .inr (8, [.ref (rM 1), .ref (rM 2), .int 0, .int 0, .int 0, .int (-1), .int 0, .int 0, .int 0, .int 0, .long 0, .ref (rM 3), .ref (rM 4), .ref (rM 5), .ref (rM 6), .ref (rM 7), .ref (rM 8), .ref (rM 9), .ref (rM 10), .ref (rM 11), .ref (rM 12), .ref (rM 13), .ref (rM 14), .ref (rM 15), .ref (rM 16), .ref (rM 17), .ref (rM 18), .ref (rM 19), .ref (rM 20), .ref (rM 21), .ref (rM 22), .ref (rM 23), .ref (rM 24), .int 0, .int 0, .int 0, .int 0, .int 0, .int 0, .int 0, .int 0, .int 0, .ref (rM 25), .ref (rM 26), .ref (rM 27), .int 0, .int 0, .ref (rM 28), .int 0, .ref (rM 29), .ref (rM 30), .ref (rM 31), .ref (rM 32), .ref (rM 33), .ref (rM 34), .ref (rM 35), .ref (rM 36), .int 0, .int 0, .int 0, .ref (rM 37), .ref (rM 38)])), (rM 4, .inl ((cM 4), 2, .inl (fM 4))), (rM 5, .inl ((cM 5), 2, .inl (fM 5))), (rM 35, .inl ((cM 35), 21, .inl (fun _ => 0)))]) (hS : va_S (fun q : Nat => s.heap.size ≤ q) s.heap H locs) {ls : Array Slot} (hl : lv_has ls 4 [(3, .int 0), (2, .ref (rM 0)), (1, .ref (rX 0)), (0, .ref b)]) : W p l e room_1 s m #[Value.ref b] below meth c H locs 103 20190 (lw_Z below #[Value.ref b] s) (F0 m 1438 ls []) := by
  obtain ⟨hx, hb, hr, hml, hown, hts, hX, hbl, hlocks, hgv⟩ := id C0
  have hown : s.vm.findClass RL = some m.cls := hown
  have hG : ∀ w ∈ GW, w.before _ s = true := fun w h => hts w (List.mem_filter.mp h).1
  have hA : ∀ q : Nat, s.heap.size ≤ q → (fun q : Nat => s.heap.size ≤ q) q := fun _ h => h
  have hbA : ¬ (fun q : Nat => s.heap.size ≤ q) b := Nat.not_le.mpr hbl
  refine lv_aload_n hx hb dL_law_1438 rfl (lv_at hl 2 rfl) ?_
  refine lv_aload_n hx hb dL_law_1439 rfl (lv_at hl 3 rfl) ?_
  refine lv_iload_n hx hb dL_law_1440 rfl (lv_at hl 0 rfl) ?_
  refine lv_iconst (v := 1) hx hb dL_law_1441 (by decide) ?_
  refine lv_iadd hx hb dL_law_1442 ?_
  refine wt_c (v := 1) (by decide) ?_
  refine va_sld hx hb hX hbl hbA hS (vin (by decide)) dL_law_1443 ?_
  refine wt_c (v := xs 1) (congrArg xs (by decide)) ?_
  refine lv_aload_n hx hb dL_law_1444 rfl (lv_at hl 3 rfl) ?_
  refine lv_iload_n hx hb dL_law_1445 rfl (lv_at hl 0 rfl) ?_
  refine lv_iconst (v := 2) hx hb dL_law_1446 (by decide) ?_
  refine lv_iadd hx hb dL_law_1447 ?_
  refine wt_c (v := 2) (by decide) ?_
  refine va_sld hx hb hX hbl hbA hS (vin (by decide)) dL_law_1448 ?_
  refine wt_c (v := xs 2) (congrArg xs (by decide)) ?_
  have hPc := hP.sub (ws' := [(rX 0, .inr (7, [.ref (rX 1), .int 0, .ref (rX 2), .ref (rX 55), .ref (rX 57), .ref (rX 30), .ref (rX 56), .ref (rX 36), .ref (rX 37), .ref (rX 38), .int 0, .ref (rX 51), .int 0, .ref (rX 52), .ref (rX 53), .ref (rX 54)])), (rX 55, .inr (3, [.int 1, .int 0, .int 0, .int 0, .ref (rX 20), .ref (rX 21), .ref (rX 22), .int 0, .ref (rX 23), .ref (rX 24), .ref (rX 25), .int 0, .ref (rX 28), .ref (rX 27)]))]) [0, 1] rfl
  have hKc := hK.sub (tys' := []) [] rfl
  have hDc := hD.sub (ws' := [(rX 0, .inr (7, [.ref (rX 1), .int 0, .ref (rX 2), .ref (rX 55), .ref (rX 57), .ref (rX 30), .ref (rX 56), .ref (rX 36), .ref (rX 37), .ref (rX 38), .int 0, .ref (rX 51), .int 0, .ref (rX 52), .ref (rX 53), .ref (rX 54)])), (rX 55, .inr (3, [.int 1, .int 0, .int 0, .int 0, .ref (rX 20), .ref (rX 21), .ref (rX 22), .int 0, .ref (rX 23), .ref (rX 24), .ref (rX 25), .int 0, .ref (rX 28), .ref (rX 27)]))]) [0, 1] (by decide) rfl
  have hFc := va_free (wc := [(rX 0, .inr (7, [.ref (rX 1), .int 0, .ref (rX 2), .ref (rX 55), .ref (rX 57), .ref (rX 30), .ref (rX 56), .ref (rX 36), .ref (rX 37), .ref (rX 38), .int 0, .ref (rX 51), .int 0, .ref (rX 52), .ref (rX 53), .ref (rX 54)])), (rX 55, .inr (3, [.int 1, .int 0, .int 0, .int 0, .ref (rX 20), .ref (rX 21), .ref (rX 22), .int 0, .ref (rX 23), .ref (rX 24), .ref (rX 25), .int 0, .ref (rX 28), .ref (rX 27)]))]) hD hS hA [0, 1] rfl
  refine va_calli (va_runV (As := [.int (xs 1), .int (xs 2)]) (rest := []) ⟨hx, hb, hml, hown, hG⟩ (kX8_ask l dC dI rX cX (xs 1) (xs 2) H.size ) (cwV 2 hG (goodV gw1122 gw1123 gw1124 gw129 gw1125) rfl rfl rfl hd_X8_ask ⟨(Nat.le_of_ble_eq_true rfl), (Nat.le_of_ble_eq_true rfl)⟩) ⟨fbW, va_recv hKc hPc (ci := 7) (q0 := 0) rfl rfl, pW_in hPc hKc hDc⟩ rfl rfl hl.1 rfl (lv_room (Nat.le_of_ble_eq_true rfl)) dL_law_1449 ⟨(Nat.le_of_ble_eq_true rfl), (Nat.le_of_ble_eq_true rfl)⟩) hS (fun q _ h => hFc q h) hFc (fun r_2 u t H1 locs ht hvm hw hB hz1 hk1 hS => ?_)
  obtain ⟨hP, hD⟩ := va_join (wr := [(rM 0, .inr (8, [.ref (rM 1), .ref (rM 2), .int 0, .int 0, .int 0, .int (-1), .int 0, .int 0, .int 0, .int 0, .long 0, .ref (rM 3), .ref (rM 4), .ref (rM 5), .ref (rM 6), .ref (rM 7), .ref (rM 8), .ref (rM 9), .ref (rM 10), .ref (rM 11), .ref (rM 12), .ref (rM 13), .ref (rM 14), .ref (rM 15), .ref (rM 16), .ref (rM 17), .ref (rM 18), .ref (rM 19), .ref (rM 20), .ref (rM 21), .ref (rM 22), .ref (rM 23), .ref (rM 24), .int 0, .int 0, .int 0, .int 0, .int 0, .int 0, .int 0, .int 0, .int 0, .ref (rM 25), .ref (rM 26), .ref (rM 27), .int 0, .int 0, .ref (rM 28), .int 0, .ref (rM 29), .ref (rM 30), .ref (rM 31), .ref (rM 32), .ref (rM 33), .ref (rM 34), .ref (rM 35), .ref (rM 36), .int 0, .int 0, .int 0, .ref (rM 37), .ref (rM 38)])), (rM 4, .inl ((cM 4), 2, .inl (fM 4))), (rM 5, .inl ((cM 5), 2, .inl (fM 5))), (rM 35, .inl ((cM 35), 21, .inl (fun _ => 0)))]) (w1 := []) hP hD [0, 1] [2, 3, 4, 5] rfl rfl (by decide) (by decide) hk1 hFc (fun k q h => by simp at h) ⟨fun i j p q h => by simp at h, fun k q h => by simp at h⟩
  refine wt_c (v := (-1)) hw ?_
  refine lv_aload_n hx hb dL_law_1452 rfl (lv_at hl 1 rfl) ?_
  refine lv_aload_n hx hb dL_law_1453 rfl (lv_at hl 3 rfl) ?_
  refine lv_iload_n hx hb dL_law_1454 rfl (lv_at hl 0 rfl) ?_
  refine lv_iconst (v := 1) hx hb dL_law_1455 (by decide) ?_
  refine lv_iadd hx hb dL_law_1456 ?_
  refine wt_c (v := 1) (by decide) ?_
  refine va_sld hx hb hX hbl hbA hS (vin (by decide)) dL_law_1457 ?_
  refine wt_c (v := xs 1) (congrArg xs (by decide)) ?_
  refine lv_aload_n hx hb dL_law_1458 rfl (lv_at hl 3 rfl) ?_
  refine lv_iload_n hx hb dL_law_1459 rfl (lv_at hl 0 rfl) ?_
  refine lv_iconst (v := 2) hx hb dL_law_1460 (by decide) ?_
  refine lv_iadd hx hb dL_law_1461 ?_
  refine wt_c (v := 2) (by decide) ?_
  refine va_sld hx hb hX hbl hbA hS (vin (by decide)) dL_law_1462 ?_
  refine wt_c (v := xs 2) (congrArg xs (by decide)) ?_
  have hPc := hP.sub (ws' := [(rM 0, .inr (8, [.ref (rM 1), .ref (rM 2), .int 0, .int 0, .int 0, .int (-1), .int 0, .int 0, .int 0, .int 0, .long 0, .ref (rM 3), .ref (rM 4), .ref (rM 5), .ref (rM 6), .ref (rM 7), .ref (rM 8), .ref (rM 9), .ref (rM 10), .ref (rM 11), .ref (rM 12), .ref (rM 13), .ref (rM 14), .ref (rM 15), .ref (rM 16), .ref (rM 17), .ref (rM 18), .ref (rM 19), .ref (rM 20), .ref (rM 21), .ref (rM 22), .ref (rM 23), .ref (rM 24), .int 0, .int 0, .int 0, .int 0, .int 0, .int 0, .int 0, .int 0, .int 0, .ref (rM 25), .ref (rM 26), .ref (rM 27), .int 0, .int 0, .ref (rM 28), .int 0, .ref (rM 29), .ref (rM 30), .ref (rM 31), .ref (rM 32), .ref (rM 33), .ref (rM 34), .ref (rM 35), .ref (rM 36), .int 0, .int 0, .int 0, .ref (rM 37), .ref (rM 38)])), (rM 4, .inl ((cM 4), 2, .inl (fM 4))), (rM 5, .inl ((cM 5), 2, .inl (fM 5))), (rM 35, .inl ((cM 35), 21, .inl (fun _ => 0)))]) [0, 1, 2, 3] rfl
  have hKc := hK.sub (tys' := [((cM 4), .int), ((cM 5), .int), ((cM 35), .int)]) [0, 1, 2] rfl
  have hDc := hD.sub (ws' := [(rM 0, .inr (8, [.ref (rM 1), .ref (rM 2), .int 0, .int 0, .int 0, .int (-1), .int 0, .int 0, .int 0, .int 0, .long 0, .ref (rM 3), .ref (rM 4), .ref (rM 5), .ref (rM 6), .ref (rM 7), .ref (rM 8), .ref (rM 9), .ref (rM 10), .ref (rM 11), .ref (rM 12), .ref (rM 13), .ref (rM 14), .ref (rM 15), .ref (rM 16), .ref (rM 17), .ref (rM 18), .ref (rM 19), .ref (rM 20), .ref (rM 21), .ref (rM 22), .ref (rM 23), .ref (rM 24), .int 0, .int 0, .int 0, .int 0, .int 0, .int 0, .int 0, .int 0, .int 0, .ref (rM 25), .ref (rM 26), .ref (rM 27), .int 0, .int 0, .ref (rM 28), .int 0, .ref (rM 29), .ref (rM 30), .ref (rM 31), .ref (rM 32), .ref (rM 33), .ref (rM 34), .ref (rM 35), .ref (rM 36), .int 0, .int 0, .int 0, .ref (rM 37), .ref (rM 38)])), (rM 4, .inl ((cM 4), 2, .inl (fM 4))), (rM 5, .inl ((cM 5), 2, .inl (fM 5))), (rM 35, .inl ((cM 35), 21, .inl (fun _ => 0)))]) [0, 1, 2, 3] (by decide) rfl
  have hFc := va_free (wc := [(rM 0, .inr (8, [.ref (rM 1), .ref (rM 2), .int 0, .int 0, .int 0, .int (-1), .int 0, .int 0, .int 0, .int 0, .long 0, .ref (rM 3), .ref (rM 4), .ref (rM 5), .ref (rM 6), .ref (rM 7), .ref (rM 8), .ref (rM 9), .ref (rM 10), .ref (rM 11), .ref (rM 12), .ref (rM 13), .ref (rM 14), .ref (rM 15), .ref (rM 16), .ref (rM 17), .ref (rM 18), .ref (rM 19), .ref (rM 20), .ref (rM 21), .ref (rM 22), .ref (rM 23), .ref (rM 24), .int 0, .int 0, .int 0, .int 0, .int 0, .int 0, .int 0, .int 0, .int 0, .ref (rM 25), .ref (rM 26), .ref (rM 27), .int 0, .int 0, .ref (rM 28), .int 0, .ref (rM 29), .ref (rM 30), .ref (rM 31), .ref (rM 32), .ref (rM 33), .ref (rM 34), .ref (rM 35), .ref (rM 36), .int 0, .int 0, .int 0, .ref (rM 37), .ref (rM 38)])), (rM 4, .inl ((cM 4), 2, .inl (fM 4))), (rM 5, .inl ((cM 5), 2, .inl (fM 5))), (rM 35, .inl ((cM 35), 21, .inl (fun _ => 0)))]) hD hS hA [0, 1, 2, 3] rfl
  refine va_calli (va_runV (As := [.int (xs 1), .int (xs 2)]) (rest := [.int (-1)]) ⟨hx, hb, hml, hown, hG⟩ (kX9_ask l dC dI rM cM (fM 4) (fM 5) (xs 1) (xs 2) H1.size hfM_4_0 hfM_5_0) (cwV 2 hG (goodV gw1853 gw1854 gw1855 gw138 gw1856) rfl rfl rfl hd_X9_ask ⟨(Nat.le_of_ble_eq_true rfl), (Nat.le_of_ble_eq_true rfl)⟩) ⟨fbW, va_recv hKc hPc (ci := 8) (q0 := 0) rfl rfl, pW_in hPc hKc hDc⟩ rfl rfl hl.1 rfl (lv_room (Nat.le_of_ble_eq_true rfl)) dL_law_1463 ⟨(Nat.le_of_ble_eq_true rfl), (Nat.le_of_ble_eq_true rfl)⟩) hS (fun q _ h => hFc q h) hFc (fun r_4 u t H3 locs ht hvm hw hB hz1 hk1 hS => ?_)
  obtain ⟨hP, hD⟩ := va_join (wr := []) (w1 := []) hP hD [0, 1, 2, 3] [] rfl rfl (by decide) (by decide) hk1 hFc (fun k q h => by simp at h) ⟨fun i j p q h => by simp at h, fun k q h => by simp at h⟩
  refine wt_c (v := (-1)) hw ?_
  refine lv_icmp_eq (tgt := 1540) hx hb dL_law_1466 (by decide) (fun c_5 => ?_) (fun c_5 => absurd (by decide) c_5)
  exact law_end l C0 hS hl
set_option maxHeartbeats 4000000 in
set_option maxRecDepth 100000 in
theorem law_45 {p : Program} {e : Env} {s : State} {m : MethodId} {below : List Frame} {meth : Method} {c : Code} (l : Launch) {b : Nat} {xs : Nat → Int32} (C0 : lw_At p s m meth c b 6 xs) (dC : Nat → ClassId) (dI : Nat → Nat → Nat) (rX rM : Nat → Nat) (cX cM : Nat → ClassId) (fX fM : Nat → Nat → Int32) (gX gM : Nat → Nat → Int64) (hfM_25_24 : fM 25 24 = 0) (hfM_25_25 : fM 25 25 = 0) (hfM_38_0 : fM 38 0 = 0) (hfM_38_1 : fM 38 1 = 0) (hfM_38_2 : fM 38 2 = 0) {H : Heap} {locs : List Loc} (hK : va_K (dC, dI) vwCl [((cX 36), .int), ((cX 37), .boolean), ((cX 59), .int), ((cX 60), .int), ((cX 61), .int), ((cX 62), .int), ((cX 63), .int), ((cM 25), .int), ((cM 37), .int), ((cM 38), .boolean)] s) (hP : va_P (dC, dI) vwCl [(rX 0, .inr (7, [.ref (rX 1), .int 0, .ref (rX 2), .ref (rX 55), .ref (rX 57), .ref (rX 30), .ref (rX 56), .ref (rX 36), .ref (rX 37), .ref (rX 38), .int 0, .ref (rX 51), .int 0, .ref (rX 52), .ref (rX 53), .ref (rX 54)])), (rX 36, .inl ((cX 36), 78, .inl (fun _ => 0))), (rX 37, .inl ((cX 37), 3, .inl (fun _ => 0))), (rX 57, .inr (6, [.ref (rX 59), .ref (rX 60), .ref (rX 61), .ref (rX 62), .ref (rX 63), .int 0, .int 0])), (rX 59, .inl ((cX 59), 5, .inl (fX 59))), (rX 60, .inl ((cX 60), 5, .inl (fX 60))), (rX 61, .inl ((cX 61), 5, .inl (fX 61))), (rX 62, .inl ((cX 62), 5, .inl (fX 62))), (rX 63, .inl ((cX 63), 4, .inl (fX 63))), (rM 0, .inr (8, [.ref (rM 1), .ref (rM 2), .int 0, .int 0, .int 0, .int (-1), .int 0, .int 0, .int 0, .int 0, .long 0, .ref (rM 3), .ref (rM 4), .ref (rM 5), .ref (rM 6), .ref (rM 7), .ref (rM 8), .ref (rM 9), .ref (rM 10), .ref (rM 11), .ref (rM 12), .ref (rM 13), .ref (rM 14), .ref (rM 15), .ref (rM 16), .ref (rM 17), .ref (rM 18), .ref (rM 19), .ref (rM 20), .ref (rM 21), .ref (rM 22), .ref (rM 23), .ref (rM 24), .int 0, .int 0, .int 0, .int 0, .int 0, .int 0, .int 0, .int 0, .int 0, .ref (rM 25), .ref (rM 26), .ref (rM 27), .int 0, .int 0, .ref (rM 28), .int 0, .ref (rM 29), .ref (rM 30), .ref (rM 31), .ref (rM 32), .ref (rM 33), .ref (rM 34), .ref (rM 35), .ref (rM 36), .int 0, .int 0, .int 0, .ref (rM 37), .ref (rM 38)])), (rM 25, .inl ((cM 25), 26, .inl (fM 25))), (rM 37, .inl ((cM 37), 78, .inl (fun _ => 0))), (rM 38, .inl ((cM 38), 3, .inl (fM 38)))] H) (hD : va_D (fun q : Nat => s.heap.size ≤ q) [(rX 0, .inr (7, [.ref (rX 1), .int 0, .ref (rX 2), .ref (rX 55), .ref (rX 57), .ref (rX 30), .ref (rX 56), .ref (rX 36), .ref (rX 37), .ref (rX 38), .int 0, .ref (rX 51), .int 0, .ref (rX 52), .ref (rX 53), .ref (rX 54)])), (rX 36, .inl ((cX 36), 78, .inl (fun _ => 0))), (rX 37, .inl ((cX 37), 3, .inl (fun _ => 0))), (rX 57, .inr (6, [.ref (rX 59), .ref (rX 60), .ref (rX 61), .ref (rX 62), .ref (rX 63), .int 0, .int 0])), (rX 59, .inl ((cX 59), 5, .inl (fX 59))), (rX 60, .inl ((cX 60), 5, .inl (fX 60))), (rX 61, .inl ((cX 61), 5, .inl (fX 61))), (rX 62, .inl ((cX 62), 5, .inl (fX 62))), (rX 63, .inl ((cX 63), 4, .inl (fX 63))), (rM 0, .inr (8, [.ref (rM 1), .ref (rM 2), .int 0, .int 0, .int 0, .int (-1), .int 0, .int 0, .int 0, .int 0, .long 0, .ref (rM 3), .ref (rM 4), .ref (rM 5), .ref (rM 6), .ref (rM 7), .ref (rM 8), .ref (rM 9), .ref (rM 10), .ref (rM 11), .ref (rM 12), .ref (rM 13), .ref (rM 14), .ref (rM 15), .ref (rM 16), .ref (rM 17), .ref (rM 18), .ref (rM 19), .ref (rM 20), .ref (rM 21), .ref (rM 22), .ref (rM 23), .ref (rM 24), .int 0, .int 0, .int 0, .int 0, .int 0, .int 0, .int 0, .int 0, .int 0, .ref (rM 25), .ref (rM 26), .ref (rM 27), .int 0, .int 0, .ref (rM 28), .int 0, .ref (rM 29), .ref (rM 30), .ref (rM 31), .ref (rM 32), .ref (rM 33), .ref (rM 34), .ref (rM 35), .ref (rM 36), .int 0, .int 0, .int 0, .ref (rM 37), .ref (rM 38)])), (rM 25, .inl ((cM 25), 26, .inl (fM 25))), (rM 37, .inl ((cM 37), 78, .inl (fun _ => 0))), (rM 38, .inl ((cM 38), 3, .inl (fM 38)))]) (hS : va_S (fun q : Nat => s.heap.size ≤ q) s.heap H locs) {ls : Array Slot} (hl : lv_has ls 4 [(3, .int 0), (2, .ref (rM 0)), (1, .ref (rX 0)), (0, .ref b)]) : W p l e room_1 s m #[Value.ref b] below meth c H locs 103 20190 (lw_Z below #[Value.ref b] s) (F0 m 1471 ls []) := by
  obtain ⟨hx, hb, hr, hml, hown, hts, hX, hbl, hlocks, hgv⟩ := id C0
  have hown : s.vm.findClass RL = some m.cls := hown
  have hG : ∀ w ∈ GW, w.before _ s = true := fun w h => hts w (List.mem_filter.mp h).1
  have hA : ∀ q : Nat, s.heap.size ≤ q → (fun q : Nat => s.heap.size ≤ q) q := fun _ h => h
  have hbA : ¬ (fun q : Nat => s.heap.size ≤ q) b := Nat.not_le.mpr hbl
  refine lv_aload_n hx hb dL_law_1471 rfl (lv_at hl 2 rfl) ?_
  refine lv_aload_n hx hb dL_law_1472 rfl (lv_at hl 3 rfl) ?_
  refine lv_iload_n hx hb dL_law_1473 rfl (lv_at hl 0 rfl) ?_
  refine lv_iconst (v := 1) hx hb dL_law_1474 (by decide) ?_
  refine lv_iadd hx hb dL_law_1475 ?_
  refine wt_c (v := 1) (by decide) ?_
  refine va_sld hx hb hX hbl hbA hS (vin (by decide)) dL_law_1476 ?_
  refine wt_c (v := xs 1) (congrArg xs (by decide)) ?_
  have hPc := hP.sub (ws' := [(rX 0, .inr (7, [.ref (rX 1), .int 0, .ref (rX 2), .ref (rX 55), .ref (rX 57), .ref (rX 30), .ref (rX 56), .ref (rX 36), .ref (rX 37), .ref (rX 38), .int 0, .ref (rX 51), .int 0, .ref (rX 52), .ref (rX 53), .ref (rX 54)])), (rX 36, .inl ((cX 36), 78, .inl (fun _ => 0))), (rX 37, .inl ((cX 37), 3, .inl (fun _ => 0))), (rX 57, .inr (6, [.ref (rX 59), .ref (rX 60), .ref (rX 61), .ref (rX 62), .ref (rX 63), .int 0, .int 0])), (rX 59, .inl ((cX 59), 5, .inl (fX 59))), (rX 60, .inl ((cX 60), 5, .inl (fX 60))), (rX 61, .inl ((cX 61), 5, .inl (fX 61))), (rX 62, .inl ((cX 62), 5, .inl (fX 62))), (rX 63, .inl ((cX 63), 4, .inl (fX 63)))]) [0, 1, 2, 3, 4, 5, 6, 7, 8] rfl
  have hKc := hK.sub (tys' := [((cX 36), .int), ((cX 37), .boolean), ((cX 59), .int), ((cX 60), .int), ((cX 61), .int), ((cX 62), .int), ((cX 63), .int)]) [0, 1, 2, 3, 4, 5, 6] rfl
  have hDc := hD.sub (ws' := [(rX 0, .inr (7, [.ref (rX 1), .int 0, .ref (rX 2), .ref (rX 55), .ref (rX 57), .ref (rX 30), .ref (rX 56), .ref (rX 36), .ref (rX 37), .ref (rX 38), .int 0, .ref (rX 51), .int 0, .ref (rX 52), .ref (rX 53), .ref (rX 54)])), (rX 36, .inl ((cX 36), 78, .inl (fun _ => 0))), (rX 37, .inl ((cX 37), 3, .inl (fun _ => 0))), (rX 57, .inr (6, [.ref (rX 59), .ref (rX 60), .ref (rX 61), .ref (rX 62), .ref (rX 63), .int 0, .int 0])), (rX 59, .inl ((cX 59), 5, .inl (fX 59))), (rX 60, .inl ((cX 60), 5, .inl (fX 60))), (rX 61, .inl ((cX 61), 5, .inl (fX 61))), (rX 62, .inl ((cX 62), 5, .inl (fX 62))), (rX 63, .inl ((cX 63), 4, .inl (fX 63)))]) [0, 1, 2, 3, 4, 5, 6, 7, 8] (by decide) rfl
  have hFc := va_free (wc := [(rX 0, .inr (7, [.ref (rX 1), .int 0, .ref (rX 2), .ref (rX 55), .ref (rX 57), .ref (rX 30), .ref (rX 56), .ref (rX 36), .ref (rX 37), .ref (rX 38), .int 0, .ref (rX 51), .int 0, .ref (rX 52), .ref (rX 53), .ref (rX 54)])), (rX 36, .inl ((cX 36), 78, .inl (fun _ => 0))), (rX 37, .inl ((cX 37), 3, .inl (fun _ => 0))), (rX 57, .inr (6, [.ref (rX 59), .ref (rX 60), .ref (rX 61), .ref (rX 62), .ref (rX 63), .int 0, .int 0])), (rX 59, .inl ((cX 59), 5, .inl (fX 59))), (rX 60, .inl ((cX 60), 5, .inl (fX 60))), (rX 61, .inl ((cX 61), 5, .inl (fX 61))), (rX 62, .inl ((cX 62), 5, .inl (fX 62))), (rX 63, .inl ((cX 63), 4, .inl (fX 63)))]) hD hS hA [0, 1, 2, 3, 4, 5, 6, 7, 8] rfl
  refine va_calli (va_runV (As := [.int (xs 1)]) (rest := []) ⟨hx, hb, hml, hown, hG⟩ (kX8_image l dC dI rX cX (fX 59) (fX 60) (fX 61) (fX 62) (fX 63) (xs 1) H.size ) (cwV 1 hG (goodV gw1135 gw1136 gw1137 gw129 gw1138) rfl rfl rfl hd_X8_image ⟨(Nat.le_of_ble_eq_true rfl), (Nat.le_of_ble_eq_true rfl)⟩) ⟨fbW, va_recv hKc hPc (ci := 7) (q0 := 0) rfl rfl, pW_in hPc hKc hDc⟩ rfl rfl hl.1 rfl (lv_room (Nat.le_of_ble_eq_true rfl)) dL_law_1477 ⟨(Nat.le_of_ble_eq_true rfl), (Nat.le_of_ble_eq_true rfl)⟩) hS (fun q _ h => hFc q h) hFc (fun r_2 u t H1 locs ht hvm hw hB hz1 hk1 hS => ?_)
  rcases hw with ⟨rfl, hy3, hw⟩ | ⟨rfl, hy4, hw⟩ | ⟨rfl, hy5, hw⟩ | ⟨rfl, hy6, hw⟩ | ⟨rfl, hy7, hy8, hw⟩
  · skip
    obtain ⟨hP, hD⟩ := va_join (wr := [(rM 0, .inr (8, [.ref (rM 1), .ref (rM 2), .int 0, .int 0, .int 0, .int (-1), .int 0, .int 0, .int 0, .int 0, .long 0, .ref (rM 3), .ref (rM 4), .ref (rM 5), .ref (rM 6), .ref (rM 7), .ref (rM 8), .ref (rM 9), .ref (rM 10), .ref (rM 11), .ref (rM 12), .ref (rM 13), .ref (rM 14), .ref (rM 15), .ref (rM 16), .ref (rM 17), .ref (rM 18), .ref (rM 19), .ref (rM 20), .ref (rM 21), .ref (rM 22), .ref (rM 23), .ref (rM 24), .int 0, .int 0, .int 0, .int 0, .int 0, .int 0, .int 0, .int 0, .int 0, .ref (rM 25), .ref (rM 26), .ref (rM 27), .int 0, .int 0, .ref (rM 28), .int 0, .ref (rM 29), .ref (rM 30), .ref (rM 31), .ref (rM 32), .ref (rM 33), .ref (rM 34), .ref (rM 35), .ref (rM 36), .int 0, .int 0, .int 0, .ref (rM 37), .ref (rM 38)])), (rM 25, .inl ((cM 25), 26, .inl (fM 25))), (rM 37, .inl ((cM 37), 78, .inl (fun _ => 0))), (rM 38, .inl ((cM 38), 3, .inl (fM 38)))]) (w1 := []) hP hD [0, 1, 2, 3, 4, 5, 6, 7, 8] [9, 10, 11, 12] rfl rfl (by decide) (by decide) hk1 hFc (fun k q h => by simp at h) ⟨fun i j p q h => by simp at h, fun k q h => by simp at h⟩
    refine wt_c (v := (-1)) hw ?_
    refine lv_aload_n hx hb dL_law_1480 rfl (lv_at hl 1 rfl) ?_
    refine lv_aload_n hx hb dL_law_1481 rfl (lv_at hl 3 rfl) ?_
    refine lv_iload_n hx hb dL_law_1482 rfl (lv_at hl 0 rfl) ?_
    refine lv_iconst (v := 1) hx hb dL_law_1483 (by decide) ?_
    refine lv_iadd hx hb dL_law_1484 ?_
    refine wt_c (v := 1) (by decide) ?_
    refine va_sld hx hb hX hbl hbA hS (vin (by decide)) dL_law_1485 ?_
    refine wt_c (v := xs 1) (congrArg xs (by decide)) ?_
    have hPc := hP.sub (ws' := [(rM 0, .inr (8, [.ref (rM 1), .ref (rM 2), .int 0, .int 0, .int 0, .int (-1), .int 0, .int 0, .int 0, .int 0, .long 0, .ref (rM 3), .ref (rM 4), .ref (rM 5), .ref (rM 6), .ref (rM 7), .ref (rM 8), .ref (rM 9), .ref (rM 10), .ref (rM 11), .ref (rM 12), .ref (rM 13), .ref (rM 14), .ref (rM 15), .ref (rM 16), .ref (rM 17), .ref (rM 18), .ref (rM 19), .ref (rM 20), .ref (rM 21), .ref (rM 22), .ref (rM 23), .ref (rM 24), .int 0, .int 0, .int 0, .int 0, .int 0, .int 0, .int 0, .int 0, .int 0, .ref (rM 25), .ref (rM 26), .ref (rM 27), .int 0, .int 0, .ref (rM 28), .int 0, .ref (rM 29), .ref (rM 30), .ref (rM 31), .ref (rM 32), .ref (rM 33), .ref (rM 34), .ref (rM 35), .ref (rM 36), .int 0, .int 0, .int 0, .ref (rM 37), .ref (rM 38)])), (rM 25, .inl ((cM 25), 26, .inl (fM 25))), (rM 37, .inl ((cM 37), 78, .inl (fun _ => 0))), (rM 38, .inl ((cM 38), 3, .inl (fM 38)))]) [0, 1, 2, 3] rfl
    have hKc := hK.sub (tys' := [((cM 25), .int), ((cM 37), .int), ((cM 38), .boolean)]) [7, 8, 9] rfl
    have hDc := hD.sub (ws' := [(rM 0, .inr (8, [.ref (rM 1), .ref (rM 2), .int 0, .int 0, .int 0, .int (-1), .int 0, .int 0, .int 0, .int 0, .long 0, .ref (rM 3), .ref (rM 4), .ref (rM 5), .ref (rM 6), .ref (rM 7), .ref (rM 8), .ref (rM 9), .ref (rM 10), .ref (rM 11), .ref (rM 12), .ref (rM 13), .ref (rM 14), .ref (rM 15), .ref (rM 16), .ref (rM 17), .ref (rM 18), .ref (rM 19), .ref (rM 20), .ref (rM 21), .ref (rM 22), .ref (rM 23), .ref (rM 24), .int 0, .int 0, .int 0, .int 0, .int 0, .int 0, .int 0, .int 0, .int 0, .ref (rM 25), .ref (rM 26), .ref (rM 27), .int 0, .int 0, .ref (rM 28), .int 0, .ref (rM 29), .ref (rM 30), .ref (rM 31), .ref (rM 32), .ref (rM 33), .ref (rM 34), .ref (rM 35), .ref (rM 36), .int 0, .int 0, .int 0, .ref (rM 37), .ref (rM 38)])), (rM 25, .inl ((cM 25), 26, .inl (fM 25))), (rM 37, .inl ((cM 37), 78, .inl (fun _ => 0))), (rM 38, .inl ((cM 38), 3, .inl (fM 38)))]) [0, 1, 2, 3] (by decide) rfl
    have hFc := va_free (wc := [(rM 0, .inr (8, [.ref (rM 1), .ref (rM 2), .int 0, .int 0, .int 0, .int (-1), .int 0, .int 0, .int 0, .int 0, .long 0, .ref (rM 3), .ref (rM 4), .ref (rM 5), .ref (rM 6), .ref (rM 7), .ref (rM 8), .ref (rM 9), .ref (rM 10), .ref (rM 11), .ref (rM 12), .ref (rM 13), .ref (rM 14), .ref (rM 15), .ref (rM 16), .ref (rM 17), .ref (rM 18), .ref (rM 19), .ref (rM 20), .ref (rM 21), .ref (rM 22), .ref (rM 23), .ref (rM 24), .int 0, .int 0, .int 0, .int 0, .int 0, .int 0, .int 0, .int 0, .int 0, .ref (rM 25), .ref (rM 26), .ref (rM 27), .int 0, .int 0, .ref (rM 28), .int 0, .ref (rM 29), .ref (rM 30), .ref (rM 31), .ref (rM 32), .ref (rM 33), .ref (rM 34), .ref (rM 35), .ref (rM 36), .int 0, .int 0, .int 0, .ref (rM 37), .ref (rM 38)])), (rM 25, .inl ((cM 25), 26, .inl (fM 25))), (rM 37, .inl ((cM 37), 78, .inl (fun _ => 0))), (rM 38, .inl ((cM 38), 3, .inl (fM 38)))]) hD hS hA [0, 1, 2, 3] rfl
    refine va_calli (va_runV (As := [.int (xs 1)]) (rest := [.int (-1)]) ⟨hx, hb, hml, hown, hG⟩ (kX9_image l dC dI rM cM (fM 25) (fM 38) (xs 1) H1.size hfM_25_24 hfM_25_25) (cwV 1 hG (goodV gw1861 gw1862 gw1863 gw138 gw1864) rfl rfl rfl hd_X9_image ⟨(Nat.le_of_ble_eq_true rfl), (Nat.le_of_ble_eq_true rfl)⟩) ⟨fbW, va_recv hKc hPc (ci := 8) (q0 := 0) rfl rfl, pW_in hPc hKc hDc⟩ rfl rfl hl.1 rfl (lv_room (Nat.le_of_ble_eq_true rfl)) dL_law_1486 ⟨(Nat.le_of_ble_eq_true rfl), (Nat.le_of_ble_eq_true rfl)⟩) hS (fun q _ h => hFc q h) hFc (fun r_10 u t H9 locs ht hvm hw hB hz1 hk1 hS => ?_)
    rcases hw with ⟨rfl, hy11, hw⟩ | ⟨rfl, hy12, hy13, hw⟩ | ⟨rfl, hy14, hw⟩ | ⟨rfl, hy15, hw⟩ | ⟨rfl, hy16, hw⟩
    · skip
      obtain ⟨hP, hD⟩ := va_join (wr := []) (w1 := []) hP hD [0, 1, 2, 3] [] rfl rfl (by decide) (by decide) hk1 hFc (fun k q h => by simp at h) ⟨fun i j p q h => by simp at h, fun k q h => by simp at h⟩
      refine wt_c (v := (-1)) hw ?_
      refine lv_icmp_eq (tgt := 1540) hx hb dL_law_1489 (by decide) (fun c_17 => ?_) (fun c_17 => absurd (by decide) c_17)
      exact law_end l C0 hS hl
    · skip
      exact ((by have k0 := q_lt hy3; have k1 := q_nlt hy12; have k2 := q_lt hy13; have z0 : (0 : Int32).toInt = 0 := (by decide); have z2 : (2 : Int32).toInt = 2 := (by decide); omega) : False).elim
    · skip
      exact ((by have k0 := q_lt hy3; have k1 := q_eq hy14; have z0 : (0 : Int32).toInt = 0 := (by decide); omega) : False).elim
    · skip
      exact ((by have k0 := q_lt hy3; have k1 := q_eq hy15; have z0 : (0 : Int32).toInt = 0 := (by decide); have z1 : (1 : Int32).toInt = 1 := (by decide); omega) : False).elim
    · skip
      exact ((by have k0 := q_lt hy3; have k1 := q_eq hy16; have z0 : (0 : Int32).toInt = 0 := (by decide); have z2 : (2 : Int32).toInt = 2 := (by decide); omega) : False).elim
  · skip
    obtain ⟨hP, hD⟩ := va_join (wr := [(rM 0, .inr (8, [.ref (rM 1), .ref (rM 2), .int 0, .int 0, .int 0, .int (-1), .int 0, .int 0, .int 0, .int 0, .long 0, .ref (rM 3), .ref (rM 4), .ref (rM 5), .ref (rM 6), .ref (rM 7), .ref (rM 8), .ref (rM 9), .ref (rM 10), .ref (rM 11), .ref (rM 12), .ref (rM 13), .ref (rM 14), .ref (rM 15), .ref (rM 16), .ref (rM 17), .ref (rM 18), .ref (rM 19), .ref (rM 20), .ref (rM 21), .ref (rM 22), .ref (rM 23), .ref (rM 24), .int 0, .int 0, .int 0, .int 0, .int 0, .int 0, .int 0, .int 0, .int 0, .ref (rM 25), .ref (rM 26), .ref (rM 27), .int 0, .int 0, .ref (rM 28), .int 0, .ref (rM 29), .ref (rM 30), .ref (rM 31), .ref (rM 32), .ref (rM 33), .ref (rM 34), .ref (rM 35), .ref (rM 36), .int 0, .int 0, .int 0, .ref (rM 37), .ref (rM 38)])), (rM 25, .inl ((cM 25), 26, .inl (fM 25))), (rM 37, .inl ((cM 37), 78, .inl (fun _ => 0))), (rM 38, .inl ((cM 38), 3, .inl (fM 38)))]) (w1 := []) hP hD [0, 1, 2, 3, 4, 5, 6, 7, 8] [9, 10, 11, 12] rfl rfl (by decide) (by decide) hk1 hFc (fun k q h => by simp at h) ⟨fun i j p q h => by simp at h, fun k q h => by simp at h⟩
    refine wt_c (v := 0) hw ?_
    refine lv_aload_n hx hb dL_law_1480 rfl (lv_at hl 1 rfl) ?_
    refine lv_aload_n hx hb dL_law_1481 rfl (lv_at hl 3 rfl) ?_
    refine lv_iload_n hx hb dL_law_1482 rfl (lv_at hl 0 rfl) ?_
    refine lv_iconst (v := 1) hx hb dL_law_1483 (by decide) ?_
    refine lv_iadd hx hb dL_law_1484 ?_
    refine wt_c (v := 1) (by decide) ?_
    refine va_sld hx hb hX hbl hbA hS (vin (by decide)) dL_law_1485 ?_
    refine wt_c (v := xs 1) (congrArg xs (by decide)) ?_
    have hPc := hP.sub (ws' := [(rM 0, .inr (8, [.ref (rM 1), .ref (rM 2), .int 0, .int 0, .int 0, .int (-1), .int 0, .int 0, .int 0, .int 0, .long 0, .ref (rM 3), .ref (rM 4), .ref (rM 5), .ref (rM 6), .ref (rM 7), .ref (rM 8), .ref (rM 9), .ref (rM 10), .ref (rM 11), .ref (rM 12), .ref (rM 13), .ref (rM 14), .ref (rM 15), .ref (rM 16), .ref (rM 17), .ref (rM 18), .ref (rM 19), .ref (rM 20), .ref (rM 21), .ref (rM 22), .ref (rM 23), .ref (rM 24), .int 0, .int 0, .int 0, .int 0, .int 0, .int 0, .int 0, .int 0, .int 0, .ref (rM 25), .ref (rM 26), .ref (rM 27), .int 0, .int 0, .ref (rM 28), .int 0, .ref (rM 29), .ref (rM 30), .ref (rM 31), .ref (rM 32), .ref (rM 33), .ref (rM 34), .ref (rM 35), .ref (rM 36), .int 0, .int 0, .int 0, .ref (rM 37), .ref (rM 38)])), (rM 25, .inl ((cM 25), 26, .inl (fM 25))), (rM 37, .inl ((cM 37), 78, .inl (fun _ => 0))), (rM 38, .inl ((cM 38), 3, .inl (fM 38)))]) [0, 1, 2, 3] rfl
    have hKc := hK.sub (tys' := [((cM 25), .int), ((cM 37), .int), ((cM 38), .boolean)]) [7, 8, 9] rfl
    have hDc := hD.sub (ws' := [(rM 0, .inr (8, [.ref (rM 1), .ref (rM 2), .int 0, .int 0, .int 0, .int (-1), .int 0, .int 0, .int 0, .int 0, .long 0, .ref (rM 3), .ref (rM 4), .ref (rM 5), .ref (rM 6), .ref (rM 7), .ref (rM 8), .ref (rM 9), .ref (rM 10), .ref (rM 11), .ref (rM 12), .ref (rM 13), .ref (rM 14), .ref (rM 15), .ref (rM 16), .ref (rM 17), .ref (rM 18), .ref (rM 19), .ref (rM 20), .ref (rM 21), .ref (rM 22), .ref (rM 23), .ref (rM 24), .int 0, .int 0, .int 0, .int 0, .int 0, .int 0, .int 0, .int 0, .int 0, .ref (rM 25), .ref (rM 26), .ref (rM 27), .int 0, .int 0, .ref (rM 28), .int 0, .ref (rM 29), .ref (rM 30), .ref (rM 31), .ref (rM 32), .ref (rM 33), .ref (rM 34), .ref (rM 35), .ref (rM 36), .int 0, .int 0, .int 0, .ref (rM 37), .ref (rM 38)])), (rM 25, .inl ((cM 25), 26, .inl (fM 25))), (rM 37, .inl ((cM 37), 78, .inl (fun _ => 0))), (rM 38, .inl ((cM 38), 3, .inl (fM 38)))]) [0, 1, 2, 3] (by decide) rfl
    have hFc := va_free (wc := [(rM 0, .inr (8, [.ref (rM 1), .ref (rM 2), .int 0, .int 0, .int 0, .int (-1), .int 0, .int 0, .int 0, .int 0, .long 0, .ref (rM 3), .ref (rM 4), .ref (rM 5), .ref (rM 6), .ref (rM 7), .ref (rM 8), .ref (rM 9), .ref (rM 10), .ref (rM 11), .ref (rM 12), .ref (rM 13), .ref (rM 14), .ref (rM 15), .ref (rM 16), .ref (rM 17), .ref (rM 18), .ref (rM 19), .ref (rM 20), .ref (rM 21), .ref (rM 22), .ref (rM 23), .ref (rM 24), .int 0, .int 0, .int 0, .int 0, .int 0, .int 0, .int 0, .int 0, .int 0, .ref (rM 25), .ref (rM 26), .ref (rM 27), .int 0, .int 0, .ref (rM 28), .int 0, .ref (rM 29), .ref (rM 30), .ref (rM 31), .ref (rM 32), .ref (rM 33), .ref (rM 34), .ref (rM 35), .ref (rM 36), .int 0, .int 0, .int 0, .ref (rM 37), .ref (rM 38)])), (rM 25, .inl ((cM 25), 26, .inl (fM 25))), (rM 37, .inl ((cM 37), 78, .inl (fun _ => 0))), (rM 38, .inl ((cM 38), 3, .inl (fM 38)))]) hD hS hA [0, 1, 2, 3] rfl
    refine va_calli (va_runV (As := [.int (xs 1)]) (rest := [.int 0]) ⟨hx, hb, hml, hown, hG⟩ (kX9_image l dC dI rM cM (fM 25) (fM 38) (xs 1) H1.size hfM_25_24 hfM_25_25) (cwV 1 hG (goodV gw1861 gw1862 gw1863 gw138 gw1864) rfl rfl rfl hd_X9_image ⟨(Nat.le_of_ble_eq_true rfl), (Nat.le_of_ble_eq_true rfl)⟩) ⟨fbW, va_recv hKc hPc (ci := 8) (q0 := 0) rfl rfl, pW_in hPc hKc hDc⟩ rfl rfl hl.1 rfl (lv_room (Nat.le_of_ble_eq_true rfl)) dL_law_1486 ⟨(Nat.le_of_ble_eq_true rfl), (Nat.le_of_ble_eq_true rfl)⟩) hS (fun q _ h => hFc q h) hFc (fun r_19 u t H18 locs ht hvm hw hB hz1 hk1 hS => ?_)
    rcases hw with ⟨rfl, hy20, hw⟩ | ⟨rfl, hy21, hy22, hw⟩ | ⟨rfl, hy23, hw⟩ | ⟨rfl, hy24, hw⟩ | ⟨rfl, hy25, hw⟩
    · skip
      exact ((by have k0 := q_eq hy4; have k1 := q_lt hy20; have z0 : (0 : Int32).toInt = 0 := (by decide); omega) : False).elim
    · skip
      exact ((by have k0 := q_eq hy4; have k1 := q_nlt hy21; have k2 := q_lt hy22; have z0 : (0 : Int32).toInt = 0 := (by decide); have z2 : (2 : Int32).toInt = 2 := (by decide); omega) : False).elim
    · skip
      obtain ⟨hP, hD⟩ := va_join (wr := []) (w1 := []) hP hD [0, 1, 2, 3] [] rfl rfl (by decide) (by decide) hk1 hFc (fun k q h => by simp at h) ⟨fun i j p q h => by simp at h, fun k q h => by simp at h⟩
      refine wt_c (v := 0) hw ?_
      refine lv_icmp_eq (tgt := 1540) hx hb dL_law_1489 (by decide) (fun c_26 => ?_) (fun c_26 => absurd (by decide) c_26)
      exact law_end l C0 hS hl
    · skip
      exact ((by have k0 := q_eq hy4; have k1 := q_eq hy24; have z0 : (0 : Int32).toInt = 0 := (by decide); have z1 : (1 : Int32).toInt = 1 := (by decide); omega) : False).elim
    · skip
      exact ((by have k0 := q_eq hy4; have k1 := q_eq hy25; have z0 : (0 : Int32).toInt = 0 := (by decide); have z2 : (2 : Int32).toInt = 2 := (by decide); omega) : False).elim
  · skip
    obtain ⟨hP, hD⟩ := va_join (wr := [(rM 0, .inr (8, [.ref (rM 1), .ref (rM 2), .int 0, .int 0, .int 0, .int (-1), .int 0, .int 0, .int 0, .int 0, .long 0, .ref (rM 3), .ref (rM 4), .ref (rM 5), .ref (rM 6), .ref (rM 7), .ref (rM 8), .ref (rM 9), .ref (rM 10), .ref (rM 11), .ref (rM 12), .ref (rM 13), .ref (rM 14), .ref (rM 15), .ref (rM 16), .ref (rM 17), .ref (rM 18), .ref (rM 19), .ref (rM 20), .ref (rM 21), .ref (rM 22), .ref (rM 23), .ref (rM 24), .int 0, .int 0, .int 0, .int 0, .int 0, .int 0, .int 0, .int 0, .int 0, .ref (rM 25), .ref (rM 26), .ref (rM 27), .int 0, .int 0, .ref (rM 28), .int 0, .ref (rM 29), .ref (rM 30), .ref (rM 31), .ref (rM 32), .ref (rM 33), .ref (rM 34), .ref (rM 35), .ref (rM 36), .int 0, .int 0, .int 0, .ref (rM 37), .ref (rM 38)])), (rM 25, .inl ((cM 25), 26, .inl (fM 25))), (rM 37, .inl ((cM 37), 78, .inl (fun _ => 0))), (rM 38, .inl ((cM 38), 3, .inl (fM 38)))]) (w1 := []) hP hD [0, 1, 2, 3, 4, 5, 6, 7, 8] [9, 10, 11, 12] rfl rfl (by decide) (by decide) hk1 hFc (fun k q h => by simp at h) ⟨fun i j p q h => by simp at h, fun k q h => by simp at h⟩
    refine wt_c (v := 0) hw ?_
    refine lv_aload_n hx hb dL_law_1480 rfl (lv_at hl 1 rfl) ?_
    refine lv_aload_n hx hb dL_law_1481 rfl (lv_at hl 3 rfl) ?_
    refine lv_iload_n hx hb dL_law_1482 rfl (lv_at hl 0 rfl) ?_
    refine lv_iconst (v := 1) hx hb dL_law_1483 (by decide) ?_
    refine lv_iadd hx hb dL_law_1484 ?_
    refine wt_c (v := 1) (by decide) ?_
    refine va_sld hx hb hX hbl hbA hS (vin (by decide)) dL_law_1485 ?_
    refine wt_c (v := xs 1) (congrArg xs (by decide)) ?_
    have hPc := hP.sub (ws' := [(rM 0, .inr (8, [.ref (rM 1), .ref (rM 2), .int 0, .int 0, .int 0, .int (-1), .int 0, .int 0, .int 0, .int 0, .long 0, .ref (rM 3), .ref (rM 4), .ref (rM 5), .ref (rM 6), .ref (rM 7), .ref (rM 8), .ref (rM 9), .ref (rM 10), .ref (rM 11), .ref (rM 12), .ref (rM 13), .ref (rM 14), .ref (rM 15), .ref (rM 16), .ref (rM 17), .ref (rM 18), .ref (rM 19), .ref (rM 20), .ref (rM 21), .ref (rM 22), .ref (rM 23), .ref (rM 24), .int 0, .int 0, .int 0, .int 0, .int 0, .int 0, .int 0, .int 0, .int 0, .ref (rM 25), .ref (rM 26), .ref (rM 27), .int 0, .int 0, .ref (rM 28), .int 0, .ref (rM 29), .ref (rM 30), .ref (rM 31), .ref (rM 32), .ref (rM 33), .ref (rM 34), .ref (rM 35), .ref (rM 36), .int 0, .int 0, .int 0, .ref (rM 37), .ref (rM 38)])), (rM 25, .inl ((cM 25), 26, .inl (fM 25))), (rM 37, .inl ((cM 37), 78, .inl (fun _ => 0))), (rM 38, .inl ((cM 38), 3, .inl (fM 38)))]) [0, 1, 2, 3] rfl
    have hKc := hK.sub (tys' := [((cM 25), .int), ((cM 37), .int), ((cM 38), .boolean)]) [7, 8, 9] rfl
    have hDc := hD.sub (ws' := [(rM 0, .inr (8, [.ref (rM 1), .ref (rM 2), .int 0, .int 0, .int 0, .int (-1), .int 0, .int 0, .int 0, .int 0, .long 0, .ref (rM 3), .ref (rM 4), .ref (rM 5), .ref (rM 6), .ref (rM 7), .ref (rM 8), .ref (rM 9), .ref (rM 10), .ref (rM 11), .ref (rM 12), .ref (rM 13), .ref (rM 14), .ref (rM 15), .ref (rM 16), .ref (rM 17), .ref (rM 18), .ref (rM 19), .ref (rM 20), .ref (rM 21), .ref (rM 22), .ref (rM 23), .ref (rM 24), .int 0, .int 0, .int 0, .int 0, .int 0, .int 0, .int 0, .int 0, .int 0, .ref (rM 25), .ref (rM 26), .ref (rM 27), .int 0, .int 0, .ref (rM 28), .int 0, .ref (rM 29), .ref (rM 30), .ref (rM 31), .ref (rM 32), .ref (rM 33), .ref (rM 34), .ref (rM 35), .ref (rM 36), .int 0, .int 0, .int 0, .ref (rM 37), .ref (rM 38)])), (rM 25, .inl ((cM 25), 26, .inl (fM 25))), (rM 37, .inl ((cM 37), 78, .inl (fun _ => 0))), (rM 38, .inl ((cM 38), 3, .inl (fM 38)))]) [0, 1, 2, 3] (by decide) rfl
    have hFc := va_free (wc := [(rM 0, .inr (8, [.ref (rM 1), .ref (rM 2), .int 0, .int 0, .int 0, .int (-1), .int 0, .int 0, .int 0, .int 0, .long 0, .ref (rM 3), .ref (rM 4), .ref (rM 5), .ref (rM 6), .ref (rM 7), .ref (rM 8), .ref (rM 9), .ref (rM 10), .ref (rM 11), .ref (rM 12), .ref (rM 13), .ref (rM 14), .ref (rM 15), .ref (rM 16), .ref (rM 17), .ref (rM 18), .ref (rM 19), .ref (rM 20), .ref (rM 21), .ref (rM 22), .ref (rM 23), .ref (rM 24), .int 0, .int 0, .int 0, .int 0, .int 0, .int 0, .int 0, .int 0, .int 0, .ref (rM 25), .ref (rM 26), .ref (rM 27), .int 0, .int 0, .ref (rM 28), .int 0, .ref (rM 29), .ref (rM 30), .ref (rM 31), .ref (rM 32), .ref (rM 33), .ref (rM 34), .ref (rM 35), .ref (rM 36), .int 0, .int 0, .int 0, .ref (rM 37), .ref (rM 38)])), (rM 25, .inl ((cM 25), 26, .inl (fM 25))), (rM 37, .inl ((cM 37), 78, .inl (fun _ => 0))), (rM 38, .inl ((cM 38), 3, .inl (fM 38)))]) hD hS hA [0, 1, 2, 3] rfl
    refine va_calli (va_runV (As := [.int (xs 1)]) (rest := [.int 0]) ⟨hx, hb, hml, hown, hG⟩ (kX9_image l dC dI rM cM (fM 25) (fM 38) (xs 1) H1.size hfM_25_24 hfM_25_25) (cwV 1 hG (goodV gw1861 gw1862 gw1863 gw138 gw1864) rfl rfl rfl hd_X9_image ⟨(Nat.le_of_ble_eq_true rfl), (Nat.le_of_ble_eq_true rfl)⟩) ⟨fbW, va_recv hKc hPc (ci := 8) (q0 := 0) rfl rfl, pW_in hPc hKc hDc⟩ rfl rfl hl.1 rfl (lv_room (Nat.le_of_ble_eq_true rfl)) dL_law_1486 ⟨(Nat.le_of_ble_eq_true rfl), (Nat.le_of_ble_eq_true rfl)⟩) hS (fun q _ h => hFc q h) hFc (fun r_28 u t H27 locs ht hvm hw hB hz1 hk1 hS => ?_)
    rcases hw with ⟨rfl, hy29, hw⟩ | ⟨rfl, hy30, hy31, hw⟩ | ⟨rfl, hy32, hw⟩ | ⟨rfl, hy33, hw⟩ | ⟨rfl, hy34, hw⟩
    · skip
      exact ((by have k0 := q_eq hy5; have k1 := q_lt hy29; have z0 : (0 : Int32).toInt = 0 := (by decide); have z1 : (1 : Int32).toInt = 1 := (by decide); omega) : False).elim
    · skip
      exact ((by have k0 := q_eq hy5; have k1 := q_nlt hy30; have k2 := q_lt hy31; have z0 : (0 : Int32).toInt = 0 := (by decide); have z1 : (1 : Int32).toInt = 1 := (by decide); have z2 : (2 : Int32).toInt = 2 := (by decide); omega) : False).elim
    · skip
      exact ((by have k0 := q_eq hy5; have k1 := q_eq hy32; have z0 : (0 : Int32).toInt = 0 := (by decide); have z1 : (1 : Int32).toInt = 1 := (by decide); omega) : False).elim
    · skip
      obtain ⟨hP, hD⟩ := va_join (wr := []) (w1 := []) hP hD [0, 1, 2, 3] [] rfl rfl (by decide) (by decide) hk1 hFc (fun k q h => by simp at h) ⟨fun i j p q h => by simp at h, fun k q h => by simp at h⟩
      refine wt_c (v := 0) hw ?_
      refine lv_icmp_eq (tgt := 1540) hx hb dL_law_1489 (by decide) (fun c_35 => ?_) (fun c_35 => absurd (by decide) c_35)
      exact law_end l C0 hS hl
    · skip
      exact ((by have k0 := q_eq hy5; have k1 := q_eq hy34; have z1 : (1 : Int32).toInt = 1 := (by decide); have z2 : (2 : Int32).toInt = 2 := (by decide); omega) : False).elim
  · skip
    obtain ⟨hP, hD⟩ := va_join (wr := [(rM 0, .inr (8, [.ref (rM 1), .ref (rM 2), .int 0, .int 0, .int 0, .int (-1), .int 0, .int 0, .int 0, .int 0, .long 0, .ref (rM 3), .ref (rM 4), .ref (rM 5), .ref (rM 6), .ref (rM 7), .ref (rM 8), .ref (rM 9), .ref (rM 10), .ref (rM 11), .ref (rM 12), .ref (rM 13), .ref (rM 14), .ref (rM 15), .ref (rM 16), .ref (rM 17), .ref (rM 18), .ref (rM 19), .ref (rM 20), .ref (rM 21), .ref (rM 22), .ref (rM 23), .ref (rM 24), .int 0, .int 0, .int 0, .int 0, .int 0, .int 0, .int 0, .int 0, .int 0, .ref (rM 25), .ref (rM 26), .ref (rM 27), .int 0, .int 0, .ref (rM 28), .int 0, .ref (rM 29), .ref (rM 30), .ref (rM 31), .ref (rM 32), .ref (rM 33), .ref (rM 34), .ref (rM 35), .ref (rM 36), .int 0, .int 0, .int 0, .ref (rM 37), .ref (rM 38)])), (rM 25, .inl ((cM 25), 26, .inl (fM 25))), (rM 37, .inl ((cM 37), 78, .inl (fun _ => 0))), (rM 38, .inl ((cM 38), 3, .inl (fM 38)))]) (w1 := []) hP hD [0, 1, 2, 3, 4, 5, 6, 7, 8] [9, 10, 11, 12] rfl rfl (by decide) (by decide) hk1 hFc (fun k q h => by simp at h) ⟨fun i j p q h => by simp at h, fun k q h => by simp at h⟩
    refine wt_c (v := 0) hw ?_
    refine lv_aload_n hx hb dL_law_1480 rfl (lv_at hl 1 rfl) ?_
    refine lv_aload_n hx hb dL_law_1481 rfl (lv_at hl 3 rfl) ?_
    refine lv_iload_n hx hb dL_law_1482 rfl (lv_at hl 0 rfl) ?_
    refine lv_iconst (v := 1) hx hb dL_law_1483 (by decide) ?_
    refine lv_iadd hx hb dL_law_1484 ?_
    refine wt_c (v := 1) (by decide) ?_
    refine va_sld hx hb hX hbl hbA hS (vin (by decide)) dL_law_1485 ?_
    refine wt_c (v := xs 1) (congrArg xs (by decide)) ?_
    have hPc := hP.sub (ws' := [(rM 0, .inr (8, [.ref (rM 1), .ref (rM 2), .int 0, .int 0, .int 0, .int (-1), .int 0, .int 0, .int 0, .int 0, .long 0, .ref (rM 3), .ref (rM 4), .ref (rM 5), .ref (rM 6), .ref (rM 7), .ref (rM 8), .ref (rM 9), .ref (rM 10), .ref (rM 11), .ref (rM 12), .ref (rM 13), .ref (rM 14), .ref (rM 15), .ref (rM 16), .ref (rM 17), .ref (rM 18), .ref (rM 19), .ref (rM 20), .ref (rM 21), .ref (rM 22), .ref (rM 23), .ref (rM 24), .int 0, .int 0, .int 0, .int 0, .int 0, .int 0, .int 0, .int 0, .int 0, .ref (rM 25), .ref (rM 26), .ref (rM 27), .int 0, .int 0, .ref (rM 28), .int 0, .ref (rM 29), .ref (rM 30), .ref (rM 31), .ref (rM 32), .ref (rM 33), .ref (rM 34), .ref (rM 35), .ref (rM 36), .int 0, .int 0, .int 0, .ref (rM 37), .ref (rM 38)])), (rM 25, .inl ((cM 25), 26, .inl (fM 25))), (rM 37, .inl ((cM 37), 78, .inl (fun _ => 0))), (rM 38, .inl ((cM 38), 3, .inl (fM 38)))]) [0, 1, 2, 3] rfl
    have hKc := hK.sub (tys' := [((cM 25), .int), ((cM 37), .int), ((cM 38), .boolean)]) [7, 8, 9] rfl
    have hDc := hD.sub (ws' := [(rM 0, .inr (8, [.ref (rM 1), .ref (rM 2), .int 0, .int 0, .int 0, .int (-1), .int 0, .int 0, .int 0, .int 0, .long 0, .ref (rM 3), .ref (rM 4), .ref (rM 5), .ref (rM 6), .ref (rM 7), .ref (rM 8), .ref (rM 9), .ref (rM 10), .ref (rM 11), .ref (rM 12), .ref (rM 13), .ref (rM 14), .ref (rM 15), .ref (rM 16), .ref (rM 17), .ref (rM 18), .ref (rM 19), .ref (rM 20), .ref (rM 21), .ref (rM 22), .ref (rM 23), .ref (rM 24), .int 0, .int 0, .int 0, .int 0, .int 0, .int 0, .int 0, .int 0, .int 0, .ref (rM 25), .ref (rM 26), .ref (rM 27), .int 0, .int 0, .ref (rM 28), .int 0, .ref (rM 29), .ref (rM 30), .ref (rM 31), .ref (rM 32), .ref (rM 33), .ref (rM 34), .ref (rM 35), .ref (rM 36), .int 0, .int 0, .int 0, .ref (rM 37), .ref (rM 38)])), (rM 25, .inl ((cM 25), 26, .inl (fM 25))), (rM 37, .inl ((cM 37), 78, .inl (fun _ => 0))), (rM 38, .inl ((cM 38), 3, .inl (fM 38)))]) [0, 1, 2, 3] (by decide) rfl
    have hFc := va_free (wc := [(rM 0, .inr (8, [.ref (rM 1), .ref (rM 2), .int 0, .int 0, .int 0, .int (-1), .int 0, .int 0, .int 0, .int 0, .long 0, .ref (rM 3), .ref (rM 4), .ref (rM 5), .ref (rM 6), .ref (rM 7), .ref (rM 8), .ref (rM 9), .ref (rM 10), .ref (rM 11), .ref (rM 12), .ref (rM 13), .ref (rM 14), .ref (rM 15), .ref (rM 16), .ref (rM 17), .ref (rM 18), .ref (rM 19), .ref (rM 20), .ref (rM 21), .ref (rM 22), .ref (rM 23), .ref (rM 24), .int 0, .int 0, .int 0, .int 0, .int 0, .int 0, .int 0, .int 0, .int 0, .ref (rM 25), .ref (rM 26), .ref (rM 27), .int 0, .int 0, .ref (rM 28), .int 0, .ref (rM 29), .ref (rM 30), .ref (rM 31), .ref (rM 32), .ref (rM 33), .ref (rM 34), .ref (rM 35), .ref (rM 36), .int 0, .int 0, .int 0, .ref (rM 37), .ref (rM 38)])), (rM 25, .inl ((cM 25), 26, .inl (fM 25))), (rM 37, .inl ((cM 37), 78, .inl (fun _ => 0))), (rM 38, .inl ((cM 38), 3, .inl (fM 38)))]) hD hS hA [0, 1, 2, 3] rfl
    refine va_calli (va_runV (As := [.int (xs 1)]) (rest := [.int 0]) ⟨hx, hb, hml, hown, hG⟩ (kX9_image l dC dI rM cM (fM 25) (fM 38) (xs 1) H1.size hfM_25_24 hfM_25_25) (cwV 1 hG (goodV gw1861 gw1862 gw1863 gw138 gw1864) rfl rfl rfl hd_X9_image ⟨(Nat.le_of_ble_eq_true rfl), (Nat.le_of_ble_eq_true rfl)⟩) ⟨fbW, va_recv hKc hPc (ci := 8) (q0 := 0) rfl rfl, pW_in hPc hKc hDc⟩ rfl rfl hl.1 rfl (lv_room (Nat.le_of_ble_eq_true rfl)) dL_law_1486 ⟨(Nat.le_of_ble_eq_true rfl), (Nat.le_of_ble_eq_true rfl)⟩) hS (fun q _ h => hFc q h) hFc (fun r_37 u t H36 locs ht hvm hw hB hz1 hk1 hS => ?_)
    rcases hw with ⟨rfl, hy38, hw⟩ | ⟨rfl, hy39, hy40, hw⟩ | ⟨rfl, hy41, hw⟩ | ⟨rfl, hy42, hw⟩ | ⟨rfl, hy43, hw⟩
    · skip
      exact ((by have k0 := q_eq hy6; have k1 := q_lt hy38; have z0 : (0 : Int32).toInt = 0 := (by decide); have z2 : (2 : Int32).toInt = 2 := (by decide); omega) : False).elim
    · skip
      exact ((by have k0 := q_eq hy6; have k1 := q_nlt hy39; have k2 := q_lt hy40; have z0 : (0 : Int32).toInt = 0 := (by decide); have z2 : (2 : Int32).toInt = 2 := (by decide); omega) : False).elim
    · skip
      exact ((by have k0 := q_eq hy6; have k1 := q_eq hy41; have z0 : (0 : Int32).toInt = 0 := (by decide); have z2 : (2 : Int32).toInt = 2 := (by decide); omega) : False).elim
    · skip
      exact ((by have k0 := q_eq hy6; have k1 := q_eq hy42; have z1 : (1 : Int32).toInt = 1 := (by decide); have z2 : (2 : Int32).toInt = 2 := (by decide); omega) : False).elim
    · skip
      obtain ⟨hP, hD⟩ := va_join (wr := []) (w1 := []) hP hD [0, 1, 2, 3] [] rfl rfl (by decide) (by decide) hk1 hFc (fun k q h => by simp at h) ⟨fun i j p q h => by simp at h, fun k q h => by simp at h⟩
      refine wt_c (v := 0) hw ?_
      refine lv_icmp_eq (tgt := 1540) hx hb dL_law_1489 (by decide) (fun c_44 => ?_) (fun c_44 => absurd (by decide) c_44)
      exact law_end l C0 hS hl
  · skip
    obtain ⟨hP, hD⟩ := va_join (wr := [(rM 0, .inr (8, [.ref (rM 1), .ref (rM 2), .int 0, .int 0, .int 0, .int (-1), .int 0, .int 0, .int 0, .int 0, .long 0, .ref (rM 3), .ref (rM 4), .ref (rM 5), .ref (rM 6), .ref (rM 7), .ref (rM 8), .ref (rM 9), .ref (rM 10), .ref (rM 11), .ref (rM 12), .ref (rM 13), .ref (rM 14), .ref (rM 15), .ref (rM 16), .ref (rM 17), .ref (rM 18), .ref (rM 19), .ref (rM 20), .ref (rM 21), .ref (rM 22), .ref (rM 23), .ref (rM 24), .int 0, .int 0, .int 0, .int 0, .int 0, .int 0, .int 0, .int 0, .int 0, .ref (rM 25), .ref (rM 26), .ref (rM 27), .int 0, .int 0, .ref (rM 28), .int 0, .ref (rM 29), .ref (rM 30), .ref (rM 31), .ref (rM 32), .ref (rM 33), .ref (rM 34), .ref (rM 35), .ref (rM 36), .int 0, .int 0, .int 0, .ref (rM 37), .ref (rM 38)])), (rM 25, .inl ((cM 25), 26, .inl (fM 25))), (rM 37, .inl ((cM 37), 78, .inl (fun _ => 0))), (rM 38, .inl ((cM 38), 3, .inl (fM 38)))]) (w1 := []) hP hD [0, 1, 2, 3, 4, 5, 6, 7, 8] [9, 10, 11, 12] rfl rfl (by decide) (by decide) hk1 hFc (fun k q h => by simp at h) ⟨fun i j p q h => by simp at h, fun k q h => by simp at h⟩
    refine wt_c (v := (-1)) hw ?_
    refine lv_aload_n hx hb dL_law_1480 rfl (lv_at hl 1 rfl) ?_
    refine lv_aload_n hx hb dL_law_1481 rfl (lv_at hl 3 rfl) ?_
    refine lv_iload_n hx hb dL_law_1482 rfl (lv_at hl 0 rfl) ?_
    refine lv_iconst (v := 1) hx hb dL_law_1483 (by decide) ?_
    refine lv_iadd hx hb dL_law_1484 ?_
    refine wt_c (v := 1) (by decide) ?_
    refine va_sld hx hb hX hbl hbA hS (vin (by decide)) dL_law_1485 ?_
    refine wt_c (v := xs 1) (congrArg xs (by decide)) ?_
    have hPc := hP.sub (ws' := [(rM 0, .inr (8, [.ref (rM 1), .ref (rM 2), .int 0, .int 0, .int 0, .int (-1), .int 0, .int 0, .int 0, .int 0, .long 0, .ref (rM 3), .ref (rM 4), .ref (rM 5), .ref (rM 6), .ref (rM 7), .ref (rM 8), .ref (rM 9), .ref (rM 10), .ref (rM 11), .ref (rM 12), .ref (rM 13), .ref (rM 14), .ref (rM 15), .ref (rM 16), .ref (rM 17), .ref (rM 18), .ref (rM 19), .ref (rM 20), .ref (rM 21), .ref (rM 22), .ref (rM 23), .ref (rM 24), .int 0, .int 0, .int 0, .int 0, .int 0, .int 0, .int 0, .int 0, .int 0, .ref (rM 25), .ref (rM 26), .ref (rM 27), .int 0, .int 0, .ref (rM 28), .int 0, .ref (rM 29), .ref (rM 30), .ref (rM 31), .ref (rM 32), .ref (rM 33), .ref (rM 34), .ref (rM 35), .ref (rM 36), .int 0, .int 0, .int 0, .ref (rM 37), .ref (rM 38)])), (rM 25, .inl ((cM 25), 26, .inl (fM 25))), (rM 37, .inl ((cM 37), 78, .inl (fun _ => 0))), (rM 38, .inl ((cM 38), 3, .inl (fM 38)))]) [0, 1, 2, 3] rfl
    have hKc := hK.sub (tys' := [((cM 25), .int), ((cM 37), .int), ((cM 38), .boolean)]) [7, 8, 9] rfl
    have hDc := hD.sub (ws' := [(rM 0, .inr (8, [.ref (rM 1), .ref (rM 2), .int 0, .int 0, .int 0, .int (-1), .int 0, .int 0, .int 0, .int 0, .long 0, .ref (rM 3), .ref (rM 4), .ref (rM 5), .ref (rM 6), .ref (rM 7), .ref (rM 8), .ref (rM 9), .ref (rM 10), .ref (rM 11), .ref (rM 12), .ref (rM 13), .ref (rM 14), .ref (rM 15), .ref (rM 16), .ref (rM 17), .ref (rM 18), .ref (rM 19), .ref (rM 20), .ref (rM 21), .ref (rM 22), .ref (rM 23), .ref (rM 24), .int 0, .int 0, .int 0, .int 0, .int 0, .int 0, .int 0, .int 0, .int 0, .ref (rM 25), .ref (rM 26), .ref (rM 27), .int 0, .int 0, .ref (rM 28), .int 0, .ref (rM 29), .ref (rM 30), .ref (rM 31), .ref (rM 32), .ref (rM 33), .ref (rM 34), .ref (rM 35), .ref (rM 36), .int 0, .int 0, .int 0, .ref (rM 37), .ref (rM 38)])), (rM 25, .inl ((cM 25), 26, .inl (fM 25))), (rM 37, .inl ((cM 37), 78, .inl (fun _ => 0))), (rM 38, .inl ((cM 38), 3, .inl (fM 38)))]) [0, 1, 2, 3] (by decide) rfl
    have hFc := va_free (wc := [(rM 0, .inr (8, [.ref (rM 1), .ref (rM 2), .int 0, .int 0, .int 0, .int (-1), .int 0, .int 0, .int 0, .int 0, .long 0, .ref (rM 3), .ref (rM 4), .ref (rM 5), .ref (rM 6), .ref (rM 7), .ref (rM 8), .ref (rM 9), .ref (rM 10), .ref (rM 11), .ref (rM 12), .ref (rM 13), .ref (rM 14), .ref (rM 15), .ref (rM 16), .ref (rM 17), .ref (rM 18), .ref (rM 19), .ref (rM 20), .ref (rM 21), .ref (rM 22), .ref (rM 23), .ref (rM 24), .int 0, .int 0, .int 0, .int 0, .int 0, .int 0, .int 0, .int 0, .int 0, .ref (rM 25), .ref (rM 26), .ref (rM 27), .int 0, .int 0, .ref (rM 28), .int 0, .ref (rM 29), .ref (rM 30), .ref (rM 31), .ref (rM 32), .ref (rM 33), .ref (rM 34), .ref (rM 35), .ref (rM 36), .int 0, .int 0, .int 0, .ref (rM 37), .ref (rM 38)])), (rM 25, .inl ((cM 25), 26, .inl (fM 25))), (rM 37, .inl ((cM 37), 78, .inl (fun _ => 0))), (rM 38, .inl ((cM 38), 3, .inl (fM 38)))]) hD hS hA [0, 1, 2, 3] rfl
    refine va_calli (va_runV (As := [.int (xs 1)]) (rest := [.int (-1)]) ⟨hx, hb, hml, hown, hG⟩ (kX9_image l dC dI rM cM (fM 25) (fM 38) (xs 1) H1.size hfM_25_24 hfM_25_25) (cwV 1 hG (goodV gw1861 gw1862 gw1863 gw138 gw1864) rfl rfl rfl hd_X9_image ⟨(Nat.le_of_ble_eq_true rfl), (Nat.le_of_ble_eq_true rfl)⟩) ⟨fbW, va_recv hKc hPc (ci := 8) (q0 := 0) rfl rfl, pW_in hPc hKc hDc⟩ rfl rfl hl.1 rfl (lv_room (Nat.le_of_ble_eq_true rfl)) dL_law_1486 ⟨(Nat.le_of_ble_eq_true rfl), (Nat.le_of_ble_eq_true rfl)⟩) hS (fun q _ h => hFc q h) hFc (fun r_46 u t H45 locs ht hvm hw hB hz1 hk1 hS => ?_)
    rcases hw with ⟨rfl, hy47, hw⟩ | ⟨rfl, hy48, hy49, hw⟩ | ⟨rfl, hy50, hw⟩ | ⟨rfl, hy51, hw⟩ | ⟨rfl, hy52, hw⟩
    · skip
      exact ((by have k0 := q_nlt hy7; have k1 := q_nlt hy8; have k2 := q_lt hy47; have z0 : (0 : Int32).toInt = 0 := (by decide); have z3 : (3 : Int32).toInt = 3 := (by decide); omega) : False).elim
    · skip
      obtain ⟨hP, hD⟩ := va_join (wr := []) (w1 := []) hP hD [0, 1, 2, 3] [] rfl rfl (by decide) (by decide) hk1 hFc (fun k q h => by simp at h) ⟨fun i j p q h => by simp at h, fun k q h => by simp at h⟩
      refine wt_c (v := (-1)) hw ?_
      refine lv_icmp_eq (tgt := 1540) hx hb dL_law_1489 (by decide) (fun c_53 => ?_) (fun c_53 => absurd (by decide) c_53)
      exact law_end l C0 hS hl
    · skip
      exact ((by have k0 := q_nlt hy7; have k1 := q_nlt hy8; have k2 := q_eq hy50; have z0 : (0 : Int32).toInt = 0 := (by decide); have z3 : (3 : Int32).toInt = 3 := (by decide); omega) : False).elim
    · skip
      exact ((by have k0 := q_nlt hy7; have k1 := q_nlt hy8; have k2 := q_eq hy51; have z0 : (0 : Int32).toInt = 0 := (by decide); have z1 : (1 : Int32).toInt = 1 := (by decide); have z3 : (3 : Int32).toInt = 3 := (by decide); omega) : False).elim
    · skip
      exact ((by have k0 := q_nlt hy7; have k1 := q_nlt hy8; have k2 := q_eq hy52; have z0 : (0 : Int32).toInt = 0 := (by decide); have z2 : (2 : Int32).toInt = 2 := (by decide); have z3 : (3 : Int32).toInt = 3 := (by decide); omega) : False).elim
set_option maxHeartbeats 4000000 in
set_option maxRecDepth 100000 in
theorem law_46 {p : Program} {e : Env} {s : State} {m : MethodId} {below : List Frame} {meth : Method} {c : Code} (l : Launch) {b : Nat} {xs : Nat → Int32} (C0 : lw_At p s m meth c b 6 xs) (dC : Nat → ClassId) (dI : Nat → Nat → Nat) (rX rM : Nat → Nat) (cX cM : Nat → ClassId) (fX fM : Nat → Nat → Int32) (gX gM : Nat → Nat → Int64) (hfM_38_0 : fM 38 0 = 0) (hfM_38_1 : fM 38 1 = 0) (hfM_38_2 : fM 38 2 = 0) {H : Heap} {locs : List Loc} (hK : va_K (dC, dI) vwCl [((cX 37), .boolean), ((cM 38), .boolean)] s) (hP : va_P (dC, dI) vwCl [(rX 0, .inr (7, [.ref (rX 1), .int 0, .ref (rX 2), .ref (rX 55), .ref (rX 57), .ref (rX 30), .ref (rX 56), .ref (rX 36), .ref (rX 37), .ref (rX 38), .int 0, .ref (rX 51), .int 0, .ref (rX 52), .ref (rX 53), .ref (rX 54)])), (rX 37, .inl ((cX 37), 3, .inl (fun _ => 0))), (rM 0, .inr (8, [.ref (rM 1), .ref (rM 2), .int 0, .int 0, .int 0, .int (-1), .int 0, .int 0, .int 0, .int 0, .long 0, .ref (rM 3), .ref (rM 4), .ref (rM 5), .ref (rM 6), .ref (rM 7), .ref (rM 8), .ref (rM 9), .ref (rM 10), .ref (rM 11), .ref (rM 12), .ref (rM 13), .ref (rM 14), .ref (rM 15), .ref (rM 16), .ref (rM 17), .ref (rM 18), .ref (rM 19), .ref (rM 20), .ref (rM 21), .ref (rM 22), .ref (rM 23), .ref (rM 24), .int 0, .int 0, .int 0, .int 0, .int 0, .int 0, .int 0, .int 0, .int 0, .ref (rM 25), .ref (rM 26), .ref (rM 27), .int 0, .int 0, .ref (rM 28), .int 0, .ref (rM 29), .ref (rM 30), .ref (rM 31), .ref (rM 32), .ref (rM 33), .ref (rM 34), .ref (rM 35), .ref (rM 36), .int 0, .int 0, .int 0, .ref (rM 37), .ref (rM 38)])), (rM 38, .inl ((cM 38), 3, .inl (fM 38)))] H) (hD : va_D (fun q : Nat => s.heap.size ≤ q) [(rX 0, .inr (7, [.ref (rX 1), .int 0, .ref (rX 2), .ref (rX 55), .ref (rX 57), .ref (rX 30), .ref (rX 56), .ref (rX 36), .ref (rX 37), .ref (rX 38), .int 0, .ref (rX 51), .int 0, .ref (rX 52), .ref (rX 53), .ref (rX 54)])), (rX 37, .inl ((cX 37), 3, .inl (fun _ => 0))), (rM 0, .inr (8, [.ref (rM 1), .ref (rM 2), .int 0, .int 0, .int 0, .int (-1), .int 0, .int 0, .int 0, .int 0, .long 0, .ref (rM 3), .ref (rM 4), .ref (rM 5), .ref (rM 6), .ref (rM 7), .ref (rM 8), .ref (rM 9), .ref (rM 10), .ref (rM 11), .ref (rM 12), .ref (rM 13), .ref (rM 14), .ref (rM 15), .ref (rM 16), .ref (rM 17), .ref (rM 18), .ref (rM 19), .ref (rM 20), .ref (rM 21), .ref (rM 22), .ref (rM 23), .ref (rM 24), .int 0, .int 0, .int 0, .int 0, .int 0, .int 0, .int 0, .int 0, .int 0, .ref (rM 25), .ref (rM 26), .ref (rM 27), .int 0, .int 0, .ref (rM 28), .int 0, .ref (rM 29), .ref (rM 30), .ref (rM 31), .ref (rM 32), .ref (rM 33), .ref (rM 34), .ref (rM 35), .ref (rM 36), .int 0, .int 0, .int 0, .ref (rM 37), .ref (rM 38)])), (rM 38, .inl ((cM 38), 3, .inl (fM 38)))]) (hS : va_S (fun q : Nat => s.heap.size ≤ q) s.heap H locs) {ls : Array Slot} (hl : lv_has ls 4 [(3, .int 0), (2, .ref (rM 0)), (1, .ref (rX 0)), (0, .ref b)]) : W p l e room_1 s m #[Value.ref b] below meth c H locs 103 20190 (lw_Z below #[Value.ref b] s) (F0 m 1494 ls []) := by
  obtain ⟨hx, hb, hr, hml, hown, hts, hX, hbl, hlocks, hgv⟩ := id C0
  have hown : s.vm.findClass RL = some m.cls := hown
  have hG : ∀ w ∈ GW, w.before _ s = true := fun w h => hts w (List.mem_filter.mp h).1
  have hA : ∀ q : Nat, s.heap.size ≤ q → (fun q : Nat => s.heap.size ≤ q) q := fun _ h => h
  have hbA : ¬ (fun q : Nat => s.heap.size ≤ q) b := Nat.not_le.mpr hbl
  refine lv_aload_n hx hb dL_law_1494 rfl (lv_at hl 2 rfl) ?_
  refine lv_aload_n hx hb dL_law_1495 rfl (lv_at hl 3 rfl) ?_
  refine lv_iload_n hx hb dL_law_1496 rfl (lv_at hl 0 rfl) ?_
  refine lv_iconst (v := 1) hx hb dL_law_1497 (by decide) ?_
  refine lv_iadd hx hb dL_law_1498 ?_
  refine wt_c (v := 1) (by decide) ?_
  refine va_sld hx hb hX hbl hbA hS (vin (by decide)) dL_law_1499 ?_
  refine wt_c (v := xs 1) (congrArg xs (by decide)) ?_
  have hPc := hP.sub (ws' := [(rX 0, .inr (7, [.ref (rX 1), .int 0, .ref (rX 2), .ref (rX 55), .ref (rX 57), .ref (rX 30), .ref (rX 56), .ref (rX 36), .ref (rX 37), .ref (rX 38), .int 0, .ref (rX 51), .int 0, .ref (rX 52), .ref (rX 53), .ref (rX 54)])), (rX 37, .inl ((cX 37), 3, .inl (fun _ => 0)))]) [0, 1] rfl
  have hKc := hK.sub (tys' := [((cX 37), .boolean)]) [0] rfl
  have hDc := hD.sub (ws' := [(rX 0, .inr (7, [.ref (rX 1), .int 0, .ref (rX 2), .ref (rX 55), .ref (rX 57), .ref (rX 30), .ref (rX 56), .ref (rX 36), .ref (rX 37), .ref (rX 38), .int 0, .ref (rX 51), .int 0, .ref (rX 52), .ref (rX 53), .ref (rX 54)])), (rX 37, .inl ((cX 37), 3, .inl (fun _ => 0)))]) [0, 1] (by decide) rfl
  have hFc := va_free (wc := [(rX 0, .inr (7, [.ref (rX 1), .int 0, .ref (rX 2), .ref (rX 55), .ref (rX 57), .ref (rX 30), .ref (rX 56), .ref (rX 36), .ref (rX 37), .ref (rX 38), .int 0, .ref (rX 51), .int 0, .ref (rX 52), .ref (rX 53), .ref (rX 54)])), (rX 37, .inl ((cX 37), 3, .inl (fun _ => 0)))]) hD hS hA [0, 1] rfl
  refine va_calli (va_runV (As := [.int (xs 1)]) (rest := []) ⟨hx, hb, hml, hown, hG⟩ (kX8_restore l dC dI rX cX (xs 1) H.size ) (cwV 1 hG (goodV gw1140 gw1141 gw1142 gw129 gw1143) rfl rfl rfl hd_X8_restore ⟨(Nat.le_of_ble_eq_true rfl), (Nat.le_of_ble_eq_true rfl)⟩) ⟨fbW, va_recv hKc hPc (ci := 7) (q0 := 0) rfl rfl, pW_in hPc hKc hDc⟩ rfl rfl hl.1 rfl (lv_room (Nat.le_of_ble_eq_true rfl)) dL_law_1500 ⟨(Nat.le_of_ble_eq_true rfl), (Nat.le_of_ble_eq_true rfl)⟩) hS (fun q _ h => hFc q h) hFc (fun r_2 u t H1 locs ht hvm hw hB hz1 hk1 hS => ?_)
  obtain ⟨hP, hD⟩ := va_join (wr := [(rM 0, .inr (8, [.ref (rM 1), .ref (rM 2), .int 0, .int 0, .int 0, .int (-1), .int 0, .int 0, .int 0, .int 0, .long 0, .ref (rM 3), .ref (rM 4), .ref (rM 5), .ref (rM 6), .ref (rM 7), .ref (rM 8), .ref (rM 9), .ref (rM 10), .ref (rM 11), .ref (rM 12), .ref (rM 13), .ref (rM 14), .ref (rM 15), .ref (rM 16), .ref (rM 17), .ref (rM 18), .ref (rM 19), .ref (rM 20), .ref (rM 21), .ref (rM 22), .ref (rM 23), .ref (rM 24), .int 0, .int 0, .int 0, .int 0, .int 0, .int 0, .int 0, .int 0, .int 0, .ref (rM 25), .ref (rM 26), .ref (rM 27), .int 0, .int 0, .ref (rM 28), .int 0, .ref (rM 29), .ref (rM 30), .ref (rM 31), .ref (rM 32), .ref (rM 33), .ref (rM 34), .ref (rM 35), .ref (rM 36), .int 0, .int 0, .int 0, .ref (rM 37), .ref (rM 38)])), (rM 38, .inl ((cM 38), 3, .inl (fM 38)))]) (w1 := []) hP hD [0, 1] [2, 3] rfl rfl (by decide) (by decide) hk1 hFc (fun k q h => by simp at h) ⟨fun i j p q h => by simp at h, fun k q h => by simp at h⟩
  refine wt_c (v := (-1)) hw ?_
  refine lv_aload_n hx hb dL_law_1503 rfl (lv_at hl 1 rfl) ?_
  refine lv_aload_n hx hb dL_law_1504 rfl (lv_at hl 3 rfl) ?_
  refine lv_iload_n hx hb dL_law_1505 rfl (lv_at hl 0 rfl) ?_
  refine lv_iconst (v := 1) hx hb dL_law_1506 (by decide) ?_
  refine lv_iadd hx hb dL_law_1507 ?_
  refine wt_c (v := 1) (by decide) ?_
  refine va_sld hx hb hX hbl hbA hS (vin (by decide)) dL_law_1508 ?_
  refine wt_c (v := xs 1) (congrArg xs (by decide)) ?_
  have hPc := hP.sub (ws' := [(rM 0, .inr (8, [.ref (rM 1), .ref (rM 2), .int 0, .int 0, .int 0, .int (-1), .int 0, .int 0, .int 0, .int 0, .long 0, .ref (rM 3), .ref (rM 4), .ref (rM 5), .ref (rM 6), .ref (rM 7), .ref (rM 8), .ref (rM 9), .ref (rM 10), .ref (rM 11), .ref (rM 12), .ref (rM 13), .ref (rM 14), .ref (rM 15), .ref (rM 16), .ref (rM 17), .ref (rM 18), .ref (rM 19), .ref (rM 20), .ref (rM 21), .ref (rM 22), .ref (rM 23), .ref (rM 24), .int 0, .int 0, .int 0, .int 0, .int 0, .int 0, .int 0, .int 0, .int 0, .ref (rM 25), .ref (rM 26), .ref (rM 27), .int 0, .int 0, .ref (rM 28), .int 0, .ref (rM 29), .ref (rM 30), .ref (rM 31), .ref (rM 32), .ref (rM 33), .ref (rM 34), .ref (rM 35), .ref (rM 36), .int 0, .int 0, .int 0, .ref (rM 37), .ref (rM 38)])), (rM 38, .inl ((cM 38), 3, .inl (fM 38)))]) [0, 1] rfl
  have hKc := hK.sub (tys' := [((cM 38), .boolean)]) [1] rfl
  have hDc := hD.sub (ws' := [(rM 0, .inr (8, [.ref (rM 1), .ref (rM 2), .int 0, .int 0, .int 0, .int (-1), .int 0, .int 0, .int 0, .int 0, .long 0, .ref (rM 3), .ref (rM 4), .ref (rM 5), .ref (rM 6), .ref (rM 7), .ref (rM 8), .ref (rM 9), .ref (rM 10), .ref (rM 11), .ref (rM 12), .ref (rM 13), .ref (rM 14), .ref (rM 15), .ref (rM 16), .ref (rM 17), .ref (rM 18), .ref (rM 19), .ref (rM 20), .ref (rM 21), .ref (rM 22), .ref (rM 23), .ref (rM 24), .int 0, .int 0, .int 0, .int 0, .int 0, .int 0, .int 0, .int 0, .int 0, .ref (rM 25), .ref (rM 26), .ref (rM 27), .int 0, .int 0, .ref (rM 28), .int 0, .ref (rM 29), .ref (rM 30), .ref (rM 31), .ref (rM 32), .ref (rM 33), .ref (rM 34), .ref (rM 35), .ref (rM 36), .int 0, .int 0, .int 0, .ref (rM 37), .ref (rM 38)])), (rM 38, .inl ((cM 38), 3, .inl (fM 38)))]) [0, 1] (by decide) rfl
  have hFc := va_free (wc := [(rM 0, .inr (8, [.ref (rM 1), .ref (rM 2), .int 0, .int 0, .int 0, .int (-1), .int 0, .int 0, .int 0, .int 0, .long 0, .ref (rM 3), .ref (rM 4), .ref (rM 5), .ref (rM 6), .ref (rM 7), .ref (rM 8), .ref (rM 9), .ref (rM 10), .ref (rM 11), .ref (rM 12), .ref (rM 13), .ref (rM 14), .ref (rM 15), .ref (rM 16), .ref (rM 17), .ref (rM 18), .ref (rM 19), .ref (rM 20), .ref (rM 21), .ref (rM 22), .ref (rM 23), .ref (rM 24), .int 0, .int 0, .int 0, .int 0, .int 0, .int 0, .int 0, .int 0, .int 0, .ref (rM 25), .ref (rM 26), .ref (rM 27), .int 0, .int 0, .ref (rM 28), .int 0, .ref (rM 29), .ref (rM 30), .ref (rM 31), .ref (rM 32), .ref (rM 33), .ref (rM 34), .ref (rM 35), .ref (rM 36), .int 0, .int 0, .int 0, .ref (rM 37), .ref (rM 38)])), (rM 38, .inl ((cM 38), 3, .inl (fM 38)))]) hD hS hA [0, 1] rfl
  refine va_calli (va_runV (As := [.int (xs 1)]) (rest := [.int (-1)]) ⟨hx, hb, hml, hown, hG⟩ (kX9_restore l dC dI rM cM (fM 38) (xs 1) H1.size hfM_38_0 hfM_38_1 hfM_38_2) (cwV 1 hG (goodV gw1865 gw1866 gw1867 gw138 gw1868) rfl rfl rfl hd_X9_restore ⟨(Nat.le_of_ble_eq_true rfl), (Nat.le_of_ble_eq_true rfl)⟩) ⟨fbW, va_recv hKc hPc (ci := 8) (q0 := 0) rfl rfl, pW_in hPc hKc hDc⟩ rfl rfl hl.1 rfl (lv_room (Nat.le_of_ble_eq_true rfl)) dL_law_1509 ⟨(Nat.le_of_ble_eq_true rfl), (Nat.le_of_ble_eq_true rfl)⟩) hS (fun q _ h => hFc q h) hFc (fun r_4 u t H3 locs ht hvm hw hB hz1 hk1 hS => ?_)
  obtain ⟨hP, hD⟩ := va_join (wr := []) (w1 := []) hP hD [0, 1] [] rfl rfl (by decide) (by decide) hk1 hFc (fun k q h => by simp at h) ⟨fun i j p q h => by simp at h, fun k q h => by simp at h⟩
  refine wt_c (v := (-1)) hw ?_
  refine lv_icmp_eq (tgt := 1540) hx hb dL_law_1512 (by decide) (fun c_5 => ?_) (fun c_5 => absurd (by decide) c_5)
  exact law_end l C0 hS hl
set_option maxHeartbeats 4000000 in
set_option maxRecDepth 100000 in
theorem law_47 {p : Program} {e : Env} {s : State} {m : MethodId} {below : List Frame} {meth : Method} {c : Code} (l : Launch) {b : Nat} {xs : Nat → Int32} (C0 : lw_At p s m meth c b 6 xs) (dC : Nat → ClassId) (dI : Nat → Nat → Nat) (rX rM : Nat → Nat) (cX cM : Nat → ClassId) (fX fM : Nat → Nat → Int32) (gX gM : Nat → Nat → Int64) (hfM_3_0 : fM 3 0 = 1) (hfM_3_1 : fM 3 1 = 0) (hfM_4_0 : fM 4 0 = 0) (hfM_4_1 : fM 4 1 = 0) (hfM_5_0 : fM 5 0 = 0) (hfM_5_1 : fM 5 1 = 0) (hfM_6_0 : fM 6 0 = 0) (hfM_6_1 : fM 6 1 = 0) (hfM_7_0 : fM 7 0 = 0) (hfM_7_1 : fM 7 1 = 0) (hfM_25_24 : fM 25 24 = 0) (hfM_25_25 : fM 25 25 = 0) {H : Heap} {locs : List Loc} (hK : va_K (dC, dI) vwCl [((cM 3), .int), ((cM 4), .int), ((cM 5), .int), ((cM 6), .int), ((cM 7), .int), ((cM 25), .int)] s) (hP : va_P (dC, dI) vwCl [(rX 0, .inr (7, [.ref (rX 1), .int 0, .ref (rX 2), .ref (rX 55), .ref (rX 57), .ref (rX 30), .ref (rX 56), .ref (rX 36), .ref (rX 37), .ref (rX 38), .int 0, .ref (rX 51), .int 0, .ref (rX 52), .ref (rX 53), .ref (rX 54)])), (rX 38, .inr (2, [.int 0, .ref (rX 39), .ref (rX 40), .ref (rX 41), .ref (rX 42), .ref (rX 43), .ref (rX 44), .int 0, .ref (rX 45), .ref (rX 46), .ref (rX 47), .ref (rX 48), .ref (rX 49), .ref (rX 50)])), (rX 55, .inr (3, [.int 1, .int 0, .int 0, .int 0, .ref (rX 20), .ref (rX 21), .ref (rX 22), .int 0, .ref (rX 23), .ref (rX 24), .ref (rX 25), .int 0, .ref (rX 28), .ref (rX 27)])), (rX 56, .inr (0, [.ref (rX 58), .int 0, .int 0])), (rX 57, .inr (6, [.ref (rX 59), .ref (rX 60), .ref (rX 61), .ref (rX 62), .ref (rX 63), .int 0, .int 0])), (rM 0, .inr (8, [.ref (rM 1), .ref (rM 2), .int 0, .int 0, .int 0, .int (-1), .int 0, .int 0, .int 0, .int 0, .long 0, .ref (rM 3), .ref (rM 4), .ref (rM 5), .ref (rM 6), .ref (rM 7), .ref (rM 8), .ref (rM 9), .ref (rM 10), .ref (rM 11), .ref (rM 12), .ref (rM 13), .ref (rM 14), .ref (rM 15), .ref (rM 16), .ref (rM 17), .ref (rM 18), .ref (rM 19), .ref (rM 20), .ref (rM 21), .ref (rM 22), .ref (rM 23), .ref (rM 24), .int 0, .int 0, .int 0, .int 0, .int 0, .int 0, .int 0, .int 0, .int 0, .ref (rM 25), .ref (rM 26), .ref (rM 27), .int 0, .int 0, .ref (rM 28), .int 0, .ref (rM 29), .ref (rM 30), .ref (rM 31), .ref (rM 32), .ref (rM 33), .ref (rM 34), .ref (rM 35), .ref (rM 36), .int 0, .int 0, .int 0, .ref (rM 37), .ref (rM 38)])), (rM 3, .inl ((cM 3), 2, .inl (fM 3))), (rM 4, .inl ((cM 4), 2, .inl (fM 4))), (rM 5, .inl ((cM 5), 2, .inl (fM 5))), (rM 6, .inl ((cM 6), 2, .inl (fM 6))), (rM 7, .inl ((cM 7), 2, .inl (fM 7))), (rM 25, .inl ((cM 25), 26, .inl (fM 25)))] H) (hD : va_D (fun q : Nat => s.heap.size ≤ q) [(rX 0, .inr (7, [.ref (rX 1), .int 0, .ref (rX 2), .ref (rX 55), .ref (rX 57), .ref (rX 30), .ref (rX 56), .ref (rX 36), .ref (rX 37), .ref (rX 38), .int 0, .ref (rX 51), .int 0, .ref (rX 52), .ref (rX 53), .ref (rX 54)])), (rX 38, .inr (2, [.int 0, .ref (rX 39), .ref (rX 40), .ref (rX 41), .ref (rX 42), .ref (rX 43), .ref (rX 44), .int 0, .ref (rX 45), .ref (rX 46), .ref (rX 47), .ref (rX 48), .ref (rX 49), .ref (rX 50)])), (rX 55, .inr (3, [.int 1, .int 0, .int 0, .int 0, .ref (rX 20), .ref (rX 21), .ref (rX 22), .int 0, .ref (rX 23), .ref (rX 24), .ref (rX 25), .int 0, .ref (rX 28), .ref (rX 27)])), (rX 56, .inr (0, [.ref (rX 58), .int 0, .int 0])), (rX 57, .inr (6, [.ref (rX 59), .ref (rX 60), .ref (rX 61), .ref (rX 62), .ref (rX 63), .int 0, .int 0])), (rM 0, .inr (8, [.ref (rM 1), .ref (rM 2), .int 0, .int 0, .int 0, .int (-1), .int 0, .int 0, .int 0, .int 0, .long 0, .ref (rM 3), .ref (rM 4), .ref (rM 5), .ref (rM 6), .ref (rM 7), .ref (rM 8), .ref (rM 9), .ref (rM 10), .ref (rM 11), .ref (rM 12), .ref (rM 13), .ref (rM 14), .ref (rM 15), .ref (rM 16), .ref (rM 17), .ref (rM 18), .ref (rM 19), .ref (rM 20), .ref (rM 21), .ref (rM 22), .ref (rM 23), .ref (rM 24), .int 0, .int 0, .int 0, .int 0, .int 0, .int 0, .int 0, .int 0, .int 0, .ref (rM 25), .ref (rM 26), .ref (rM 27), .int 0, .int 0, .ref (rM 28), .int 0, .ref (rM 29), .ref (rM 30), .ref (rM 31), .ref (rM 32), .ref (rM 33), .ref (rM 34), .ref (rM 35), .ref (rM 36), .int 0, .int 0, .int 0, .ref (rM 37), .ref (rM 38)])), (rM 3, .inl ((cM 3), 2, .inl (fM 3))), (rM 4, .inl ((cM 4), 2, .inl (fM 4))), (rM 5, .inl ((cM 5), 2, .inl (fM 5))), (rM 6, .inl ((cM 6), 2, .inl (fM 6))), (rM 7, .inl ((cM 7), 2, .inl (fM 7))), (rM 25, .inl ((cM 25), 26, .inl (fM 25)))]) (hS : va_S (fun q : Nat => s.heap.size ≤ q) s.heap H locs) {ls : Array Slot} (hl : lv_has ls 4 [(3, .int 0), (2, .ref (rM 0)), (1, .ref (rX 0)), (0, .ref b)]) : W p l e room_1 s m #[Value.ref b] below meth c H locs 103 20190 (lw_Z below #[Value.ref b] s) (F0 m 1517 ls []) := by
  obtain ⟨hx, hb, hr, hml, hown, hts, hX, hbl, hlocks, hgv⟩ := id C0
  have hown : s.vm.findClass RL = some m.cls := hown
  have hG : ∀ w ∈ GW, w.before _ s = true := fun w h => hts w (List.mem_filter.mp h).1
  have hA : ∀ q : Nat, s.heap.size ≤ q → (fun q : Nat => s.heap.size ≤ q) q := fun _ h => h
  have hbA : ¬ (fun q : Nat => s.heap.size ≤ q) b := Nat.not_le.mpr hbl
  refine lv_aload_n hx hb dL_law_1517 rfl (lv_at hl 2 rfl) ?_
  refine lv_aload_n hx hb dL_law_1518 rfl (lv_at hl 3 rfl) ?_
  refine lv_iload_n hx hb dL_law_1519 rfl (lv_at hl 0 rfl) ?_
  refine lv_iconst (v := 1) hx hb dL_law_1520 (by decide) ?_
  refine lv_iadd hx hb dL_law_1521 ?_
  refine wt_c (v := 1) (by decide) ?_
  refine va_sld hx hb hX hbl hbA hS (vin (by decide)) dL_law_1522 ?_
  refine wt_c (v := xs 1) (congrArg xs (by decide)) ?_
  have hPc := hP.sub (ws' := [(rX 0, .inr (7, [.ref (rX 1), .int 0, .ref (rX 2), .ref (rX 55), .ref (rX 57), .ref (rX 30), .ref (rX 56), .ref (rX 36), .ref (rX 37), .ref (rX 38), .int 0, .ref (rX 51), .int 0, .ref (rX 52), .ref (rX 53), .ref (rX 54)])), (rX 38, .inr (2, [.int 0, .ref (rX 39), .ref (rX 40), .ref (rX 41), .ref (rX 42), .ref (rX 43), .ref (rX 44), .int 0, .ref (rX 45), .ref (rX 46), .ref (rX 47), .ref (rX 48), .ref (rX 49), .ref (rX 50)])), (rX 55, .inr (3, [.int 1, .int 0, .int 0, .int 0, .ref (rX 20), .ref (rX 21), .ref (rX 22), .int 0, .ref (rX 23), .ref (rX 24), .ref (rX 25), .int 0, .ref (rX 28), .ref (rX 27)])), (rX 56, .inr (0, [.ref (rX 58), .int 0, .int 0])), (rX 57, .inr (6, [.ref (rX 59), .ref (rX 60), .ref (rX 61), .ref (rX 62), .ref (rX 63), .int 0, .int 0]))]) [0, 1, 2, 3, 4] rfl
  have hKc := hK.sub (tys' := []) [] rfl
  have hDc := hD.sub (ws' := [(rX 0, .inr (7, [.ref (rX 1), .int 0, .ref (rX 2), .ref (rX 55), .ref (rX 57), .ref (rX 30), .ref (rX 56), .ref (rX 36), .ref (rX 37), .ref (rX 38), .int 0, .ref (rX 51), .int 0, .ref (rX 52), .ref (rX 53), .ref (rX 54)])), (rX 38, .inr (2, [.int 0, .ref (rX 39), .ref (rX 40), .ref (rX 41), .ref (rX 42), .ref (rX 43), .ref (rX 44), .int 0, .ref (rX 45), .ref (rX 46), .ref (rX 47), .ref (rX 48), .ref (rX 49), .ref (rX 50)])), (rX 55, .inr (3, [.int 1, .int 0, .int 0, .int 0, .ref (rX 20), .ref (rX 21), .ref (rX 22), .int 0, .ref (rX 23), .ref (rX 24), .ref (rX 25), .int 0, .ref (rX 28), .ref (rX 27)])), (rX 56, .inr (0, [.ref (rX 58), .int 0, .int 0])), (rX 57, .inr (6, [.ref (rX 59), .ref (rX 60), .ref (rX 61), .ref (rX 62), .ref (rX 63), .int 0, .int 0]))]) [0, 1, 2, 3, 4] (by decide) rfl
  have hFc := va_free (wc := [(rX 0, .inr (7, [.ref (rX 1), .int 0, .ref (rX 2), .ref (rX 55), .ref (rX 57), .ref (rX 30), .ref (rX 56), .ref (rX 36), .ref (rX 37), .ref (rX 38), .int 0, .ref (rX 51), .int 0, .ref (rX 52), .ref (rX 53), .ref (rX 54)])), (rX 38, .inr (2, [.int 0, .ref (rX 39), .ref (rX 40), .ref (rX 41), .ref (rX 42), .ref (rX 43), .ref (rX 44), .int 0, .ref (rX 45), .ref (rX 46), .ref (rX 47), .ref (rX 48), .ref (rX 49), .ref (rX 50)])), (rX 55, .inr (3, [.int 1, .int 0, .int 0, .int 0, .ref (rX 20), .ref (rX 21), .ref (rX 22), .int 0, .ref (rX 23), .ref (rX 24), .ref (rX 25), .int 0, .ref (rX 28), .ref (rX 27)])), (rX 56, .inr (0, [.ref (rX 58), .int 0, .int 0])), (rX 57, .inr (6, [.ref (rX 59), .ref (rX 60), .ref (rX 61), .ref (rX 62), .ref (rX 63), .int 0, .int 0]))]) hD hS hA [0, 1, 2, 3, 4] rfl
  refine va_calli (va_runV (As := [.int (xs 1)]) (rest := []) ⟨hx, hb, hml, hown, hG⟩ (kX8_about l dC dI rX cX (xs 1) H.size ) (cwV 1 hG (goodV gw1145 gw1146 gw1147 gw129 gw1148) rfl rfl rfl hd_X8_about ⟨(Nat.le_of_ble_eq_true rfl), (Nat.le_of_ble_eq_true rfl)⟩) ⟨fbW, va_recv hKc hPc (ci := 7) (q0 := 0) rfl rfl, pW_in hPc hKc hDc⟩ rfl rfl hl.1 rfl (lv_room (Nat.le_of_ble_eq_true rfl)) dL_law_1523 ⟨(Nat.le_of_ble_eq_true rfl), (Nat.le_of_ble_eq_true rfl)⟩) hS (fun q _ h => hFc q h) hFc (fun r_2 u t H1 locs ht hvm hw hB hz1 hk1 hS => ?_)
  rcases hw with ⟨rfl, hy3, hw⟩ | ⟨rfl, hy4, hw⟩ | ⟨rfl, hy5, hw⟩ | ⟨rfl, hy6, hw⟩ | ⟨rfl, hy7, hw⟩ | ⟨rfl, hy8, hw⟩ | ⟨rfl, hy9, hw⟩ | ⟨rfl, hy10, hw⟩ | ⟨rfl, hy11, hw⟩ | ⟨rfl, hy12, hw⟩ | ⟨rfl, hy13, hw⟩ | ⟨rfl, hy14, hw⟩ | ⟨rfl, hy15, hw⟩ | ⟨rfl, hy16, hw⟩ | ⟨rfl, hy17, hw⟩ | ⟨rfl, hy18, hw⟩
  · skip
    obtain ⟨hP, hD⟩ := va_join (wr := [(rM 0, .inr (8, [.ref (rM 1), .ref (rM 2), .int 0, .int 0, .int 0, .int (-1), .int 0, .int 0, .int 0, .int 0, .long 0, .ref (rM 3), .ref (rM 4), .ref (rM 5), .ref (rM 6), .ref (rM 7), .ref (rM 8), .ref (rM 9), .ref (rM 10), .ref (rM 11), .ref (rM 12), .ref (rM 13), .ref (rM 14), .ref (rM 15), .ref (rM 16), .ref (rM 17), .ref (rM 18), .ref (rM 19), .ref (rM 20), .ref (rM 21), .ref (rM 22), .ref (rM 23), .ref (rM 24), .int 0, .int 0, .int 0, .int 0, .int 0, .int 0, .int 0, .int 0, .int 0, .ref (rM 25), .ref (rM 26), .ref (rM 27), .int 0, .int 0, .ref (rM 28), .int 0, .ref (rM 29), .ref (rM 30), .ref (rM 31), .ref (rM 32), .ref (rM 33), .ref (rM 34), .ref (rM 35), .ref (rM 36), .int 0, .int 0, .int 0, .ref (rM 37), .ref (rM 38)])), (rM 3, .inl ((cM 3), 2, .inl (fM 3))), (rM 4, .inl ((cM 4), 2, .inl (fM 4))), (rM 5, .inl ((cM 5), 2, .inl (fM 5))), (rM 6, .inl ((cM 6), 2, .inl (fM 6))), (rM 7, .inl ((cM 7), 2, .inl (fM 7))), (rM 25, .inl ((cM 25), 26, .inl (fM 25)))]) (w1 := []) hP hD [0, 1, 2, 3, 4] [5, 6, 7, 8, 9, 10, 11] rfl rfl (by decide) (by decide) hk1 hFc (fun k q h => by simp at h) ⟨fun i j p q h => by simp at h, fun k q h => by simp at h⟩
    refine wt_c (v := (-1)) hw ?_
    refine lv_aload_n hx hb dL_law_1526 rfl (lv_at hl 1 rfl) ?_
    refine lv_aload_n hx hb dL_law_1527 rfl (lv_at hl 3 rfl) ?_
    refine lv_iload_n hx hb dL_law_1528 rfl (lv_at hl 0 rfl) ?_
    refine lv_iconst (v := 1) hx hb dL_law_1529 (by decide) ?_
    refine lv_iadd hx hb dL_law_1530 ?_
    refine wt_c (v := 1) (by decide) ?_
    refine va_sld hx hb hX hbl hbA hS (vin (by decide)) dL_law_1531 ?_
    refine wt_c (v := xs 1) (congrArg xs (by decide)) ?_
    have hPc := hP.sub (ws' := [(rM 0, .inr (8, [.ref (rM 1), .ref (rM 2), .int 0, .int 0, .int 0, .int (-1), .int 0, .int 0, .int 0, .int 0, .long 0, .ref (rM 3), .ref (rM 4), .ref (rM 5), .ref (rM 6), .ref (rM 7), .ref (rM 8), .ref (rM 9), .ref (rM 10), .ref (rM 11), .ref (rM 12), .ref (rM 13), .ref (rM 14), .ref (rM 15), .ref (rM 16), .ref (rM 17), .ref (rM 18), .ref (rM 19), .ref (rM 20), .ref (rM 21), .ref (rM 22), .ref (rM 23), .ref (rM 24), .int 0, .int 0, .int 0, .int 0, .int 0, .int 0, .int 0, .int 0, .int 0, .ref (rM 25), .ref (rM 26), .ref (rM 27), .int 0, .int 0, .ref (rM 28), .int 0, .ref (rM 29), .ref (rM 30), .ref (rM 31), .ref (rM 32), .ref (rM 33), .ref (rM 34), .ref (rM 35), .ref (rM 36), .int 0, .int 0, .int 0, .ref (rM 37), .ref (rM 38)])), (rM 3, .inl ((cM 3), 2, .inl (fM 3))), (rM 4, .inl ((cM 4), 2, .inl (fM 4))), (rM 5, .inl ((cM 5), 2, .inl (fM 5))), (rM 6, .inl ((cM 6), 2, .inl (fM 6))), (rM 7, .inl ((cM 7), 2, .inl (fM 7))), (rM 25, .inl ((cM 25), 26, .inl (fM 25)))]) [0, 1, 2, 3, 4, 5, 6] rfl
    have hKc := hK.sub (tys' := [((cM 3), .int), ((cM 4), .int), ((cM 5), .int), ((cM 6), .int), ((cM 7), .int), ((cM 25), .int)]) [0, 1, 2, 3, 4, 5] rfl
    have hDc := hD.sub (ws' := [(rM 0, .inr (8, [.ref (rM 1), .ref (rM 2), .int 0, .int 0, .int 0, .int (-1), .int 0, .int 0, .int 0, .int 0, .long 0, .ref (rM 3), .ref (rM 4), .ref (rM 5), .ref (rM 6), .ref (rM 7), .ref (rM 8), .ref (rM 9), .ref (rM 10), .ref (rM 11), .ref (rM 12), .ref (rM 13), .ref (rM 14), .ref (rM 15), .ref (rM 16), .ref (rM 17), .ref (rM 18), .ref (rM 19), .ref (rM 20), .ref (rM 21), .ref (rM 22), .ref (rM 23), .ref (rM 24), .int 0, .int 0, .int 0, .int 0, .int 0, .int 0, .int 0, .int 0, .int 0, .ref (rM 25), .ref (rM 26), .ref (rM 27), .int 0, .int 0, .ref (rM 28), .int 0, .ref (rM 29), .ref (rM 30), .ref (rM 31), .ref (rM 32), .ref (rM 33), .ref (rM 34), .ref (rM 35), .ref (rM 36), .int 0, .int 0, .int 0, .ref (rM 37), .ref (rM 38)])), (rM 3, .inl ((cM 3), 2, .inl (fM 3))), (rM 4, .inl ((cM 4), 2, .inl (fM 4))), (rM 5, .inl ((cM 5), 2, .inl (fM 5))), (rM 6, .inl ((cM 6), 2, .inl (fM 6))), (rM 7, .inl ((cM 7), 2, .inl (fM 7))), (rM 25, .inl ((cM 25), 26, .inl (fM 25)))]) [0, 1, 2, 3, 4, 5, 6] (by decide) rfl
    have hFc := va_free (wc := [(rM 0, .inr (8, [.ref (rM 1), .ref (rM 2), .int 0, .int 0, .int 0, .int (-1), .int 0, .int 0, .int 0, .int 0, .long 0, .ref (rM 3), .ref (rM 4), .ref (rM 5), .ref (rM 6), .ref (rM 7), .ref (rM 8), .ref (rM 9), .ref (rM 10), .ref (rM 11), .ref (rM 12), .ref (rM 13), .ref (rM 14), .ref (rM 15), .ref (rM 16), .ref (rM 17), .ref (rM 18), .ref (rM 19), .ref (rM 20), .ref (rM 21), .ref (rM 22), .ref (rM 23), .ref (rM 24), .int 0, .int 0, .int 0, .int 0, .int 0, .int 0, .int 0, .int 0, .int 0, .ref (rM 25), .ref (rM 26), .ref (rM 27), .int 0, .int 0, .ref (rM 28), .int 0, .ref (rM 29), .ref (rM 30), .ref (rM 31), .ref (rM 32), .ref (rM 33), .ref (rM 34), .ref (rM 35), .ref (rM 36), .int 0, .int 0, .int 0, .ref (rM 37), .ref (rM 38)])), (rM 3, .inl ((cM 3), 2, .inl (fM 3))), (rM 4, .inl ((cM 4), 2, .inl (fM 4))), (rM 5, .inl ((cM 5), 2, .inl (fM 5))), (rM 6, .inl ((cM 6), 2, .inl (fM 6))), (rM 7, .inl ((cM 7), 2, .inl (fM 7))), (rM 25, .inl ((cM 25), 26, .inl (fM 25)))]) hD hS hA [0, 1, 2, 3, 4, 5, 6] rfl
    refine va_calli (va_runV (As := [.int (xs 1)]) (rest := [.int (-1)]) ⟨hx, hb, hml, hown, hG⟩ (kX9_about l dC dI rM cM (fM 3) (fM 4) (fM 5) (fM 6) (fM 7) (fM 25) (xs 1) H1.size hfM_3_0 hfM_4_0 hfM_5_0 hfM_6_0 hfM_7_0 hfM_25_24 hfM_25_25) (cwV 1 hG (goodV gw1869 gw1870 gw1871 gw138 gw1872) rfl rfl rfl hd_X9_about ⟨(Nat.le_of_ble_eq_true rfl), (Nat.le_of_ble_eq_true rfl)⟩) ⟨fbW, va_recv hKc hPc (ci := 8) (q0 := 0) rfl rfl, pW_in hPc hKc hDc⟩ rfl rfl hl.1 rfl (lv_room (Nat.le_of_ble_eq_true rfl)) dL_law_1532 ⟨(Nat.le_of_ble_eq_true rfl), (Nat.le_of_ble_eq_true rfl)⟩) hS (fun q _ h => hFc q h) hFc (fun r_20 u t H19 locs ht hvm hw hB hz1 hk1 hS => ?_)
    rcases hw with ⟨rfl, hy21, hw⟩ | ⟨rfl, hy22, hw⟩ | ⟨rfl, hy23, hw⟩ | ⟨rfl, hy24, hw⟩ | ⟨rfl, hy25, hw⟩ | ⟨rfl, hy26, hw⟩ | ⟨rfl, hy27, hw⟩ | ⟨rfl, hy28, hw⟩ | ⟨rfl, hy29, hw⟩ | ⟨rfl, hy30, hw⟩ | ⟨rfl, hy31, hw⟩ | ⟨rfl, hy32, hw⟩ | ⟨rfl, hy33, hw⟩ | ⟨rfl, hy34, hw⟩ | ⟨rfl, hy35, hw⟩ | ⟨rfl, hy36, hw⟩
    · skip
      obtain ⟨hP, hD⟩ := va_join (wr := []) (w1 := []) hP hD [0, 1, 2, 3, 4, 5, 6] [] rfl rfl (by decide) (by decide) hk1 hFc (fun k q h => by simp at h) ⟨fun i j p q h => by simp at h, fun k q h => by simp at h⟩
      refine wt_c (v := (-1)) hw ?_
      refine lv_icmp_eq (tgt := 1540) hx hb dL_law_1535 (by decide) (fun c_37 => ?_) (fun c_37 => absurd (by decide) c_37)
      exact law_end l C0 hS hl
    · skip
      exact ((by have k0 := hy3; have k1 := q_eq hy22; have z0 : (0 : Int32).toInt = 0 := (by decide); omega) : False).elim
    · skip
      exact ((by have k0 := hy3; have k1 := q_eq hy23; have z1 : (1 : Int32).toInt = 1 := (by decide); omega) : False).elim
    · skip
      exact ((by have k0 := hy3; have k1 := q_eq hy24; have z2 : (2 : Int32).toInt = 2 := (by decide); omega) : False).elim
    · skip
      exact ((by have k0 := hy3; have k1 := q_eq hy25; have z3 : (3 : Int32).toInt = 3 := (by decide); omega) : False).elim
    · skip
      exact ((by have k0 := hy3; have k1 := q_eq hy26; have z4 : (4 : Int32).toInt = 4 := (by decide); omega) : False).elim
    · skip
      exact ((by have k0 := hy3; have k1 := q_eq hy27; have z5 : (5 : Int32).toInt = 5 := (by decide); omega) : False).elim
    · skip
      exact ((by have k0 := hy3; have k1 := q_eq hy28; have z6 : (6 : Int32).toInt = 6 := (by decide); omega) : False).elim
    · skip
      exact ((by have k0 := hy3; have k1 := q_eq hy29; have z7 : (7 : Int32).toInt = 7 := (by decide); omega) : False).elim
    · skip
      exact ((by have k0 := hy3; have k1 := q_eq hy30; have z8 : (8 : Int32).toInt = 8 := (by decide); omega) : False).elim
    · skip
      exact ((by have k0 := hy3; have k1 := q_eq hy31; have z9 : (9 : Int32).toInt = 9 := (by decide); omega) : False).elim
    · skip
      exact ((by have k0 := hy3; have k1 := q_eq hy32; have z10 : (10 : Int32).toInt = 10 := (by decide); omega) : False).elim
    · skip
      exact ((by have k0 := hy3; have k1 := q_eq hy33; have z11 : (11 : Int32).toInt = 11 := (by decide); omega) : False).elim
    · skip
      exact ((by have k0 := hy3; have k1 := q_eq hy34; have z12 : (12 : Int32).toInt = 12 := (by decide); omega) : False).elim
    · skip
      exact ((by have k0 := hy3; have k1 := q_eq hy35; have z13 : (13 : Int32).toInt = 13 := (by decide); omega) : False).elim
    · skip
      exact ((by have k0 := hy3; have k1 := q_eq hy36; have z14 : (14 : Int32).toInt = 14 := (by decide); omega) : False).elim
  · skip
    obtain ⟨hP, hD⟩ := va_join (wr := [(rM 0, .inr (8, [.ref (rM 1), .ref (rM 2), .int 0, .int 0, .int 0, .int (-1), .int 0, .int 0, .int 0, .int 0, .long 0, .ref (rM 3), .ref (rM 4), .ref (rM 5), .ref (rM 6), .ref (rM 7), .ref (rM 8), .ref (rM 9), .ref (rM 10), .ref (rM 11), .ref (rM 12), .ref (rM 13), .ref (rM 14), .ref (rM 15), .ref (rM 16), .ref (rM 17), .ref (rM 18), .ref (rM 19), .ref (rM 20), .ref (rM 21), .ref (rM 22), .ref (rM 23), .ref (rM 24), .int 0, .int 0, .int 0, .int 0, .int 0, .int 0, .int 0, .int 0, .int 0, .ref (rM 25), .ref (rM 26), .ref (rM 27), .int 0, .int 0, .ref (rM 28), .int 0, .ref (rM 29), .ref (rM 30), .ref (rM 31), .ref (rM 32), .ref (rM 33), .ref (rM 34), .ref (rM 35), .ref (rM 36), .int 0, .int 0, .int 0, .ref (rM 37), .ref (rM 38)])), (rM 3, .inl ((cM 3), 2, .inl (fM 3))), (rM 4, .inl ((cM 4), 2, .inl (fM 4))), (rM 5, .inl ((cM 5), 2, .inl (fM 5))), (rM 6, .inl ((cM 6), 2, .inl (fM 6))), (rM 7, .inl ((cM 7), 2, .inl (fM 7))), (rM 25, .inl ((cM 25), 26, .inl (fM 25)))]) (w1 := []) hP hD [0, 1, 2, 3, 4] [5, 6, 7, 8, 9, 10, 11] rfl rfl (by decide) (by decide) hk1 hFc (fun k q h => by simp at h) ⟨fun i j p q h => by simp at h, fun k q h => by simp at h⟩
    refine wt_c (v := 0) hw ?_
    refine lv_aload_n hx hb dL_law_1526 rfl (lv_at hl 1 rfl) ?_
    refine lv_aload_n hx hb dL_law_1527 rfl (lv_at hl 3 rfl) ?_
    refine lv_iload_n hx hb dL_law_1528 rfl (lv_at hl 0 rfl) ?_
    refine lv_iconst (v := 1) hx hb dL_law_1529 (by decide) ?_
    refine lv_iadd hx hb dL_law_1530 ?_
    refine wt_c (v := 1) (by decide) ?_
    refine va_sld hx hb hX hbl hbA hS (vin (by decide)) dL_law_1531 ?_
    refine wt_c (v := xs 1) (congrArg xs (by decide)) ?_
    have hPc := hP.sub (ws' := [(rM 0, .inr (8, [.ref (rM 1), .ref (rM 2), .int 0, .int 0, .int 0, .int (-1), .int 0, .int 0, .int 0, .int 0, .long 0, .ref (rM 3), .ref (rM 4), .ref (rM 5), .ref (rM 6), .ref (rM 7), .ref (rM 8), .ref (rM 9), .ref (rM 10), .ref (rM 11), .ref (rM 12), .ref (rM 13), .ref (rM 14), .ref (rM 15), .ref (rM 16), .ref (rM 17), .ref (rM 18), .ref (rM 19), .ref (rM 20), .ref (rM 21), .ref (rM 22), .ref (rM 23), .ref (rM 24), .int 0, .int 0, .int 0, .int 0, .int 0, .int 0, .int 0, .int 0, .int 0, .ref (rM 25), .ref (rM 26), .ref (rM 27), .int 0, .int 0, .ref (rM 28), .int 0, .ref (rM 29), .ref (rM 30), .ref (rM 31), .ref (rM 32), .ref (rM 33), .ref (rM 34), .ref (rM 35), .ref (rM 36), .int 0, .int 0, .int 0, .ref (rM 37), .ref (rM 38)])), (rM 3, .inl ((cM 3), 2, .inl (fM 3))), (rM 4, .inl ((cM 4), 2, .inl (fM 4))), (rM 5, .inl ((cM 5), 2, .inl (fM 5))), (rM 6, .inl ((cM 6), 2, .inl (fM 6))), (rM 7, .inl ((cM 7), 2, .inl (fM 7))), (rM 25, .inl ((cM 25), 26, .inl (fM 25)))]) [0, 1, 2, 3, 4, 5, 6] rfl
    have hKc := hK.sub (tys' := [((cM 3), .int), ((cM 4), .int), ((cM 5), .int), ((cM 6), .int), ((cM 7), .int), ((cM 25), .int)]) [0, 1, 2, 3, 4, 5] rfl
    have hDc := hD.sub (ws' := [(rM 0, .inr (8, [.ref (rM 1), .ref (rM 2), .int 0, .int 0, .int 0, .int (-1), .int 0, .int 0, .int 0, .int 0, .long 0, .ref (rM 3), .ref (rM 4), .ref (rM 5), .ref (rM 6), .ref (rM 7), .ref (rM 8), .ref (rM 9), .ref (rM 10), .ref (rM 11), .ref (rM 12), .ref (rM 13), .ref (rM 14), .ref (rM 15), .ref (rM 16), .ref (rM 17), .ref (rM 18), .ref (rM 19), .ref (rM 20), .ref (rM 21), .ref (rM 22), .ref (rM 23), .ref (rM 24), .int 0, .int 0, .int 0, .int 0, .int 0, .int 0, .int 0, .int 0, .int 0, .ref (rM 25), .ref (rM 26), .ref (rM 27), .int 0, .int 0, .ref (rM 28), .int 0, .ref (rM 29), .ref (rM 30), .ref (rM 31), .ref (rM 32), .ref (rM 33), .ref (rM 34), .ref (rM 35), .ref (rM 36), .int 0, .int 0, .int 0, .ref (rM 37), .ref (rM 38)])), (rM 3, .inl ((cM 3), 2, .inl (fM 3))), (rM 4, .inl ((cM 4), 2, .inl (fM 4))), (rM 5, .inl ((cM 5), 2, .inl (fM 5))), (rM 6, .inl ((cM 6), 2, .inl (fM 6))), (rM 7, .inl ((cM 7), 2, .inl (fM 7))), (rM 25, .inl ((cM 25), 26, .inl (fM 25)))]) [0, 1, 2, 3, 4, 5, 6] (by decide) rfl
    have hFc := va_free (wc := [(rM 0, .inr (8, [.ref (rM 1), .ref (rM 2), .int 0, .int 0, .int 0, .int (-1), .int 0, .int 0, .int 0, .int 0, .long 0, .ref (rM 3), .ref (rM 4), .ref (rM 5), .ref (rM 6), .ref (rM 7), .ref (rM 8), .ref (rM 9), .ref (rM 10), .ref (rM 11), .ref (rM 12), .ref (rM 13), .ref (rM 14), .ref (rM 15), .ref (rM 16), .ref (rM 17), .ref (rM 18), .ref (rM 19), .ref (rM 20), .ref (rM 21), .ref (rM 22), .ref (rM 23), .ref (rM 24), .int 0, .int 0, .int 0, .int 0, .int 0, .int 0, .int 0, .int 0, .int 0, .ref (rM 25), .ref (rM 26), .ref (rM 27), .int 0, .int 0, .ref (rM 28), .int 0, .ref (rM 29), .ref (rM 30), .ref (rM 31), .ref (rM 32), .ref (rM 33), .ref (rM 34), .ref (rM 35), .ref (rM 36), .int 0, .int 0, .int 0, .ref (rM 37), .ref (rM 38)])), (rM 3, .inl ((cM 3), 2, .inl (fM 3))), (rM 4, .inl ((cM 4), 2, .inl (fM 4))), (rM 5, .inl ((cM 5), 2, .inl (fM 5))), (rM 6, .inl ((cM 6), 2, .inl (fM 6))), (rM 7, .inl ((cM 7), 2, .inl (fM 7))), (rM 25, .inl ((cM 25), 26, .inl (fM 25)))]) hD hS hA [0, 1, 2, 3, 4, 5, 6] rfl
    refine va_calli (va_runV (As := [.int (xs 1)]) (rest := [.int 0]) ⟨hx, hb, hml, hown, hG⟩ (kX9_about l dC dI rM cM (fM 3) (fM 4) (fM 5) (fM 6) (fM 7) (fM 25) (xs 1) H1.size hfM_3_0 hfM_4_0 hfM_5_0 hfM_6_0 hfM_7_0 hfM_25_24 hfM_25_25) (cwV 1 hG (goodV gw1869 gw1870 gw1871 gw138 gw1872) rfl rfl rfl hd_X9_about ⟨(Nat.le_of_ble_eq_true rfl), (Nat.le_of_ble_eq_true rfl)⟩) ⟨fbW, va_recv hKc hPc (ci := 8) (q0 := 0) rfl rfl, pW_in hPc hKc hDc⟩ rfl rfl hl.1 rfl (lv_room (Nat.le_of_ble_eq_true rfl)) dL_law_1532 ⟨(Nat.le_of_ble_eq_true rfl), (Nat.le_of_ble_eq_true rfl)⟩) hS (fun q _ h => hFc q h) hFc (fun r_39 u t H38 locs ht hvm hw hB hz1 hk1 hS => ?_)
    rcases hw with ⟨rfl, hy40, hw⟩ | ⟨rfl, hy41, hw⟩ | ⟨rfl, hy42, hw⟩ | ⟨rfl, hy43, hw⟩ | ⟨rfl, hy44, hw⟩ | ⟨rfl, hy45, hw⟩ | ⟨rfl, hy46, hw⟩ | ⟨rfl, hy47, hw⟩ | ⟨rfl, hy48, hw⟩ | ⟨rfl, hy49, hw⟩ | ⟨rfl, hy50, hw⟩ | ⟨rfl, hy51, hw⟩ | ⟨rfl, hy52, hw⟩ | ⟨rfl, hy53, hw⟩ | ⟨rfl, hy54, hw⟩ | ⟨rfl, hy55, hw⟩
    · skip
      exact ((by have k0 := q_eq hy4; have k1 := hy40; have z0 : (0 : Int32).toInt = 0 := (by decide); omega) : False).elim
    · skip
      obtain ⟨hP, hD⟩ := va_join (wr := []) (w1 := []) hP hD [0, 1, 2, 3, 4, 5, 6] [] rfl rfl (by decide) (by decide) hk1 hFc (fun k q h => by simp at h) ⟨fun i j p q h => by simp at h, fun k q h => by simp at h⟩
      refine wt_c (v := 0) hw ?_
      refine lv_icmp_eq (tgt := 1540) hx hb dL_law_1535 (by decide) (fun c_56 => ?_) (fun c_56 => absurd (by decide) c_56)
      exact law_end l C0 hS hl
    · skip
      exact ((by have k0 := q_eq hy4; have k1 := q_eq hy42; have z0 : (0 : Int32).toInt = 0 := (by decide); have z1 : (1 : Int32).toInt = 1 := (by decide); omega) : False).elim
    · skip
      exact ((by have k0 := q_eq hy4; have k1 := q_eq hy43; have z0 : (0 : Int32).toInt = 0 := (by decide); have z2 : (2 : Int32).toInt = 2 := (by decide); omega) : False).elim
    · skip
      exact ((by have k0 := q_eq hy4; have k1 := q_eq hy44; have z0 : (0 : Int32).toInt = 0 := (by decide); have z3 : (3 : Int32).toInt = 3 := (by decide); omega) : False).elim
    · skip
      exact ((by have k0 := q_eq hy4; have k1 := q_eq hy45; have z0 : (0 : Int32).toInt = 0 := (by decide); have z4 : (4 : Int32).toInt = 4 := (by decide); omega) : False).elim
    · skip
      exact ((by have k0 := q_eq hy4; have k1 := q_eq hy46; have z0 : (0 : Int32).toInt = 0 := (by decide); have z5 : (5 : Int32).toInt = 5 := (by decide); omega) : False).elim
    · skip
      exact ((by have k0 := q_eq hy4; have k1 := q_eq hy47; have z0 : (0 : Int32).toInt = 0 := (by decide); have z6 : (6 : Int32).toInt = 6 := (by decide); omega) : False).elim
    · skip
      exact ((by have k0 := q_eq hy4; have k1 := q_eq hy48; have z0 : (0 : Int32).toInt = 0 := (by decide); have z7 : (7 : Int32).toInt = 7 := (by decide); omega) : False).elim
    · skip
      exact ((by have k0 := q_eq hy4; have k1 := q_eq hy49; have z0 : (0 : Int32).toInt = 0 := (by decide); have z8 : (8 : Int32).toInt = 8 := (by decide); omega) : False).elim
    · skip
      exact ((by have k0 := q_eq hy4; have k1 := q_eq hy50; have z0 : (0 : Int32).toInt = 0 := (by decide); have z9 : (9 : Int32).toInt = 9 := (by decide); omega) : False).elim
    · skip
      exact ((by have k0 := q_eq hy4; have k1 := q_eq hy51; have z0 : (0 : Int32).toInt = 0 := (by decide); have z10 : (10 : Int32).toInt = 10 := (by decide); omega) : False).elim
    · skip
      exact ((by have k0 := q_eq hy4; have k1 := q_eq hy52; have z0 : (0 : Int32).toInt = 0 := (by decide); have z11 : (11 : Int32).toInt = 11 := (by decide); omega) : False).elim
    · skip
      exact ((by have k0 := q_eq hy4; have k1 := q_eq hy53; have z0 : (0 : Int32).toInt = 0 := (by decide); have z12 : (12 : Int32).toInt = 12 := (by decide); omega) : False).elim
    · skip
      exact ((by have k0 := q_eq hy4; have k1 := q_eq hy54; have z0 : (0 : Int32).toInt = 0 := (by decide); have z13 : (13 : Int32).toInt = 13 := (by decide); omega) : False).elim
    · skip
      exact ((by have k0 := q_eq hy4; have k1 := q_eq hy55; have z0 : (0 : Int32).toInt = 0 := (by decide); have z14 : (14 : Int32).toInt = 14 := (by decide); omega) : False).elim
  · skip
    obtain ⟨hP, hD⟩ := va_join (wr := [(rM 0, .inr (8, [.ref (rM 1), .ref (rM 2), .int 0, .int 0, .int 0, .int (-1), .int 0, .int 0, .int 0, .int 0, .long 0, .ref (rM 3), .ref (rM 4), .ref (rM 5), .ref (rM 6), .ref (rM 7), .ref (rM 8), .ref (rM 9), .ref (rM 10), .ref (rM 11), .ref (rM 12), .ref (rM 13), .ref (rM 14), .ref (rM 15), .ref (rM 16), .ref (rM 17), .ref (rM 18), .ref (rM 19), .ref (rM 20), .ref (rM 21), .ref (rM 22), .ref (rM 23), .ref (rM 24), .int 0, .int 0, .int 0, .int 0, .int 0, .int 0, .int 0, .int 0, .int 0, .ref (rM 25), .ref (rM 26), .ref (rM 27), .int 0, .int 0, .ref (rM 28), .int 0, .ref (rM 29), .ref (rM 30), .ref (rM 31), .ref (rM 32), .ref (rM 33), .ref (rM 34), .ref (rM 35), .ref (rM 36), .int 0, .int 0, .int 0, .ref (rM 37), .ref (rM 38)])), (rM 3, .inl ((cM 3), 2, .inl (fM 3))), (rM 4, .inl ((cM 4), 2, .inl (fM 4))), (rM 5, .inl ((cM 5), 2, .inl (fM 5))), (rM 6, .inl ((cM 6), 2, .inl (fM 6))), (rM 7, .inl ((cM 7), 2, .inl (fM 7))), (rM 25, .inl ((cM 25), 26, .inl (fM 25)))]) (w1 := []) hP hD [0, 1, 2, 3, 4] [5, 6, 7, 8, 9, 10, 11] rfl rfl (by decide) (by decide) hk1 hFc (fun k q h => by simp at h) ⟨fun i j p q h => by simp at h, fun k q h => by simp at h⟩
    refine wt_c (v := 0) hw ?_
    refine lv_aload_n hx hb dL_law_1526 rfl (lv_at hl 1 rfl) ?_
    refine lv_aload_n hx hb dL_law_1527 rfl (lv_at hl 3 rfl) ?_
    refine lv_iload_n hx hb dL_law_1528 rfl (lv_at hl 0 rfl) ?_
    refine lv_iconst (v := 1) hx hb dL_law_1529 (by decide) ?_
    refine lv_iadd hx hb dL_law_1530 ?_
    refine wt_c (v := 1) (by decide) ?_
    refine va_sld hx hb hX hbl hbA hS (vin (by decide)) dL_law_1531 ?_
    refine wt_c (v := xs 1) (congrArg xs (by decide)) ?_
    have hPc := hP.sub (ws' := [(rM 0, .inr (8, [.ref (rM 1), .ref (rM 2), .int 0, .int 0, .int 0, .int (-1), .int 0, .int 0, .int 0, .int 0, .long 0, .ref (rM 3), .ref (rM 4), .ref (rM 5), .ref (rM 6), .ref (rM 7), .ref (rM 8), .ref (rM 9), .ref (rM 10), .ref (rM 11), .ref (rM 12), .ref (rM 13), .ref (rM 14), .ref (rM 15), .ref (rM 16), .ref (rM 17), .ref (rM 18), .ref (rM 19), .ref (rM 20), .ref (rM 21), .ref (rM 22), .ref (rM 23), .ref (rM 24), .int 0, .int 0, .int 0, .int 0, .int 0, .int 0, .int 0, .int 0, .int 0, .ref (rM 25), .ref (rM 26), .ref (rM 27), .int 0, .int 0, .ref (rM 28), .int 0, .ref (rM 29), .ref (rM 30), .ref (rM 31), .ref (rM 32), .ref (rM 33), .ref (rM 34), .ref (rM 35), .ref (rM 36), .int 0, .int 0, .int 0, .ref (rM 37), .ref (rM 38)])), (rM 3, .inl ((cM 3), 2, .inl (fM 3))), (rM 4, .inl ((cM 4), 2, .inl (fM 4))), (rM 5, .inl ((cM 5), 2, .inl (fM 5))), (rM 6, .inl ((cM 6), 2, .inl (fM 6))), (rM 7, .inl ((cM 7), 2, .inl (fM 7))), (rM 25, .inl ((cM 25), 26, .inl (fM 25)))]) [0, 1, 2, 3, 4, 5, 6] rfl
    have hKc := hK.sub (tys' := [((cM 3), .int), ((cM 4), .int), ((cM 5), .int), ((cM 6), .int), ((cM 7), .int), ((cM 25), .int)]) [0, 1, 2, 3, 4, 5] rfl
    have hDc := hD.sub (ws' := [(rM 0, .inr (8, [.ref (rM 1), .ref (rM 2), .int 0, .int 0, .int 0, .int (-1), .int 0, .int 0, .int 0, .int 0, .long 0, .ref (rM 3), .ref (rM 4), .ref (rM 5), .ref (rM 6), .ref (rM 7), .ref (rM 8), .ref (rM 9), .ref (rM 10), .ref (rM 11), .ref (rM 12), .ref (rM 13), .ref (rM 14), .ref (rM 15), .ref (rM 16), .ref (rM 17), .ref (rM 18), .ref (rM 19), .ref (rM 20), .ref (rM 21), .ref (rM 22), .ref (rM 23), .ref (rM 24), .int 0, .int 0, .int 0, .int 0, .int 0, .int 0, .int 0, .int 0, .int 0, .ref (rM 25), .ref (rM 26), .ref (rM 27), .int 0, .int 0, .ref (rM 28), .int 0, .ref (rM 29), .ref (rM 30), .ref (rM 31), .ref (rM 32), .ref (rM 33), .ref (rM 34), .ref (rM 35), .ref (rM 36), .int 0, .int 0, .int 0, .ref (rM 37), .ref (rM 38)])), (rM 3, .inl ((cM 3), 2, .inl (fM 3))), (rM 4, .inl ((cM 4), 2, .inl (fM 4))), (rM 5, .inl ((cM 5), 2, .inl (fM 5))), (rM 6, .inl ((cM 6), 2, .inl (fM 6))), (rM 7, .inl ((cM 7), 2, .inl (fM 7))), (rM 25, .inl ((cM 25), 26, .inl (fM 25)))]) [0, 1, 2, 3, 4, 5, 6] (by decide) rfl
    have hFc := va_free (wc := [(rM 0, .inr (8, [.ref (rM 1), .ref (rM 2), .int 0, .int 0, .int 0, .int (-1), .int 0, .int 0, .int 0, .int 0, .long 0, .ref (rM 3), .ref (rM 4), .ref (rM 5), .ref (rM 6), .ref (rM 7), .ref (rM 8), .ref (rM 9), .ref (rM 10), .ref (rM 11), .ref (rM 12), .ref (rM 13), .ref (rM 14), .ref (rM 15), .ref (rM 16), .ref (rM 17), .ref (rM 18), .ref (rM 19), .ref (rM 20), .ref (rM 21), .ref (rM 22), .ref (rM 23), .ref (rM 24), .int 0, .int 0, .int 0, .int 0, .int 0, .int 0, .int 0, .int 0, .int 0, .ref (rM 25), .ref (rM 26), .ref (rM 27), .int 0, .int 0, .ref (rM 28), .int 0, .ref (rM 29), .ref (rM 30), .ref (rM 31), .ref (rM 32), .ref (rM 33), .ref (rM 34), .ref (rM 35), .ref (rM 36), .int 0, .int 0, .int 0, .ref (rM 37), .ref (rM 38)])), (rM 3, .inl ((cM 3), 2, .inl (fM 3))), (rM 4, .inl ((cM 4), 2, .inl (fM 4))), (rM 5, .inl ((cM 5), 2, .inl (fM 5))), (rM 6, .inl ((cM 6), 2, .inl (fM 6))), (rM 7, .inl ((cM 7), 2, .inl (fM 7))), (rM 25, .inl ((cM 25), 26, .inl (fM 25)))]) hD hS hA [0, 1, 2, 3, 4, 5, 6] rfl
    refine va_calli (va_runV (As := [.int (xs 1)]) (rest := [.int 0]) ⟨hx, hb, hml, hown, hG⟩ (kX9_about l dC dI rM cM (fM 3) (fM 4) (fM 5) (fM 6) (fM 7) (fM 25) (xs 1) H1.size hfM_3_0 hfM_4_0 hfM_5_0 hfM_6_0 hfM_7_0 hfM_25_24 hfM_25_25) (cwV 1 hG (goodV gw1869 gw1870 gw1871 gw138 gw1872) rfl rfl rfl hd_X9_about ⟨(Nat.le_of_ble_eq_true rfl), (Nat.le_of_ble_eq_true rfl)⟩) ⟨fbW, va_recv hKc hPc (ci := 8) (q0 := 0) rfl rfl, pW_in hPc hKc hDc⟩ rfl rfl hl.1 rfl (lv_room (Nat.le_of_ble_eq_true rfl)) dL_law_1532 ⟨(Nat.le_of_ble_eq_true rfl), (Nat.le_of_ble_eq_true rfl)⟩) hS (fun q _ h => hFc q h) hFc (fun r_58 u t H57 locs ht hvm hw hB hz1 hk1 hS => ?_)
    rcases hw with ⟨rfl, hy59, hw⟩ | ⟨rfl, hy60, hw⟩ | ⟨rfl, hy61, hw⟩ | ⟨rfl, hy62, hw⟩ | ⟨rfl, hy63, hw⟩ | ⟨rfl, hy64, hw⟩ | ⟨rfl, hy65, hw⟩ | ⟨rfl, hy66, hw⟩ | ⟨rfl, hy67, hw⟩ | ⟨rfl, hy68, hw⟩ | ⟨rfl, hy69, hw⟩ | ⟨rfl, hy70, hw⟩ | ⟨rfl, hy71, hw⟩ | ⟨rfl, hy72, hw⟩ | ⟨rfl, hy73, hw⟩ | ⟨rfl, hy74, hw⟩
    · skip
      exact ((by have k0 := q_eq hy5; have k1 := hy59; have z1 : (1 : Int32).toInt = 1 := (by decide); omega) : False).elim
    · skip
      exact ((by have k0 := q_eq hy5; have k1 := q_eq hy60; have z0 : (0 : Int32).toInt = 0 := (by decide); have z1 : (1 : Int32).toInt = 1 := (by decide); omega) : False).elim
    · skip
      obtain ⟨hP, hD⟩ := va_join (wr := []) (w1 := []) hP hD [0, 1, 2, 3, 4, 5, 6] [] rfl rfl (by decide) (by decide) hk1 hFc (fun k q h => by simp at h) ⟨fun i j p q h => by simp at h, fun k q h => by simp at h⟩
      refine wt_c (v := 0) hw ?_
      refine lv_icmp_eq (tgt := 1540) hx hb dL_law_1535 (by decide) (fun c_75 => ?_) (fun c_75 => absurd (by decide) c_75)
      exact law_end l C0 hS hl
    · skip
      exact ((by have k0 := q_eq hy5; have k1 := q_eq hy62; have z1 : (1 : Int32).toInt = 1 := (by decide); have z2 : (2 : Int32).toInt = 2 := (by decide); omega) : False).elim
    · skip
      exact ((by have k0 := q_eq hy5; have k1 := q_eq hy63; have z1 : (1 : Int32).toInt = 1 := (by decide); have z3 : (3 : Int32).toInt = 3 := (by decide); omega) : False).elim
    · skip
      exact ((by have k0 := q_eq hy5; have k1 := q_eq hy64; have z1 : (1 : Int32).toInt = 1 := (by decide); have z4 : (4 : Int32).toInt = 4 := (by decide); omega) : False).elim
    · skip
      exact ((by have k0 := q_eq hy5; have k1 := q_eq hy65; have z1 : (1 : Int32).toInt = 1 := (by decide); have z5 : (5 : Int32).toInt = 5 := (by decide); omega) : False).elim
    · skip
      exact ((by have k0 := q_eq hy5; have k1 := q_eq hy66; have z1 : (1 : Int32).toInt = 1 := (by decide); have z6 : (6 : Int32).toInt = 6 := (by decide); omega) : False).elim
    · skip
      exact ((by have k0 := q_eq hy5; have k1 := q_eq hy67; have z1 : (1 : Int32).toInt = 1 := (by decide); have z7 : (7 : Int32).toInt = 7 := (by decide); omega) : False).elim
    · skip
      exact ((by have k0 := q_eq hy5; have k1 := q_eq hy68; have z1 : (1 : Int32).toInt = 1 := (by decide); have z8 : (8 : Int32).toInt = 8 := (by decide); omega) : False).elim
    · skip
      exact ((by have k0 := q_eq hy5; have k1 := q_eq hy69; have z1 : (1 : Int32).toInt = 1 := (by decide); have z9 : (9 : Int32).toInt = 9 := (by decide); omega) : False).elim
    · skip
      exact ((by have k0 := q_eq hy5; have k1 := q_eq hy70; have z1 : (1 : Int32).toInt = 1 := (by decide); have z10 : (10 : Int32).toInt = 10 := (by decide); omega) : False).elim
    · skip
      exact ((by have k0 := q_eq hy5; have k1 := q_eq hy71; have z1 : (1 : Int32).toInt = 1 := (by decide); have z11 : (11 : Int32).toInt = 11 := (by decide); omega) : False).elim
    · skip
      exact ((by have k0 := q_eq hy5; have k1 := q_eq hy72; have z1 : (1 : Int32).toInt = 1 := (by decide); have z12 : (12 : Int32).toInt = 12 := (by decide); omega) : False).elim
    · skip
      exact ((by have k0 := q_eq hy5; have k1 := q_eq hy73; have z1 : (1 : Int32).toInt = 1 := (by decide); have z13 : (13 : Int32).toInt = 13 := (by decide); omega) : False).elim
    · skip
      exact ((by have k0 := q_eq hy5; have k1 := q_eq hy74; have z1 : (1 : Int32).toInt = 1 := (by decide); have z14 : (14 : Int32).toInt = 14 := (by decide); omega) : False).elim
  · skip
    obtain ⟨hP, hD⟩ := va_join (wr := [(rM 0, .inr (8, [.ref (rM 1), .ref (rM 2), .int 0, .int 0, .int 0, .int (-1), .int 0, .int 0, .int 0, .int 0, .long 0, .ref (rM 3), .ref (rM 4), .ref (rM 5), .ref (rM 6), .ref (rM 7), .ref (rM 8), .ref (rM 9), .ref (rM 10), .ref (rM 11), .ref (rM 12), .ref (rM 13), .ref (rM 14), .ref (rM 15), .ref (rM 16), .ref (rM 17), .ref (rM 18), .ref (rM 19), .ref (rM 20), .ref (rM 21), .ref (rM 22), .ref (rM 23), .ref (rM 24), .int 0, .int 0, .int 0, .int 0, .int 0, .int 0, .int 0, .int 0, .int 0, .ref (rM 25), .ref (rM 26), .ref (rM 27), .int 0, .int 0, .ref (rM 28), .int 0, .ref (rM 29), .ref (rM 30), .ref (rM 31), .ref (rM 32), .ref (rM 33), .ref (rM 34), .ref (rM 35), .ref (rM 36), .int 0, .int 0, .int 0, .ref (rM 37), .ref (rM 38)])), (rM 3, .inl ((cM 3), 2, .inl (fM 3))), (rM 4, .inl ((cM 4), 2, .inl (fM 4))), (rM 5, .inl ((cM 5), 2, .inl (fM 5))), (rM 6, .inl ((cM 6), 2, .inl (fM 6))), (rM 7, .inl ((cM 7), 2, .inl (fM 7))), (rM 25, .inl ((cM 25), 26, .inl (fM 25)))]) (w1 := []) hP hD [0, 1, 2, 3, 4] [5, 6, 7, 8, 9, 10, 11] rfl rfl (by decide) (by decide) hk1 hFc (fun k q h => by simp at h) ⟨fun i j p q h => by simp at h, fun k q h => by simp at h⟩
    refine wt_c (v := 1) hw ?_
    refine lv_aload_n hx hb dL_law_1526 rfl (lv_at hl 1 rfl) ?_
    refine lv_aload_n hx hb dL_law_1527 rfl (lv_at hl 3 rfl) ?_
    refine lv_iload_n hx hb dL_law_1528 rfl (lv_at hl 0 rfl) ?_
    refine lv_iconst (v := 1) hx hb dL_law_1529 (by decide) ?_
    refine lv_iadd hx hb dL_law_1530 ?_
    refine wt_c (v := 1) (by decide) ?_
    refine va_sld hx hb hX hbl hbA hS (vin (by decide)) dL_law_1531 ?_
    refine wt_c (v := xs 1) (congrArg xs (by decide)) ?_
    have hPc := hP.sub (ws' := [(rM 0, .inr (8, [.ref (rM 1), .ref (rM 2), .int 0, .int 0, .int 0, .int (-1), .int 0, .int 0, .int 0, .int 0, .long 0, .ref (rM 3), .ref (rM 4), .ref (rM 5), .ref (rM 6), .ref (rM 7), .ref (rM 8), .ref (rM 9), .ref (rM 10), .ref (rM 11), .ref (rM 12), .ref (rM 13), .ref (rM 14), .ref (rM 15), .ref (rM 16), .ref (rM 17), .ref (rM 18), .ref (rM 19), .ref (rM 20), .ref (rM 21), .ref (rM 22), .ref (rM 23), .ref (rM 24), .int 0, .int 0, .int 0, .int 0, .int 0, .int 0, .int 0, .int 0, .int 0, .ref (rM 25), .ref (rM 26), .ref (rM 27), .int 0, .int 0, .ref (rM 28), .int 0, .ref (rM 29), .ref (rM 30), .ref (rM 31), .ref (rM 32), .ref (rM 33), .ref (rM 34), .ref (rM 35), .ref (rM 36), .int 0, .int 0, .int 0, .ref (rM 37), .ref (rM 38)])), (rM 3, .inl ((cM 3), 2, .inl (fM 3))), (rM 4, .inl ((cM 4), 2, .inl (fM 4))), (rM 5, .inl ((cM 5), 2, .inl (fM 5))), (rM 6, .inl ((cM 6), 2, .inl (fM 6))), (rM 7, .inl ((cM 7), 2, .inl (fM 7))), (rM 25, .inl ((cM 25), 26, .inl (fM 25)))]) [0, 1, 2, 3, 4, 5, 6] rfl
    have hKc := hK.sub (tys' := [((cM 3), .int), ((cM 4), .int), ((cM 5), .int), ((cM 6), .int), ((cM 7), .int), ((cM 25), .int)]) [0, 1, 2, 3, 4, 5] rfl
    have hDc := hD.sub (ws' := [(rM 0, .inr (8, [.ref (rM 1), .ref (rM 2), .int 0, .int 0, .int 0, .int (-1), .int 0, .int 0, .int 0, .int 0, .long 0, .ref (rM 3), .ref (rM 4), .ref (rM 5), .ref (rM 6), .ref (rM 7), .ref (rM 8), .ref (rM 9), .ref (rM 10), .ref (rM 11), .ref (rM 12), .ref (rM 13), .ref (rM 14), .ref (rM 15), .ref (rM 16), .ref (rM 17), .ref (rM 18), .ref (rM 19), .ref (rM 20), .ref (rM 21), .ref (rM 22), .ref (rM 23), .ref (rM 24), .int 0, .int 0, .int 0, .int 0, .int 0, .int 0, .int 0, .int 0, .int 0, .ref (rM 25), .ref (rM 26), .ref (rM 27), .int 0, .int 0, .ref (rM 28), .int 0, .ref (rM 29), .ref (rM 30), .ref (rM 31), .ref (rM 32), .ref (rM 33), .ref (rM 34), .ref (rM 35), .ref (rM 36), .int 0, .int 0, .int 0, .ref (rM 37), .ref (rM 38)])), (rM 3, .inl ((cM 3), 2, .inl (fM 3))), (rM 4, .inl ((cM 4), 2, .inl (fM 4))), (rM 5, .inl ((cM 5), 2, .inl (fM 5))), (rM 6, .inl ((cM 6), 2, .inl (fM 6))), (rM 7, .inl ((cM 7), 2, .inl (fM 7))), (rM 25, .inl ((cM 25), 26, .inl (fM 25)))]) [0, 1, 2, 3, 4, 5, 6] (by decide) rfl
    have hFc := va_free (wc := [(rM 0, .inr (8, [.ref (rM 1), .ref (rM 2), .int 0, .int 0, .int 0, .int (-1), .int 0, .int 0, .int 0, .int 0, .long 0, .ref (rM 3), .ref (rM 4), .ref (rM 5), .ref (rM 6), .ref (rM 7), .ref (rM 8), .ref (rM 9), .ref (rM 10), .ref (rM 11), .ref (rM 12), .ref (rM 13), .ref (rM 14), .ref (rM 15), .ref (rM 16), .ref (rM 17), .ref (rM 18), .ref (rM 19), .ref (rM 20), .ref (rM 21), .ref (rM 22), .ref (rM 23), .ref (rM 24), .int 0, .int 0, .int 0, .int 0, .int 0, .int 0, .int 0, .int 0, .int 0, .ref (rM 25), .ref (rM 26), .ref (rM 27), .int 0, .int 0, .ref (rM 28), .int 0, .ref (rM 29), .ref (rM 30), .ref (rM 31), .ref (rM 32), .ref (rM 33), .ref (rM 34), .ref (rM 35), .ref (rM 36), .int 0, .int 0, .int 0, .ref (rM 37), .ref (rM 38)])), (rM 3, .inl ((cM 3), 2, .inl (fM 3))), (rM 4, .inl ((cM 4), 2, .inl (fM 4))), (rM 5, .inl ((cM 5), 2, .inl (fM 5))), (rM 6, .inl ((cM 6), 2, .inl (fM 6))), (rM 7, .inl ((cM 7), 2, .inl (fM 7))), (rM 25, .inl ((cM 25), 26, .inl (fM 25)))]) hD hS hA [0, 1, 2, 3, 4, 5, 6] rfl
    refine va_calli (va_runV (As := [.int (xs 1)]) (rest := [.int 1]) ⟨hx, hb, hml, hown, hG⟩ (kX9_about l dC dI rM cM (fM 3) (fM 4) (fM 5) (fM 6) (fM 7) (fM 25) (xs 1) H1.size hfM_3_0 hfM_4_0 hfM_5_0 hfM_6_0 hfM_7_0 hfM_25_24 hfM_25_25) (cwV 1 hG (goodV gw1869 gw1870 gw1871 gw138 gw1872) rfl rfl rfl hd_X9_about ⟨(Nat.le_of_ble_eq_true rfl), (Nat.le_of_ble_eq_true rfl)⟩) ⟨fbW, va_recv hKc hPc (ci := 8) (q0 := 0) rfl rfl, pW_in hPc hKc hDc⟩ rfl rfl hl.1 rfl (lv_room (Nat.le_of_ble_eq_true rfl)) dL_law_1532 ⟨(Nat.le_of_ble_eq_true rfl), (Nat.le_of_ble_eq_true rfl)⟩) hS (fun q _ h => hFc q h) hFc (fun r_77 u t H76 locs ht hvm hw hB hz1 hk1 hS => ?_)
    rcases hw with ⟨rfl, hy78, hw⟩ | ⟨rfl, hy79, hw⟩ | ⟨rfl, hy80, hw⟩ | ⟨rfl, hy81, hw⟩ | ⟨rfl, hy82, hw⟩ | ⟨rfl, hy83, hw⟩ | ⟨rfl, hy84, hw⟩ | ⟨rfl, hy85, hw⟩ | ⟨rfl, hy86, hw⟩ | ⟨rfl, hy87, hw⟩ | ⟨rfl, hy88, hw⟩ | ⟨rfl, hy89, hw⟩ | ⟨rfl, hy90, hw⟩ | ⟨rfl, hy91, hw⟩ | ⟨rfl, hy92, hw⟩ | ⟨rfl, hy93, hw⟩
    · skip
      exact ((by have k0 := q_eq hy6; have k1 := hy78; have z2 : (2 : Int32).toInt = 2 := (by decide); omega) : False).elim
    · skip
      exact ((by have k0 := q_eq hy6; have k1 := q_eq hy79; have z0 : (0 : Int32).toInt = 0 := (by decide); have z2 : (2 : Int32).toInt = 2 := (by decide); omega) : False).elim
    · skip
      exact ((by have k0 := q_eq hy6; have k1 := q_eq hy80; have z1 : (1 : Int32).toInt = 1 := (by decide); have z2 : (2 : Int32).toInt = 2 := (by decide); omega) : False).elim
    · skip
      obtain ⟨hP, hD⟩ := va_join (wr := []) (w1 := []) hP hD [0, 1, 2, 3, 4, 5, 6] [] rfl rfl (by decide) (by decide) hk1 hFc (fun k q h => by simp at h) ⟨fun i j p q h => by simp at h, fun k q h => by simp at h⟩
      refine wt_c (v := 1) hw ?_
      refine lv_icmp_eq (tgt := 1540) hx hb dL_law_1535 (by decide) (fun c_94 => ?_) (fun c_94 => absurd (by decide) c_94)
      exact law_end l C0 hS hl
    · skip
      exact ((by have k0 := q_eq hy6; have k1 := q_eq hy82; have z2 : (2 : Int32).toInt = 2 := (by decide); have z3 : (3 : Int32).toInt = 3 := (by decide); omega) : False).elim
    · skip
      exact ((by have k0 := q_eq hy6; have k1 := q_eq hy83; have z2 : (2 : Int32).toInt = 2 := (by decide); have z4 : (4 : Int32).toInt = 4 := (by decide); omega) : False).elim
    · skip
      exact ((by have k0 := q_eq hy6; have k1 := q_eq hy84; have z2 : (2 : Int32).toInt = 2 := (by decide); have z5 : (5 : Int32).toInt = 5 := (by decide); omega) : False).elim
    · skip
      exact ((by have k0 := q_eq hy6; have k1 := q_eq hy85; have z2 : (2 : Int32).toInt = 2 := (by decide); have z6 : (6 : Int32).toInt = 6 := (by decide); omega) : False).elim
    · skip
      exact ((by have k0 := q_eq hy6; have k1 := q_eq hy86; have z2 : (2 : Int32).toInt = 2 := (by decide); have z7 : (7 : Int32).toInt = 7 := (by decide); omega) : False).elim
    · skip
      exact ((by have k0 := q_eq hy6; have k1 := q_eq hy87; have z2 : (2 : Int32).toInt = 2 := (by decide); have z8 : (8 : Int32).toInt = 8 := (by decide); omega) : False).elim
    · skip
      exact ((by have k0 := q_eq hy6; have k1 := q_eq hy88; have z2 : (2 : Int32).toInt = 2 := (by decide); have z9 : (9 : Int32).toInt = 9 := (by decide); omega) : False).elim
    · skip
      exact ((by have k0 := q_eq hy6; have k1 := q_eq hy89; have z2 : (2 : Int32).toInt = 2 := (by decide); have z10 : (10 : Int32).toInt = 10 := (by decide); omega) : False).elim
    · skip
      exact ((by have k0 := q_eq hy6; have k1 := q_eq hy90; have z2 : (2 : Int32).toInt = 2 := (by decide); have z11 : (11 : Int32).toInt = 11 := (by decide); omega) : False).elim
    · skip
      exact ((by have k0 := q_eq hy6; have k1 := q_eq hy91; have z2 : (2 : Int32).toInt = 2 := (by decide); have z12 : (12 : Int32).toInt = 12 := (by decide); omega) : False).elim
    · skip
      exact ((by have k0 := q_eq hy6; have k1 := q_eq hy92; have z2 : (2 : Int32).toInt = 2 := (by decide); have z13 : (13 : Int32).toInt = 13 := (by decide); omega) : False).elim
    · skip
      exact ((by have k0 := q_eq hy6; have k1 := q_eq hy93; have z2 : (2 : Int32).toInt = 2 := (by decide); have z14 : (14 : Int32).toInt = 14 := (by decide); omega) : False).elim
  · skip
    obtain ⟨hP, hD⟩ := va_join (wr := [(rM 0, .inr (8, [.ref (rM 1), .ref (rM 2), .int 0, .int 0, .int 0, .int (-1), .int 0, .int 0, .int 0, .int 0, .long 0, .ref (rM 3), .ref (rM 4), .ref (rM 5), .ref (rM 6), .ref (rM 7), .ref (rM 8), .ref (rM 9), .ref (rM 10), .ref (rM 11), .ref (rM 12), .ref (rM 13), .ref (rM 14), .ref (rM 15), .ref (rM 16), .ref (rM 17), .ref (rM 18), .ref (rM 19), .ref (rM 20), .ref (rM 21), .ref (rM 22), .ref (rM 23), .ref (rM 24), .int 0, .int 0, .int 0, .int 0, .int 0, .int 0, .int 0, .int 0, .int 0, .ref (rM 25), .ref (rM 26), .ref (rM 27), .int 0, .int 0, .ref (rM 28), .int 0, .ref (rM 29), .ref (rM 30), .ref (rM 31), .ref (rM 32), .ref (rM 33), .ref (rM 34), .ref (rM 35), .ref (rM 36), .int 0, .int 0, .int 0, .ref (rM 37), .ref (rM 38)])), (rM 3, .inl ((cM 3), 2, .inl (fM 3))), (rM 4, .inl ((cM 4), 2, .inl (fM 4))), (rM 5, .inl ((cM 5), 2, .inl (fM 5))), (rM 6, .inl ((cM 6), 2, .inl (fM 6))), (rM 7, .inl ((cM 7), 2, .inl (fM 7))), (rM 25, .inl ((cM 25), 26, .inl (fM 25)))]) (w1 := []) hP hD [0, 1, 2, 3, 4] [5, 6, 7, 8, 9, 10, 11] rfl rfl (by decide) (by decide) hk1 hFc (fun k q h => by simp at h) ⟨fun i j p q h => by simp at h, fun k q h => by simp at h⟩
    refine wt_c (v := 0) hw ?_
    refine lv_aload_n hx hb dL_law_1526 rfl (lv_at hl 1 rfl) ?_
    refine lv_aload_n hx hb dL_law_1527 rfl (lv_at hl 3 rfl) ?_
    refine lv_iload_n hx hb dL_law_1528 rfl (lv_at hl 0 rfl) ?_
    refine lv_iconst (v := 1) hx hb dL_law_1529 (by decide) ?_
    refine lv_iadd hx hb dL_law_1530 ?_
    refine wt_c (v := 1) (by decide) ?_
    refine va_sld hx hb hX hbl hbA hS (vin (by decide)) dL_law_1531 ?_
    refine wt_c (v := xs 1) (congrArg xs (by decide)) ?_
    have hPc := hP.sub (ws' := [(rM 0, .inr (8, [.ref (rM 1), .ref (rM 2), .int 0, .int 0, .int 0, .int (-1), .int 0, .int 0, .int 0, .int 0, .long 0, .ref (rM 3), .ref (rM 4), .ref (rM 5), .ref (rM 6), .ref (rM 7), .ref (rM 8), .ref (rM 9), .ref (rM 10), .ref (rM 11), .ref (rM 12), .ref (rM 13), .ref (rM 14), .ref (rM 15), .ref (rM 16), .ref (rM 17), .ref (rM 18), .ref (rM 19), .ref (rM 20), .ref (rM 21), .ref (rM 22), .ref (rM 23), .ref (rM 24), .int 0, .int 0, .int 0, .int 0, .int 0, .int 0, .int 0, .int 0, .int 0, .ref (rM 25), .ref (rM 26), .ref (rM 27), .int 0, .int 0, .ref (rM 28), .int 0, .ref (rM 29), .ref (rM 30), .ref (rM 31), .ref (rM 32), .ref (rM 33), .ref (rM 34), .ref (rM 35), .ref (rM 36), .int 0, .int 0, .int 0, .ref (rM 37), .ref (rM 38)])), (rM 3, .inl ((cM 3), 2, .inl (fM 3))), (rM 4, .inl ((cM 4), 2, .inl (fM 4))), (rM 5, .inl ((cM 5), 2, .inl (fM 5))), (rM 6, .inl ((cM 6), 2, .inl (fM 6))), (rM 7, .inl ((cM 7), 2, .inl (fM 7))), (rM 25, .inl ((cM 25), 26, .inl (fM 25)))]) [0, 1, 2, 3, 4, 5, 6] rfl
    have hKc := hK.sub (tys' := [((cM 3), .int), ((cM 4), .int), ((cM 5), .int), ((cM 6), .int), ((cM 7), .int), ((cM 25), .int)]) [0, 1, 2, 3, 4, 5] rfl
    have hDc := hD.sub (ws' := [(rM 0, .inr (8, [.ref (rM 1), .ref (rM 2), .int 0, .int 0, .int 0, .int (-1), .int 0, .int 0, .int 0, .int 0, .long 0, .ref (rM 3), .ref (rM 4), .ref (rM 5), .ref (rM 6), .ref (rM 7), .ref (rM 8), .ref (rM 9), .ref (rM 10), .ref (rM 11), .ref (rM 12), .ref (rM 13), .ref (rM 14), .ref (rM 15), .ref (rM 16), .ref (rM 17), .ref (rM 18), .ref (rM 19), .ref (rM 20), .ref (rM 21), .ref (rM 22), .ref (rM 23), .ref (rM 24), .int 0, .int 0, .int 0, .int 0, .int 0, .int 0, .int 0, .int 0, .int 0, .ref (rM 25), .ref (rM 26), .ref (rM 27), .int 0, .int 0, .ref (rM 28), .int 0, .ref (rM 29), .ref (rM 30), .ref (rM 31), .ref (rM 32), .ref (rM 33), .ref (rM 34), .ref (rM 35), .ref (rM 36), .int 0, .int 0, .int 0, .ref (rM 37), .ref (rM 38)])), (rM 3, .inl ((cM 3), 2, .inl (fM 3))), (rM 4, .inl ((cM 4), 2, .inl (fM 4))), (rM 5, .inl ((cM 5), 2, .inl (fM 5))), (rM 6, .inl ((cM 6), 2, .inl (fM 6))), (rM 7, .inl ((cM 7), 2, .inl (fM 7))), (rM 25, .inl ((cM 25), 26, .inl (fM 25)))]) [0, 1, 2, 3, 4, 5, 6] (by decide) rfl
    have hFc := va_free (wc := [(rM 0, .inr (8, [.ref (rM 1), .ref (rM 2), .int 0, .int 0, .int 0, .int (-1), .int 0, .int 0, .int 0, .int 0, .long 0, .ref (rM 3), .ref (rM 4), .ref (rM 5), .ref (rM 6), .ref (rM 7), .ref (rM 8), .ref (rM 9), .ref (rM 10), .ref (rM 11), .ref (rM 12), .ref (rM 13), .ref (rM 14), .ref (rM 15), .ref (rM 16), .ref (rM 17), .ref (rM 18), .ref (rM 19), .ref (rM 20), .ref (rM 21), .ref (rM 22), .ref (rM 23), .ref (rM 24), .int 0, .int 0, .int 0, .int 0, .int 0, .int 0, .int 0, .int 0, .int 0, .ref (rM 25), .ref (rM 26), .ref (rM 27), .int 0, .int 0, .ref (rM 28), .int 0, .ref (rM 29), .ref (rM 30), .ref (rM 31), .ref (rM 32), .ref (rM 33), .ref (rM 34), .ref (rM 35), .ref (rM 36), .int 0, .int 0, .int 0, .ref (rM 37), .ref (rM 38)])), (rM 3, .inl ((cM 3), 2, .inl (fM 3))), (rM 4, .inl ((cM 4), 2, .inl (fM 4))), (rM 5, .inl ((cM 5), 2, .inl (fM 5))), (rM 6, .inl ((cM 6), 2, .inl (fM 6))), (rM 7, .inl ((cM 7), 2, .inl (fM 7))), (rM 25, .inl ((cM 25), 26, .inl (fM 25)))]) hD hS hA [0, 1, 2, 3, 4, 5, 6] rfl
    refine va_calli (va_runV (As := [.int (xs 1)]) (rest := [.int 0]) ⟨hx, hb, hml, hown, hG⟩ (kX9_about l dC dI rM cM (fM 3) (fM 4) (fM 5) (fM 6) (fM 7) (fM 25) (xs 1) H1.size hfM_3_0 hfM_4_0 hfM_5_0 hfM_6_0 hfM_7_0 hfM_25_24 hfM_25_25) (cwV 1 hG (goodV gw1869 gw1870 gw1871 gw138 gw1872) rfl rfl rfl hd_X9_about ⟨(Nat.le_of_ble_eq_true rfl), (Nat.le_of_ble_eq_true rfl)⟩) ⟨fbW, va_recv hKc hPc (ci := 8) (q0 := 0) rfl rfl, pW_in hPc hKc hDc⟩ rfl rfl hl.1 rfl (lv_room (Nat.le_of_ble_eq_true rfl)) dL_law_1532 ⟨(Nat.le_of_ble_eq_true rfl), (Nat.le_of_ble_eq_true rfl)⟩) hS (fun q _ h => hFc q h) hFc (fun r_96 u t H95 locs ht hvm hw hB hz1 hk1 hS => ?_)
    rcases hw with ⟨rfl, hy97, hw⟩ | ⟨rfl, hy98, hw⟩ | ⟨rfl, hy99, hw⟩ | ⟨rfl, hy100, hw⟩ | ⟨rfl, hy101, hw⟩ | ⟨rfl, hy102, hw⟩ | ⟨rfl, hy103, hw⟩ | ⟨rfl, hy104, hw⟩ | ⟨rfl, hy105, hw⟩ | ⟨rfl, hy106, hw⟩ | ⟨rfl, hy107, hw⟩ | ⟨rfl, hy108, hw⟩ | ⟨rfl, hy109, hw⟩ | ⟨rfl, hy110, hw⟩ | ⟨rfl, hy111, hw⟩ | ⟨rfl, hy112, hw⟩
    · skip
      exact ((by have k0 := q_eq hy7; have k1 := hy97; have z3 : (3 : Int32).toInt = 3 := (by decide); omega) : False).elim
    · skip
      exact ((by have k0 := q_eq hy7; have k1 := q_eq hy98; have z0 : (0 : Int32).toInt = 0 := (by decide); have z3 : (3 : Int32).toInt = 3 := (by decide); omega) : False).elim
    · skip
      exact ((by have k0 := q_eq hy7; have k1 := q_eq hy99; have z1 : (1 : Int32).toInt = 1 := (by decide); have z3 : (3 : Int32).toInt = 3 := (by decide); omega) : False).elim
    · skip
      exact ((by have k0 := q_eq hy7; have k1 := q_eq hy100; have z2 : (2 : Int32).toInt = 2 := (by decide); have z3 : (3 : Int32).toInt = 3 := (by decide); omega) : False).elim
    · skip
      obtain ⟨hP, hD⟩ := va_join (wr := []) (w1 := []) hP hD [0, 1, 2, 3, 4, 5, 6] [] rfl rfl (by decide) (by decide) hk1 hFc (fun k q h => by simp at h) ⟨fun i j p q h => by simp at h, fun k q h => by simp at h⟩
      refine wt_c (v := 0) hw ?_
      refine lv_icmp_eq (tgt := 1540) hx hb dL_law_1535 (by decide) (fun c_113 => ?_) (fun c_113 => absurd (by decide) c_113)
      exact law_end l C0 hS hl
    · skip
      exact ((by have k0 := q_eq hy7; have k1 := q_eq hy102; have z3 : (3 : Int32).toInt = 3 := (by decide); have z4 : (4 : Int32).toInt = 4 := (by decide); omega) : False).elim
    · skip
      exact ((by have k0 := q_eq hy7; have k1 := q_eq hy103; have z3 : (3 : Int32).toInt = 3 := (by decide); have z5 : (5 : Int32).toInt = 5 := (by decide); omega) : False).elim
    · skip
      exact ((by have k0 := q_eq hy7; have k1 := q_eq hy104; have z3 : (3 : Int32).toInt = 3 := (by decide); have z6 : (6 : Int32).toInt = 6 := (by decide); omega) : False).elim
    · skip
      exact ((by have k0 := q_eq hy7; have k1 := q_eq hy105; have z3 : (3 : Int32).toInt = 3 := (by decide); have z7 : (7 : Int32).toInt = 7 := (by decide); omega) : False).elim
    · skip
      exact ((by have k0 := q_eq hy7; have k1 := q_eq hy106; have z3 : (3 : Int32).toInt = 3 := (by decide); have z8 : (8 : Int32).toInt = 8 := (by decide); omega) : False).elim
    · skip
      exact ((by have k0 := q_eq hy7; have k1 := q_eq hy107; have z3 : (3 : Int32).toInt = 3 := (by decide); have z9 : (9 : Int32).toInt = 9 := (by decide); omega) : False).elim
    · skip
      exact ((by have k0 := q_eq hy7; have k1 := q_eq hy108; have z3 : (3 : Int32).toInt = 3 := (by decide); have z10 : (10 : Int32).toInt = 10 := (by decide); omega) : False).elim
    · skip
      exact ((by have k0 := q_eq hy7; have k1 := q_eq hy109; have z3 : (3 : Int32).toInt = 3 := (by decide); have z11 : (11 : Int32).toInt = 11 := (by decide); omega) : False).elim
    · skip
      exact ((by have k0 := q_eq hy7; have k1 := q_eq hy110; have z3 : (3 : Int32).toInt = 3 := (by decide); have z12 : (12 : Int32).toInt = 12 := (by decide); omega) : False).elim
    · skip
      exact ((by have k0 := q_eq hy7; have k1 := q_eq hy111; have z3 : (3 : Int32).toInt = 3 := (by decide); have z13 : (13 : Int32).toInt = 13 := (by decide); omega) : False).elim
    · skip
      exact ((by have k0 := q_eq hy7; have k1 := q_eq hy112; have z3 : (3 : Int32).toInt = 3 := (by decide); have z14 : (14 : Int32).toInt = 14 := (by decide); omega) : False).elim
  · skip
    obtain ⟨hP, hD⟩ := va_join (wr := [(rM 0, .inr (8, [.ref (rM 1), .ref (rM 2), .int 0, .int 0, .int 0, .int (-1), .int 0, .int 0, .int 0, .int 0, .long 0, .ref (rM 3), .ref (rM 4), .ref (rM 5), .ref (rM 6), .ref (rM 7), .ref (rM 8), .ref (rM 9), .ref (rM 10), .ref (rM 11), .ref (rM 12), .ref (rM 13), .ref (rM 14), .ref (rM 15), .ref (rM 16), .ref (rM 17), .ref (rM 18), .ref (rM 19), .ref (rM 20), .ref (rM 21), .ref (rM 22), .ref (rM 23), .ref (rM 24), .int 0, .int 0, .int 0, .int 0, .int 0, .int 0, .int 0, .int 0, .int 0, .ref (rM 25), .ref (rM 26), .ref (rM 27), .int 0, .int 0, .ref (rM 28), .int 0, .ref (rM 29), .ref (rM 30), .ref (rM 31), .ref (rM 32), .ref (rM 33), .ref (rM 34), .ref (rM 35), .ref (rM 36), .int 0, .int 0, .int 0, .ref (rM 37), .ref (rM 38)])), (rM 3, .inl ((cM 3), 2, .inl (fM 3))), (rM 4, .inl ((cM 4), 2, .inl (fM 4))), (rM 5, .inl ((cM 5), 2, .inl (fM 5))), (rM 6, .inl ((cM 6), 2, .inl (fM 6))), (rM 7, .inl ((cM 7), 2, .inl (fM 7))), (rM 25, .inl ((cM 25), 26, .inl (fM 25)))]) (w1 := []) hP hD [0, 1, 2, 3, 4] [5, 6, 7, 8, 9, 10, 11] rfl rfl (by decide) (by decide) hk1 hFc (fun k q h => by simp at h) ⟨fun i j p q h => by simp at h, fun k q h => by simp at h⟩
    refine wt_c (v := 0) hw ?_
    refine lv_aload_n hx hb dL_law_1526 rfl (lv_at hl 1 rfl) ?_
    refine lv_aload_n hx hb dL_law_1527 rfl (lv_at hl 3 rfl) ?_
    refine lv_iload_n hx hb dL_law_1528 rfl (lv_at hl 0 rfl) ?_
    refine lv_iconst (v := 1) hx hb dL_law_1529 (by decide) ?_
    refine lv_iadd hx hb dL_law_1530 ?_
    refine wt_c (v := 1) (by decide) ?_
    refine va_sld hx hb hX hbl hbA hS (vin (by decide)) dL_law_1531 ?_
    refine wt_c (v := xs 1) (congrArg xs (by decide)) ?_
    have hPc := hP.sub (ws' := [(rM 0, .inr (8, [.ref (rM 1), .ref (rM 2), .int 0, .int 0, .int 0, .int (-1), .int 0, .int 0, .int 0, .int 0, .long 0, .ref (rM 3), .ref (rM 4), .ref (rM 5), .ref (rM 6), .ref (rM 7), .ref (rM 8), .ref (rM 9), .ref (rM 10), .ref (rM 11), .ref (rM 12), .ref (rM 13), .ref (rM 14), .ref (rM 15), .ref (rM 16), .ref (rM 17), .ref (rM 18), .ref (rM 19), .ref (rM 20), .ref (rM 21), .ref (rM 22), .ref (rM 23), .ref (rM 24), .int 0, .int 0, .int 0, .int 0, .int 0, .int 0, .int 0, .int 0, .int 0, .ref (rM 25), .ref (rM 26), .ref (rM 27), .int 0, .int 0, .ref (rM 28), .int 0, .ref (rM 29), .ref (rM 30), .ref (rM 31), .ref (rM 32), .ref (rM 33), .ref (rM 34), .ref (rM 35), .ref (rM 36), .int 0, .int 0, .int 0, .ref (rM 37), .ref (rM 38)])), (rM 3, .inl ((cM 3), 2, .inl (fM 3))), (rM 4, .inl ((cM 4), 2, .inl (fM 4))), (rM 5, .inl ((cM 5), 2, .inl (fM 5))), (rM 6, .inl ((cM 6), 2, .inl (fM 6))), (rM 7, .inl ((cM 7), 2, .inl (fM 7))), (rM 25, .inl ((cM 25), 26, .inl (fM 25)))]) [0, 1, 2, 3, 4, 5, 6] rfl
    have hKc := hK.sub (tys' := [((cM 3), .int), ((cM 4), .int), ((cM 5), .int), ((cM 6), .int), ((cM 7), .int), ((cM 25), .int)]) [0, 1, 2, 3, 4, 5] rfl
    have hDc := hD.sub (ws' := [(rM 0, .inr (8, [.ref (rM 1), .ref (rM 2), .int 0, .int 0, .int 0, .int (-1), .int 0, .int 0, .int 0, .int 0, .long 0, .ref (rM 3), .ref (rM 4), .ref (rM 5), .ref (rM 6), .ref (rM 7), .ref (rM 8), .ref (rM 9), .ref (rM 10), .ref (rM 11), .ref (rM 12), .ref (rM 13), .ref (rM 14), .ref (rM 15), .ref (rM 16), .ref (rM 17), .ref (rM 18), .ref (rM 19), .ref (rM 20), .ref (rM 21), .ref (rM 22), .ref (rM 23), .ref (rM 24), .int 0, .int 0, .int 0, .int 0, .int 0, .int 0, .int 0, .int 0, .int 0, .ref (rM 25), .ref (rM 26), .ref (rM 27), .int 0, .int 0, .ref (rM 28), .int 0, .ref (rM 29), .ref (rM 30), .ref (rM 31), .ref (rM 32), .ref (rM 33), .ref (rM 34), .ref (rM 35), .ref (rM 36), .int 0, .int 0, .int 0, .ref (rM 37), .ref (rM 38)])), (rM 3, .inl ((cM 3), 2, .inl (fM 3))), (rM 4, .inl ((cM 4), 2, .inl (fM 4))), (rM 5, .inl ((cM 5), 2, .inl (fM 5))), (rM 6, .inl ((cM 6), 2, .inl (fM 6))), (rM 7, .inl ((cM 7), 2, .inl (fM 7))), (rM 25, .inl ((cM 25), 26, .inl (fM 25)))]) [0, 1, 2, 3, 4, 5, 6] (by decide) rfl
    have hFc := va_free (wc := [(rM 0, .inr (8, [.ref (rM 1), .ref (rM 2), .int 0, .int 0, .int 0, .int (-1), .int 0, .int 0, .int 0, .int 0, .long 0, .ref (rM 3), .ref (rM 4), .ref (rM 5), .ref (rM 6), .ref (rM 7), .ref (rM 8), .ref (rM 9), .ref (rM 10), .ref (rM 11), .ref (rM 12), .ref (rM 13), .ref (rM 14), .ref (rM 15), .ref (rM 16), .ref (rM 17), .ref (rM 18), .ref (rM 19), .ref (rM 20), .ref (rM 21), .ref (rM 22), .ref (rM 23), .ref (rM 24), .int 0, .int 0, .int 0, .int 0, .int 0, .int 0, .int 0, .int 0, .int 0, .ref (rM 25), .ref (rM 26), .ref (rM 27), .int 0, .int 0, .ref (rM 28), .int 0, .ref (rM 29), .ref (rM 30), .ref (rM 31), .ref (rM 32), .ref (rM 33), .ref (rM 34), .ref (rM 35), .ref (rM 36), .int 0, .int 0, .int 0, .ref (rM 37), .ref (rM 38)])), (rM 3, .inl ((cM 3), 2, .inl (fM 3))), (rM 4, .inl ((cM 4), 2, .inl (fM 4))), (rM 5, .inl ((cM 5), 2, .inl (fM 5))), (rM 6, .inl ((cM 6), 2, .inl (fM 6))), (rM 7, .inl ((cM 7), 2, .inl (fM 7))), (rM 25, .inl ((cM 25), 26, .inl (fM 25)))]) hD hS hA [0, 1, 2, 3, 4, 5, 6] rfl
    refine va_calli (va_runV (As := [.int (xs 1)]) (rest := [.int 0]) ⟨hx, hb, hml, hown, hG⟩ (kX9_about l dC dI rM cM (fM 3) (fM 4) (fM 5) (fM 6) (fM 7) (fM 25) (xs 1) H1.size hfM_3_0 hfM_4_0 hfM_5_0 hfM_6_0 hfM_7_0 hfM_25_24 hfM_25_25) (cwV 1 hG (goodV gw1869 gw1870 gw1871 gw138 gw1872) rfl rfl rfl hd_X9_about ⟨(Nat.le_of_ble_eq_true rfl), (Nat.le_of_ble_eq_true rfl)⟩) ⟨fbW, va_recv hKc hPc (ci := 8) (q0 := 0) rfl rfl, pW_in hPc hKc hDc⟩ rfl rfl hl.1 rfl (lv_room (Nat.le_of_ble_eq_true rfl)) dL_law_1532 ⟨(Nat.le_of_ble_eq_true rfl), (Nat.le_of_ble_eq_true rfl)⟩) hS (fun q _ h => hFc q h) hFc (fun r_115 u t H114 locs ht hvm hw hB hz1 hk1 hS => ?_)
    rcases hw with ⟨rfl, hy116, hw⟩ | ⟨rfl, hy117, hw⟩ | ⟨rfl, hy118, hw⟩ | ⟨rfl, hy119, hw⟩ | ⟨rfl, hy120, hw⟩ | ⟨rfl, hy121, hw⟩ | ⟨rfl, hy122, hw⟩ | ⟨rfl, hy123, hw⟩ | ⟨rfl, hy124, hw⟩ | ⟨rfl, hy125, hw⟩ | ⟨rfl, hy126, hw⟩ | ⟨rfl, hy127, hw⟩ | ⟨rfl, hy128, hw⟩ | ⟨rfl, hy129, hw⟩ | ⟨rfl, hy130, hw⟩ | ⟨rfl, hy131, hw⟩
    · skip
      exact ((by have k0 := q_eq hy8; have k1 := hy116; have z4 : (4 : Int32).toInt = 4 := (by decide); omega) : False).elim
    · skip
      exact ((by have k0 := q_eq hy8; have k1 := q_eq hy117; have z0 : (0 : Int32).toInt = 0 := (by decide); have z4 : (4 : Int32).toInt = 4 := (by decide); omega) : False).elim
    · skip
      exact ((by have k0 := q_eq hy8; have k1 := q_eq hy118; have z1 : (1 : Int32).toInt = 1 := (by decide); have z4 : (4 : Int32).toInt = 4 := (by decide); omega) : False).elim
    · skip
      exact ((by have k0 := q_eq hy8; have k1 := q_eq hy119; have z2 : (2 : Int32).toInt = 2 := (by decide); have z4 : (4 : Int32).toInt = 4 := (by decide); omega) : False).elim
    · skip
      exact ((by have k0 := q_eq hy8; have k1 := q_eq hy120; have z3 : (3 : Int32).toInt = 3 := (by decide); have z4 : (4 : Int32).toInt = 4 := (by decide); omega) : False).elim
    · skip
      obtain ⟨hP, hD⟩ := va_join (wr := []) (w1 := []) hP hD [0, 1, 2, 3, 4, 5, 6] [] rfl rfl (by decide) (by decide) hk1 hFc (fun k q h => by simp at h) ⟨fun i j p q h => by simp at h, fun k q h => by simp at h⟩
      refine wt_c (v := 0) hw ?_
      refine lv_icmp_eq (tgt := 1540) hx hb dL_law_1535 (by decide) (fun c_132 => ?_) (fun c_132 => absurd (by decide) c_132)
      exact law_end l C0 hS hl
    · skip
      exact ((by have k0 := q_eq hy8; have k1 := q_eq hy122; have z4 : (4 : Int32).toInt = 4 := (by decide); have z5 : (5 : Int32).toInt = 5 := (by decide); omega) : False).elim
    · skip
      exact ((by have k0 := q_eq hy8; have k1 := q_eq hy123; have z4 : (4 : Int32).toInt = 4 := (by decide); have z6 : (6 : Int32).toInt = 6 := (by decide); omega) : False).elim
    · skip
      exact ((by have k0 := q_eq hy8; have k1 := q_eq hy124; have z4 : (4 : Int32).toInt = 4 := (by decide); have z7 : (7 : Int32).toInt = 7 := (by decide); omega) : False).elim
    · skip
      exact ((by have k0 := q_eq hy8; have k1 := q_eq hy125; have z4 : (4 : Int32).toInt = 4 := (by decide); have z8 : (8 : Int32).toInt = 8 := (by decide); omega) : False).elim
    · skip
      exact ((by have k0 := q_eq hy8; have k1 := q_eq hy126; have z4 : (4 : Int32).toInt = 4 := (by decide); have z9 : (9 : Int32).toInt = 9 := (by decide); omega) : False).elim
    · skip
      exact ((by have k0 := q_eq hy8; have k1 := q_eq hy127; have z4 : (4 : Int32).toInt = 4 := (by decide); have z10 : (10 : Int32).toInt = 10 := (by decide); omega) : False).elim
    · skip
      exact ((by have k0 := q_eq hy8; have k1 := q_eq hy128; have z4 : (4 : Int32).toInt = 4 := (by decide); have z11 : (11 : Int32).toInt = 11 := (by decide); omega) : False).elim
    · skip
      exact ((by have k0 := q_eq hy8; have k1 := q_eq hy129; have z4 : (4 : Int32).toInt = 4 := (by decide); have z12 : (12 : Int32).toInt = 12 := (by decide); omega) : False).elim
    · skip
      exact ((by have k0 := q_eq hy8; have k1 := q_eq hy130; have z4 : (4 : Int32).toInt = 4 := (by decide); have z13 : (13 : Int32).toInt = 13 := (by decide); omega) : False).elim
    · skip
      exact ((by have k0 := q_eq hy8; have k1 := q_eq hy131; have z4 : (4 : Int32).toInt = 4 := (by decide); have z14 : (14 : Int32).toInt = 14 := (by decide); omega) : False).elim
  · skip
    obtain ⟨hP, hD⟩ := va_join (wr := [(rM 0, .inr (8, [.ref (rM 1), .ref (rM 2), .int 0, .int 0, .int 0, .int (-1), .int 0, .int 0, .int 0, .int 0, .long 0, .ref (rM 3), .ref (rM 4), .ref (rM 5), .ref (rM 6), .ref (rM 7), .ref (rM 8), .ref (rM 9), .ref (rM 10), .ref (rM 11), .ref (rM 12), .ref (rM 13), .ref (rM 14), .ref (rM 15), .ref (rM 16), .ref (rM 17), .ref (rM 18), .ref (rM 19), .ref (rM 20), .ref (rM 21), .ref (rM 22), .ref (rM 23), .ref (rM 24), .int 0, .int 0, .int 0, .int 0, .int 0, .int 0, .int 0, .int 0, .int 0, .ref (rM 25), .ref (rM 26), .ref (rM 27), .int 0, .int 0, .ref (rM 28), .int 0, .ref (rM 29), .ref (rM 30), .ref (rM 31), .ref (rM 32), .ref (rM 33), .ref (rM 34), .ref (rM 35), .ref (rM 36), .int 0, .int 0, .int 0, .ref (rM 37), .ref (rM 38)])), (rM 3, .inl ((cM 3), 2, .inl (fM 3))), (rM 4, .inl ((cM 4), 2, .inl (fM 4))), (rM 5, .inl ((cM 5), 2, .inl (fM 5))), (rM 6, .inl ((cM 6), 2, .inl (fM 6))), (rM 7, .inl ((cM 7), 2, .inl (fM 7))), (rM 25, .inl ((cM 25), 26, .inl (fM 25)))]) (w1 := []) hP hD [0, 1, 2, 3, 4] [5, 6, 7, 8, 9, 10, 11] rfl rfl (by decide) (by decide) hk1 hFc (fun k q h => by simp at h) ⟨fun i j p q h => by simp at h, fun k q h => by simp at h⟩
    refine wt_c (v := 0) hw ?_
    refine lv_aload_n hx hb dL_law_1526 rfl (lv_at hl 1 rfl) ?_
    refine lv_aload_n hx hb dL_law_1527 rfl (lv_at hl 3 rfl) ?_
    refine lv_iload_n hx hb dL_law_1528 rfl (lv_at hl 0 rfl) ?_
    refine lv_iconst (v := 1) hx hb dL_law_1529 (by decide) ?_
    refine lv_iadd hx hb dL_law_1530 ?_
    refine wt_c (v := 1) (by decide) ?_
    refine va_sld hx hb hX hbl hbA hS (vin (by decide)) dL_law_1531 ?_
    refine wt_c (v := xs 1) (congrArg xs (by decide)) ?_
    have hPc := hP.sub (ws' := [(rM 0, .inr (8, [.ref (rM 1), .ref (rM 2), .int 0, .int 0, .int 0, .int (-1), .int 0, .int 0, .int 0, .int 0, .long 0, .ref (rM 3), .ref (rM 4), .ref (rM 5), .ref (rM 6), .ref (rM 7), .ref (rM 8), .ref (rM 9), .ref (rM 10), .ref (rM 11), .ref (rM 12), .ref (rM 13), .ref (rM 14), .ref (rM 15), .ref (rM 16), .ref (rM 17), .ref (rM 18), .ref (rM 19), .ref (rM 20), .ref (rM 21), .ref (rM 22), .ref (rM 23), .ref (rM 24), .int 0, .int 0, .int 0, .int 0, .int 0, .int 0, .int 0, .int 0, .int 0, .ref (rM 25), .ref (rM 26), .ref (rM 27), .int 0, .int 0, .ref (rM 28), .int 0, .ref (rM 29), .ref (rM 30), .ref (rM 31), .ref (rM 32), .ref (rM 33), .ref (rM 34), .ref (rM 35), .ref (rM 36), .int 0, .int 0, .int 0, .ref (rM 37), .ref (rM 38)])), (rM 3, .inl ((cM 3), 2, .inl (fM 3))), (rM 4, .inl ((cM 4), 2, .inl (fM 4))), (rM 5, .inl ((cM 5), 2, .inl (fM 5))), (rM 6, .inl ((cM 6), 2, .inl (fM 6))), (rM 7, .inl ((cM 7), 2, .inl (fM 7))), (rM 25, .inl ((cM 25), 26, .inl (fM 25)))]) [0, 1, 2, 3, 4, 5, 6] rfl
    have hKc := hK.sub (tys' := [((cM 3), .int), ((cM 4), .int), ((cM 5), .int), ((cM 6), .int), ((cM 7), .int), ((cM 25), .int)]) [0, 1, 2, 3, 4, 5] rfl
    have hDc := hD.sub (ws' := [(rM 0, .inr (8, [.ref (rM 1), .ref (rM 2), .int 0, .int 0, .int 0, .int (-1), .int 0, .int 0, .int 0, .int 0, .long 0, .ref (rM 3), .ref (rM 4), .ref (rM 5), .ref (rM 6), .ref (rM 7), .ref (rM 8), .ref (rM 9), .ref (rM 10), .ref (rM 11), .ref (rM 12), .ref (rM 13), .ref (rM 14), .ref (rM 15), .ref (rM 16), .ref (rM 17), .ref (rM 18), .ref (rM 19), .ref (rM 20), .ref (rM 21), .ref (rM 22), .ref (rM 23), .ref (rM 24), .int 0, .int 0, .int 0, .int 0, .int 0, .int 0, .int 0, .int 0, .int 0, .ref (rM 25), .ref (rM 26), .ref (rM 27), .int 0, .int 0, .ref (rM 28), .int 0, .ref (rM 29), .ref (rM 30), .ref (rM 31), .ref (rM 32), .ref (rM 33), .ref (rM 34), .ref (rM 35), .ref (rM 36), .int 0, .int 0, .int 0, .ref (rM 37), .ref (rM 38)])), (rM 3, .inl ((cM 3), 2, .inl (fM 3))), (rM 4, .inl ((cM 4), 2, .inl (fM 4))), (rM 5, .inl ((cM 5), 2, .inl (fM 5))), (rM 6, .inl ((cM 6), 2, .inl (fM 6))), (rM 7, .inl ((cM 7), 2, .inl (fM 7))), (rM 25, .inl ((cM 25), 26, .inl (fM 25)))]) [0, 1, 2, 3, 4, 5, 6] (by decide) rfl
    have hFc := va_free (wc := [(rM 0, .inr (8, [.ref (rM 1), .ref (rM 2), .int 0, .int 0, .int 0, .int (-1), .int 0, .int 0, .int 0, .int 0, .long 0, .ref (rM 3), .ref (rM 4), .ref (rM 5), .ref (rM 6), .ref (rM 7), .ref (rM 8), .ref (rM 9), .ref (rM 10), .ref (rM 11), .ref (rM 12), .ref (rM 13), .ref (rM 14), .ref (rM 15), .ref (rM 16), .ref (rM 17), .ref (rM 18), .ref (rM 19), .ref (rM 20), .ref (rM 21), .ref (rM 22), .ref (rM 23), .ref (rM 24), .int 0, .int 0, .int 0, .int 0, .int 0, .int 0, .int 0, .int 0, .int 0, .ref (rM 25), .ref (rM 26), .ref (rM 27), .int 0, .int 0, .ref (rM 28), .int 0, .ref (rM 29), .ref (rM 30), .ref (rM 31), .ref (rM 32), .ref (rM 33), .ref (rM 34), .ref (rM 35), .ref (rM 36), .int 0, .int 0, .int 0, .ref (rM 37), .ref (rM 38)])), (rM 3, .inl ((cM 3), 2, .inl (fM 3))), (rM 4, .inl ((cM 4), 2, .inl (fM 4))), (rM 5, .inl ((cM 5), 2, .inl (fM 5))), (rM 6, .inl ((cM 6), 2, .inl (fM 6))), (rM 7, .inl ((cM 7), 2, .inl (fM 7))), (rM 25, .inl ((cM 25), 26, .inl (fM 25)))]) hD hS hA [0, 1, 2, 3, 4, 5, 6] rfl
    refine va_calli (va_runV (As := [.int (xs 1)]) (rest := [.int 0]) ⟨hx, hb, hml, hown, hG⟩ (kX9_about l dC dI rM cM (fM 3) (fM 4) (fM 5) (fM 6) (fM 7) (fM 25) (xs 1) H1.size hfM_3_0 hfM_4_0 hfM_5_0 hfM_6_0 hfM_7_0 hfM_25_24 hfM_25_25) (cwV 1 hG (goodV gw1869 gw1870 gw1871 gw138 gw1872) rfl rfl rfl hd_X9_about ⟨(Nat.le_of_ble_eq_true rfl), (Nat.le_of_ble_eq_true rfl)⟩) ⟨fbW, va_recv hKc hPc (ci := 8) (q0 := 0) rfl rfl, pW_in hPc hKc hDc⟩ rfl rfl hl.1 rfl (lv_room (Nat.le_of_ble_eq_true rfl)) dL_law_1532 ⟨(Nat.le_of_ble_eq_true rfl), (Nat.le_of_ble_eq_true rfl)⟩) hS (fun q _ h => hFc q h) hFc (fun r_134 u t H133 locs ht hvm hw hB hz1 hk1 hS => ?_)
    rcases hw with ⟨rfl, hy135, hw⟩ | ⟨rfl, hy136, hw⟩ | ⟨rfl, hy137, hw⟩ | ⟨rfl, hy138, hw⟩ | ⟨rfl, hy139, hw⟩ | ⟨rfl, hy140, hw⟩ | ⟨rfl, hy141, hw⟩ | ⟨rfl, hy142, hw⟩ | ⟨rfl, hy143, hw⟩ | ⟨rfl, hy144, hw⟩ | ⟨rfl, hy145, hw⟩ | ⟨rfl, hy146, hw⟩ | ⟨rfl, hy147, hw⟩ | ⟨rfl, hy148, hw⟩ | ⟨rfl, hy149, hw⟩ | ⟨rfl, hy150, hw⟩
    · skip
      exact ((by have k0 := q_eq hy9; have k1 := hy135; have z5 : (5 : Int32).toInt = 5 := (by decide); omega) : False).elim
    · skip
      exact ((by have k0 := q_eq hy9; have k1 := q_eq hy136; have z0 : (0 : Int32).toInt = 0 := (by decide); have z5 : (5 : Int32).toInt = 5 := (by decide); omega) : False).elim
    · skip
      exact ((by have k0 := q_eq hy9; have k1 := q_eq hy137; have z1 : (1 : Int32).toInt = 1 := (by decide); have z5 : (5 : Int32).toInt = 5 := (by decide); omega) : False).elim
    · skip
      exact ((by have k0 := q_eq hy9; have k1 := q_eq hy138; have z2 : (2 : Int32).toInt = 2 := (by decide); have z5 : (5 : Int32).toInt = 5 := (by decide); omega) : False).elim
    · skip
      exact ((by have k0 := q_eq hy9; have k1 := q_eq hy139; have z3 : (3 : Int32).toInt = 3 := (by decide); have z5 : (5 : Int32).toInt = 5 := (by decide); omega) : False).elim
    · skip
      exact ((by have k0 := q_eq hy9; have k1 := q_eq hy140; have z4 : (4 : Int32).toInt = 4 := (by decide); have z5 : (5 : Int32).toInt = 5 := (by decide); omega) : False).elim
    · skip
      obtain ⟨hP, hD⟩ := va_join (wr := []) (w1 := []) hP hD [0, 1, 2, 3, 4, 5, 6] [] rfl rfl (by decide) (by decide) hk1 hFc (fun k q h => by simp at h) ⟨fun i j p q h => by simp at h, fun k q h => by simp at h⟩
      refine wt_c (v := 0) hw ?_
      refine lv_icmp_eq (tgt := 1540) hx hb dL_law_1535 (by decide) (fun c_151 => ?_) (fun c_151 => absurd (by decide) c_151)
      exact law_end l C0 hS hl
    · skip
      exact ((by have k0 := q_eq hy9; have k1 := q_eq hy142; have z5 : (5 : Int32).toInt = 5 := (by decide); have z6 : (6 : Int32).toInt = 6 := (by decide); omega) : False).elim
    · skip
      exact ((by have k0 := q_eq hy9; have k1 := q_eq hy143; have z5 : (5 : Int32).toInt = 5 := (by decide); have z7 : (7 : Int32).toInt = 7 := (by decide); omega) : False).elim
    · skip
      exact ((by have k0 := q_eq hy9; have k1 := q_eq hy144; have z5 : (5 : Int32).toInt = 5 := (by decide); have z8 : (8 : Int32).toInt = 8 := (by decide); omega) : False).elim
    · skip
      exact ((by have k0 := q_eq hy9; have k1 := q_eq hy145; have z5 : (5 : Int32).toInt = 5 := (by decide); have z9 : (9 : Int32).toInt = 9 := (by decide); omega) : False).elim
    · skip
      exact ((by have k0 := q_eq hy9; have k1 := q_eq hy146; have z5 : (5 : Int32).toInt = 5 := (by decide); have z10 : (10 : Int32).toInt = 10 := (by decide); omega) : False).elim
    · skip
      exact ((by have k0 := q_eq hy9; have k1 := q_eq hy147; have z5 : (5 : Int32).toInt = 5 := (by decide); have z11 : (11 : Int32).toInt = 11 := (by decide); omega) : False).elim
    · skip
      exact ((by have k0 := q_eq hy9; have k1 := q_eq hy148; have z5 : (5 : Int32).toInt = 5 := (by decide); have z12 : (12 : Int32).toInt = 12 := (by decide); omega) : False).elim
    · skip
      exact ((by have k0 := q_eq hy9; have k1 := q_eq hy149; have z5 : (5 : Int32).toInt = 5 := (by decide); have z13 : (13 : Int32).toInt = 13 := (by decide); omega) : False).elim
    · skip
      exact ((by have k0 := q_eq hy9; have k1 := q_eq hy150; have z5 : (5 : Int32).toInt = 5 := (by decide); have z14 : (14 : Int32).toInt = 14 := (by decide); omega) : False).elim
  · skip
    obtain ⟨hP, hD⟩ := va_join (wr := [(rM 0, .inr (8, [.ref (rM 1), .ref (rM 2), .int 0, .int 0, .int 0, .int (-1), .int 0, .int 0, .int 0, .int 0, .long 0, .ref (rM 3), .ref (rM 4), .ref (rM 5), .ref (rM 6), .ref (rM 7), .ref (rM 8), .ref (rM 9), .ref (rM 10), .ref (rM 11), .ref (rM 12), .ref (rM 13), .ref (rM 14), .ref (rM 15), .ref (rM 16), .ref (rM 17), .ref (rM 18), .ref (rM 19), .ref (rM 20), .ref (rM 21), .ref (rM 22), .ref (rM 23), .ref (rM 24), .int 0, .int 0, .int 0, .int 0, .int 0, .int 0, .int 0, .int 0, .int 0, .ref (rM 25), .ref (rM 26), .ref (rM 27), .int 0, .int 0, .ref (rM 28), .int 0, .ref (rM 29), .ref (rM 30), .ref (rM 31), .ref (rM 32), .ref (rM 33), .ref (rM 34), .ref (rM 35), .ref (rM 36), .int 0, .int 0, .int 0, .ref (rM 37), .ref (rM 38)])), (rM 3, .inl ((cM 3), 2, .inl (fM 3))), (rM 4, .inl ((cM 4), 2, .inl (fM 4))), (rM 5, .inl ((cM 5), 2, .inl (fM 5))), (rM 6, .inl ((cM 6), 2, .inl (fM 6))), (rM 7, .inl ((cM 7), 2, .inl (fM 7))), (rM 25, .inl ((cM 25), 26, .inl (fM 25)))]) (w1 := []) hP hD [0, 1, 2, 3, 4] [5, 6, 7, 8, 9, 10, 11] rfl rfl (by decide) (by decide) hk1 hFc (fun k q h => by simp at h) ⟨fun i j p q h => by simp at h, fun k q h => by simp at h⟩
    refine wt_c (v := 0) hw ?_
    refine lv_aload_n hx hb dL_law_1526 rfl (lv_at hl 1 rfl) ?_
    refine lv_aload_n hx hb dL_law_1527 rfl (lv_at hl 3 rfl) ?_
    refine lv_iload_n hx hb dL_law_1528 rfl (lv_at hl 0 rfl) ?_
    refine lv_iconst (v := 1) hx hb dL_law_1529 (by decide) ?_
    refine lv_iadd hx hb dL_law_1530 ?_
    refine wt_c (v := 1) (by decide) ?_
    refine va_sld hx hb hX hbl hbA hS (vin (by decide)) dL_law_1531 ?_
    refine wt_c (v := xs 1) (congrArg xs (by decide)) ?_
    have hPc := hP.sub (ws' := [(rM 0, .inr (8, [.ref (rM 1), .ref (rM 2), .int 0, .int 0, .int 0, .int (-1), .int 0, .int 0, .int 0, .int 0, .long 0, .ref (rM 3), .ref (rM 4), .ref (rM 5), .ref (rM 6), .ref (rM 7), .ref (rM 8), .ref (rM 9), .ref (rM 10), .ref (rM 11), .ref (rM 12), .ref (rM 13), .ref (rM 14), .ref (rM 15), .ref (rM 16), .ref (rM 17), .ref (rM 18), .ref (rM 19), .ref (rM 20), .ref (rM 21), .ref (rM 22), .ref (rM 23), .ref (rM 24), .int 0, .int 0, .int 0, .int 0, .int 0, .int 0, .int 0, .int 0, .int 0, .ref (rM 25), .ref (rM 26), .ref (rM 27), .int 0, .int 0, .ref (rM 28), .int 0, .ref (rM 29), .ref (rM 30), .ref (rM 31), .ref (rM 32), .ref (rM 33), .ref (rM 34), .ref (rM 35), .ref (rM 36), .int 0, .int 0, .int 0, .ref (rM 37), .ref (rM 38)])), (rM 3, .inl ((cM 3), 2, .inl (fM 3))), (rM 4, .inl ((cM 4), 2, .inl (fM 4))), (rM 5, .inl ((cM 5), 2, .inl (fM 5))), (rM 6, .inl ((cM 6), 2, .inl (fM 6))), (rM 7, .inl ((cM 7), 2, .inl (fM 7))), (rM 25, .inl ((cM 25), 26, .inl (fM 25)))]) [0, 1, 2, 3, 4, 5, 6] rfl
    have hKc := hK.sub (tys' := [((cM 3), .int), ((cM 4), .int), ((cM 5), .int), ((cM 6), .int), ((cM 7), .int), ((cM 25), .int)]) [0, 1, 2, 3, 4, 5] rfl
    have hDc := hD.sub (ws' := [(rM 0, .inr (8, [.ref (rM 1), .ref (rM 2), .int 0, .int 0, .int 0, .int (-1), .int 0, .int 0, .int 0, .int 0, .long 0, .ref (rM 3), .ref (rM 4), .ref (rM 5), .ref (rM 6), .ref (rM 7), .ref (rM 8), .ref (rM 9), .ref (rM 10), .ref (rM 11), .ref (rM 12), .ref (rM 13), .ref (rM 14), .ref (rM 15), .ref (rM 16), .ref (rM 17), .ref (rM 18), .ref (rM 19), .ref (rM 20), .ref (rM 21), .ref (rM 22), .ref (rM 23), .ref (rM 24), .int 0, .int 0, .int 0, .int 0, .int 0, .int 0, .int 0, .int 0, .int 0, .ref (rM 25), .ref (rM 26), .ref (rM 27), .int 0, .int 0, .ref (rM 28), .int 0, .ref (rM 29), .ref (rM 30), .ref (rM 31), .ref (rM 32), .ref (rM 33), .ref (rM 34), .ref (rM 35), .ref (rM 36), .int 0, .int 0, .int 0, .ref (rM 37), .ref (rM 38)])), (rM 3, .inl ((cM 3), 2, .inl (fM 3))), (rM 4, .inl ((cM 4), 2, .inl (fM 4))), (rM 5, .inl ((cM 5), 2, .inl (fM 5))), (rM 6, .inl ((cM 6), 2, .inl (fM 6))), (rM 7, .inl ((cM 7), 2, .inl (fM 7))), (rM 25, .inl ((cM 25), 26, .inl (fM 25)))]) [0, 1, 2, 3, 4, 5, 6] (by decide) rfl
    have hFc := va_free (wc := [(rM 0, .inr (8, [.ref (rM 1), .ref (rM 2), .int 0, .int 0, .int 0, .int (-1), .int 0, .int 0, .int 0, .int 0, .long 0, .ref (rM 3), .ref (rM 4), .ref (rM 5), .ref (rM 6), .ref (rM 7), .ref (rM 8), .ref (rM 9), .ref (rM 10), .ref (rM 11), .ref (rM 12), .ref (rM 13), .ref (rM 14), .ref (rM 15), .ref (rM 16), .ref (rM 17), .ref (rM 18), .ref (rM 19), .ref (rM 20), .ref (rM 21), .ref (rM 22), .ref (rM 23), .ref (rM 24), .int 0, .int 0, .int 0, .int 0, .int 0, .int 0, .int 0, .int 0, .int 0, .ref (rM 25), .ref (rM 26), .ref (rM 27), .int 0, .int 0, .ref (rM 28), .int 0, .ref (rM 29), .ref (rM 30), .ref (rM 31), .ref (rM 32), .ref (rM 33), .ref (rM 34), .ref (rM 35), .ref (rM 36), .int 0, .int 0, .int 0, .ref (rM 37), .ref (rM 38)])), (rM 3, .inl ((cM 3), 2, .inl (fM 3))), (rM 4, .inl ((cM 4), 2, .inl (fM 4))), (rM 5, .inl ((cM 5), 2, .inl (fM 5))), (rM 6, .inl ((cM 6), 2, .inl (fM 6))), (rM 7, .inl ((cM 7), 2, .inl (fM 7))), (rM 25, .inl ((cM 25), 26, .inl (fM 25)))]) hD hS hA [0, 1, 2, 3, 4, 5, 6] rfl
    refine va_calli (va_runV (As := [.int (xs 1)]) (rest := [.int 0]) ⟨hx, hb, hml, hown, hG⟩ (kX9_about l dC dI rM cM (fM 3) (fM 4) (fM 5) (fM 6) (fM 7) (fM 25) (xs 1) H1.size hfM_3_0 hfM_4_0 hfM_5_0 hfM_6_0 hfM_7_0 hfM_25_24 hfM_25_25) (cwV 1 hG (goodV gw1869 gw1870 gw1871 gw138 gw1872) rfl rfl rfl hd_X9_about ⟨(Nat.le_of_ble_eq_true rfl), (Nat.le_of_ble_eq_true rfl)⟩) ⟨fbW, va_recv hKc hPc (ci := 8) (q0 := 0) rfl rfl, pW_in hPc hKc hDc⟩ rfl rfl hl.1 rfl (lv_room (Nat.le_of_ble_eq_true rfl)) dL_law_1532 ⟨(Nat.le_of_ble_eq_true rfl), (Nat.le_of_ble_eq_true rfl)⟩) hS (fun q _ h => hFc q h) hFc (fun r_153 u t H152 locs ht hvm hw hB hz1 hk1 hS => ?_)
    rcases hw with ⟨rfl, hy154, hw⟩ | ⟨rfl, hy155, hw⟩ | ⟨rfl, hy156, hw⟩ | ⟨rfl, hy157, hw⟩ | ⟨rfl, hy158, hw⟩ | ⟨rfl, hy159, hw⟩ | ⟨rfl, hy160, hw⟩ | ⟨rfl, hy161, hw⟩ | ⟨rfl, hy162, hw⟩ | ⟨rfl, hy163, hw⟩ | ⟨rfl, hy164, hw⟩ | ⟨rfl, hy165, hw⟩ | ⟨rfl, hy166, hw⟩ | ⟨rfl, hy167, hw⟩ | ⟨rfl, hy168, hw⟩ | ⟨rfl, hy169, hw⟩
    · skip
      exact ((by have k0 := q_eq hy10; have k1 := hy154; have z6 : (6 : Int32).toInt = 6 := (by decide); omega) : False).elim
    · skip
      exact ((by have k0 := q_eq hy10; have k1 := q_eq hy155; have z0 : (0 : Int32).toInt = 0 := (by decide); have z6 : (6 : Int32).toInt = 6 := (by decide); omega) : False).elim
    · skip
      exact ((by have k0 := q_eq hy10; have k1 := q_eq hy156; have z1 : (1 : Int32).toInt = 1 := (by decide); have z6 : (6 : Int32).toInt = 6 := (by decide); omega) : False).elim
    · skip
      exact ((by have k0 := q_eq hy10; have k1 := q_eq hy157; have z2 : (2 : Int32).toInt = 2 := (by decide); have z6 : (6 : Int32).toInt = 6 := (by decide); omega) : False).elim
    · skip
      exact ((by have k0 := q_eq hy10; have k1 := q_eq hy158; have z3 : (3 : Int32).toInt = 3 := (by decide); have z6 : (6 : Int32).toInt = 6 := (by decide); omega) : False).elim
    · skip
      exact ((by have k0 := q_eq hy10; have k1 := q_eq hy159; have z4 : (4 : Int32).toInt = 4 := (by decide); have z6 : (6 : Int32).toInt = 6 := (by decide); omega) : False).elim
    · skip
      exact ((by have k0 := q_eq hy10; have k1 := q_eq hy160; have z5 : (5 : Int32).toInt = 5 := (by decide); have z6 : (6 : Int32).toInt = 6 := (by decide); omega) : False).elim
    · skip
      obtain ⟨hP, hD⟩ := va_join (wr := []) (w1 := []) hP hD [0, 1, 2, 3, 4, 5, 6] [] rfl rfl (by decide) (by decide) hk1 hFc (fun k q h => by simp at h) ⟨fun i j p q h => by simp at h, fun k q h => by simp at h⟩
      refine wt_c (v := 0) hw ?_
      refine lv_icmp_eq (tgt := 1540) hx hb dL_law_1535 (by decide) (fun c_170 => ?_) (fun c_170 => absurd (by decide) c_170)
      exact law_end l C0 hS hl
    · skip
      exact ((by have k0 := q_eq hy10; have k1 := q_eq hy162; have z6 : (6 : Int32).toInt = 6 := (by decide); have z7 : (7 : Int32).toInt = 7 := (by decide); omega) : False).elim
    · skip
      exact ((by have k0 := q_eq hy10; have k1 := q_eq hy163; have z6 : (6 : Int32).toInt = 6 := (by decide); have z8 : (8 : Int32).toInt = 8 := (by decide); omega) : False).elim
    · skip
      exact ((by have k0 := q_eq hy10; have k1 := q_eq hy164; have z6 : (6 : Int32).toInt = 6 := (by decide); have z9 : (9 : Int32).toInt = 9 := (by decide); omega) : False).elim
    · skip
      exact ((by have k0 := q_eq hy10; have k1 := q_eq hy165; have z6 : (6 : Int32).toInt = 6 := (by decide); have z10 : (10 : Int32).toInt = 10 := (by decide); omega) : False).elim
    · skip
      exact ((by have k0 := q_eq hy10; have k1 := q_eq hy166; have z6 : (6 : Int32).toInt = 6 := (by decide); have z11 : (11 : Int32).toInt = 11 := (by decide); omega) : False).elim
    · skip
      exact ((by have k0 := q_eq hy10; have k1 := q_eq hy167; have z6 : (6 : Int32).toInt = 6 := (by decide); have z12 : (12 : Int32).toInt = 12 := (by decide); omega) : False).elim
    · skip
      exact ((by have k0 := q_eq hy10; have k1 := q_eq hy168; have z6 : (6 : Int32).toInt = 6 := (by decide); have z13 : (13 : Int32).toInt = 13 := (by decide); omega) : False).elim
    · skip
      exact ((by have k0 := q_eq hy10; have k1 := q_eq hy169; have z6 : (6 : Int32).toInt = 6 := (by decide); have z14 : (14 : Int32).toInt = 14 := (by decide); omega) : False).elim
  · skip
    obtain ⟨hP, hD⟩ := va_join (wr := [(rM 0, .inr (8, [.ref (rM 1), .ref (rM 2), .int 0, .int 0, .int 0, .int (-1), .int 0, .int 0, .int 0, .int 0, .long 0, .ref (rM 3), .ref (rM 4), .ref (rM 5), .ref (rM 6), .ref (rM 7), .ref (rM 8), .ref (rM 9), .ref (rM 10), .ref (rM 11), .ref (rM 12), .ref (rM 13), .ref (rM 14), .ref (rM 15), .ref (rM 16), .ref (rM 17), .ref (rM 18), .ref (rM 19), .ref (rM 20), .ref (rM 21), .ref (rM 22), .ref (rM 23), .ref (rM 24), .int 0, .int 0, .int 0, .int 0, .int 0, .int 0, .int 0, .int 0, .int 0, .ref (rM 25), .ref (rM 26), .ref (rM 27), .int 0, .int 0, .ref (rM 28), .int 0, .ref (rM 29), .ref (rM 30), .ref (rM 31), .ref (rM 32), .ref (rM 33), .ref (rM 34), .ref (rM 35), .ref (rM 36), .int 0, .int 0, .int 0, .ref (rM 37), .ref (rM 38)])), (rM 3, .inl ((cM 3), 2, .inl (fM 3))), (rM 4, .inl ((cM 4), 2, .inl (fM 4))), (rM 5, .inl ((cM 5), 2, .inl (fM 5))), (rM 6, .inl ((cM 6), 2, .inl (fM 6))), (rM 7, .inl ((cM 7), 2, .inl (fM 7))), (rM 25, .inl ((cM 25), 26, .inl (fM 25)))]) (w1 := []) hP hD [0, 1, 2, 3, 4] [5, 6, 7, 8, 9, 10, 11] rfl rfl (by decide) (by decide) hk1 hFc (fun k q h => by simp at h) ⟨fun i j p q h => by simp at h, fun k q h => by simp at h⟩
    refine wt_c (v := 0) hw ?_
    refine lv_aload_n hx hb dL_law_1526 rfl (lv_at hl 1 rfl) ?_
    refine lv_aload_n hx hb dL_law_1527 rfl (lv_at hl 3 rfl) ?_
    refine lv_iload_n hx hb dL_law_1528 rfl (lv_at hl 0 rfl) ?_
    refine lv_iconst (v := 1) hx hb dL_law_1529 (by decide) ?_
    refine lv_iadd hx hb dL_law_1530 ?_
    refine wt_c (v := 1) (by decide) ?_
    refine va_sld hx hb hX hbl hbA hS (vin (by decide)) dL_law_1531 ?_
    refine wt_c (v := xs 1) (congrArg xs (by decide)) ?_
    have hPc := hP.sub (ws' := [(rM 0, .inr (8, [.ref (rM 1), .ref (rM 2), .int 0, .int 0, .int 0, .int (-1), .int 0, .int 0, .int 0, .int 0, .long 0, .ref (rM 3), .ref (rM 4), .ref (rM 5), .ref (rM 6), .ref (rM 7), .ref (rM 8), .ref (rM 9), .ref (rM 10), .ref (rM 11), .ref (rM 12), .ref (rM 13), .ref (rM 14), .ref (rM 15), .ref (rM 16), .ref (rM 17), .ref (rM 18), .ref (rM 19), .ref (rM 20), .ref (rM 21), .ref (rM 22), .ref (rM 23), .ref (rM 24), .int 0, .int 0, .int 0, .int 0, .int 0, .int 0, .int 0, .int 0, .int 0, .ref (rM 25), .ref (rM 26), .ref (rM 27), .int 0, .int 0, .ref (rM 28), .int 0, .ref (rM 29), .ref (rM 30), .ref (rM 31), .ref (rM 32), .ref (rM 33), .ref (rM 34), .ref (rM 35), .ref (rM 36), .int 0, .int 0, .int 0, .ref (rM 37), .ref (rM 38)])), (rM 3, .inl ((cM 3), 2, .inl (fM 3))), (rM 4, .inl ((cM 4), 2, .inl (fM 4))), (rM 5, .inl ((cM 5), 2, .inl (fM 5))), (rM 6, .inl ((cM 6), 2, .inl (fM 6))), (rM 7, .inl ((cM 7), 2, .inl (fM 7))), (rM 25, .inl ((cM 25), 26, .inl (fM 25)))]) [0, 1, 2, 3, 4, 5, 6] rfl
    have hKc := hK.sub (tys' := [((cM 3), .int), ((cM 4), .int), ((cM 5), .int), ((cM 6), .int), ((cM 7), .int), ((cM 25), .int)]) [0, 1, 2, 3, 4, 5] rfl
    have hDc := hD.sub (ws' := [(rM 0, .inr (8, [.ref (rM 1), .ref (rM 2), .int 0, .int 0, .int 0, .int (-1), .int 0, .int 0, .int 0, .int 0, .long 0, .ref (rM 3), .ref (rM 4), .ref (rM 5), .ref (rM 6), .ref (rM 7), .ref (rM 8), .ref (rM 9), .ref (rM 10), .ref (rM 11), .ref (rM 12), .ref (rM 13), .ref (rM 14), .ref (rM 15), .ref (rM 16), .ref (rM 17), .ref (rM 18), .ref (rM 19), .ref (rM 20), .ref (rM 21), .ref (rM 22), .ref (rM 23), .ref (rM 24), .int 0, .int 0, .int 0, .int 0, .int 0, .int 0, .int 0, .int 0, .int 0, .ref (rM 25), .ref (rM 26), .ref (rM 27), .int 0, .int 0, .ref (rM 28), .int 0, .ref (rM 29), .ref (rM 30), .ref (rM 31), .ref (rM 32), .ref (rM 33), .ref (rM 34), .ref (rM 35), .ref (rM 36), .int 0, .int 0, .int 0, .ref (rM 37), .ref (rM 38)])), (rM 3, .inl ((cM 3), 2, .inl (fM 3))), (rM 4, .inl ((cM 4), 2, .inl (fM 4))), (rM 5, .inl ((cM 5), 2, .inl (fM 5))), (rM 6, .inl ((cM 6), 2, .inl (fM 6))), (rM 7, .inl ((cM 7), 2, .inl (fM 7))), (rM 25, .inl ((cM 25), 26, .inl (fM 25)))]) [0, 1, 2, 3, 4, 5, 6] (by decide) rfl
    have hFc := va_free (wc := [(rM 0, .inr (8, [.ref (rM 1), .ref (rM 2), .int 0, .int 0, .int 0, .int (-1), .int 0, .int 0, .int 0, .int 0, .long 0, .ref (rM 3), .ref (rM 4), .ref (rM 5), .ref (rM 6), .ref (rM 7), .ref (rM 8), .ref (rM 9), .ref (rM 10), .ref (rM 11), .ref (rM 12), .ref (rM 13), .ref (rM 14), .ref (rM 15), .ref (rM 16), .ref (rM 17), .ref (rM 18), .ref (rM 19), .ref (rM 20), .ref (rM 21), .ref (rM 22), .ref (rM 23), .ref (rM 24), .int 0, .int 0, .int 0, .int 0, .int 0, .int 0, .int 0, .int 0, .int 0, .ref (rM 25), .ref (rM 26), .ref (rM 27), .int 0, .int 0, .ref (rM 28), .int 0, .ref (rM 29), .ref (rM 30), .ref (rM 31), .ref (rM 32), .ref (rM 33), .ref (rM 34), .ref (rM 35), .ref (rM 36), .int 0, .int 0, .int 0, .ref (rM 37), .ref (rM 38)])), (rM 3, .inl ((cM 3), 2, .inl (fM 3))), (rM 4, .inl ((cM 4), 2, .inl (fM 4))), (rM 5, .inl ((cM 5), 2, .inl (fM 5))), (rM 6, .inl ((cM 6), 2, .inl (fM 6))), (rM 7, .inl ((cM 7), 2, .inl (fM 7))), (rM 25, .inl ((cM 25), 26, .inl (fM 25)))]) hD hS hA [0, 1, 2, 3, 4, 5, 6] rfl
    refine va_calli (va_runV (As := [.int (xs 1)]) (rest := [.int 0]) ⟨hx, hb, hml, hown, hG⟩ (kX9_about l dC dI rM cM (fM 3) (fM 4) (fM 5) (fM 6) (fM 7) (fM 25) (xs 1) H1.size hfM_3_0 hfM_4_0 hfM_5_0 hfM_6_0 hfM_7_0 hfM_25_24 hfM_25_25) (cwV 1 hG (goodV gw1869 gw1870 gw1871 gw138 gw1872) rfl rfl rfl hd_X9_about ⟨(Nat.le_of_ble_eq_true rfl), (Nat.le_of_ble_eq_true rfl)⟩) ⟨fbW, va_recv hKc hPc (ci := 8) (q0 := 0) rfl rfl, pW_in hPc hKc hDc⟩ rfl rfl hl.1 rfl (lv_room (Nat.le_of_ble_eq_true rfl)) dL_law_1532 ⟨(Nat.le_of_ble_eq_true rfl), (Nat.le_of_ble_eq_true rfl)⟩) hS (fun q _ h => hFc q h) hFc (fun r_172 u t H171 locs ht hvm hw hB hz1 hk1 hS => ?_)
    rcases hw with ⟨rfl, hy173, hw⟩ | ⟨rfl, hy174, hw⟩ | ⟨rfl, hy175, hw⟩ | ⟨rfl, hy176, hw⟩ | ⟨rfl, hy177, hw⟩ | ⟨rfl, hy178, hw⟩ | ⟨rfl, hy179, hw⟩ | ⟨rfl, hy180, hw⟩ | ⟨rfl, hy181, hw⟩ | ⟨rfl, hy182, hw⟩ | ⟨rfl, hy183, hw⟩ | ⟨rfl, hy184, hw⟩ | ⟨rfl, hy185, hw⟩ | ⟨rfl, hy186, hw⟩ | ⟨rfl, hy187, hw⟩ | ⟨rfl, hy188, hw⟩
    · skip
      exact ((by have k0 := q_eq hy11; have k1 := hy173; have z7 : (7 : Int32).toInt = 7 := (by decide); omega) : False).elim
    · skip
      exact ((by have k0 := q_eq hy11; have k1 := q_eq hy174; have z0 : (0 : Int32).toInt = 0 := (by decide); have z7 : (7 : Int32).toInt = 7 := (by decide); omega) : False).elim
    · skip
      exact ((by have k0 := q_eq hy11; have k1 := q_eq hy175; have z1 : (1 : Int32).toInt = 1 := (by decide); have z7 : (7 : Int32).toInt = 7 := (by decide); omega) : False).elim
    · skip
      exact ((by have k0 := q_eq hy11; have k1 := q_eq hy176; have z2 : (2 : Int32).toInt = 2 := (by decide); have z7 : (7 : Int32).toInt = 7 := (by decide); omega) : False).elim
    · skip
      exact ((by have k0 := q_eq hy11; have k1 := q_eq hy177; have z3 : (3 : Int32).toInt = 3 := (by decide); have z7 : (7 : Int32).toInt = 7 := (by decide); omega) : False).elim
    · skip
      exact ((by have k0 := q_eq hy11; have k1 := q_eq hy178; have z4 : (4 : Int32).toInt = 4 := (by decide); have z7 : (7 : Int32).toInt = 7 := (by decide); omega) : False).elim
    · skip
      exact ((by have k0 := q_eq hy11; have k1 := q_eq hy179; have z5 : (5 : Int32).toInt = 5 := (by decide); have z7 : (7 : Int32).toInt = 7 := (by decide); omega) : False).elim
    · skip
      exact ((by have k0 := q_eq hy11; have k1 := q_eq hy180; have z6 : (6 : Int32).toInt = 6 := (by decide); have z7 : (7 : Int32).toInt = 7 := (by decide); omega) : False).elim
    · skip
      obtain ⟨hP, hD⟩ := va_join (wr := []) (w1 := []) hP hD [0, 1, 2, 3, 4, 5, 6] [] rfl rfl (by decide) (by decide) hk1 hFc (fun k q h => by simp at h) ⟨fun i j p q h => by simp at h, fun k q h => by simp at h⟩
      refine wt_c (v := 0) hw ?_
      refine lv_icmp_eq (tgt := 1540) hx hb dL_law_1535 (by decide) (fun c_189 => ?_) (fun c_189 => absurd (by decide) c_189)
      exact law_end l C0 hS hl
    · skip
      exact ((by have k0 := q_eq hy11; have k1 := q_eq hy182; have z7 : (7 : Int32).toInt = 7 := (by decide); have z8 : (8 : Int32).toInt = 8 := (by decide); omega) : False).elim
    · skip
      exact ((by have k0 := q_eq hy11; have k1 := q_eq hy183; have z7 : (7 : Int32).toInt = 7 := (by decide); have z9 : (9 : Int32).toInt = 9 := (by decide); omega) : False).elim
    · skip
      exact ((by have k0 := q_eq hy11; have k1 := q_eq hy184; have z7 : (7 : Int32).toInt = 7 := (by decide); have z10 : (10 : Int32).toInt = 10 := (by decide); omega) : False).elim
    · skip
      exact ((by have k0 := q_eq hy11; have k1 := q_eq hy185; have z7 : (7 : Int32).toInt = 7 := (by decide); have z11 : (11 : Int32).toInt = 11 := (by decide); omega) : False).elim
    · skip
      exact ((by have k0 := q_eq hy11; have k1 := q_eq hy186; have z7 : (7 : Int32).toInt = 7 := (by decide); have z12 : (12 : Int32).toInt = 12 := (by decide); omega) : False).elim
    · skip
      exact ((by have k0 := q_eq hy11; have k1 := q_eq hy187; have z7 : (7 : Int32).toInt = 7 := (by decide); have z13 : (13 : Int32).toInt = 13 := (by decide); omega) : False).elim
    · skip
      exact ((by have k0 := q_eq hy11; have k1 := q_eq hy188; have z7 : (7 : Int32).toInt = 7 := (by decide); have z14 : (14 : Int32).toInt = 14 := (by decide); omega) : False).elim
  · skip
    obtain ⟨hP, hD⟩ := va_join (wr := [(rM 0, .inr (8, [.ref (rM 1), .ref (rM 2), .int 0, .int 0, .int 0, .int (-1), .int 0, .int 0, .int 0, .int 0, .long 0, .ref (rM 3), .ref (rM 4), .ref (rM 5), .ref (rM 6), .ref (rM 7), .ref (rM 8), .ref (rM 9), .ref (rM 10), .ref (rM 11), .ref (rM 12), .ref (rM 13), .ref (rM 14), .ref (rM 15), .ref (rM 16), .ref (rM 17), .ref (rM 18), .ref (rM 19), .ref (rM 20), .ref (rM 21), .ref (rM 22), .ref (rM 23), .ref (rM 24), .int 0, .int 0, .int 0, .int 0, .int 0, .int 0, .int 0, .int 0, .int 0, .ref (rM 25), .ref (rM 26), .ref (rM 27), .int 0, .int 0, .ref (rM 28), .int 0, .ref (rM 29), .ref (rM 30), .ref (rM 31), .ref (rM 32), .ref (rM 33), .ref (rM 34), .ref (rM 35), .ref (rM 36), .int 0, .int 0, .int 0, .ref (rM 37), .ref (rM 38)])), (rM 3, .inl ((cM 3), 2, .inl (fM 3))), (rM 4, .inl ((cM 4), 2, .inl (fM 4))), (rM 5, .inl ((cM 5), 2, .inl (fM 5))), (rM 6, .inl ((cM 6), 2, .inl (fM 6))), (rM 7, .inl ((cM 7), 2, .inl (fM 7))), (rM 25, .inl ((cM 25), 26, .inl (fM 25)))]) (w1 := []) hP hD [0, 1, 2, 3, 4] [5, 6, 7, 8, 9, 10, 11] rfl rfl (by decide) (by decide) hk1 hFc (fun k q h => by simp at h) ⟨fun i j p q h => by simp at h, fun k q h => by simp at h⟩
    refine wt_c (v := 0) hw ?_
    refine lv_aload_n hx hb dL_law_1526 rfl (lv_at hl 1 rfl) ?_
    refine lv_aload_n hx hb dL_law_1527 rfl (lv_at hl 3 rfl) ?_
    refine lv_iload_n hx hb dL_law_1528 rfl (lv_at hl 0 rfl) ?_
    refine lv_iconst (v := 1) hx hb dL_law_1529 (by decide) ?_
    refine lv_iadd hx hb dL_law_1530 ?_
    refine wt_c (v := 1) (by decide) ?_
    refine va_sld hx hb hX hbl hbA hS (vin (by decide)) dL_law_1531 ?_
    refine wt_c (v := xs 1) (congrArg xs (by decide)) ?_
    have hPc := hP.sub (ws' := [(rM 0, .inr (8, [.ref (rM 1), .ref (rM 2), .int 0, .int 0, .int 0, .int (-1), .int 0, .int 0, .int 0, .int 0, .long 0, .ref (rM 3), .ref (rM 4), .ref (rM 5), .ref (rM 6), .ref (rM 7), .ref (rM 8), .ref (rM 9), .ref (rM 10), .ref (rM 11), .ref (rM 12), .ref (rM 13), .ref (rM 14), .ref (rM 15), .ref (rM 16), .ref (rM 17), .ref (rM 18), .ref (rM 19), .ref (rM 20), .ref (rM 21), .ref (rM 22), .ref (rM 23), .ref (rM 24), .int 0, .int 0, .int 0, .int 0, .int 0, .int 0, .int 0, .int 0, .int 0, .ref (rM 25), .ref (rM 26), .ref (rM 27), .int 0, .int 0, .ref (rM 28), .int 0, .ref (rM 29), .ref (rM 30), .ref (rM 31), .ref (rM 32), .ref (rM 33), .ref (rM 34), .ref (rM 35), .ref (rM 36), .int 0, .int 0, .int 0, .ref (rM 37), .ref (rM 38)])), (rM 3, .inl ((cM 3), 2, .inl (fM 3))), (rM 4, .inl ((cM 4), 2, .inl (fM 4))), (rM 5, .inl ((cM 5), 2, .inl (fM 5))), (rM 6, .inl ((cM 6), 2, .inl (fM 6))), (rM 7, .inl ((cM 7), 2, .inl (fM 7))), (rM 25, .inl ((cM 25), 26, .inl (fM 25)))]) [0, 1, 2, 3, 4, 5, 6] rfl
    have hKc := hK.sub (tys' := [((cM 3), .int), ((cM 4), .int), ((cM 5), .int), ((cM 6), .int), ((cM 7), .int), ((cM 25), .int)]) [0, 1, 2, 3, 4, 5] rfl
    have hDc := hD.sub (ws' := [(rM 0, .inr (8, [.ref (rM 1), .ref (rM 2), .int 0, .int 0, .int 0, .int (-1), .int 0, .int 0, .int 0, .int 0, .long 0, .ref (rM 3), .ref (rM 4), .ref (rM 5), .ref (rM 6), .ref (rM 7), .ref (rM 8), .ref (rM 9), .ref (rM 10), .ref (rM 11), .ref (rM 12), .ref (rM 13), .ref (rM 14), .ref (rM 15), .ref (rM 16), .ref (rM 17), .ref (rM 18), .ref (rM 19), .ref (rM 20), .ref (rM 21), .ref (rM 22), .ref (rM 23), .ref (rM 24), .int 0, .int 0, .int 0, .int 0, .int 0, .int 0, .int 0, .int 0, .int 0, .ref (rM 25), .ref (rM 26), .ref (rM 27), .int 0, .int 0, .ref (rM 28), .int 0, .ref (rM 29), .ref (rM 30), .ref (rM 31), .ref (rM 32), .ref (rM 33), .ref (rM 34), .ref (rM 35), .ref (rM 36), .int 0, .int 0, .int 0, .ref (rM 37), .ref (rM 38)])), (rM 3, .inl ((cM 3), 2, .inl (fM 3))), (rM 4, .inl ((cM 4), 2, .inl (fM 4))), (rM 5, .inl ((cM 5), 2, .inl (fM 5))), (rM 6, .inl ((cM 6), 2, .inl (fM 6))), (rM 7, .inl ((cM 7), 2, .inl (fM 7))), (rM 25, .inl ((cM 25), 26, .inl (fM 25)))]) [0, 1, 2, 3, 4, 5, 6] (by decide) rfl
    have hFc := va_free (wc := [(rM 0, .inr (8, [.ref (rM 1), .ref (rM 2), .int 0, .int 0, .int 0, .int (-1), .int 0, .int 0, .int 0, .int 0, .long 0, .ref (rM 3), .ref (rM 4), .ref (rM 5), .ref (rM 6), .ref (rM 7), .ref (rM 8), .ref (rM 9), .ref (rM 10), .ref (rM 11), .ref (rM 12), .ref (rM 13), .ref (rM 14), .ref (rM 15), .ref (rM 16), .ref (rM 17), .ref (rM 18), .ref (rM 19), .ref (rM 20), .ref (rM 21), .ref (rM 22), .ref (rM 23), .ref (rM 24), .int 0, .int 0, .int 0, .int 0, .int 0, .int 0, .int 0, .int 0, .int 0, .ref (rM 25), .ref (rM 26), .ref (rM 27), .int 0, .int 0, .ref (rM 28), .int 0, .ref (rM 29), .ref (rM 30), .ref (rM 31), .ref (rM 32), .ref (rM 33), .ref (rM 34), .ref (rM 35), .ref (rM 36), .int 0, .int 0, .int 0, .ref (rM 37), .ref (rM 38)])), (rM 3, .inl ((cM 3), 2, .inl (fM 3))), (rM 4, .inl ((cM 4), 2, .inl (fM 4))), (rM 5, .inl ((cM 5), 2, .inl (fM 5))), (rM 6, .inl ((cM 6), 2, .inl (fM 6))), (rM 7, .inl ((cM 7), 2, .inl (fM 7))), (rM 25, .inl ((cM 25), 26, .inl (fM 25)))]) hD hS hA [0, 1, 2, 3, 4, 5, 6] rfl
    refine va_calli (va_runV (As := [.int (xs 1)]) (rest := [.int 0]) ⟨hx, hb, hml, hown, hG⟩ (kX9_about l dC dI rM cM (fM 3) (fM 4) (fM 5) (fM 6) (fM 7) (fM 25) (xs 1) H1.size hfM_3_0 hfM_4_0 hfM_5_0 hfM_6_0 hfM_7_0 hfM_25_24 hfM_25_25) (cwV 1 hG (goodV gw1869 gw1870 gw1871 gw138 gw1872) rfl rfl rfl hd_X9_about ⟨(Nat.le_of_ble_eq_true rfl), (Nat.le_of_ble_eq_true rfl)⟩) ⟨fbW, va_recv hKc hPc (ci := 8) (q0 := 0) rfl rfl, pW_in hPc hKc hDc⟩ rfl rfl hl.1 rfl (lv_room (Nat.le_of_ble_eq_true rfl)) dL_law_1532 ⟨(Nat.le_of_ble_eq_true rfl), (Nat.le_of_ble_eq_true rfl)⟩) hS (fun q _ h => hFc q h) hFc (fun r_191 u t H190 locs ht hvm hw hB hz1 hk1 hS => ?_)
    rcases hw with ⟨rfl, hy192, hw⟩ | ⟨rfl, hy193, hw⟩ | ⟨rfl, hy194, hw⟩ | ⟨rfl, hy195, hw⟩ | ⟨rfl, hy196, hw⟩ | ⟨rfl, hy197, hw⟩ | ⟨rfl, hy198, hw⟩ | ⟨rfl, hy199, hw⟩ | ⟨rfl, hy200, hw⟩ | ⟨rfl, hy201, hw⟩ | ⟨rfl, hy202, hw⟩ | ⟨rfl, hy203, hw⟩ | ⟨rfl, hy204, hw⟩ | ⟨rfl, hy205, hw⟩ | ⟨rfl, hy206, hw⟩ | ⟨rfl, hy207, hw⟩
    · skip
      exact ((by have k0 := q_eq hy12; have k1 := hy192; have z8 : (8 : Int32).toInt = 8 := (by decide); omega) : False).elim
    · skip
      exact ((by have k0 := q_eq hy12; have k1 := q_eq hy193; have z0 : (0 : Int32).toInt = 0 := (by decide); have z8 : (8 : Int32).toInt = 8 := (by decide); omega) : False).elim
    · skip
      exact ((by have k0 := q_eq hy12; have k1 := q_eq hy194; have z1 : (1 : Int32).toInt = 1 := (by decide); have z8 : (8 : Int32).toInt = 8 := (by decide); omega) : False).elim
    · skip
      exact ((by have k0 := q_eq hy12; have k1 := q_eq hy195; have z2 : (2 : Int32).toInt = 2 := (by decide); have z8 : (8 : Int32).toInt = 8 := (by decide); omega) : False).elim
    · skip
      exact ((by have k0 := q_eq hy12; have k1 := q_eq hy196; have z3 : (3 : Int32).toInt = 3 := (by decide); have z8 : (8 : Int32).toInt = 8 := (by decide); omega) : False).elim
    · skip
      exact ((by have k0 := q_eq hy12; have k1 := q_eq hy197; have z4 : (4 : Int32).toInt = 4 := (by decide); have z8 : (8 : Int32).toInt = 8 := (by decide); omega) : False).elim
    · skip
      exact ((by have k0 := q_eq hy12; have k1 := q_eq hy198; have z5 : (5 : Int32).toInt = 5 := (by decide); have z8 : (8 : Int32).toInt = 8 := (by decide); omega) : False).elim
    · skip
      exact ((by have k0 := q_eq hy12; have k1 := q_eq hy199; have z6 : (6 : Int32).toInt = 6 := (by decide); have z8 : (8 : Int32).toInt = 8 := (by decide); omega) : False).elim
    · skip
      exact ((by have k0 := q_eq hy12; have k1 := q_eq hy200; have z7 : (7 : Int32).toInt = 7 := (by decide); have z8 : (8 : Int32).toInt = 8 := (by decide); omega) : False).elim
    · skip
      obtain ⟨hP, hD⟩ := va_join (wr := []) (w1 := []) hP hD [0, 1, 2, 3, 4, 5, 6] [] rfl rfl (by decide) (by decide) hk1 hFc (fun k q h => by simp at h) ⟨fun i j p q h => by simp at h, fun k q h => by simp at h⟩
      refine wt_c (v := 0) hw ?_
      refine lv_icmp_eq (tgt := 1540) hx hb dL_law_1535 (by decide) (fun c_208 => ?_) (fun c_208 => absurd (by decide) c_208)
      exact law_end l C0 hS hl
    · skip
      exact ((by have k0 := q_eq hy12; have k1 := q_eq hy202; have z8 : (8 : Int32).toInt = 8 := (by decide); have z9 : (9 : Int32).toInt = 9 := (by decide); omega) : False).elim
    · skip
      exact ((by have k0 := q_eq hy12; have k1 := q_eq hy203; have z8 : (8 : Int32).toInt = 8 := (by decide); have z10 : (10 : Int32).toInt = 10 := (by decide); omega) : False).elim
    · skip
      exact ((by have k0 := q_eq hy12; have k1 := q_eq hy204; have z8 : (8 : Int32).toInt = 8 := (by decide); have z11 : (11 : Int32).toInt = 11 := (by decide); omega) : False).elim
    · skip
      exact ((by have k0 := q_eq hy12; have k1 := q_eq hy205; have z8 : (8 : Int32).toInt = 8 := (by decide); have z12 : (12 : Int32).toInt = 12 := (by decide); omega) : False).elim
    · skip
      exact ((by have k0 := q_eq hy12; have k1 := q_eq hy206; have z8 : (8 : Int32).toInt = 8 := (by decide); have z13 : (13 : Int32).toInt = 13 := (by decide); omega) : False).elim
    · skip
      exact ((by have k0 := q_eq hy12; have k1 := q_eq hy207; have z8 : (8 : Int32).toInt = 8 := (by decide); have z14 : (14 : Int32).toInt = 14 := (by decide); omega) : False).elim
  · skip
    obtain ⟨hP, hD⟩ := va_join (wr := [(rM 0, .inr (8, [.ref (rM 1), .ref (rM 2), .int 0, .int 0, .int 0, .int (-1), .int 0, .int 0, .int 0, .int 0, .long 0, .ref (rM 3), .ref (rM 4), .ref (rM 5), .ref (rM 6), .ref (rM 7), .ref (rM 8), .ref (rM 9), .ref (rM 10), .ref (rM 11), .ref (rM 12), .ref (rM 13), .ref (rM 14), .ref (rM 15), .ref (rM 16), .ref (rM 17), .ref (rM 18), .ref (rM 19), .ref (rM 20), .ref (rM 21), .ref (rM 22), .ref (rM 23), .ref (rM 24), .int 0, .int 0, .int 0, .int 0, .int 0, .int 0, .int 0, .int 0, .int 0, .ref (rM 25), .ref (rM 26), .ref (rM 27), .int 0, .int 0, .ref (rM 28), .int 0, .ref (rM 29), .ref (rM 30), .ref (rM 31), .ref (rM 32), .ref (rM 33), .ref (rM 34), .ref (rM 35), .ref (rM 36), .int 0, .int 0, .int 0, .ref (rM 37), .ref (rM 38)])), (rM 3, .inl ((cM 3), 2, .inl (fM 3))), (rM 4, .inl ((cM 4), 2, .inl (fM 4))), (rM 5, .inl ((cM 5), 2, .inl (fM 5))), (rM 6, .inl ((cM 6), 2, .inl (fM 6))), (rM 7, .inl ((cM 7), 2, .inl (fM 7))), (rM 25, .inl ((cM 25), 26, .inl (fM 25)))]) (w1 := []) hP hD [0, 1, 2, 3, 4] [5, 6, 7, 8, 9, 10, 11] rfl rfl (by decide) (by decide) hk1 hFc (fun k q h => by simp at h) ⟨fun i j p q h => by simp at h, fun k q h => by simp at h⟩
    refine wt_c (v := 0) hw ?_
    refine lv_aload_n hx hb dL_law_1526 rfl (lv_at hl 1 rfl) ?_
    refine lv_aload_n hx hb dL_law_1527 rfl (lv_at hl 3 rfl) ?_
    refine lv_iload_n hx hb dL_law_1528 rfl (lv_at hl 0 rfl) ?_
    refine lv_iconst (v := 1) hx hb dL_law_1529 (by decide) ?_
    refine lv_iadd hx hb dL_law_1530 ?_
    refine wt_c (v := 1) (by decide) ?_
    refine va_sld hx hb hX hbl hbA hS (vin (by decide)) dL_law_1531 ?_
    refine wt_c (v := xs 1) (congrArg xs (by decide)) ?_
    have hPc := hP.sub (ws' := [(rM 0, .inr (8, [.ref (rM 1), .ref (rM 2), .int 0, .int 0, .int 0, .int (-1), .int 0, .int 0, .int 0, .int 0, .long 0, .ref (rM 3), .ref (rM 4), .ref (rM 5), .ref (rM 6), .ref (rM 7), .ref (rM 8), .ref (rM 9), .ref (rM 10), .ref (rM 11), .ref (rM 12), .ref (rM 13), .ref (rM 14), .ref (rM 15), .ref (rM 16), .ref (rM 17), .ref (rM 18), .ref (rM 19), .ref (rM 20), .ref (rM 21), .ref (rM 22), .ref (rM 23), .ref (rM 24), .int 0, .int 0, .int 0, .int 0, .int 0, .int 0, .int 0, .int 0, .int 0, .ref (rM 25), .ref (rM 26), .ref (rM 27), .int 0, .int 0, .ref (rM 28), .int 0, .ref (rM 29), .ref (rM 30), .ref (rM 31), .ref (rM 32), .ref (rM 33), .ref (rM 34), .ref (rM 35), .ref (rM 36), .int 0, .int 0, .int 0, .ref (rM 37), .ref (rM 38)])), (rM 3, .inl ((cM 3), 2, .inl (fM 3))), (rM 4, .inl ((cM 4), 2, .inl (fM 4))), (rM 5, .inl ((cM 5), 2, .inl (fM 5))), (rM 6, .inl ((cM 6), 2, .inl (fM 6))), (rM 7, .inl ((cM 7), 2, .inl (fM 7))), (rM 25, .inl ((cM 25), 26, .inl (fM 25)))]) [0, 1, 2, 3, 4, 5, 6] rfl
    have hKc := hK.sub (tys' := [((cM 3), .int), ((cM 4), .int), ((cM 5), .int), ((cM 6), .int), ((cM 7), .int), ((cM 25), .int)]) [0, 1, 2, 3, 4, 5] rfl
    have hDc := hD.sub (ws' := [(rM 0, .inr (8, [.ref (rM 1), .ref (rM 2), .int 0, .int 0, .int 0, .int (-1), .int 0, .int 0, .int 0, .int 0, .long 0, .ref (rM 3), .ref (rM 4), .ref (rM 5), .ref (rM 6), .ref (rM 7), .ref (rM 8), .ref (rM 9), .ref (rM 10), .ref (rM 11), .ref (rM 12), .ref (rM 13), .ref (rM 14), .ref (rM 15), .ref (rM 16), .ref (rM 17), .ref (rM 18), .ref (rM 19), .ref (rM 20), .ref (rM 21), .ref (rM 22), .ref (rM 23), .ref (rM 24), .int 0, .int 0, .int 0, .int 0, .int 0, .int 0, .int 0, .int 0, .int 0, .ref (rM 25), .ref (rM 26), .ref (rM 27), .int 0, .int 0, .ref (rM 28), .int 0, .ref (rM 29), .ref (rM 30), .ref (rM 31), .ref (rM 32), .ref (rM 33), .ref (rM 34), .ref (rM 35), .ref (rM 36), .int 0, .int 0, .int 0, .ref (rM 37), .ref (rM 38)])), (rM 3, .inl ((cM 3), 2, .inl (fM 3))), (rM 4, .inl ((cM 4), 2, .inl (fM 4))), (rM 5, .inl ((cM 5), 2, .inl (fM 5))), (rM 6, .inl ((cM 6), 2, .inl (fM 6))), (rM 7, .inl ((cM 7), 2, .inl (fM 7))), (rM 25, .inl ((cM 25), 26, .inl (fM 25)))]) [0, 1, 2, 3, 4, 5, 6] (by decide) rfl
    have hFc := va_free (wc := [(rM 0, .inr (8, [.ref (rM 1), .ref (rM 2), .int 0, .int 0, .int 0, .int (-1), .int 0, .int 0, .int 0, .int 0, .long 0, .ref (rM 3), .ref (rM 4), .ref (rM 5), .ref (rM 6), .ref (rM 7), .ref (rM 8), .ref (rM 9), .ref (rM 10), .ref (rM 11), .ref (rM 12), .ref (rM 13), .ref (rM 14), .ref (rM 15), .ref (rM 16), .ref (rM 17), .ref (rM 18), .ref (rM 19), .ref (rM 20), .ref (rM 21), .ref (rM 22), .ref (rM 23), .ref (rM 24), .int 0, .int 0, .int 0, .int 0, .int 0, .int 0, .int 0, .int 0, .int 0, .ref (rM 25), .ref (rM 26), .ref (rM 27), .int 0, .int 0, .ref (rM 28), .int 0, .ref (rM 29), .ref (rM 30), .ref (rM 31), .ref (rM 32), .ref (rM 33), .ref (rM 34), .ref (rM 35), .ref (rM 36), .int 0, .int 0, .int 0, .ref (rM 37), .ref (rM 38)])), (rM 3, .inl ((cM 3), 2, .inl (fM 3))), (rM 4, .inl ((cM 4), 2, .inl (fM 4))), (rM 5, .inl ((cM 5), 2, .inl (fM 5))), (rM 6, .inl ((cM 6), 2, .inl (fM 6))), (rM 7, .inl ((cM 7), 2, .inl (fM 7))), (rM 25, .inl ((cM 25), 26, .inl (fM 25)))]) hD hS hA [0, 1, 2, 3, 4, 5, 6] rfl
    refine va_calli (va_runV (As := [.int (xs 1)]) (rest := [.int 0]) ⟨hx, hb, hml, hown, hG⟩ (kX9_about l dC dI rM cM (fM 3) (fM 4) (fM 5) (fM 6) (fM 7) (fM 25) (xs 1) H1.size hfM_3_0 hfM_4_0 hfM_5_0 hfM_6_0 hfM_7_0 hfM_25_24 hfM_25_25) (cwV 1 hG (goodV gw1869 gw1870 gw1871 gw138 gw1872) rfl rfl rfl hd_X9_about ⟨(Nat.le_of_ble_eq_true rfl), (Nat.le_of_ble_eq_true rfl)⟩) ⟨fbW, va_recv hKc hPc (ci := 8) (q0 := 0) rfl rfl, pW_in hPc hKc hDc⟩ rfl rfl hl.1 rfl (lv_room (Nat.le_of_ble_eq_true rfl)) dL_law_1532 ⟨(Nat.le_of_ble_eq_true rfl), (Nat.le_of_ble_eq_true rfl)⟩) hS (fun q _ h => hFc q h) hFc (fun r_210 u t H209 locs ht hvm hw hB hz1 hk1 hS => ?_)
    rcases hw with ⟨rfl, hy211, hw⟩ | ⟨rfl, hy212, hw⟩ | ⟨rfl, hy213, hw⟩ | ⟨rfl, hy214, hw⟩ | ⟨rfl, hy215, hw⟩ | ⟨rfl, hy216, hw⟩ | ⟨rfl, hy217, hw⟩ | ⟨rfl, hy218, hw⟩ | ⟨rfl, hy219, hw⟩ | ⟨rfl, hy220, hw⟩ | ⟨rfl, hy221, hw⟩ | ⟨rfl, hy222, hw⟩ | ⟨rfl, hy223, hw⟩ | ⟨rfl, hy224, hw⟩ | ⟨rfl, hy225, hw⟩ | ⟨rfl, hy226, hw⟩
    · skip
      exact ((by have k0 := q_eq hy13; have k1 := hy211; have z9 : (9 : Int32).toInt = 9 := (by decide); omega) : False).elim
    · skip
      exact ((by have k0 := q_eq hy13; have k1 := q_eq hy212; have z0 : (0 : Int32).toInt = 0 := (by decide); have z9 : (9 : Int32).toInt = 9 := (by decide); omega) : False).elim
    · skip
      exact ((by have k0 := q_eq hy13; have k1 := q_eq hy213; have z1 : (1 : Int32).toInt = 1 := (by decide); have z9 : (9 : Int32).toInt = 9 := (by decide); omega) : False).elim
    · skip
      exact ((by have k0 := q_eq hy13; have k1 := q_eq hy214; have z2 : (2 : Int32).toInt = 2 := (by decide); have z9 : (9 : Int32).toInt = 9 := (by decide); omega) : False).elim
    · skip
      exact ((by have k0 := q_eq hy13; have k1 := q_eq hy215; have z3 : (3 : Int32).toInt = 3 := (by decide); have z9 : (9 : Int32).toInt = 9 := (by decide); omega) : False).elim
    · skip
      exact ((by have k0 := q_eq hy13; have k1 := q_eq hy216; have z4 : (4 : Int32).toInt = 4 := (by decide); have z9 : (9 : Int32).toInt = 9 := (by decide); omega) : False).elim
    · skip
      exact ((by have k0 := q_eq hy13; have k1 := q_eq hy217; have z5 : (5 : Int32).toInt = 5 := (by decide); have z9 : (9 : Int32).toInt = 9 := (by decide); omega) : False).elim
    · skip
      exact ((by have k0 := q_eq hy13; have k1 := q_eq hy218; have z6 : (6 : Int32).toInt = 6 := (by decide); have z9 : (9 : Int32).toInt = 9 := (by decide); omega) : False).elim
    · skip
      exact ((by have k0 := q_eq hy13; have k1 := q_eq hy219; have z7 : (7 : Int32).toInt = 7 := (by decide); have z9 : (9 : Int32).toInt = 9 := (by decide); omega) : False).elim
    · skip
      exact ((by have k0 := q_eq hy13; have k1 := q_eq hy220; have z8 : (8 : Int32).toInt = 8 := (by decide); have z9 : (9 : Int32).toInt = 9 := (by decide); omega) : False).elim
    · skip
      obtain ⟨hP, hD⟩ := va_join (wr := []) (w1 := []) hP hD [0, 1, 2, 3, 4, 5, 6] [] rfl rfl (by decide) (by decide) hk1 hFc (fun k q h => by simp at h) ⟨fun i j p q h => by simp at h, fun k q h => by simp at h⟩
      refine wt_c (v := 0) hw ?_
      refine lv_icmp_eq (tgt := 1540) hx hb dL_law_1535 (by decide) (fun c_227 => ?_) (fun c_227 => absurd (by decide) c_227)
      exact law_end l C0 hS hl
    · skip
      exact ((by have k0 := q_eq hy13; have k1 := q_eq hy222; have z9 : (9 : Int32).toInt = 9 := (by decide); have z10 : (10 : Int32).toInt = 10 := (by decide); omega) : False).elim
    · skip
      exact ((by have k0 := q_eq hy13; have k1 := q_eq hy223; have z9 : (9 : Int32).toInt = 9 := (by decide); have z11 : (11 : Int32).toInt = 11 := (by decide); omega) : False).elim
    · skip
      exact ((by have k0 := q_eq hy13; have k1 := q_eq hy224; have z9 : (9 : Int32).toInt = 9 := (by decide); have z12 : (12 : Int32).toInt = 12 := (by decide); omega) : False).elim
    · skip
      exact ((by have k0 := q_eq hy13; have k1 := q_eq hy225; have z9 : (9 : Int32).toInt = 9 := (by decide); have z13 : (13 : Int32).toInt = 13 := (by decide); omega) : False).elim
    · skip
      exact ((by have k0 := q_eq hy13; have k1 := q_eq hy226; have z9 : (9 : Int32).toInt = 9 := (by decide); have z14 : (14 : Int32).toInt = 14 := (by decide); omega) : False).elim
  · skip
    obtain ⟨hP, hD⟩ := va_join (wr := [(rM 0, .inr (8, [.ref (rM 1), .ref (rM 2), .int 0, .int 0, .int 0, .int (-1), .int 0, .int 0, .int 0, .int 0, .long 0, .ref (rM 3), .ref (rM 4), .ref (rM 5), .ref (rM 6), .ref (rM 7), .ref (rM 8), .ref (rM 9), .ref (rM 10), .ref (rM 11), .ref (rM 12), .ref (rM 13), .ref (rM 14), .ref (rM 15), .ref (rM 16), .ref (rM 17), .ref (rM 18), .ref (rM 19), .ref (rM 20), .ref (rM 21), .ref (rM 22), .ref (rM 23), .ref (rM 24), .int 0, .int 0, .int 0, .int 0, .int 0, .int 0, .int 0, .int 0, .int 0, .ref (rM 25), .ref (rM 26), .ref (rM 27), .int 0, .int 0, .ref (rM 28), .int 0, .ref (rM 29), .ref (rM 30), .ref (rM 31), .ref (rM 32), .ref (rM 33), .ref (rM 34), .ref (rM 35), .ref (rM 36), .int 0, .int 0, .int 0, .ref (rM 37), .ref (rM 38)])), (rM 3, .inl ((cM 3), 2, .inl (fM 3))), (rM 4, .inl ((cM 4), 2, .inl (fM 4))), (rM 5, .inl ((cM 5), 2, .inl (fM 5))), (rM 6, .inl ((cM 6), 2, .inl (fM 6))), (rM 7, .inl ((cM 7), 2, .inl (fM 7))), (rM 25, .inl ((cM 25), 26, .inl (fM 25)))]) (w1 := []) hP hD [0, 1, 2, 3, 4] [5, 6, 7, 8, 9, 10, 11] rfl rfl (by decide) (by decide) hk1 hFc (fun k q h => by simp at h) ⟨fun i j p q h => by simp at h, fun k q h => by simp at h⟩
    refine wt_c (v := 0) hw ?_
    refine lv_aload_n hx hb dL_law_1526 rfl (lv_at hl 1 rfl) ?_
    refine lv_aload_n hx hb dL_law_1527 rfl (lv_at hl 3 rfl) ?_
    refine lv_iload_n hx hb dL_law_1528 rfl (lv_at hl 0 rfl) ?_
    refine lv_iconst (v := 1) hx hb dL_law_1529 (by decide) ?_
    refine lv_iadd hx hb dL_law_1530 ?_
    refine wt_c (v := 1) (by decide) ?_
    refine va_sld hx hb hX hbl hbA hS (vin (by decide)) dL_law_1531 ?_
    refine wt_c (v := xs 1) (congrArg xs (by decide)) ?_
    have hPc := hP.sub (ws' := [(rM 0, .inr (8, [.ref (rM 1), .ref (rM 2), .int 0, .int 0, .int 0, .int (-1), .int 0, .int 0, .int 0, .int 0, .long 0, .ref (rM 3), .ref (rM 4), .ref (rM 5), .ref (rM 6), .ref (rM 7), .ref (rM 8), .ref (rM 9), .ref (rM 10), .ref (rM 11), .ref (rM 12), .ref (rM 13), .ref (rM 14), .ref (rM 15), .ref (rM 16), .ref (rM 17), .ref (rM 18), .ref (rM 19), .ref (rM 20), .ref (rM 21), .ref (rM 22), .ref (rM 23), .ref (rM 24), .int 0, .int 0, .int 0, .int 0, .int 0, .int 0, .int 0, .int 0, .int 0, .ref (rM 25), .ref (rM 26), .ref (rM 27), .int 0, .int 0, .ref (rM 28), .int 0, .ref (rM 29), .ref (rM 30), .ref (rM 31), .ref (rM 32), .ref (rM 33), .ref (rM 34), .ref (rM 35), .ref (rM 36), .int 0, .int 0, .int 0, .ref (rM 37), .ref (rM 38)])), (rM 3, .inl ((cM 3), 2, .inl (fM 3))), (rM 4, .inl ((cM 4), 2, .inl (fM 4))), (rM 5, .inl ((cM 5), 2, .inl (fM 5))), (rM 6, .inl ((cM 6), 2, .inl (fM 6))), (rM 7, .inl ((cM 7), 2, .inl (fM 7))), (rM 25, .inl ((cM 25), 26, .inl (fM 25)))]) [0, 1, 2, 3, 4, 5, 6] rfl
    have hKc := hK.sub (tys' := [((cM 3), .int), ((cM 4), .int), ((cM 5), .int), ((cM 6), .int), ((cM 7), .int), ((cM 25), .int)]) [0, 1, 2, 3, 4, 5] rfl
    have hDc := hD.sub (ws' := [(rM 0, .inr (8, [.ref (rM 1), .ref (rM 2), .int 0, .int 0, .int 0, .int (-1), .int 0, .int 0, .int 0, .int 0, .long 0, .ref (rM 3), .ref (rM 4), .ref (rM 5), .ref (rM 6), .ref (rM 7), .ref (rM 8), .ref (rM 9), .ref (rM 10), .ref (rM 11), .ref (rM 12), .ref (rM 13), .ref (rM 14), .ref (rM 15), .ref (rM 16), .ref (rM 17), .ref (rM 18), .ref (rM 19), .ref (rM 20), .ref (rM 21), .ref (rM 22), .ref (rM 23), .ref (rM 24), .int 0, .int 0, .int 0, .int 0, .int 0, .int 0, .int 0, .int 0, .int 0, .ref (rM 25), .ref (rM 26), .ref (rM 27), .int 0, .int 0, .ref (rM 28), .int 0, .ref (rM 29), .ref (rM 30), .ref (rM 31), .ref (rM 32), .ref (rM 33), .ref (rM 34), .ref (rM 35), .ref (rM 36), .int 0, .int 0, .int 0, .ref (rM 37), .ref (rM 38)])), (rM 3, .inl ((cM 3), 2, .inl (fM 3))), (rM 4, .inl ((cM 4), 2, .inl (fM 4))), (rM 5, .inl ((cM 5), 2, .inl (fM 5))), (rM 6, .inl ((cM 6), 2, .inl (fM 6))), (rM 7, .inl ((cM 7), 2, .inl (fM 7))), (rM 25, .inl ((cM 25), 26, .inl (fM 25)))]) [0, 1, 2, 3, 4, 5, 6] (by decide) rfl
    have hFc := va_free (wc := [(rM 0, .inr (8, [.ref (rM 1), .ref (rM 2), .int 0, .int 0, .int 0, .int (-1), .int 0, .int 0, .int 0, .int 0, .long 0, .ref (rM 3), .ref (rM 4), .ref (rM 5), .ref (rM 6), .ref (rM 7), .ref (rM 8), .ref (rM 9), .ref (rM 10), .ref (rM 11), .ref (rM 12), .ref (rM 13), .ref (rM 14), .ref (rM 15), .ref (rM 16), .ref (rM 17), .ref (rM 18), .ref (rM 19), .ref (rM 20), .ref (rM 21), .ref (rM 22), .ref (rM 23), .ref (rM 24), .int 0, .int 0, .int 0, .int 0, .int 0, .int 0, .int 0, .int 0, .int 0, .ref (rM 25), .ref (rM 26), .ref (rM 27), .int 0, .int 0, .ref (rM 28), .int 0, .ref (rM 29), .ref (rM 30), .ref (rM 31), .ref (rM 32), .ref (rM 33), .ref (rM 34), .ref (rM 35), .ref (rM 36), .int 0, .int 0, .int 0, .ref (rM 37), .ref (rM 38)])), (rM 3, .inl ((cM 3), 2, .inl (fM 3))), (rM 4, .inl ((cM 4), 2, .inl (fM 4))), (rM 5, .inl ((cM 5), 2, .inl (fM 5))), (rM 6, .inl ((cM 6), 2, .inl (fM 6))), (rM 7, .inl ((cM 7), 2, .inl (fM 7))), (rM 25, .inl ((cM 25), 26, .inl (fM 25)))]) hD hS hA [0, 1, 2, 3, 4, 5, 6] rfl
    refine va_calli (va_runV (As := [.int (xs 1)]) (rest := [.int 0]) ⟨hx, hb, hml, hown, hG⟩ (kX9_about l dC dI rM cM (fM 3) (fM 4) (fM 5) (fM 6) (fM 7) (fM 25) (xs 1) H1.size hfM_3_0 hfM_4_0 hfM_5_0 hfM_6_0 hfM_7_0 hfM_25_24 hfM_25_25) (cwV 1 hG (goodV gw1869 gw1870 gw1871 gw138 gw1872) rfl rfl rfl hd_X9_about ⟨(Nat.le_of_ble_eq_true rfl), (Nat.le_of_ble_eq_true rfl)⟩) ⟨fbW, va_recv hKc hPc (ci := 8) (q0 := 0) rfl rfl, pW_in hPc hKc hDc⟩ rfl rfl hl.1 rfl (lv_room (Nat.le_of_ble_eq_true rfl)) dL_law_1532 ⟨(Nat.le_of_ble_eq_true rfl), (Nat.le_of_ble_eq_true rfl)⟩) hS (fun q _ h => hFc q h) hFc (fun r_229 u t H228 locs ht hvm hw hB hz1 hk1 hS => ?_)
    rcases hw with ⟨rfl, hy230, hw⟩ | ⟨rfl, hy231, hw⟩ | ⟨rfl, hy232, hw⟩ | ⟨rfl, hy233, hw⟩ | ⟨rfl, hy234, hw⟩ | ⟨rfl, hy235, hw⟩ | ⟨rfl, hy236, hw⟩ | ⟨rfl, hy237, hw⟩ | ⟨rfl, hy238, hw⟩ | ⟨rfl, hy239, hw⟩ | ⟨rfl, hy240, hw⟩ | ⟨rfl, hy241, hw⟩ | ⟨rfl, hy242, hw⟩ | ⟨rfl, hy243, hw⟩ | ⟨rfl, hy244, hw⟩ | ⟨rfl, hy245, hw⟩
    · skip
      exact ((by have k0 := q_eq hy14; have k1 := hy230; have z10 : (10 : Int32).toInt = 10 := (by decide); omega) : False).elim
    · skip
      exact ((by have k0 := q_eq hy14; have k1 := q_eq hy231; have z0 : (0 : Int32).toInt = 0 := (by decide); have z10 : (10 : Int32).toInt = 10 := (by decide); omega) : False).elim
    · skip
      exact ((by have k0 := q_eq hy14; have k1 := q_eq hy232; have z1 : (1 : Int32).toInt = 1 := (by decide); have z10 : (10 : Int32).toInt = 10 := (by decide); omega) : False).elim
    · skip
      exact ((by have k0 := q_eq hy14; have k1 := q_eq hy233; have z2 : (2 : Int32).toInt = 2 := (by decide); have z10 : (10 : Int32).toInt = 10 := (by decide); omega) : False).elim
    · skip
      exact ((by have k0 := q_eq hy14; have k1 := q_eq hy234; have z3 : (3 : Int32).toInt = 3 := (by decide); have z10 : (10 : Int32).toInt = 10 := (by decide); omega) : False).elim
    · skip
      exact ((by have k0 := q_eq hy14; have k1 := q_eq hy235; have z4 : (4 : Int32).toInt = 4 := (by decide); have z10 : (10 : Int32).toInt = 10 := (by decide); omega) : False).elim
    · skip
      exact ((by have k0 := q_eq hy14; have k1 := q_eq hy236; have z5 : (5 : Int32).toInt = 5 := (by decide); have z10 : (10 : Int32).toInt = 10 := (by decide); omega) : False).elim
    · skip
      exact ((by have k0 := q_eq hy14; have k1 := q_eq hy237; have z6 : (6 : Int32).toInt = 6 := (by decide); have z10 : (10 : Int32).toInt = 10 := (by decide); omega) : False).elim
    · skip
      exact ((by have k0 := q_eq hy14; have k1 := q_eq hy238; have z7 : (7 : Int32).toInt = 7 := (by decide); have z10 : (10 : Int32).toInt = 10 := (by decide); omega) : False).elim
    · skip
      exact ((by have k0 := q_eq hy14; have k1 := q_eq hy239; have z8 : (8 : Int32).toInt = 8 := (by decide); have z10 : (10 : Int32).toInt = 10 := (by decide); omega) : False).elim
    · skip
      exact ((by have k0 := q_eq hy14; have k1 := q_eq hy240; have z9 : (9 : Int32).toInt = 9 := (by decide); have z10 : (10 : Int32).toInt = 10 := (by decide); omega) : False).elim
    · skip
      obtain ⟨hP, hD⟩ := va_join (wr := []) (w1 := []) hP hD [0, 1, 2, 3, 4, 5, 6] [] rfl rfl (by decide) (by decide) hk1 hFc (fun k q h => by simp at h) ⟨fun i j p q h => by simp at h, fun k q h => by simp at h⟩
      refine wt_c (v := 0) hw ?_
      refine lv_icmp_eq (tgt := 1540) hx hb dL_law_1535 (by decide) (fun c_246 => ?_) (fun c_246 => absurd (by decide) c_246)
      exact law_end l C0 hS hl
    · skip
      exact ((by have k0 := q_eq hy14; have k1 := q_eq hy242; have z10 : (10 : Int32).toInt = 10 := (by decide); have z11 : (11 : Int32).toInt = 11 := (by decide); omega) : False).elim
    · skip
      exact ((by have k0 := q_eq hy14; have k1 := q_eq hy243; have z10 : (10 : Int32).toInt = 10 := (by decide); have z12 : (12 : Int32).toInt = 12 := (by decide); omega) : False).elim
    · skip
      exact ((by have k0 := q_eq hy14; have k1 := q_eq hy244; have z10 : (10 : Int32).toInt = 10 := (by decide); have z13 : (13 : Int32).toInt = 13 := (by decide); omega) : False).elim
    · skip
      exact ((by have k0 := q_eq hy14; have k1 := q_eq hy245; have z10 : (10 : Int32).toInt = 10 := (by decide); have z14 : (14 : Int32).toInt = 14 := (by decide); omega) : False).elim
  · skip
    obtain ⟨hP, hD⟩ := va_join (wr := [(rM 0, .inr (8, [.ref (rM 1), .ref (rM 2), .int 0, .int 0, .int 0, .int (-1), .int 0, .int 0, .int 0, .int 0, .long 0, .ref (rM 3), .ref (rM 4), .ref (rM 5), .ref (rM 6), .ref (rM 7), .ref (rM 8), .ref (rM 9), .ref (rM 10), .ref (rM 11), .ref (rM 12), .ref (rM 13), .ref (rM 14), .ref (rM 15), .ref (rM 16), .ref (rM 17), .ref (rM 18), .ref (rM 19), .ref (rM 20), .ref (rM 21), .ref (rM 22), .ref (rM 23), .ref (rM 24), .int 0, .int 0, .int 0, .int 0, .int 0, .int 0, .int 0, .int 0, .int 0, .ref (rM 25), .ref (rM 26), .ref (rM 27), .int 0, .int 0, .ref (rM 28), .int 0, .ref (rM 29), .ref (rM 30), .ref (rM 31), .ref (rM 32), .ref (rM 33), .ref (rM 34), .ref (rM 35), .ref (rM 36), .int 0, .int 0, .int 0, .ref (rM 37), .ref (rM 38)])), (rM 3, .inl ((cM 3), 2, .inl (fM 3))), (rM 4, .inl ((cM 4), 2, .inl (fM 4))), (rM 5, .inl ((cM 5), 2, .inl (fM 5))), (rM 6, .inl ((cM 6), 2, .inl (fM 6))), (rM 7, .inl ((cM 7), 2, .inl (fM 7))), (rM 25, .inl ((cM 25), 26, .inl (fM 25)))]) (w1 := []) hP hD [0, 1, 2, 3, 4] [5, 6, 7, 8, 9, 10, 11] rfl rfl (by decide) (by decide) hk1 hFc (fun k q h => by simp at h) ⟨fun i j p q h => by simp at h, fun k q h => by simp at h⟩
    refine wt_c (v := 0) hw ?_
    refine lv_aload_n hx hb dL_law_1526 rfl (lv_at hl 1 rfl) ?_
    refine lv_aload_n hx hb dL_law_1527 rfl (lv_at hl 3 rfl) ?_
    refine lv_iload_n hx hb dL_law_1528 rfl (lv_at hl 0 rfl) ?_
    refine lv_iconst (v := 1) hx hb dL_law_1529 (by decide) ?_
    refine lv_iadd hx hb dL_law_1530 ?_
    refine wt_c (v := 1) (by decide) ?_
    refine va_sld hx hb hX hbl hbA hS (vin (by decide)) dL_law_1531 ?_
    refine wt_c (v := xs 1) (congrArg xs (by decide)) ?_
    have hPc := hP.sub (ws' := [(rM 0, .inr (8, [.ref (rM 1), .ref (rM 2), .int 0, .int 0, .int 0, .int (-1), .int 0, .int 0, .int 0, .int 0, .long 0, .ref (rM 3), .ref (rM 4), .ref (rM 5), .ref (rM 6), .ref (rM 7), .ref (rM 8), .ref (rM 9), .ref (rM 10), .ref (rM 11), .ref (rM 12), .ref (rM 13), .ref (rM 14), .ref (rM 15), .ref (rM 16), .ref (rM 17), .ref (rM 18), .ref (rM 19), .ref (rM 20), .ref (rM 21), .ref (rM 22), .ref (rM 23), .ref (rM 24), .int 0, .int 0, .int 0, .int 0, .int 0, .int 0, .int 0, .int 0, .int 0, .ref (rM 25), .ref (rM 26), .ref (rM 27), .int 0, .int 0, .ref (rM 28), .int 0, .ref (rM 29), .ref (rM 30), .ref (rM 31), .ref (rM 32), .ref (rM 33), .ref (rM 34), .ref (rM 35), .ref (rM 36), .int 0, .int 0, .int 0, .ref (rM 37), .ref (rM 38)])), (rM 3, .inl ((cM 3), 2, .inl (fM 3))), (rM 4, .inl ((cM 4), 2, .inl (fM 4))), (rM 5, .inl ((cM 5), 2, .inl (fM 5))), (rM 6, .inl ((cM 6), 2, .inl (fM 6))), (rM 7, .inl ((cM 7), 2, .inl (fM 7))), (rM 25, .inl ((cM 25), 26, .inl (fM 25)))]) [0, 1, 2, 3, 4, 5, 6] rfl
    have hKc := hK.sub (tys' := [((cM 3), .int), ((cM 4), .int), ((cM 5), .int), ((cM 6), .int), ((cM 7), .int), ((cM 25), .int)]) [0, 1, 2, 3, 4, 5] rfl
    have hDc := hD.sub (ws' := [(rM 0, .inr (8, [.ref (rM 1), .ref (rM 2), .int 0, .int 0, .int 0, .int (-1), .int 0, .int 0, .int 0, .int 0, .long 0, .ref (rM 3), .ref (rM 4), .ref (rM 5), .ref (rM 6), .ref (rM 7), .ref (rM 8), .ref (rM 9), .ref (rM 10), .ref (rM 11), .ref (rM 12), .ref (rM 13), .ref (rM 14), .ref (rM 15), .ref (rM 16), .ref (rM 17), .ref (rM 18), .ref (rM 19), .ref (rM 20), .ref (rM 21), .ref (rM 22), .ref (rM 23), .ref (rM 24), .int 0, .int 0, .int 0, .int 0, .int 0, .int 0, .int 0, .int 0, .int 0, .ref (rM 25), .ref (rM 26), .ref (rM 27), .int 0, .int 0, .ref (rM 28), .int 0, .ref (rM 29), .ref (rM 30), .ref (rM 31), .ref (rM 32), .ref (rM 33), .ref (rM 34), .ref (rM 35), .ref (rM 36), .int 0, .int 0, .int 0, .ref (rM 37), .ref (rM 38)])), (rM 3, .inl ((cM 3), 2, .inl (fM 3))), (rM 4, .inl ((cM 4), 2, .inl (fM 4))), (rM 5, .inl ((cM 5), 2, .inl (fM 5))), (rM 6, .inl ((cM 6), 2, .inl (fM 6))), (rM 7, .inl ((cM 7), 2, .inl (fM 7))), (rM 25, .inl ((cM 25), 26, .inl (fM 25)))]) [0, 1, 2, 3, 4, 5, 6] (by decide) rfl
    have hFc := va_free (wc := [(rM 0, .inr (8, [.ref (rM 1), .ref (rM 2), .int 0, .int 0, .int 0, .int (-1), .int 0, .int 0, .int 0, .int 0, .long 0, .ref (rM 3), .ref (rM 4), .ref (rM 5), .ref (rM 6), .ref (rM 7), .ref (rM 8), .ref (rM 9), .ref (rM 10), .ref (rM 11), .ref (rM 12), .ref (rM 13), .ref (rM 14), .ref (rM 15), .ref (rM 16), .ref (rM 17), .ref (rM 18), .ref (rM 19), .ref (rM 20), .ref (rM 21), .ref (rM 22), .ref (rM 23), .ref (rM 24), .int 0, .int 0, .int 0, .int 0, .int 0, .int 0, .int 0, .int 0, .int 0, .ref (rM 25), .ref (rM 26), .ref (rM 27), .int 0, .int 0, .ref (rM 28), .int 0, .ref (rM 29), .ref (rM 30), .ref (rM 31), .ref (rM 32), .ref (rM 33), .ref (rM 34), .ref (rM 35), .ref (rM 36), .int 0, .int 0, .int 0, .ref (rM 37), .ref (rM 38)])), (rM 3, .inl ((cM 3), 2, .inl (fM 3))), (rM 4, .inl ((cM 4), 2, .inl (fM 4))), (rM 5, .inl ((cM 5), 2, .inl (fM 5))), (rM 6, .inl ((cM 6), 2, .inl (fM 6))), (rM 7, .inl ((cM 7), 2, .inl (fM 7))), (rM 25, .inl ((cM 25), 26, .inl (fM 25)))]) hD hS hA [0, 1, 2, 3, 4, 5, 6] rfl
    refine va_calli (va_runV (As := [.int (xs 1)]) (rest := [.int 0]) ⟨hx, hb, hml, hown, hG⟩ (kX9_about l dC dI rM cM (fM 3) (fM 4) (fM 5) (fM 6) (fM 7) (fM 25) (xs 1) H1.size hfM_3_0 hfM_4_0 hfM_5_0 hfM_6_0 hfM_7_0 hfM_25_24 hfM_25_25) (cwV 1 hG (goodV gw1869 gw1870 gw1871 gw138 gw1872) rfl rfl rfl hd_X9_about ⟨(Nat.le_of_ble_eq_true rfl), (Nat.le_of_ble_eq_true rfl)⟩) ⟨fbW, va_recv hKc hPc (ci := 8) (q0 := 0) rfl rfl, pW_in hPc hKc hDc⟩ rfl rfl hl.1 rfl (lv_room (Nat.le_of_ble_eq_true rfl)) dL_law_1532 ⟨(Nat.le_of_ble_eq_true rfl), (Nat.le_of_ble_eq_true rfl)⟩) hS (fun q _ h => hFc q h) hFc (fun r_248 u t H247 locs ht hvm hw hB hz1 hk1 hS => ?_)
    rcases hw with ⟨rfl, hy249, hw⟩ | ⟨rfl, hy250, hw⟩ | ⟨rfl, hy251, hw⟩ | ⟨rfl, hy252, hw⟩ | ⟨rfl, hy253, hw⟩ | ⟨rfl, hy254, hw⟩ | ⟨rfl, hy255, hw⟩ | ⟨rfl, hy256, hw⟩ | ⟨rfl, hy257, hw⟩ | ⟨rfl, hy258, hw⟩ | ⟨rfl, hy259, hw⟩ | ⟨rfl, hy260, hw⟩ | ⟨rfl, hy261, hw⟩ | ⟨rfl, hy262, hw⟩ | ⟨rfl, hy263, hw⟩ | ⟨rfl, hy264, hw⟩
    · skip
      exact ((by have k0 := q_eq hy15; have k1 := hy249; have z11 : (11 : Int32).toInt = 11 := (by decide); omega) : False).elim
    · skip
      exact ((by have k0 := q_eq hy15; have k1 := q_eq hy250; have z0 : (0 : Int32).toInt = 0 := (by decide); have z11 : (11 : Int32).toInt = 11 := (by decide); omega) : False).elim
    · skip
      exact ((by have k0 := q_eq hy15; have k1 := q_eq hy251; have z1 : (1 : Int32).toInt = 1 := (by decide); have z11 : (11 : Int32).toInt = 11 := (by decide); omega) : False).elim
    · skip
      exact ((by have k0 := q_eq hy15; have k1 := q_eq hy252; have z2 : (2 : Int32).toInt = 2 := (by decide); have z11 : (11 : Int32).toInt = 11 := (by decide); omega) : False).elim
    · skip
      exact ((by have k0 := q_eq hy15; have k1 := q_eq hy253; have z3 : (3 : Int32).toInt = 3 := (by decide); have z11 : (11 : Int32).toInt = 11 := (by decide); omega) : False).elim
    · skip
      exact ((by have k0 := q_eq hy15; have k1 := q_eq hy254; have z4 : (4 : Int32).toInt = 4 := (by decide); have z11 : (11 : Int32).toInt = 11 := (by decide); omega) : False).elim
    · skip
      exact ((by have k0 := q_eq hy15; have k1 := q_eq hy255; have z5 : (5 : Int32).toInt = 5 := (by decide); have z11 : (11 : Int32).toInt = 11 := (by decide); omega) : False).elim
    · skip
      exact ((by have k0 := q_eq hy15; have k1 := q_eq hy256; have z6 : (6 : Int32).toInt = 6 := (by decide); have z11 : (11 : Int32).toInt = 11 := (by decide); omega) : False).elim
    · skip
      exact ((by have k0 := q_eq hy15; have k1 := q_eq hy257; have z7 : (7 : Int32).toInt = 7 := (by decide); have z11 : (11 : Int32).toInt = 11 := (by decide); omega) : False).elim
    · skip
      exact ((by have k0 := q_eq hy15; have k1 := q_eq hy258; have z8 : (8 : Int32).toInt = 8 := (by decide); have z11 : (11 : Int32).toInt = 11 := (by decide); omega) : False).elim
    · skip
      exact ((by have k0 := q_eq hy15; have k1 := q_eq hy259; have z9 : (9 : Int32).toInt = 9 := (by decide); have z11 : (11 : Int32).toInt = 11 := (by decide); omega) : False).elim
    · skip
      exact ((by have k0 := q_eq hy15; have k1 := q_eq hy260; have z10 : (10 : Int32).toInt = 10 := (by decide); have z11 : (11 : Int32).toInt = 11 := (by decide); omega) : False).elim
    · skip
      obtain ⟨hP, hD⟩ := va_join (wr := []) (w1 := []) hP hD [0, 1, 2, 3, 4, 5, 6] [] rfl rfl (by decide) (by decide) hk1 hFc (fun k q h => by simp at h) ⟨fun i j p q h => by simp at h, fun k q h => by simp at h⟩
      refine wt_c (v := 0) hw ?_
      refine lv_icmp_eq (tgt := 1540) hx hb dL_law_1535 (by decide) (fun c_265 => ?_) (fun c_265 => absurd (by decide) c_265)
      exact law_end l C0 hS hl
    · skip
      exact ((by have k0 := q_eq hy15; have k1 := q_eq hy262; have z11 : (11 : Int32).toInt = 11 := (by decide); have z12 : (12 : Int32).toInt = 12 := (by decide); omega) : False).elim
    · skip
      exact ((by have k0 := q_eq hy15; have k1 := q_eq hy263; have z11 : (11 : Int32).toInt = 11 := (by decide); have z13 : (13 : Int32).toInt = 13 := (by decide); omega) : False).elim
    · skip
      exact ((by have k0 := q_eq hy15; have k1 := q_eq hy264; have z11 : (11 : Int32).toInt = 11 := (by decide); have z14 : (14 : Int32).toInt = 14 := (by decide); omega) : False).elim
  · skip
    obtain ⟨hP, hD⟩ := va_join (wr := [(rM 0, .inr (8, [.ref (rM 1), .ref (rM 2), .int 0, .int 0, .int 0, .int (-1), .int 0, .int 0, .int 0, .int 0, .long 0, .ref (rM 3), .ref (rM 4), .ref (rM 5), .ref (rM 6), .ref (rM 7), .ref (rM 8), .ref (rM 9), .ref (rM 10), .ref (rM 11), .ref (rM 12), .ref (rM 13), .ref (rM 14), .ref (rM 15), .ref (rM 16), .ref (rM 17), .ref (rM 18), .ref (rM 19), .ref (rM 20), .ref (rM 21), .ref (rM 22), .ref (rM 23), .ref (rM 24), .int 0, .int 0, .int 0, .int 0, .int 0, .int 0, .int 0, .int 0, .int 0, .ref (rM 25), .ref (rM 26), .ref (rM 27), .int 0, .int 0, .ref (rM 28), .int 0, .ref (rM 29), .ref (rM 30), .ref (rM 31), .ref (rM 32), .ref (rM 33), .ref (rM 34), .ref (rM 35), .ref (rM 36), .int 0, .int 0, .int 0, .ref (rM 37), .ref (rM 38)])), (rM 3, .inl ((cM 3), 2, .inl (fM 3))), (rM 4, .inl ((cM 4), 2, .inl (fM 4))), (rM 5, .inl ((cM 5), 2, .inl (fM 5))), (rM 6, .inl ((cM 6), 2, .inl (fM 6))), (rM 7, .inl ((cM 7), 2, .inl (fM 7))), (rM 25, .inl ((cM 25), 26, .inl (fM 25)))]) (w1 := []) hP hD [0, 1, 2, 3, 4] [5, 6, 7, 8, 9, 10, 11] rfl rfl (by decide) (by decide) hk1 hFc (fun k q h => by simp at h) ⟨fun i j p q h => by simp at h, fun k q h => by simp at h⟩
    refine wt_c (v := 0) hw ?_
    refine lv_aload_n hx hb dL_law_1526 rfl (lv_at hl 1 rfl) ?_
    refine lv_aload_n hx hb dL_law_1527 rfl (lv_at hl 3 rfl) ?_
    refine lv_iload_n hx hb dL_law_1528 rfl (lv_at hl 0 rfl) ?_
    refine lv_iconst (v := 1) hx hb dL_law_1529 (by decide) ?_
    refine lv_iadd hx hb dL_law_1530 ?_
    refine wt_c (v := 1) (by decide) ?_
    refine va_sld hx hb hX hbl hbA hS (vin (by decide)) dL_law_1531 ?_
    refine wt_c (v := xs 1) (congrArg xs (by decide)) ?_
    have hPc := hP.sub (ws' := [(rM 0, .inr (8, [.ref (rM 1), .ref (rM 2), .int 0, .int 0, .int 0, .int (-1), .int 0, .int 0, .int 0, .int 0, .long 0, .ref (rM 3), .ref (rM 4), .ref (rM 5), .ref (rM 6), .ref (rM 7), .ref (rM 8), .ref (rM 9), .ref (rM 10), .ref (rM 11), .ref (rM 12), .ref (rM 13), .ref (rM 14), .ref (rM 15), .ref (rM 16), .ref (rM 17), .ref (rM 18), .ref (rM 19), .ref (rM 20), .ref (rM 21), .ref (rM 22), .ref (rM 23), .ref (rM 24), .int 0, .int 0, .int 0, .int 0, .int 0, .int 0, .int 0, .int 0, .int 0, .ref (rM 25), .ref (rM 26), .ref (rM 27), .int 0, .int 0, .ref (rM 28), .int 0, .ref (rM 29), .ref (rM 30), .ref (rM 31), .ref (rM 32), .ref (rM 33), .ref (rM 34), .ref (rM 35), .ref (rM 36), .int 0, .int 0, .int 0, .ref (rM 37), .ref (rM 38)])), (rM 3, .inl ((cM 3), 2, .inl (fM 3))), (rM 4, .inl ((cM 4), 2, .inl (fM 4))), (rM 5, .inl ((cM 5), 2, .inl (fM 5))), (rM 6, .inl ((cM 6), 2, .inl (fM 6))), (rM 7, .inl ((cM 7), 2, .inl (fM 7))), (rM 25, .inl ((cM 25), 26, .inl (fM 25)))]) [0, 1, 2, 3, 4, 5, 6] rfl
    have hKc := hK.sub (tys' := [((cM 3), .int), ((cM 4), .int), ((cM 5), .int), ((cM 6), .int), ((cM 7), .int), ((cM 25), .int)]) [0, 1, 2, 3, 4, 5] rfl
    have hDc := hD.sub (ws' := [(rM 0, .inr (8, [.ref (rM 1), .ref (rM 2), .int 0, .int 0, .int 0, .int (-1), .int 0, .int 0, .int 0, .int 0, .long 0, .ref (rM 3), .ref (rM 4), .ref (rM 5), .ref (rM 6), .ref (rM 7), .ref (rM 8), .ref (rM 9), .ref (rM 10), .ref (rM 11), .ref (rM 12), .ref (rM 13), .ref (rM 14), .ref (rM 15), .ref (rM 16), .ref (rM 17), .ref (rM 18), .ref (rM 19), .ref (rM 20), .ref (rM 21), .ref (rM 22), .ref (rM 23), .ref (rM 24), .int 0, .int 0, .int 0, .int 0, .int 0, .int 0, .int 0, .int 0, .int 0, .ref (rM 25), .ref (rM 26), .ref (rM 27), .int 0, .int 0, .ref (rM 28), .int 0, .ref (rM 29), .ref (rM 30), .ref (rM 31), .ref (rM 32), .ref (rM 33), .ref (rM 34), .ref (rM 35), .ref (rM 36), .int 0, .int 0, .int 0, .ref (rM 37), .ref (rM 38)])), (rM 3, .inl ((cM 3), 2, .inl (fM 3))), (rM 4, .inl ((cM 4), 2, .inl (fM 4))), (rM 5, .inl ((cM 5), 2, .inl (fM 5))), (rM 6, .inl ((cM 6), 2, .inl (fM 6))), (rM 7, .inl ((cM 7), 2, .inl (fM 7))), (rM 25, .inl ((cM 25), 26, .inl (fM 25)))]) [0, 1, 2, 3, 4, 5, 6] (by decide) rfl
    have hFc := va_free (wc := [(rM 0, .inr (8, [.ref (rM 1), .ref (rM 2), .int 0, .int 0, .int 0, .int (-1), .int 0, .int 0, .int 0, .int 0, .long 0, .ref (rM 3), .ref (rM 4), .ref (rM 5), .ref (rM 6), .ref (rM 7), .ref (rM 8), .ref (rM 9), .ref (rM 10), .ref (rM 11), .ref (rM 12), .ref (rM 13), .ref (rM 14), .ref (rM 15), .ref (rM 16), .ref (rM 17), .ref (rM 18), .ref (rM 19), .ref (rM 20), .ref (rM 21), .ref (rM 22), .ref (rM 23), .ref (rM 24), .int 0, .int 0, .int 0, .int 0, .int 0, .int 0, .int 0, .int 0, .int 0, .ref (rM 25), .ref (rM 26), .ref (rM 27), .int 0, .int 0, .ref (rM 28), .int 0, .ref (rM 29), .ref (rM 30), .ref (rM 31), .ref (rM 32), .ref (rM 33), .ref (rM 34), .ref (rM 35), .ref (rM 36), .int 0, .int 0, .int 0, .ref (rM 37), .ref (rM 38)])), (rM 3, .inl ((cM 3), 2, .inl (fM 3))), (rM 4, .inl ((cM 4), 2, .inl (fM 4))), (rM 5, .inl ((cM 5), 2, .inl (fM 5))), (rM 6, .inl ((cM 6), 2, .inl (fM 6))), (rM 7, .inl ((cM 7), 2, .inl (fM 7))), (rM 25, .inl ((cM 25), 26, .inl (fM 25)))]) hD hS hA [0, 1, 2, 3, 4, 5, 6] rfl
    refine va_calli (va_runV (As := [.int (xs 1)]) (rest := [.int 0]) ⟨hx, hb, hml, hown, hG⟩ (kX9_about l dC dI rM cM (fM 3) (fM 4) (fM 5) (fM 6) (fM 7) (fM 25) (xs 1) H1.size hfM_3_0 hfM_4_0 hfM_5_0 hfM_6_0 hfM_7_0 hfM_25_24 hfM_25_25) (cwV 1 hG (goodV gw1869 gw1870 gw1871 gw138 gw1872) rfl rfl rfl hd_X9_about ⟨(Nat.le_of_ble_eq_true rfl), (Nat.le_of_ble_eq_true rfl)⟩) ⟨fbW, va_recv hKc hPc (ci := 8) (q0 := 0) rfl rfl, pW_in hPc hKc hDc⟩ rfl rfl hl.1 rfl (lv_room (Nat.le_of_ble_eq_true rfl)) dL_law_1532 ⟨(Nat.le_of_ble_eq_true rfl), (Nat.le_of_ble_eq_true rfl)⟩) hS (fun q _ h => hFc q h) hFc (fun r_267 u t H266 locs ht hvm hw hB hz1 hk1 hS => ?_)
    rcases hw with ⟨rfl, hy268, hw⟩ | ⟨rfl, hy269, hw⟩ | ⟨rfl, hy270, hw⟩ | ⟨rfl, hy271, hw⟩ | ⟨rfl, hy272, hw⟩ | ⟨rfl, hy273, hw⟩ | ⟨rfl, hy274, hw⟩ | ⟨rfl, hy275, hw⟩ | ⟨rfl, hy276, hw⟩ | ⟨rfl, hy277, hw⟩ | ⟨rfl, hy278, hw⟩ | ⟨rfl, hy279, hw⟩ | ⟨rfl, hy280, hw⟩ | ⟨rfl, hy281, hw⟩ | ⟨rfl, hy282, hw⟩ | ⟨rfl, hy283, hw⟩
    · skip
      exact ((by have k0 := q_eq hy16; have k1 := hy268; have z12 : (12 : Int32).toInt = 12 := (by decide); omega) : False).elim
    · skip
      exact ((by have k0 := q_eq hy16; have k1 := q_eq hy269; have z0 : (0 : Int32).toInt = 0 := (by decide); have z12 : (12 : Int32).toInt = 12 := (by decide); omega) : False).elim
    · skip
      exact ((by have k0 := q_eq hy16; have k1 := q_eq hy270; have z1 : (1 : Int32).toInt = 1 := (by decide); have z12 : (12 : Int32).toInt = 12 := (by decide); omega) : False).elim
    · skip
      exact ((by have k0 := q_eq hy16; have k1 := q_eq hy271; have z2 : (2 : Int32).toInt = 2 := (by decide); have z12 : (12 : Int32).toInt = 12 := (by decide); omega) : False).elim
    · skip
      exact ((by have k0 := q_eq hy16; have k1 := q_eq hy272; have z3 : (3 : Int32).toInt = 3 := (by decide); have z12 : (12 : Int32).toInt = 12 := (by decide); omega) : False).elim
    · skip
      exact ((by have k0 := q_eq hy16; have k1 := q_eq hy273; have z4 : (4 : Int32).toInt = 4 := (by decide); have z12 : (12 : Int32).toInt = 12 := (by decide); omega) : False).elim
    · skip
      exact ((by have k0 := q_eq hy16; have k1 := q_eq hy274; have z5 : (5 : Int32).toInt = 5 := (by decide); have z12 : (12 : Int32).toInt = 12 := (by decide); omega) : False).elim
    · skip
      exact ((by have k0 := q_eq hy16; have k1 := q_eq hy275; have z6 : (6 : Int32).toInt = 6 := (by decide); have z12 : (12 : Int32).toInt = 12 := (by decide); omega) : False).elim
    · skip
      exact ((by have k0 := q_eq hy16; have k1 := q_eq hy276; have z7 : (7 : Int32).toInt = 7 := (by decide); have z12 : (12 : Int32).toInt = 12 := (by decide); omega) : False).elim
    · skip
      exact ((by have k0 := q_eq hy16; have k1 := q_eq hy277; have z8 : (8 : Int32).toInt = 8 := (by decide); have z12 : (12 : Int32).toInt = 12 := (by decide); omega) : False).elim
    · skip
      exact ((by have k0 := q_eq hy16; have k1 := q_eq hy278; have z9 : (9 : Int32).toInt = 9 := (by decide); have z12 : (12 : Int32).toInt = 12 := (by decide); omega) : False).elim
    · skip
      exact ((by have k0 := q_eq hy16; have k1 := q_eq hy279; have z10 : (10 : Int32).toInt = 10 := (by decide); have z12 : (12 : Int32).toInt = 12 := (by decide); omega) : False).elim
    · skip
      exact ((by have k0 := q_eq hy16; have k1 := q_eq hy280; have z11 : (11 : Int32).toInt = 11 := (by decide); have z12 : (12 : Int32).toInt = 12 := (by decide); omega) : False).elim
    · skip
      obtain ⟨hP, hD⟩ := va_join (wr := []) (w1 := []) hP hD [0, 1, 2, 3, 4, 5, 6] [] rfl rfl (by decide) (by decide) hk1 hFc (fun k q h => by simp at h) ⟨fun i j p q h => by simp at h, fun k q h => by simp at h⟩
      refine wt_c (v := 0) hw ?_
      refine lv_icmp_eq (tgt := 1540) hx hb dL_law_1535 (by decide) (fun c_284 => ?_) (fun c_284 => absurd (by decide) c_284)
      exact law_end l C0 hS hl
    · skip
      exact ((by have k0 := q_eq hy16; have k1 := q_eq hy282; have z12 : (12 : Int32).toInt = 12 := (by decide); have z13 : (13 : Int32).toInt = 13 := (by decide); omega) : False).elim
    · skip
      exact ((by have k0 := q_eq hy16; have k1 := q_eq hy283; have z12 : (12 : Int32).toInt = 12 := (by decide); have z14 : (14 : Int32).toInt = 14 := (by decide); omega) : False).elim
  · skip
    obtain ⟨hP, hD⟩ := va_join (wr := [(rM 0, .inr (8, [.ref (rM 1), .ref (rM 2), .int 0, .int 0, .int 0, .int (-1), .int 0, .int 0, .int 0, .int 0, .long 0, .ref (rM 3), .ref (rM 4), .ref (rM 5), .ref (rM 6), .ref (rM 7), .ref (rM 8), .ref (rM 9), .ref (rM 10), .ref (rM 11), .ref (rM 12), .ref (rM 13), .ref (rM 14), .ref (rM 15), .ref (rM 16), .ref (rM 17), .ref (rM 18), .ref (rM 19), .ref (rM 20), .ref (rM 21), .ref (rM 22), .ref (rM 23), .ref (rM 24), .int 0, .int 0, .int 0, .int 0, .int 0, .int 0, .int 0, .int 0, .int 0, .ref (rM 25), .ref (rM 26), .ref (rM 27), .int 0, .int 0, .ref (rM 28), .int 0, .ref (rM 29), .ref (rM 30), .ref (rM 31), .ref (rM 32), .ref (rM 33), .ref (rM 34), .ref (rM 35), .ref (rM 36), .int 0, .int 0, .int 0, .ref (rM 37), .ref (rM 38)])), (rM 3, .inl ((cM 3), 2, .inl (fM 3))), (rM 4, .inl ((cM 4), 2, .inl (fM 4))), (rM 5, .inl ((cM 5), 2, .inl (fM 5))), (rM 6, .inl ((cM 6), 2, .inl (fM 6))), (rM 7, .inl ((cM 7), 2, .inl (fM 7))), (rM 25, .inl ((cM 25), 26, .inl (fM 25)))]) (w1 := []) hP hD [0, 1, 2, 3, 4] [5, 6, 7, 8, 9, 10, 11] rfl rfl (by decide) (by decide) hk1 hFc (fun k q h => by simp at h) ⟨fun i j p q h => by simp at h, fun k q h => by simp at h⟩
    refine wt_c (v := 0) hw ?_
    refine lv_aload_n hx hb dL_law_1526 rfl (lv_at hl 1 rfl) ?_
    refine lv_aload_n hx hb dL_law_1527 rfl (lv_at hl 3 rfl) ?_
    refine lv_iload_n hx hb dL_law_1528 rfl (lv_at hl 0 rfl) ?_
    refine lv_iconst (v := 1) hx hb dL_law_1529 (by decide) ?_
    refine lv_iadd hx hb dL_law_1530 ?_
    refine wt_c (v := 1) (by decide) ?_
    refine va_sld hx hb hX hbl hbA hS (vin (by decide)) dL_law_1531 ?_
    refine wt_c (v := xs 1) (congrArg xs (by decide)) ?_
    have hPc := hP.sub (ws' := [(rM 0, .inr (8, [.ref (rM 1), .ref (rM 2), .int 0, .int 0, .int 0, .int (-1), .int 0, .int 0, .int 0, .int 0, .long 0, .ref (rM 3), .ref (rM 4), .ref (rM 5), .ref (rM 6), .ref (rM 7), .ref (rM 8), .ref (rM 9), .ref (rM 10), .ref (rM 11), .ref (rM 12), .ref (rM 13), .ref (rM 14), .ref (rM 15), .ref (rM 16), .ref (rM 17), .ref (rM 18), .ref (rM 19), .ref (rM 20), .ref (rM 21), .ref (rM 22), .ref (rM 23), .ref (rM 24), .int 0, .int 0, .int 0, .int 0, .int 0, .int 0, .int 0, .int 0, .int 0, .ref (rM 25), .ref (rM 26), .ref (rM 27), .int 0, .int 0, .ref (rM 28), .int 0, .ref (rM 29), .ref (rM 30), .ref (rM 31), .ref (rM 32), .ref (rM 33), .ref (rM 34), .ref (rM 35), .ref (rM 36), .int 0, .int 0, .int 0, .ref (rM 37), .ref (rM 38)])), (rM 3, .inl ((cM 3), 2, .inl (fM 3))), (rM 4, .inl ((cM 4), 2, .inl (fM 4))), (rM 5, .inl ((cM 5), 2, .inl (fM 5))), (rM 6, .inl ((cM 6), 2, .inl (fM 6))), (rM 7, .inl ((cM 7), 2, .inl (fM 7))), (rM 25, .inl ((cM 25), 26, .inl (fM 25)))]) [0, 1, 2, 3, 4, 5, 6] rfl
    have hKc := hK.sub (tys' := [((cM 3), .int), ((cM 4), .int), ((cM 5), .int), ((cM 6), .int), ((cM 7), .int), ((cM 25), .int)]) [0, 1, 2, 3, 4, 5] rfl
    have hDc := hD.sub (ws' := [(rM 0, .inr (8, [.ref (rM 1), .ref (rM 2), .int 0, .int 0, .int 0, .int (-1), .int 0, .int 0, .int 0, .int 0, .long 0, .ref (rM 3), .ref (rM 4), .ref (rM 5), .ref (rM 6), .ref (rM 7), .ref (rM 8), .ref (rM 9), .ref (rM 10), .ref (rM 11), .ref (rM 12), .ref (rM 13), .ref (rM 14), .ref (rM 15), .ref (rM 16), .ref (rM 17), .ref (rM 18), .ref (rM 19), .ref (rM 20), .ref (rM 21), .ref (rM 22), .ref (rM 23), .ref (rM 24), .int 0, .int 0, .int 0, .int 0, .int 0, .int 0, .int 0, .int 0, .int 0, .ref (rM 25), .ref (rM 26), .ref (rM 27), .int 0, .int 0, .ref (rM 28), .int 0, .ref (rM 29), .ref (rM 30), .ref (rM 31), .ref (rM 32), .ref (rM 33), .ref (rM 34), .ref (rM 35), .ref (rM 36), .int 0, .int 0, .int 0, .ref (rM 37), .ref (rM 38)])), (rM 3, .inl ((cM 3), 2, .inl (fM 3))), (rM 4, .inl ((cM 4), 2, .inl (fM 4))), (rM 5, .inl ((cM 5), 2, .inl (fM 5))), (rM 6, .inl ((cM 6), 2, .inl (fM 6))), (rM 7, .inl ((cM 7), 2, .inl (fM 7))), (rM 25, .inl ((cM 25), 26, .inl (fM 25)))]) [0, 1, 2, 3, 4, 5, 6] (by decide) rfl
    have hFc := va_free (wc := [(rM 0, .inr (8, [.ref (rM 1), .ref (rM 2), .int 0, .int 0, .int 0, .int (-1), .int 0, .int 0, .int 0, .int 0, .long 0, .ref (rM 3), .ref (rM 4), .ref (rM 5), .ref (rM 6), .ref (rM 7), .ref (rM 8), .ref (rM 9), .ref (rM 10), .ref (rM 11), .ref (rM 12), .ref (rM 13), .ref (rM 14), .ref (rM 15), .ref (rM 16), .ref (rM 17), .ref (rM 18), .ref (rM 19), .ref (rM 20), .ref (rM 21), .ref (rM 22), .ref (rM 23), .ref (rM 24), .int 0, .int 0, .int 0, .int 0, .int 0, .int 0, .int 0, .int 0, .int 0, .ref (rM 25), .ref (rM 26), .ref (rM 27), .int 0, .int 0, .ref (rM 28), .int 0, .ref (rM 29), .ref (rM 30), .ref (rM 31), .ref (rM 32), .ref (rM 33), .ref (rM 34), .ref (rM 35), .ref (rM 36), .int 0, .int 0, .int 0, .ref (rM 37), .ref (rM 38)])), (rM 3, .inl ((cM 3), 2, .inl (fM 3))), (rM 4, .inl ((cM 4), 2, .inl (fM 4))), (rM 5, .inl ((cM 5), 2, .inl (fM 5))), (rM 6, .inl ((cM 6), 2, .inl (fM 6))), (rM 7, .inl ((cM 7), 2, .inl (fM 7))), (rM 25, .inl ((cM 25), 26, .inl (fM 25)))]) hD hS hA [0, 1, 2, 3, 4, 5, 6] rfl
    refine va_calli (va_runV (As := [.int (xs 1)]) (rest := [.int 0]) ⟨hx, hb, hml, hown, hG⟩ (kX9_about l dC dI rM cM (fM 3) (fM 4) (fM 5) (fM 6) (fM 7) (fM 25) (xs 1) H1.size hfM_3_0 hfM_4_0 hfM_5_0 hfM_6_0 hfM_7_0 hfM_25_24 hfM_25_25) (cwV 1 hG (goodV gw1869 gw1870 gw1871 gw138 gw1872) rfl rfl rfl hd_X9_about ⟨(Nat.le_of_ble_eq_true rfl), (Nat.le_of_ble_eq_true rfl)⟩) ⟨fbW, va_recv hKc hPc (ci := 8) (q0 := 0) rfl rfl, pW_in hPc hKc hDc⟩ rfl rfl hl.1 rfl (lv_room (Nat.le_of_ble_eq_true rfl)) dL_law_1532 ⟨(Nat.le_of_ble_eq_true rfl), (Nat.le_of_ble_eq_true rfl)⟩) hS (fun q _ h => hFc q h) hFc (fun r_286 u t H285 locs ht hvm hw hB hz1 hk1 hS => ?_)
    rcases hw with ⟨rfl, hy287, hw⟩ | ⟨rfl, hy288, hw⟩ | ⟨rfl, hy289, hw⟩ | ⟨rfl, hy290, hw⟩ | ⟨rfl, hy291, hw⟩ | ⟨rfl, hy292, hw⟩ | ⟨rfl, hy293, hw⟩ | ⟨rfl, hy294, hw⟩ | ⟨rfl, hy295, hw⟩ | ⟨rfl, hy296, hw⟩ | ⟨rfl, hy297, hw⟩ | ⟨rfl, hy298, hw⟩ | ⟨rfl, hy299, hw⟩ | ⟨rfl, hy300, hw⟩ | ⟨rfl, hy301, hw⟩ | ⟨rfl, hy302, hw⟩
    · skip
      exact ((by have k0 := q_eq hy17; have k1 := hy287; have z13 : (13 : Int32).toInt = 13 := (by decide); omega) : False).elim
    · skip
      exact ((by have k0 := q_eq hy17; have k1 := q_eq hy288; have z0 : (0 : Int32).toInt = 0 := (by decide); have z13 : (13 : Int32).toInt = 13 := (by decide); omega) : False).elim
    · skip
      exact ((by have k0 := q_eq hy17; have k1 := q_eq hy289; have z1 : (1 : Int32).toInt = 1 := (by decide); have z13 : (13 : Int32).toInt = 13 := (by decide); omega) : False).elim
    · skip
      exact ((by have k0 := q_eq hy17; have k1 := q_eq hy290; have z2 : (2 : Int32).toInt = 2 := (by decide); have z13 : (13 : Int32).toInt = 13 := (by decide); omega) : False).elim
    · skip
      exact ((by have k0 := q_eq hy17; have k1 := q_eq hy291; have z3 : (3 : Int32).toInt = 3 := (by decide); have z13 : (13 : Int32).toInt = 13 := (by decide); omega) : False).elim
    · skip
      exact ((by have k0 := q_eq hy17; have k1 := q_eq hy292; have z4 : (4 : Int32).toInt = 4 := (by decide); have z13 : (13 : Int32).toInt = 13 := (by decide); omega) : False).elim
    · skip
      exact ((by have k0 := q_eq hy17; have k1 := q_eq hy293; have z5 : (5 : Int32).toInt = 5 := (by decide); have z13 : (13 : Int32).toInt = 13 := (by decide); omega) : False).elim
    · skip
      exact ((by have k0 := q_eq hy17; have k1 := q_eq hy294; have z6 : (6 : Int32).toInt = 6 := (by decide); have z13 : (13 : Int32).toInt = 13 := (by decide); omega) : False).elim
    · skip
      exact ((by have k0 := q_eq hy17; have k1 := q_eq hy295; have z7 : (7 : Int32).toInt = 7 := (by decide); have z13 : (13 : Int32).toInt = 13 := (by decide); omega) : False).elim
    · skip
      exact ((by have k0 := q_eq hy17; have k1 := q_eq hy296; have z8 : (8 : Int32).toInt = 8 := (by decide); have z13 : (13 : Int32).toInt = 13 := (by decide); omega) : False).elim
    · skip
      exact ((by have k0 := q_eq hy17; have k1 := q_eq hy297; have z9 : (9 : Int32).toInt = 9 := (by decide); have z13 : (13 : Int32).toInt = 13 := (by decide); omega) : False).elim
    · skip
      exact ((by have k0 := q_eq hy17; have k1 := q_eq hy298; have z10 : (10 : Int32).toInt = 10 := (by decide); have z13 : (13 : Int32).toInt = 13 := (by decide); omega) : False).elim
    · skip
      exact ((by have k0 := q_eq hy17; have k1 := q_eq hy299; have z11 : (11 : Int32).toInt = 11 := (by decide); have z13 : (13 : Int32).toInt = 13 := (by decide); omega) : False).elim
    · skip
      exact ((by have k0 := q_eq hy17; have k1 := q_eq hy300; have z12 : (12 : Int32).toInt = 12 := (by decide); have z13 : (13 : Int32).toInt = 13 := (by decide); omega) : False).elim
    · skip
      obtain ⟨hP, hD⟩ := va_join (wr := []) (w1 := []) hP hD [0, 1, 2, 3, 4, 5, 6] [] rfl rfl (by decide) (by decide) hk1 hFc (fun k q h => by simp at h) ⟨fun i j p q h => by simp at h, fun k q h => by simp at h⟩
      refine wt_c (v := 0) hw ?_
      refine lv_icmp_eq (tgt := 1540) hx hb dL_law_1535 (by decide) (fun c_303 => ?_) (fun c_303 => absurd (by decide) c_303)
      exact law_end l C0 hS hl
    · skip
      exact ((by have k0 := q_eq hy17; have k1 := q_eq hy302; have z13 : (13 : Int32).toInt = 13 := (by decide); have z14 : (14 : Int32).toInt = 14 := (by decide); omega) : False).elim
  · skip
    obtain ⟨hP, hD⟩ := va_join (wr := [(rM 0, .inr (8, [.ref (rM 1), .ref (rM 2), .int 0, .int 0, .int 0, .int (-1), .int 0, .int 0, .int 0, .int 0, .long 0, .ref (rM 3), .ref (rM 4), .ref (rM 5), .ref (rM 6), .ref (rM 7), .ref (rM 8), .ref (rM 9), .ref (rM 10), .ref (rM 11), .ref (rM 12), .ref (rM 13), .ref (rM 14), .ref (rM 15), .ref (rM 16), .ref (rM 17), .ref (rM 18), .ref (rM 19), .ref (rM 20), .ref (rM 21), .ref (rM 22), .ref (rM 23), .ref (rM 24), .int 0, .int 0, .int 0, .int 0, .int 0, .int 0, .int 0, .int 0, .int 0, .ref (rM 25), .ref (rM 26), .ref (rM 27), .int 0, .int 0, .ref (rM 28), .int 0, .ref (rM 29), .ref (rM 30), .ref (rM 31), .ref (rM 32), .ref (rM 33), .ref (rM 34), .ref (rM 35), .ref (rM 36), .int 0, .int 0, .int 0, .ref (rM 37), .ref (rM 38)])), (rM 3, .inl ((cM 3), 2, .inl (fM 3))), (rM 4, .inl ((cM 4), 2, .inl (fM 4))), (rM 5, .inl ((cM 5), 2, .inl (fM 5))), (rM 6, .inl ((cM 6), 2, .inl (fM 6))), (rM 7, .inl ((cM 7), 2, .inl (fM 7))), (rM 25, .inl ((cM 25), 26, .inl (fM 25)))]) (w1 := []) hP hD [0, 1, 2, 3, 4] [5, 6, 7, 8, 9, 10, 11] rfl rfl (by decide) (by decide) hk1 hFc (fun k q h => by simp at h) ⟨fun i j p q h => by simp at h, fun k q h => by simp at h⟩
    refine wt_c (v := 0) hw ?_
    refine lv_aload_n hx hb dL_law_1526 rfl (lv_at hl 1 rfl) ?_
    refine lv_aload_n hx hb dL_law_1527 rfl (lv_at hl 3 rfl) ?_
    refine lv_iload_n hx hb dL_law_1528 rfl (lv_at hl 0 rfl) ?_
    refine lv_iconst (v := 1) hx hb dL_law_1529 (by decide) ?_
    refine lv_iadd hx hb dL_law_1530 ?_
    refine wt_c (v := 1) (by decide) ?_
    refine va_sld hx hb hX hbl hbA hS (vin (by decide)) dL_law_1531 ?_
    refine wt_c (v := xs 1) (congrArg xs (by decide)) ?_
    have hPc := hP.sub (ws' := [(rM 0, .inr (8, [.ref (rM 1), .ref (rM 2), .int 0, .int 0, .int 0, .int (-1), .int 0, .int 0, .int 0, .int 0, .long 0, .ref (rM 3), .ref (rM 4), .ref (rM 5), .ref (rM 6), .ref (rM 7), .ref (rM 8), .ref (rM 9), .ref (rM 10), .ref (rM 11), .ref (rM 12), .ref (rM 13), .ref (rM 14), .ref (rM 15), .ref (rM 16), .ref (rM 17), .ref (rM 18), .ref (rM 19), .ref (rM 20), .ref (rM 21), .ref (rM 22), .ref (rM 23), .ref (rM 24), .int 0, .int 0, .int 0, .int 0, .int 0, .int 0, .int 0, .int 0, .int 0, .ref (rM 25), .ref (rM 26), .ref (rM 27), .int 0, .int 0, .ref (rM 28), .int 0, .ref (rM 29), .ref (rM 30), .ref (rM 31), .ref (rM 32), .ref (rM 33), .ref (rM 34), .ref (rM 35), .ref (rM 36), .int 0, .int 0, .int 0, .ref (rM 37), .ref (rM 38)])), (rM 3, .inl ((cM 3), 2, .inl (fM 3))), (rM 4, .inl ((cM 4), 2, .inl (fM 4))), (rM 5, .inl ((cM 5), 2, .inl (fM 5))), (rM 6, .inl ((cM 6), 2, .inl (fM 6))), (rM 7, .inl ((cM 7), 2, .inl (fM 7))), (rM 25, .inl ((cM 25), 26, .inl (fM 25)))]) [0, 1, 2, 3, 4, 5, 6] rfl
    have hKc := hK.sub (tys' := [((cM 3), .int), ((cM 4), .int), ((cM 5), .int), ((cM 6), .int), ((cM 7), .int), ((cM 25), .int)]) [0, 1, 2, 3, 4, 5] rfl
    have hDc := hD.sub (ws' := [(rM 0, .inr (8, [.ref (rM 1), .ref (rM 2), .int 0, .int 0, .int 0, .int (-1), .int 0, .int 0, .int 0, .int 0, .long 0, .ref (rM 3), .ref (rM 4), .ref (rM 5), .ref (rM 6), .ref (rM 7), .ref (rM 8), .ref (rM 9), .ref (rM 10), .ref (rM 11), .ref (rM 12), .ref (rM 13), .ref (rM 14), .ref (rM 15), .ref (rM 16), .ref (rM 17), .ref (rM 18), .ref (rM 19), .ref (rM 20), .ref (rM 21), .ref (rM 22), .ref (rM 23), .ref (rM 24), .int 0, .int 0, .int 0, .int 0, .int 0, .int 0, .int 0, .int 0, .int 0, .ref (rM 25), .ref (rM 26), .ref (rM 27), .int 0, .int 0, .ref (rM 28), .int 0, .ref (rM 29), .ref (rM 30), .ref (rM 31), .ref (rM 32), .ref (rM 33), .ref (rM 34), .ref (rM 35), .ref (rM 36), .int 0, .int 0, .int 0, .ref (rM 37), .ref (rM 38)])), (rM 3, .inl ((cM 3), 2, .inl (fM 3))), (rM 4, .inl ((cM 4), 2, .inl (fM 4))), (rM 5, .inl ((cM 5), 2, .inl (fM 5))), (rM 6, .inl ((cM 6), 2, .inl (fM 6))), (rM 7, .inl ((cM 7), 2, .inl (fM 7))), (rM 25, .inl ((cM 25), 26, .inl (fM 25)))]) [0, 1, 2, 3, 4, 5, 6] (by decide) rfl
    have hFc := va_free (wc := [(rM 0, .inr (8, [.ref (rM 1), .ref (rM 2), .int 0, .int 0, .int 0, .int (-1), .int 0, .int 0, .int 0, .int 0, .long 0, .ref (rM 3), .ref (rM 4), .ref (rM 5), .ref (rM 6), .ref (rM 7), .ref (rM 8), .ref (rM 9), .ref (rM 10), .ref (rM 11), .ref (rM 12), .ref (rM 13), .ref (rM 14), .ref (rM 15), .ref (rM 16), .ref (rM 17), .ref (rM 18), .ref (rM 19), .ref (rM 20), .ref (rM 21), .ref (rM 22), .ref (rM 23), .ref (rM 24), .int 0, .int 0, .int 0, .int 0, .int 0, .int 0, .int 0, .int 0, .int 0, .ref (rM 25), .ref (rM 26), .ref (rM 27), .int 0, .int 0, .ref (rM 28), .int 0, .ref (rM 29), .ref (rM 30), .ref (rM 31), .ref (rM 32), .ref (rM 33), .ref (rM 34), .ref (rM 35), .ref (rM 36), .int 0, .int 0, .int 0, .ref (rM 37), .ref (rM 38)])), (rM 3, .inl ((cM 3), 2, .inl (fM 3))), (rM 4, .inl ((cM 4), 2, .inl (fM 4))), (rM 5, .inl ((cM 5), 2, .inl (fM 5))), (rM 6, .inl ((cM 6), 2, .inl (fM 6))), (rM 7, .inl ((cM 7), 2, .inl (fM 7))), (rM 25, .inl ((cM 25), 26, .inl (fM 25)))]) hD hS hA [0, 1, 2, 3, 4, 5, 6] rfl
    refine va_calli (va_runV (As := [.int (xs 1)]) (rest := [.int 0]) ⟨hx, hb, hml, hown, hG⟩ (kX9_about l dC dI rM cM (fM 3) (fM 4) (fM 5) (fM 6) (fM 7) (fM 25) (xs 1) H1.size hfM_3_0 hfM_4_0 hfM_5_0 hfM_6_0 hfM_7_0 hfM_25_24 hfM_25_25) (cwV 1 hG (goodV gw1869 gw1870 gw1871 gw138 gw1872) rfl rfl rfl hd_X9_about ⟨(Nat.le_of_ble_eq_true rfl), (Nat.le_of_ble_eq_true rfl)⟩) ⟨fbW, va_recv hKc hPc (ci := 8) (q0 := 0) rfl rfl, pW_in hPc hKc hDc⟩ rfl rfl hl.1 rfl (lv_room (Nat.le_of_ble_eq_true rfl)) dL_law_1532 ⟨(Nat.le_of_ble_eq_true rfl), (Nat.le_of_ble_eq_true rfl)⟩) hS (fun q _ h => hFc q h) hFc (fun r_305 u t H304 locs ht hvm hw hB hz1 hk1 hS => ?_)
    rcases hw with ⟨rfl, hy306, hw⟩ | ⟨rfl, hy307, hw⟩ | ⟨rfl, hy308, hw⟩ | ⟨rfl, hy309, hw⟩ | ⟨rfl, hy310, hw⟩ | ⟨rfl, hy311, hw⟩ | ⟨rfl, hy312, hw⟩ | ⟨rfl, hy313, hw⟩ | ⟨rfl, hy314, hw⟩ | ⟨rfl, hy315, hw⟩ | ⟨rfl, hy316, hw⟩ | ⟨rfl, hy317, hw⟩ | ⟨rfl, hy318, hw⟩ | ⟨rfl, hy319, hw⟩ | ⟨rfl, hy320, hw⟩ | ⟨rfl, hy321, hw⟩
    · skip
      exact ((by have k0 := q_eq hy18; have k1 := hy306; have z14 : (14 : Int32).toInt = 14 := (by decide); omega) : False).elim
    · skip
      exact ((by have k0 := q_eq hy18; have k1 := q_eq hy307; have z0 : (0 : Int32).toInt = 0 := (by decide); have z14 : (14 : Int32).toInt = 14 := (by decide); omega) : False).elim
    · skip
      exact ((by have k0 := q_eq hy18; have k1 := q_eq hy308; have z1 : (1 : Int32).toInt = 1 := (by decide); have z14 : (14 : Int32).toInt = 14 := (by decide); omega) : False).elim
    · skip
      exact ((by have k0 := q_eq hy18; have k1 := q_eq hy309; have z2 : (2 : Int32).toInt = 2 := (by decide); have z14 : (14 : Int32).toInt = 14 := (by decide); omega) : False).elim
    · skip
      exact ((by have k0 := q_eq hy18; have k1 := q_eq hy310; have z3 : (3 : Int32).toInt = 3 := (by decide); have z14 : (14 : Int32).toInt = 14 := (by decide); omega) : False).elim
    · skip
      exact ((by have k0 := q_eq hy18; have k1 := q_eq hy311; have z4 : (4 : Int32).toInt = 4 := (by decide); have z14 : (14 : Int32).toInt = 14 := (by decide); omega) : False).elim
    · skip
      exact ((by have k0 := q_eq hy18; have k1 := q_eq hy312; have z5 : (5 : Int32).toInt = 5 := (by decide); have z14 : (14 : Int32).toInt = 14 := (by decide); omega) : False).elim
    · skip
      exact ((by have k0 := q_eq hy18; have k1 := q_eq hy313; have z6 : (6 : Int32).toInt = 6 := (by decide); have z14 : (14 : Int32).toInt = 14 := (by decide); omega) : False).elim
    · skip
      exact ((by have k0 := q_eq hy18; have k1 := q_eq hy314; have z7 : (7 : Int32).toInt = 7 := (by decide); have z14 : (14 : Int32).toInt = 14 := (by decide); omega) : False).elim
    · skip
      exact ((by have k0 := q_eq hy18; have k1 := q_eq hy315; have z8 : (8 : Int32).toInt = 8 := (by decide); have z14 : (14 : Int32).toInt = 14 := (by decide); omega) : False).elim
    · skip
      exact ((by have k0 := q_eq hy18; have k1 := q_eq hy316; have z9 : (9 : Int32).toInt = 9 := (by decide); have z14 : (14 : Int32).toInt = 14 := (by decide); omega) : False).elim
    · skip
      exact ((by have k0 := q_eq hy18; have k1 := q_eq hy317; have z10 : (10 : Int32).toInt = 10 := (by decide); have z14 : (14 : Int32).toInt = 14 := (by decide); omega) : False).elim
    · skip
      exact ((by have k0 := q_eq hy18; have k1 := q_eq hy318; have z11 : (11 : Int32).toInt = 11 := (by decide); have z14 : (14 : Int32).toInt = 14 := (by decide); omega) : False).elim
    · skip
      exact ((by have k0 := q_eq hy18; have k1 := q_eq hy319; have z12 : (12 : Int32).toInt = 12 := (by decide); have z14 : (14 : Int32).toInt = 14 := (by decide); omega) : False).elim
    · skip
      exact ((by have k0 := q_eq hy18; have k1 := q_eq hy320; have z13 : (13 : Int32).toInt = 13 := (by decide); have z14 : (14 : Int32).toInt = 14 := (by decide); omega) : False).elim
    · skip
      obtain ⟨hP, hD⟩ := va_join (wr := []) (w1 := []) hP hD [0, 1, 2, 3, 4, 5, 6] [] rfl rfl (by decide) (by decide) hk1 hFc (fun k q h => by simp at h) ⟨fun i j p q h => by simp at h, fun k q h => by simp at h⟩
      refine wt_c (v := 0) hw ?_
      refine lv_icmp_eq (tgt := 1540) hx hb dL_law_1535 (by decide) (fun c_322 => ?_) (fun c_322 => absurd (by decide) c_322)
      exact law_end l C0 hS hl
