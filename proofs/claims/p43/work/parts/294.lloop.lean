set_option maxHeartbeats 4000000 in
set_option maxRecDepth 100000 in
theorem law_end {p : Program} {e : Env} {s : State} {m : MethodId} {below : List Frame} {meth : Method} {c : Code} (l : Launch) {b L : Nat} {xs : Nat → Int32} (hL : L ≤ 3072) (C0 : lw_At p s m meth c b L xs) {i : Int32} {aX aM : Nat} {H : Heap} {locs : List Loc} (hS : va_S (fun q : Nat => s.heap.size ≤ q) s.heap H locs) {ls : Array Slot} (hl : lv_has ls 4 [(3, .int i), (2, .ref aM), (1, .ref aX), (0, .ref b)]) : W p l e room_1 s m #[Value.ref b] below meth c H locs 103 20190 (lw_Z below #[Value.ref b] s) (F0 m 1546 ls []) := by
  obtain ⟨hx, hb, hr, hml, hown, hts, hX, hbl, hlocks, hgv⟩ := id C0
  have hown : s.vm.findClass RL = some m.cls := hown
  have hG : ∀ w ∈ GW, w.before _ s = true := fun w h => hts w (List.mem_filter.mp h).1
  have hA : ∀ q : Nat, s.heap.size ≤ q → (fun q : Nat => s.heap.size ≤ q) q := fun _ h => h
  have hbA : ¬ (fun q : Nat => s.heap.size ≤ q) b := Nat.not_le.mpr hbl
  refine lv_iconst (v := 1) hx hb dL_law_1546 (by decide) ?_
  refine va_forget (fun q hq => hS.2.2 q hq) ?_
  refine W.widen (k := 600000) (n := 7302249) (Nat.le_of_ble_eq_true rfl) (Nat.le_of_ble_eq_true rfl) ?_
  exact lw_ret hx hb hr hlocks dL_law_1547
set_option maxHeartbeats 4000000 in
set_option maxRecDepth 100000 in
theorem law_loop {p : Program} {e : Env} {s : State} {m : MethodId} {below : List Frame} {meth : Method} {c : Code} (l : Launch) {b L : Nat} {xs : Nat → Int32} (hL : L ≤ 3072) (C0 : lw_At p s m meth c b L xs) (dC : Nat → ClassId) (dI : Nat → Nat → Nat) (adK adV : Nat) (fS : Nat → Int32) (hZ : ZS adK adV fS (fun q : Nat => s.heap.size ≤ q) s s.heap) {aX aM : Nat} : ∀ (N : Nat) (i : Int32) (H : Heap) (locs : List Loc) (ls : Array Slot), 0 ≤ i.toInt → i.toInt ≤ (L : Int) → LI dC dI s aX aM H locs → lv_has ls 4 [(3, .int i), (2, .ref aM), (1, .ref aX), (0, .ref b)] → (L : Int) - i.toInt < (N : Int) → W p l e room_1 s m #[Value.ref b] below meth c H locs 103 20190 (lw_Z below #[Value.ref b] s) (F0 m 18 ls []) := by
  obtain ⟨hx, hb, hr, hml, hown, hts, hX, hbl, hlocks, hgv⟩ := id C0
  have hown : s.vm.findClass RL = some m.cls := hown
  have hG : ∀ w ∈ GW, w.before _ s = true := fun w h => hts w (List.mem_filter.mp h).1
  have hA : ∀ q : Nat, s.heap.size ≤ q → (fun q : Nat => s.heap.size ≤ q) q := fun _ h => h
  have hbA : ¬ (fun q : Nat => s.heap.size ≤ q) b := Nat.not_le.mpr hbl
  intro N
  induction N with
  | zero =>
    intro i H locs ls h0 h1 hI hl hM
    exact absurd hM (by omega)
  | succ N ih =>
    intro i H locs ls h0 h1 hI hl hM
    have hS : va_S (fun q : Nat => s.heap.size ≤ q) s.heap H locs := by
      obtain ⟨_, _, _, _, _, _, _, _, _, _, _, _, _, _, _, _, _, _, _, _, _, hS, _⟩ := hI
      exact hS
    refine lv_iload_n hx hb dL_law_18 rfl (lv_at hl 0 rfl) ?_
    refine lv_aload_n hx hb dL_law_19 rfl (lv_at hl 3 rfl) ?_
    refine va_slen hx hb hX hbl hbA hS dL_law_20 ?_
    refine lv_bipush (v := 6) hx hb dL_law_21 (by decide) ?_
    refine lv_isub hx hb dL_law_23 ?_
    refine lv_topi (fun y ey => ?_)
    have hy : y.toInt = (L : Int) - 6 := qi_sub ey (ofNatL hL) (by decide) (by omega) (by omega)
    refine lv_icmp_gt (tgt := 1546) hx hb dL_law_24 (by decide) (fun hc => ?_) (fun hc => ?_)
    · exact law_end l hL C0 hS hl
    · have hi1 : i.toInt + 6 ≤ (L : Int) := by have := qi_nlt hc hy rfl; omega
      have K : ∀ (H1 : Heap) (locs1 : List Loc) (ls1 : Array Slot), LI dC dI s aX aM H1 locs1 → lv_has ls1 4 [(3, .int i), (2, .ref aM), (1, .ref aX), (0, .ref b)] → W p l e room_1 s m #[Value.ref b] below meth c H1 locs1 103 20190 (lw_Z below #[Value.ref b] s) (F0 m 1540 ls1 []) := by
        intro H1 locs1 ls1 hI1 hl1
        obtain ⟨z, ez⟩ : ∃ z : Int32, z = i + Int32.ofInt 6 := ⟨_, rfl⟩
        have hz : z.toInt = i.toInt + 6 := qi_add ez rfl (by decide) (by omega) (by omega)
        refine lv_iinc (v := z) (lv' := [(3, .int z), (2, .ref aM), (1, .ref aX), (0, .ref b)]) hx hb dL_law_1540 hl1 (k := 0) rfl ez.symm (by decide) rfl (fun ls2 hl2 => ?_)
        refine lv_goto (tgt := 18) hx hb dL_law_1543 (by decide) ?_
        exact ih z H1 locs1 ls2 (by omega) (by omega) hI1 hl2 (by omega)
      refine lv_aload_n hx hb dL_law_27 rfl (lv_at hl 3 rfl) ?_
      refine lv_iload_n hx hb dL_law_28 rfl (lv_at hl 0 rfl) ?_
      refine va_sld hx hb hX hbl hbA hS (vin3 h0 (by omega)) dL_law_29 ?_
      refine lv_bipush (v := 63) hx hb dL_law_30 (by decide) ?_
      refine lv_iand hx hb dL_law_32 ?_
      refine lv_topi (fun w ew => ?_)
      rcases ts_0_47 w with hsw | hsw | hsw | hsw | hsw | hsw | hsw | hsw | hsw | hsw | hsw | hsw | hsw | hsw | hsw | hsw | hsw | hsw | hsw | hsw | hsw | hsw | hsw | hsw | hsw | hsw | hsw | hsw | hsw | hsw | hsw | hsw | hsw | hsw | hsw | hsw | hsw | hsw | hsw | hsw | hsw | hsw | hsw | hsw | hsw | hsw | hsw | hsw | hsw
      · refine lv_tableOut (tgt := 1540) hx hb dL_law_33 hsw (by decide) ?_
        exact K H locs ls hI hl
      · refine lv_tableIn (off := 207) (tgt := 240) hx hb dL_law_33 (by rw [hsw]; decide) (by rw [hsw]; decide) (by rw [hsw]; decide) (by decide) ?_
        exact law_0 l hL C0 dC dI adK adV fS hZ h0 hi1 hI hl K
      · refine lv_tableIn (off := 270) (tgt := 303) hx hb dL_law_33 (by rw [hsw]; decide) (by rw [hsw]; decide) (by rw [hsw]; decide) (by decide) ?_
        exact law_1 l hL C0 dC dI adK adV fS hZ h0 hi1 hI hl K
      · refine lv_tableIn (off := 293) (tgt := 326) hx hb dL_law_33 (by rw [hsw]; decide) (by rw [hsw]; decide) (by rw [hsw]; decide) (by decide) ?_
        exact law_2 l hL C0 dC dI adK adV fS hZ h0 hi1 hI hl K
      · refine lv_tableIn (off := 306) (tgt := 339) hx hb dL_law_33 (by rw [hsw]; decide) (by rw [hsw]; decide) (by rw [hsw]; decide) (by decide) ?_
        exact law_3 l hL C0 dC dI adK adV fS hZ h0 hi1 hI hl K
      · refine lv_tableIn (off := 329) (tgt := 362) hx hb dL_law_33 (by rw [hsw]; decide) (by rw [hsw]; decide) (by rw [hsw]; decide) (by decide) ?_
        exact law_4 l hL C0 dC dI adK adV fS hZ h0 hi1 hI hl K
      · refine lv_tableIn (off := 362) (tgt := 395) hx hb dL_law_33 (by rw [hsw]; decide) (by rw [hsw]; decide) (by rw [hsw]; decide) (by decide) ?_
        exact law_5 l hL C0 dC dI adK adV fS hZ h0 hi1 hI hl K
      · refine lv_tableIn (off := 395) (tgt := 428) hx hb dL_law_33 (by rw [hsw]; decide) (by rw [hsw]; decide) (by rw [hsw]; decide) (by decide) ?_
        exact law_6 l hL C0 dC dI adK adV fS hZ h0 hi1 hI hl K
      · refine lv_tableIn (off := 428) (tgt := 461) hx hb dL_law_33 (by rw [hsw]; decide) (by rw [hsw]; decide) (by rw [hsw]; decide) (by decide) ?_
        exact law_7 l hL C0 dC dI adK adV fS hZ h0 hi1 hI hl K
      · refine lv_tableIn (off := 461) (tgt := 494) hx hb dL_law_33 (by rw [hsw]; decide) (by rw [hsw]; decide) (by rw [hsw]; decide) (by decide) ?_
        exact law_8 l hL C0 dC dI adK adV fS hZ h0 hi1 hI hl K
      · refine lv_tableIn (off := 474) (tgt := 507) hx hb dL_law_33 (by rw [hsw]; decide) (by rw [hsw]; decide) (by rw [hsw]; decide) (by decide) ?_
        exact law_9 l hL C0 dC dI adK adV fS hZ h0 hi1 hI hl K
      · refine lv_tableIn (off := 507) (tgt := 540) hx hb dL_law_33 (by rw [hsw]; decide) (by rw [hsw]; decide) (by rw [hsw]; decide) (by decide) ?_
        exact law_10 l hL C0 dC dI adK adV fS hZ h0 hi1 hI hl K
      · refine lv_tableIn (off := 530) (tgt := 563) hx hb dL_law_33 (by rw [hsw]; decide) (by rw [hsw]; decide) (by rw [hsw]; decide) (by decide) ?_
        exact law_11 l hL C0 dC dI adK adV fS hZ h0 hi1 hI hl K
      · refine lv_tableIn (off := 553) (tgt := 586) hx hb dL_law_33 (by rw [hsw]; decide) (by rw [hsw]; decide) (by rw [hsw]; decide) (by decide) ?_
        exact law_12 l hL C0 dC dI adK adV fS hZ h0 hi1 hI hl K
      · refine lv_tableIn (off := 586) (tgt := 619) hx hb dL_law_33 (by rw [hsw]; decide) (by rw [hsw]; decide) (by rw [hsw]; decide) (by decide) ?_
        exact law_13 l hL C0 dC dI adK adV fS hZ h0 hi1 hI hl K
      · refine lv_tableIn (off := 599) (tgt := 632) hx hb dL_law_33 (by rw [hsw]; decide) (by rw [hsw]; decide) (by rw [hsw]; decide) (by decide) ?_
        exact law_14 l hL C0 dC dI adK adV fS hZ h0 hi1 hI hl K
      · refine lv_tableIn (off := 612) (tgt := 645) hx hb dL_law_33 (by rw [hsw]; decide) (by rw [hsw]; decide) (by rw [hsw]; decide) (by decide) ?_
        exact law_15 l hL C0 dC dI adK adV fS hZ h0 hi1 hI hl K
      · refine lv_tableIn (off := 655) (tgt := 688) hx hb dL_law_33 (by rw [hsw]; decide) (by rw [hsw]; decide) (by rw [hsw]; decide) (by decide) ?_
        exact law_16 l hL C0 dC dI adK adV fS hZ h0 hi1 hI hl K
      · refine lv_tableIn (off := 688) (tgt := 721) hx hb dL_law_33 (by rw [hsw]; decide) (by rw [hsw]; decide) (by rw [hsw]; decide) (by decide) ?_
        exact law_17 l hL C0 dC dI adK adV fS hZ h0 hi1 hI hl K
      · refine lv_tableIn (off := 711) (tgt := 744) hx hb dL_law_33 (by rw [hsw]; decide) (by rw [hsw]; decide) (by rw [hsw]; decide) (by decide) ?_
        exact law_18 l hL C0 dC dI adK adV fS hZ h0 hi1 hI hl K
      · refine lv_tableIn (off := 734) (tgt := 767) hx hb dL_law_33 (by rw [hsw]; decide) (by rw [hsw]; decide) (by rw [hsw]; decide) (by decide) ?_
        exact law_19 l hL C0 dC dI adK adV fS hZ h0 hi1 hI hl K
      · refine lv_tableIn (off := 757) (tgt := 790) hx hb dL_law_33 (by rw [hsw]; decide) (by rw [hsw]; decide) (by rw [hsw]; decide) (by decide) ?_
        exact law_20 l hL C0 dC dI adK adV fS hZ h0 hi1 hI hl K
      · refine lv_tableIn (off := 770) (tgt := 803) hx hb dL_law_33 (by rw [hsw]; decide) (by rw [hsw]; decide) (by rw [hsw]; decide) (by decide) ?_
        exact law_21 l hL C0 dC dI adK adV fS hZ h0 hi1 hI hl K
      · refine lv_tableIn (off := 813) (tgt := 846) hx hb dL_law_33 (by rw [hsw]; decide) (by rw [hsw]; decide) (by rw [hsw]; decide) (by decide) ?_
        exact law_22 l hL C0 dC dI adK adV fS hZ h0 hi1 hI hl K
      · refine lv_tableIn (off := 856) (tgt := 889) hx hb dL_law_33 (by rw [hsw]; decide) (by rw [hsw]; decide) (by rw [hsw]; decide) (by decide) ?_
        exact law_23 l hL C0 dC dI adK adV fS hZ h0 hi1 hI hl K
      · refine lv_tableIn (off := 869) (tgt := 902) hx hb dL_law_33 (by rw [hsw]; decide) (by rw [hsw]; decide) (by rw [hsw]; decide) (by decide) ?_
        exact law_24 l hL C0 dC dI adK adV fS hZ h0 hi1 hI hl K
      · refine lv_tableIn (off := 902) (tgt := 935) hx hb dL_law_33 (by rw [hsw]; decide) (by rw [hsw]; decide) (by rw [hsw]; decide) (by decide) ?_
        exact law_25 l hL C0 dC dI adK adV fS hZ h0 hi1 hI hl K
      · refine lv_tableIn (off := 925) (tgt := 958) hx hb dL_law_33 (by rw [hsw]; decide) (by rw [hsw]; decide) (by rw [hsw]; decide) (by decide) ?_
        exact law_26 l hL C0 dC dI adK adV fS hZ h0 hi1 hI hl K
      · refine lv_tableIn (off := 958) (tgt := 991) hx hb dL_law_33 (by rw [hsw]; decide) (by rw [hsw]; decide) (by rw [hsw]; decide) (by decide) ?_
        exact law_27 l hL C0 dC dI adK adV fS hZ h0 hi1 hI hl K
      · refine lv_tableIn (off := 991) (tgt := 1024) hx hb dL_law_33 (by rw [hsw]; decide) (by rw [hsw]; decide) (by rw [hsw]; decide) (by decide) ?_
        exact law_28 l hL C0 dC dI adK adV fS hZ h0 hi1 hI hl K
      · refine lv_tableIn (off := 1014) (tgt := 1047) hx hb dL_law_33 (by rw [hsw]; decide) (by rw [hsw]; decide) (by rw [hsw]; decide) (by decide) ?_
        exact law_29 l hL C0 dC dI adK adV fS hZ h0 hi1 hI hl K
      · refine lv_tableIn (off := 1027) (tgt := 1060) hx hb dL_law_33 (by rw [hsw]; decide) (by rw [hsw]; decide) (by rw [hsw]; decide) (by decide) ?_
        exact law_30 l hL C0 dC dI adK adV fS hZ h0 hi1 hI hl K
      · refine lv_tableIn (off := 1040) (tgt := 1073) hx hb dL_law_33 (by rw [hsw]; decide) (by rw [hsw]; decide) (by rw [hsw]; decide) (by decide) ?_
        exact law_31 l hL C0 dC dI adK adV fS hZ h0 hi1 hI hl K
      · refine lv_tableIn (off := 1063) (tgt := 1096) hx hb dL_law_33 (by rw [hsw]; decide) (by rw [hsw]; decide) (by rw [hsw]; decide) (by decide) ?_
        exact law_32 l hL C0 dC dI adK adV fS hZ h0 hi1 hI hl K
      · refine lv_tableIn (off := 1096) (tgt := 1129) hx hb dL_law_33 (by rw [hsw]; decide) (by rw [hsw]; decide) (by rw [hsw]; decide) (by decide) ?_
        exact law_33 l hL C0 dC dI adK adV fS hZ h0 hi1 hI hl K
      · refine lv_tableIn (off := 1129) (tgt := 1162) hx hb dL_law_33 (by rw [hsw]; decide) (by rw [hsw]; decide) (by rw [hsw]; decide) (by decide) ?_
        exact law_34 l hL C0 dC dI adK adV fS hZ h0 hi1 hI hl K
      · refine lv_tableIn (off := 1162) (tgt := 1195) hx hb dL_law_33 (by rw [hsw]; decide) (by rw [hsw]; decide) (by rw [hsw]; decide) (by decide) ?_
        exact law_35 l hL C0 dC dI adK adV fS hZ h0 hi1 hI hl K
      · refine lv_tableIn (off := 1175) (tgt := 1208) hx hb dL_law_33 (by rw [hsw]; decide) (by rw [hsw]; decide) (by rw [hsw]; decide) (by decide) ?_
        exact law_36 l hL C0 dC dI adK adV fS hZ h0 hi1 hI hl K
      · refine lv_tableIn (off := 1188) (tgt := 1221) hx hb dL_law_33 (by rw [hsw]; decide) (by rw [hsw]; decide) (by rw [hsw]; decide) (by decide) ?_
        exact law_37 l hL C0 dC dI adK adV fS hZ h0 hi1 hI hl K
      · refine lv_tableIn (off := 1221) (tgt := 1254) hx hb dL_law_33 (by rw [hsw]; decide) (by rw [hsw]; decide) (by rw [hsw]; decide) (by decide) ?_
        exact law_38 l hL C0 dC dI adK adV fS hZ h0 hi1 hI hl K
      · refine lv_tableIn (off := 1244) (tgt := 1277) hx hb dL_law_33 (by rw [hsw]; decide) (by rw [hsw]; decide) (by rw [hsw]; decide) (by decide) ?_
        exact law_39 l hL C0 dC dI adK adV fS hZ h0 hi1 hI hl K
      · refine lv_tableIn (off := 1303) (tgt := 1336) hx hb dL_law_33 (by rw [hsw]; decide) (by rw [hsw]; decide) (by rw [hsw]; decide) (by decide) ?_
        exact law_40 l hL C0 dC dI adK adV fS hZ h0 hi1 hI hl K
      · refine lv_tableIn (off := 1326) (tgt := 1359) hx hb dL_law_33 (by rw [hsw]; decide) (by rw [hsw]; decide) (by rw [hsw]; decide) (by decide) ?_
        exact law_41 l hL C0 dC dI adK adV fS hZ h0 hi1 hI hl K
      · refine lv_tableIn (off := 1349) (tgt := 1382) hx hb dL_law_33 (by rw [hsw]; decide) (by rw [hsw]; decide) (by rw [hsw]; decide) (by decide) ?_
        exact law_42 l hL C0 dC dI adK adV fS hZ h0 hi1 hI hl K
      · refine lv_tableIn (off := 1372) (tgt := 1405) hx hb dL_law_33 (by rw [hsw]; decide) (by rw [hsw]; decide) (by rw [hsw]; decide) (by decide) ?_
        exact law_43 l hL C0 dC dI adK adV fS hZ h0 hi1 hI hl K
      · refine lv_tableIn (off := 1405) (tgt := 1438) hx hb dL_law_33 (by rw [hsw]; decide) (by rw [hsw]; decide) (by rw [hsw]; decide) (by decide) ?_
        exact law_44 l hL C0 dC dI adK adV fS hZ h0 hi1 hI hl K
      · refine lv_tableIn (off := 1438) (tgt := 1471) hx hb dL_law_33 (by rw [hsw]; decide) (by rw [hsw]; decide) (by rw [hsw]; decide) (by decide) ?_
        exact law_45 l hL C0 dC dI adK adV fS hZ h0 hi1 hI hl K
      · refine lv_tableIn (off := 1461) (tgt := 1494) hx hb dL_law_33 (by rw [hsw]; decide) (by rw [hsw]; decide) (by rw [hsw]; decide) (by decide) ?_
        exact law_46 l hL C0 dC dI adK adV fS hZ h0 hi1 hI hl K
      · refine lv_tableIn (off := 1484) (tgt := 1517) hx hb dL_law_33 (by rw [hsw]; decide) (by rw [hsw]; decide) (by rw [hsw]; decide) (by decide) ?_
        exact law_47 l hL C0 dC dI adK adV fS hZ h0 hi1 hI hl K
