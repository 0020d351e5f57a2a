set_option maxHeartbeats 4000000 in
set_option maxRecDepth 100000 in
theorem law_main {p : Program} {e : Env} {s : State} {m : MethodId} {below : List Frame} {meth : Method} {c : Code} (l : Launch) {b L : Nat} {xs : Nat → Int32} (C0 : lw_At p s m meth c b L xs) (hL : L ≤ 6) (dC : Nat → ClassId) (dI : Nat → Nat → Nat) (rX rM : Nat → Nat) (cX cM : Nat → ClassId) (fX fM : Nat → Nat → Int32) (gX gM : Nat → Nat → Int64) (hfM_3_0 : fM 3 0 = 1) (hfM_3_1 : fM 3 1 = 0) (hfM_4_0 : fM 4 0 = 0) (hfM_4_1 : fM 4 1 = 0) (hfM_5_0 : fM 5 0 = 0) (hfM_5_1 : fM 5 1 = 0) (hfM_6_0 : fM 6 0 = 0) (hfM_6_1 : fM 6 1 = 0) (hfM_7_0 : fM 7 0 = 0) (hfM_7_1 : fM 7 1 = 0) (hfM_8_0 : fM 8 0 = 0) (hfM_8_1 : fM 8 1 = 0) (hfM_25_24 : fM 25 24 = 0) (hfM_25_25 : fM 25 25 = 0) (hfM_38_0 : fM 38 0 = 0) (hfM_38_1 : fM 38 1 = 0) (hfM_38_2 : fM 38 2 = 0) {H : Heap} {locs : List Loc} (hK : va_K (dC, dI) vwCl (lwT cX cM) s) (hP : va_P (dC, dI) vwCl (lwW rX rM cX cM fX fM gX gM) H) (hD : va_D (fun q : Nat => s.heap.size ≤ q) (lwW rX rM cX cM fX fM gX gM)) (hS : va_S (fun q : Nat => s.heap.size ≤ q) s.heap H locs) {ls : Array Slot} (hl : lv_has ls 4 [(3, .int 0), (2, .ref (rM 0)), (1, .ref (rX 0)), (0, .ref b)]) : W p l e room_1 s m #[Value.ref b] below meth c H locs 103 20190 (lw_Z below #[Value.ref b] s) (F0 m 18 ls []) := by
  obtain ⟨hx, hb, hr, hml, hown, hts, hX, hbl, hlocks, hgv⟩ := id C0
  have hown : s.vm.findClass RL = some m.cls := hown
  have hG : ∀ w ∈ GW, w.before _ s = true := fun w h => hts w (List.mem_filter.mp h).1
  have hA : ∀ q : Nat, s.heap.size ≤ q → (fun q : Nat => s.heap.size ≤ q) q := fun _ h => h
  have hbA : ¬ (fun q : Nat => s.heap.size ≤ q) b := Nat.not_le.mpr hbl
  have hLc : L = 6 ∨ L = 0 ∨ L = 1 ∨ L = 2 ∨ L = 3 ∨ L = 4 ∨ L = 5 := by omega
  rcases hLc with rfl | rfl | rfl | rfl | rfl | rfl | rfl
  · skip
    refine lv_iload_n hx hb dL_law_18 rfl (lv_at hl 0 rfl) ?_
    refine lv_aload_n hx hb dL_law_19 rfl (lv_at hl 3 rfl) ?_
    refine va_slen hx hb hX hbl hbA hS dL_law_20 ?_
    refine wt_c (v := 6) (by decide) ?_
    refine lv_bipush (v := 6) hx hb dL_law_21 (by decide) ?_
    refine lv_isub hx hb dL_law_23 ?_
    refine wt_c (v := 0) (by decide) ?_
    refine lv_icmp_gt (tgt := 1546) hx hb dL_law_24 (by decide) (fun c_1 => absurd c_1 (by decide)) (fun c_1 => ?_)
    refine lv_aload_n hx hb dL_law_27 rfl (lv_at hl 3 rfl) ?_
    refine lv_iload_n hx hb dL_law_28 rfl (lv_at hl 0 rfl) ?_
    refine va_sld hx hb hX hbl hbA hS (vin (by decide)) dL_law_29 ?_
    refine wt_c (v := xs 0) (congrArg xs (by decide)) ?_
    refine lv_bipush (v := 63) hx hb dL_law_30 (by decide) ?_
    refine lv_iand hx hb dL_law_32 ?_
    refine lv_topi (fun x2 ex2 => ?_)
    rcases ts_0_47 x2 with hsw | rfl | rfl | rfl | rfl | rfl | rfl | rfl | rfl | rfl | rfl | rfl | rfl | rfl | rfl | rfl | rfl | rfl | rfl | rfl | rfl | rfl | rfl | rfl | rfl | rfl | rfl | rfl | rfl | rfl | rfl | rfl | rfl | rfl | rfl | rfl | rfl | rfl | rfl | rfl | rfl | rfl | rfl | rfl | rfl | rfl | rfl | rfl | rfl
    · refine lv_tableOut (tgt := 1540) hx hb dL_law_33 hsw (by decide) ?_
      exact law_end l C0 hS hl
    · refine lv_tableIn (off := 207) (tgt := 240) hx hb dL_law_33 (by decide) (by decide) (by decide) (by decide) ?_
      exact law_0 l C0 dC dI rX rM cX cM fX fM gX gM (sK_0 hK) (sP_0 hP) (sD_0 hD) hS hl
    · refine lv_tableIn (off := 270) (tgt := 303) hx hb dL_law_33 (by decide) (by decide) (by decide) (by decide) ?_
      exact law_1 l C0 dC dI rX rM cX cM fX fM gX gM (sK_1 hK) (sP_1 hP) (sD_1 hD) hS hl
    · refine lv_tableIn (off := 293) (tgt := 326) hx hb dL_law_33 (by decide) (by decide) (by decide) (by decide) ?_
      exact law_2 l C0 dC dI rX rM cX cM fX fM gX gM hfM_3_0 hfM_3_1 hfM_4_0 hfM_4_1 hfM_5_0 hfM_5_1 hfM_6_0 hfM_6_1 hfM_7_0 hfM_7_1 hfM_8_0 hfM_8_1 hfM_25_24 hfM_25_25 hfM_38_0 hfM_38_1 hfM_38_2 (sK_2 hK) (sP_2 hP) (sD_2 hD) hS hl
    · refine lv_tableIn (off := 306) (tgt := 339) hx hb dL_law_33 (by decide) (by decide) (by decide) (by decide) ?_
      exact law_3 l C0 dC dI rX rM cX cM fX fM gX gM (sK_3 hK) (sP_3 hP) (sD_3 hD) hS hl
    · refine lv_tableIn (off := 329) (tgt := 362) hx hb dL_law_33 (by decide) (by decide) (by decide) (by decide) ?_
      exact law_4 l C0 dC dI rX rM cX cM fX fM gX gM hfM_4_0 hfM_4_1 (sK_4 hK) (sP_4 hP) (sD_4 hD) hS hl
    · refine lv_tableIn (off := 362) (tgt := 395) hx hb dL_law_33 (by decide) (by decide) (by decide) (by decide) ?_
      exact law_5 l C0 dC dI rX rM cX cM fX fM gX gM hfM_4_0 hfM_4_1 (sK_5 hK) (sP_5 hP) (sD_5 hD) hS hl
    · refine lv_tableIn (off := 395) (tgt := 428) hx hb dL_law_33 (by decide) (by decide) (by decide) (by decide) ?_
      exact law_6 l C0 dC dI rX rM cX cM fX fM gX gM hfM_5_0 hfM_5_1 (sK_6 hK) (sP_6 hP) (sD_6 hD) hS hl
    · refine lv_tableIn (off := 428) (tgt := 461) hx hb dL_law_33 (by decide) (by decide) (by decide) (by decide) ?_
      exact law_7 l C0 dC dI rX rM cX cM fX fM gX gM hfM_5_0 hfM_5_1 (sK_7 hK) (sP_7 hP) (sD_7 hD) hS hl
    · refine lv_tableIn (off := 461) (tgt := 494) hx hb dL_law_33 (by decide) (by decide) (by decide) (by decide) ?_
      exact law_8 l C0 dC dI rX rM cX cM fX fM gX gM hfM_5_0 hfM_5_1 hfM_25_24 hfM_25_25 (sK_8 hK) (sP_8 hP) (sD_8 hD) hS hl
    · refine lv_tableIn (off := 474) (tgt := 507) hx hb dL_law_33 (by decide) (by decide) (by decide) (by decide) ?_
      exact law_9 l C0 dC dI rX rM cX cM fX fM gX gM hfM_4_0 hfM_4_1 (sK_9 hK) (sP_9 hP) (sD_9 hD) hS hl
    · refine lv_tableIn (off := 507) (tgt := 540) hx hb dL_law_33 (by decide) (by decide) (by decide) (by decide) ?_
      exact law_10 l C0 dC dI rX rM cX cM fX fM gX gM hfM_4_0 hfM_4_1 (sK_10 hK) (sP_10 hP) (sD_10 hD) hS hl
    · refine lv_tableIn (off := 530) (tgt := 563) hx hb dL_law_33 (by decide) (by decide) (by decide) (by decide) ?_
      exact law_11 l C0 dC dI rX rM cX cM fX fM gX gM hfM_4_0 hfM_4_1 (sK_11 hK) (sP_11 hP) (sD_11 hD) hS hl
    · refine lv_tableIn (off := 553) (tgt := 586) hx hb dL_law_33 (by decide) (by decide) (by decide) (by decide) ?_
      exact law_12 l C0 dC dI rX rM cX cM fX fM gX gM hfM_5_0 hfM_5_1 (sK_12 hK) (sP_12 hP) (sD_12 hD) hS hl
    · refine lv_tableIn (off := 586) (tgt := 619) hx hb dL_law_33 (by decide) (by decide) (by decide) (by decide) ?_
      exact law_13 l C0 dC dI rX rM cX cM fX fM gX gM (sK_13 hK) (sP_13 hP) (sD_13 hD) hS hl
    · refine lv_tableIn (off := 599) (tgt := 632) hx hb dL_law_33 (by decide) (by decide) (by decide) (by decide) ?_
      exact law_14 l C0 dC dI rX rM cX cM fX fM gX gM (sK_14 hK) (sP_14 hP) (sD_14 hD) hS hl
    · refine lv_tableIn (off := 612) (tgt := 645) hx hb dL_law_33 (by decide) (by decide) (by decide) (by decide) ?_
      exact law_15 l C0 dC dI rX rM cX cM fX fM gX gM hfM_4_0 hfM_4_1 (sK_15 hK) (sP_15 hP) (sD_15 hD) hS hl
    · refine lv_tableIn (off := 655) (tgt := 688) hx hb dL_law_33 (by decide) (by decide) (by decide) (by decide) ?_
      exact law_16 l C0 dC dI rX rM cX cM fX fM gX gM hfM_5_0 hfM_5_1 (sK_16 hK) (sP_16 hP) (sD_16 hD) hS hl
    · refine lv_tableIn (off := 688) (tgt := 721) hx hb dL_law_33 (by decide) (by decide) (by decide) (by decide) ?_
      exact law_17 l C0 dC dI rX rM cX cM fX fM gX gM hfM_5_0 hfM_5_1 (sK_17 hK) (sP_17 hP) (sD_17 hD) hS hl
    · refine lv_tableIn (off := 711) (tgt := 744) hx hb dL_law_33 (by decide) (by decide) (by decide) (by decide) ?_
      exact law_18 l C0 dC dI rX rM cX cM fX fM gX gM hfM_4_0 hfM_4_1 hfM_5_0 hfM_5_1 (sK_18 hK) (sP_18 hP) (sD_18 hD) hS hl
    · refine lv_tableIn (off := 734) (tgt := 767) hx hb dL_law_33 (by decide) (by decide) (by decide) (by decide) ?_
      exact law_19 l C0 dC dI rX rM cX cM fX fM gX gM hfM_5_0 hfM_5_1 (sK_19 hK) (sP_19 hP) (sD_19 hD) hS hl
    · refine lv_tableIn (off := 757) (tgt := 790) hx hb dL_law_33 (by decide) (by decide) (by decide) (by decide) ?_
      exact law_20 l C0 dC dI rX rM cX cM fX fM gX gM hfM_4_0 hfM_4_1 hfM_5_0 hfM_5_1 (sK_20 hK) (sP_20 hP) (sD_20 hD) hS hl
    · refine lv_tableIn (off := 770) (tgt := 803) hx hb dL_law_33 (by decide) (by decide) (by decide) (by decide) ?_
      exact law_21 l C0 dC dI rX rM cX cM fX fM gX gM hfM_4_0 hfM_4_1 (sK_21 hK) (sP_21 hP) (sD_21 hD) hS hl
    · refine lv_tableIn (off := 813) (tgt := 846) hx hb dL_law_33 (by decide) (by decide) (by decide) (by decide) ?_
      exact law_22 l C0 dC dI rX rM cX cM fX fM gX gM hfM_4_0 hfM_4_1 (sK_22 hK) (sP_22 hP) (sD_22 hD) hS hl
    · refine lv_tableIn (off := 856) (tgt := 889) hx hb dL_law_33 (by decide) (by decide) (by decide) (by decide) ?_
      exact law_23 l C0 dC dI rX rM cX cM fX fM gX gM hfM_4_0 hfM_4_1 (sK_23 hK) (sP_23 hP) (sD_23 hD) hS hl
    · refine lv_tableIn (off := 869) (tgt := 902) hx hb dL_law_33 (by decide) (by decide) (by decide) (by decide) ?_
      exact law_24 l C0 dC dI rX rM cX cM fX fM gX gM hfM_4_0 hfM_4_1 (sK_24 hK) (sP_24 hP) (sD_24 hD) hS hl
    · refine lv_tableIn (off := 902) (tgt := 935) hx hb dL_law_33 (by decide) (by decide) (by decide) (by decide) ?_
      exact law_25 l C0 dC dI rX rM cX cM fX fM gX gM hfM_4_0 hfM_4_1 (sK_25 hK) (sP_25 hP) (sD_25 hD) hS hl
    · refine lv_tableIn (off := 925) (tgt := 958) hx hb dL_law_33 (by decide) (by decide) (by decide) (by decide) ?_
      exact law_26 l C0 dC dI rX rM cX cM fX fM gX gM hfM_4_0 hfM_4_1 hfM_5_0 hfM_5_1 (sK_26 hK) (sP_26 hP) (sD_26 hD) hS hl
    · refine lv_tableIn (off := 958) (tgt := 991) hx hb dL_law_33 (by decide) (by decide) (by decide) (by decide) ?_
      exact law_27 l C0 dC dI rX rM cX cM fX fM gX gM hfM_5_0 hfM_5_1 (sK_27 hK) (sP_27 hP) (sD_27 hD) hS hl
    · refine lv_tableIn (off := 991) (tgt := 1024) hx hb dL_law_33 (by decide) (by decide) (by decide) (by decide) ?_
      exact law_28 l C0 dC dI rX rM cX cM fX fM gX gM hfM_5_0 hfM_5_1 (sK_28 hK) (sP_28 hP) (sD_28 hD) hS hl
    · refine lv_tableIn (off := 1014) (tgt := 1047) hx hb dL_law_33 (by decide) (by decide) (by decide) (by decide) ?_
      exact law_29 l C0 dC dI rX rM cX cM fX fM gX gM hfM_5_0 hfM_5_1 (sK_29 hK) (sP_29 hP) (sD_29 hD) hS hl
    · refine lv_tableIn (off := 1027) (tgt := 1060) hx hb dL_law_33 (by decide) (by decide) (by decide) (by decide) ?_
      exact law_30 l C0 dC dI rX rM cX cM fX fM gX gM hfM_5_0 hfM_5_1 (sK_30 hK) (sP_30 hP) (sD_30 hD) hS hl
    · refine lv_tableIn (off := 1040) (tgt := 1073) hx hb dL_law_33 (by decide) (by decide) (by decide) (by decide) ?_
      exact law_31 l C0 dC dI rX rM cX cM fX fM gX gM hfM_4_0 hfM_4_1 (sK_31 hK) (sP_31 hP) (sD_31 hD) hS hl
    · refine lv_tableIn (off := 1063) (tgt := 1096) hx hb dL_law_33 (by decide) (by decide) (by decide) (by decide) ?_
      exact law_32 l C0 dC dI rX rM cX cM fX fM gX gM hfM_5_0 hfM_5_1 (sK_32 hK) (sP_32 hP) (sD_32 hD) hS hl
    · refine lv_tableIn (off := 1096) (tgt := 1129) hx hb dL_law_33 (by decide) (by decide) (by decide) (by decide) ?_
      exact law_33 l C0 dC dI rX rM cX cM fX fM gX gM hfM_4_0 hfM_4_1 (sK_33 hK) (sP_33 hP) (sD_33 hD) hS hl
    · refine lv_tableIn (off := 1129) (tgt := 1162) hx hb dL_law_33 (by decide) (by decide) (by decide) (by decide) ?_
      exact law_34 l C0 dC dI rX rM cX cM fX fM gX gM hfM_5_0 hfM_5_1 (sK_34 hK) (sP_34 hP) (sD_34 hD) hS hl
    · refine lv_tableIn (off := 1162) (tgt := 1195) hx hb dL_law_33 (by decide) (by decide) (by decide) (by decide) ?_
      exact law_35 l C0 dC dI rX rM cX cM fX fM gX gM hfM_4_0 hfM_4_1 (sK_35 hK) (sP_35 hP) (sD_35 hD) hS hl
    · refine lv_tableIn (off := 1175) (tgt := 1208) hx hb dL_law_33 (by decide) (by decide) (by decide) (by decide) ?_
      exact law_36 l C0 dC dI rX rM cX cM fX fM gX gM hfM_4_0 hfM_4_1 (sK_36 hK) (sP_36 hP) (sD_36 hD) hS hl
    · refine lv_tableIn (off := 1188) (tgt := 1221) hx hb dL_law_33 (by decide) (by decide) (by decide) (by decide) ?_
      exact law_37 l C0 dC dI rX rM cX cM fX fM gX gM hfM_7_0 hfM_7_1 (sK_37 hK) (sP_37 hP) (sD_37 hD) hS hl
    · refine lv_tableIn (off := 1221) (tgt := 1254) hx hb dL_law_33 (by decide) (by decide) (by decide) (by decide) ?_
      exact law_38 l C0 dC dI rX rM cX cM fX fM gX gM (sK_38 hK) (sP_38 hP) (sD_38 hD) hS hl
    · refine lv_tableIn (off := 1244) (tgt := 1277) hx hb dL_law_33 (by decide) (by decide) (by decide) (by decide) ?_
      exact law_39 l C0 dC dI rX rM cX cM fX fM gX gM hfM_4_0 hfM_4_1 (sK_39 hK) (sP_39 hP) (sD_39 hD) hS hl
    · refine lv_tableIn (off := 1303) (tgt := 1336) hx hb dL_law_33 (by decide) (by decide) (by decide) (by decide) ?_
      exact law_40 l C0 dC dI rX rM cX cM fX fM gX gM (sK_40 hK) (sP_40 hP) (sD_40 hD) hS hl
    · refine lv_tableIn (off := 1326) (tgt := 1359) hx hb dL_law_33 (by decide) (by decide) (by decide) (by decide) ?_
      exact law_41 l C0 dC dI rX rM cX cM fX fM gX gM (sK_41 hK) (sP_41 hP) (sD_41 hD) hS hl
    · refine lv_tableIn (off := 1349) (tgt := 1382) hx hb dL_law_33 (by decide) (by decide) (by decide) (by decide) ?_
      exact law_42 l C0 dC dI rX rM cX cM fX fM gX gM hfM_5_0 hfM_5_1 (sK_42 hK) (sP_42 hP) (sD_42 hD) hS hl
    · refine lv_tableIn (off := 1372) (tgt := 1405) hx hb dL_law_33 (by decide) (by decide) (by decide) (by decide) ?_
      exact law_43 l C0 dC dI rX rM cX cM fX fM gX gM hfM_5_0 hfM_5_1 (sK_43 hK) (sP_43 hP) (sD_43 hD) hS hl
    · refine lv_tableIn (off := 1405) (tgt := 1438) hx hb dL_law_33 (by decide) (by decide) (by decide) (by decide) ?_
      exact law_44 l C0 dC dI rX rM cX cM fX fM gX gM hfM_4_0 hfM_4_1 hfM_5_0 hfM_5_1 (sK_44 hK) (sP_44 hP) (sD_44 hD) hS hl
    · refine lv_tableIn (off := 1438) (tgt := 1471) hx hb dL_law_33 (by decide) (by decide) (by decide) (by decide) ?_
      exact law_45 l C0 dC dI rX rM cX cM fX fM gX gM hfM_25_24 hfM_25_25 hfM_38_0 hfM_38_1 hfM_38_2 (sK_45 hK) (sP_45 hP) (sD_45 hD) hS hl
    · refine lv_tableIn (off := 1461) (tgt := 1494) hx hb dL_law_33 (by decide) (by decide) (by decide) (by decide) ?_
      exact law_46 l C0 dC dI rX rM cX cM fX fM gX gM hfM_38_0 hfM_38_1 hfM_38_2 (sK_46 hK) (sP_46 hP) (sD_46 hD) hS hl
    · refine lv_tableIn (off := 1484) (tgt := 1517) hx hb dL_law_33 (by decide) (by decide) (by decide) (by decide) ?_
      exact law_47 l C0 dC dI rX rM cX cM fX fM gX gM hfM_3_0 hfM_3_1 hfM_4_0 hfM_4_1 hfM_5_0 hfM_5_1 hfM_6_0 hfM_6_1 hfM_7_0 hfM_7_1 hfM_25_24 hfM_25_25 (sK_47 hK) (sP_47 hP) (sD_47 hD) hS hl
  · skip
    refine lv_iload_n hx hb dL_law_18 rfl (lv_at hl 0 rfl) ?_
    refine lv_aload_n hx hb dL_law_19 rfl (lv_at hl 3 rfl) ?_
    refine va_slen hx hb hX hbl hbA hS dL_law_20 ?_
    refine wt_c (v := 0) (by decide) ?_
    refine lv_bipush (v := 6) hx hb dL_law_21 (by decide) ?_
    refine lv_isub hx hb dL_law_23 ?_
    refine wt_c (v := (-6)) (by decide) ?_
    refine lv_icmp_gt (tgt := 1546) hx hb dL_law_24 (by decide) (fun c_1 => ?_) (fun c_1 => absurd (by decide) c_1)
    refine lv_iconst (v := 1) hx hb dL_law_1546 (by decide) ?_
    refine va_forget (fun q hq => hS.2.2 q hq) ?_
    refine W.widen (k := 600000) (n := 7302250) (Nat.le_of_ble_eq_true rfl) (Nat.le_of_ble_eq_true rfl) ?_
    exact lw_ret hx hb hr hlocks dL_law_1547
  · skip
    refine lv_iload_n hx hb dL_law_18 rfl (lv_at hl 0 rfl) ?_
    refine lv_aload_n hx hb dL_law_19 rfl (lv_at hl 3 rfl) ?_
    refine va_slen hx hb hX hbl hbA hS dL_law_20 ?_
    refine wt_c (v := 1) (by decide) ?_
    refine lv_bipush (v := 6) hx hb dL_law_21 (by decide) ?_
    refine lv_isub hx hb dL_law_23 ?_
    refine wt_c (v := (-5)) (by decide) ?_
    refine lv_icmp_gt (tgt := 1546) hx hb dL_law_24 (by decide) (fun c_1 => ?_) (fun c_1 => absurd (by decide) c_1)
    refine lv_iconst (v := 1) hx hb dL_law_1546 (by decide) ?_
    refine va_forget (fun q hq => hS.2.2 q hq) ?_
    refine W.widen (k := 600000) (n := 7302250) (Nat.le_of_ble_eq_true rfl) (Nat.le_of_ble_eq_true rfl) ?_
    exact lw_ret hx hb hr hlocks dL_law_1547
  · skip
    refine lv_iload_n hx hb dL_law_18 rfl (lv_at hl 0 rfl) ?_
    refine lv_aload_n hx hb dL_law_19 rfl (lv_at hl 3 rfl) ?_
    refine va_slen hx hb hX hbl hbA hS dL_law_20 ?_
    refine wt_c (v := 2) (by decide) ?_
    refine lv_bipush (v := 6) hx hb dL_law_21 (by decide) ?_
    refine lv_isub hx hb dL_law_23 ?_
    refine wt_c (v := (-4)) (by decide) ?_
    refine lv_icmp_gt (tgt := 1546) hx hb dL_law_24 (by decide) (fun c_1 => ?_) (fun c_1 => absurd (by decide) c_1)
    refine lv_iconst (v := 1) hx hb dL_law_1546 (by decide) ?_
    refine va_forget (fun q hq => hS.2.2 q hq) ?_
    refine W.widen (k := 600000) (n := 7302250) (Nat.le_of_ble_eq_true rfl) (Nat.le_of_ble_eq_true rfl) ?_
    exact lw_ret hx hb hr hlocks dL_law_1547
  · skip
    refine lv_iload_n hx hb dL_law_18 rfl (lv_at hl 0 rfl) ?_
    refine lv_aload_n hx hb dL_law_19 rfl (lv_at hl 3 rfl) ?_
    refine va_slen hx hb hX hbl hbA hS dL_law_20 ?_
    refine wt_c (v := 3) (by decide) ?_
    refine lv_bipush (v := 6) hx hb dL_law_21 (by decide) ?_
    refine lv_isub hx hb dL_law_23 ?_
    refine wt_c (v := (-3)) (by decide) ?_
    refine lv_icmp_gt (tgt := 1546) hx hb dL_law_24 (by decide) (fun c_1 => ?_) (fun c_1 => absurd (by decide) c_1)
    refine lv_iconst (v := 1) hx hb dL_law_1546 (by decide) ?_
    refine va_forget (fun q hq => hS.2.2 q hq) ?_
    refine W.widen (k := 600000) (n := 7302250) (Nat.le_of_ble_eq_true rfl) (Nat.le_of_ble_eq_true rfl) ?_
    exact lw_ret hx hb hr hlocks dL_law_1547
  · skip
    refine lv_iload_n hx hb dL_law_18 rfl (lv_at hl 0 rfl) ?_
    refine lv_aload_n hx hb dL_law_19 rfl (lv_at hl 3 rfl) ?_
    refine va_slen hx hb hX hbl hbA hS dL_law_20 ?_
    refine wt_c (v := 4) (by decide) ?_
    refine lv_bipush (v := 6) hx hb dL_law_21 (by decide) ?_
    refine lv_isub hx hb dL_law_23 ?_
    refine wt_c (v := (-2)) (by decide) ?_
    refine lv_icmp_gt (tgt := 1546) hx hb dL_law_24 (by decide) (fun c_1 => ?_) (fun c_1 => absurd (by decide) c_1)
    refine lv_iconst (v := 1) hx hb dL_law_1546 (by decide) ?_
    refine va_forget (fun q hq => hS.2.2 q hq) ?_
    refine W.widen (k := 600000) (n := 7302250) (Nat.le_of_ble_eq_true rfl) (Nat.le_of_ble_eq_true rfl) ?_
    exact lw_ret hx hb hr hlocks dL_law_1547
  · skip
    refine lv_iload_n hx hb dL_law_18 rfl (lv_at hl 0 rfl) ?_
    refine lv_aload_n hx hb dL_law_19 rfl (lv_at hl 3 rfl) ?_
    refine va_slen hx hb hX hbl hbA hS dL_law_20 ?_
    refine wt_c (v := 5) (by decide) ?_
    refine lv_bipush (v := 6) hx hb dL_law_21 (by decide) ?_
    refine lv_isub hx hb dL_law_23 ?_
    refine wt_c (v := (-1)) (by decide) ?_
    refine lv_icmp_gt (tgt := 1546) hx hb dL_law_24 (by decide) (fun c_1 => ?_) (fun c_1 => absurd (by decide) c_1)
    refine lv_iconst (v := 1) hx hb dL_law_1546 (by decide) ?_
    refine va_forget (fun q hq => hS.2.2 q hq) ?_
    refine W.widen (k := 600000) (n := 7302250) (Nat.le_of_ble_eq_true rfl) (Nat.le_of_ble_eq_true rfl) ?_
    exact lw_ret hx hb hr hlocks dL_law_1547
