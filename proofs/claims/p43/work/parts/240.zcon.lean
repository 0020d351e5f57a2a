set_option maxHeartbeats 4000000 in
set_option maxRecDepth 100000 in
theorem kX6_isLetter (l : Launch) (dC : Nat → ClassId) (dI : Nat → Nat → Nat) (p0 : Int32) (sz : Nat) : Met l yX6_isLetter (.code yX6_isLetter cX6_isLetter 1 (some .boolean) :: GW) { frames := 2, cells := 0, slots := 0, locals := 100 } (va_Pc [.int p0] (pR (dC, dI) [] [] sz)) (va_Qi (fun (r0 : Int32) (u : Int32) => r0 = u) (fun (u : Int32) (t : State) => (((p0.toInt ≤ (96 : Int)) ∧ (u.toInt = (0 : Int))) ∨ (((97 : Int) ≤ p0.toInt) ∧ ((123 : Int) ≤ p0.toInt) ∧ (u.toInt = (0 : Int))) ∨ (((97 : Int) ≤ p0.toInt) ∧ (p0.toInt ≤ (122 : Int)) ∧ (u.toInt = (1 : Int)))) ∧ ((0 : Int) ≤ u.toInt) ∧ (u.toInt ≤ (1 : Int))) (fun q => sz ≤ q)) 0 0 (fun q => sz ≤ q) := by
  refine Met.ofW (cc := cX6_isLetter) (maxL := 1) (ret := (some .boolean)) (by decide) rfl ?_
  intro p e s m args below meth c0 s₁ B hml hv
  obtain ⟨rfl, hsz, hP, hK⟩ := hv
  have hx := B.exec
  have hb := B.bytes
  have hr := B.returns
  have hts := atoms_spec (ws := .code yX6_isLetter cX6_isLetter 1 (some .boolean) :: GW) B.pre
  have hG : ∀ w ∈ GW, w.before _ s = true := fun w h => hts w (List.mem_cons_of_mem _ h)
  have hown : s.vm.findClass RX6 = some m.cls := findClass_of_methodNamed B.named
  subst hsz
  have hS : va_S (fun q => s.heap.size ≤ q) s.heap s.heap [] := va_S.rf
  have hP : va_P (dC, dI) vwCl [] s.heap := hP
  have hl := lv_entry ([.int p0]) (n := 1) (Nat.le_of_ble_eq_true rfl)
  rw [lg_entry_eq]
  generalize (lg_sl ([.int p0]) ++ List.replicate (1 - (lg_sl ([.int p0])).length) Slot.unset).toArray = ls at hl ⊢
  have hl : lv_has ls 1 [(0, .int p0)] := hl
  refine nameQ (fun Q hQ => ?_)
  refine lv_iload_n hx hb dX6_isLetter_0 rfl (lv_at hl 0 rfl) ?_
  refine lv_bipush (v := 97) hx hb dX6_isLetter_1 (by decide) ?_
  refine lv_icmp_lt (tgt := 16) hx hb dX6_isLetter_3 (by decide) (fun c_1 => ?_) (fun c_1 => ?_)
  · skip
    have f2 : p0.toInt < 97 := qi_lt c_1 rfl zc_97
    refine lv_iconst (v := 0) hx hb dX6_isLetter_16 (by decide) ?_
    rw [hQ]
    exact W.zret (v := 0) hx hb hr (by decide) (fun t ht hW => ⟨⟨0, 0, rfl, rfl, ⟨(ox_773 f2 zc_0), (ox_27 zc_0), (ox_28 zc_0)⟩⟩, hS.F ht⟩) hS.2.2 dX6_isLetter_17
  · skip
    have f3 : 97 ≤ p0.toInt := qi_nlt c_1 rfl zc_97
    refine lv_iload_n hx hb dX6_isLetter_6 rfl (lv_at hl 0 rfl) ?_
    refine lv_bipush (v := 122) hx hb dX6_isLetter_7 (by decide) ?_
    refine lv_icmp_gt (tgt := 16) hx hb dX6_isLetter_9 (by decide) (fun c_4 => ?_) (fun c_4 => ?_)
    · skip
      have f5 : 122 < p0.toInt := qi_lt c_4 zc_122 rfl
      refine lv_iconst (v := 0) hx hb dX6_isLetter_16 (by decide) ?_
      rw [hQ]
      exact W.zret (v := 0) hx hb hr (by decide) (fun t ht hW => ⟨⟨0, 0, rfl, rfl, ⟨(ox_774 f3 f5 zc_0), (ox_27 zc_0), (ox_28 zc_0)⟩⟩, hS.F ht⟩) hS.2.2 dX6_isLetter_17
    · skip
      have f6 : p0.toInt ≤ 122 := qi_nlt c_4 zc_122 rfl
      refine lv_iconst (v := 1) hx hb dX6_isLetter_12 (by decide) ?_
      refine lv_goto (tgt := 17) hx hb dX6_isLetter_13 (by decide) ?_
      rw [hQ]
      exact W.zret (v := 1) hx hb hr (by decide) (fun t ht hW => ⟨⟨1, 1, rfl, rfl, ⟨(ox_775 f3 f6 zc_1), (ox_31 zc_1), (ox_32 zc_1)⟩⟩, hS.F ht⟩) hS.2.2 dX6_isLetter_17
set_option maxHeartbeats 4000000 in
set_option maxRecDepth 100000 in
theorem kX6_isDigit (l : Launch) (dC : Nat → ClassId) (dI : Nat → Nat → Nat) (p0 : Int32) (sz : Nat) : Met l yX6_isDigit (.code yX6_isDigit cX6_isDigit 1 (some .boolean) :: GW) { frames := 2, cells := 0, slots := 0, locals := 100 } (va_Pc [.int p0] (pR (dC, dI) [] [] sz)) (va_Qi (fun (r0 : Int32) (u : Int32) => r0 = u) (fun (u : Int32) (t : State) => (((p0.toInt ≤ (47 : Int)) ∧ (u.toInt = (0 : Int))) ∨ (((48 : Int) ≤ p0.toInt) ∧ ((58 : Int) ≤ p0.toInt) ∧ (u.toInt = (0 : Int))) ∨ (((48 : Int) ≤ p0.toInt) ∧ (p0.toInt ≤ (57 : Int)) ∧ (u.toInt = (1 : Int)))) ∧ ((0 : Int) ≤ u.toInt) ∧ (u.toInt ≤ (1 : Int))) (fun q => sz ≤ q)) 0 0 (fun q => sz ≤ q) := by
  refine Met.ofW (cc := cX6_isDigit) (maxL := 1) (ret := (some .boolean)) (by decide) rfl ?_
  intro p e s m args below meth c0 s₁ B hml hv
  obtain ⟨rfl, hsz, hP, hK⟩ := hv
  have hx := B.exec
  have hb := B.bytes
  have hr := B.returns
  have hts := atoms_spec (ws := .code yX6_isDigit cX6_isDigit 1 (some .boolean) :: GW) B.pre
  have hG : ∀ w ∈ GW, w.before _ s = true := fun w h => hts w (List.mem_cons_of_mem _ h)
  have hown : s.vm.findClass RX6 = some m.cls := findClass_of_methodNamed B.named
  subst hsz
  have hS : va_S (fun q => s.heap.size ≤ q) s.heap s.heap [] := va_S.rf
  have hP : va_P (dC, dI) vwCl [] s.heap := hP
  have hl := lv_entry ([.int p0]) (n := 1) (Nat.le_of_ble_eq_true rfl)
  rw [lg_entry_eq]
  generalize (lg_sl ([.int p0]) ++ List.replicate (1 - (lg_sl ([.int p0])).length) Slot.unset).toArray = ls at hl ⊢
  have hl : lv_has ls 1 [(0, .int p0)] := hl
  refine nameQ (fun Q hQ => ?_)
  refine lv_iload_n hx hb dX6_isDigit_0 rfl (lv_at hl 0 rfl) ?_
  refine lv_bipush (v := 48) hx hb dX6_isDigit_1 (by decide) ?_
  refine lv_icmp_lt (tgt := 16) hx hb dX6_isDigit_3 (by decide) (fun c_1 => ?_) (fun c_1 => ?_)
  · skip
    have f2 : p0.toInt < 48 := qi_lt c_1 rfl zc_48
    refine lv_iconst (v := 0) hx hb dX6_isDigit_16 (by decide) ?_
    rw [hQ]
    exact W.zret (v := 0) hx hb hr (by decide) (fun t ht hW => ⟨⟨0, 0, rfl, rfl, ⟨(ox_776 f2 zc_0), (ox_27 zc_0), (ox_28 zc_0)⟩⟩, hS.F ht⟩) hS.2.2 dX6_isDigit_17
  · skip
    have f3 : 48 ≤ p0.toInt := qi_nlt c_1 rfl zc_48
    refine lv_iload_n hx hb dX6_isDigit_6 rfl (lv_at hl 0 rfl) ?_
    refine lv_bipush (v := 57) hx hb dX6_isDigit_7 (by decide) ?_
    refine lv_icmp_gt (tgt := 16) hx hb dX6_isDigit_9 (by decide) (fun c_4 => ?_) (fun c_4 => ?_)
    · skip
      have f5 : 57 < p0.toInt := qi_lt c_4 zc_57 rfl
      refine lv_iconst (v := 0) hx hb dX6_isDigit_16 (by decide) ?_
      rw [hQ]
      exact W.zret (v := 0) hx hb hr (by decide) (fun t ht hW => ⟨⟨0, 0, rfl, rfl, ⟨(ox_777 f3 f5 zc_0), (ox_27 zc_0), (ox_28 zc_0)⟩⟩, hS.F ht⟩) hS.2.2 dX6_isDigit_17
    · skip
      have f6 : p0.toInt ≤ 57 := qi_nlt c_4 zc_57 rfl
      refine lv_iconst (v := 1) hx hb dX6_isDigit_12 (by decide) ?_
      refine lv_goto (tgt := 17) hx hb dX6_isDigit_13 (by decide) ?_
      rw [hQ]
      exact W.zret (v := 1) hx hb hr (by decide) (fun t ht hW => ⟨⟨1, 1, rfl, rfl, ⟨(ox_778 f3 f6 zc_1), (ox_31 zc_1), (ox_32 zc_1)⟩⟩, hS.F ht⟩) hS.2.2 dX6_isDigit_17
set_option maxHeartbeats 4000000 in
set_option maxRecDepth 100000 in
theorem kX2_levelOf (l : Launch) (dC : Nat → ClassId) (dI : Nat → Nat → Nat) (p0 : Int32) (sz : Nat) : Met l yX2_levelOf (.code yX2_levelOf cX2_levelOf 1 (some .int) :: GW) { frames := 2, cells := 0, slots := 0, locals := 100 } (va_Pc [.int p0] (pR (dC, dI) [] [] sz)) (va_Qi (fun (r0 : Int32) (u : Int32) => r0 = u) (fun (u : Int32) (t : State) => ((0 : Int) ≤ u.toInt + 1) ∧ (u.toInt ≤ (4 : Int))) (fun q => sz ≤ q)) 0 0 (fun q => sz ≤ q) := by
  refine Met.ofW (cc := cX2_levelOf) (maxL := 1) (ret := (some .int)) (by decide) rfl ?_
  intro p e s m args below meth c0 s₁ B hml hv
  obtain ⟨rfl, hsz, hP, hK⟩ := hv
  have hx := B.exec
  have hb := B.bytes
  have hr := B.returns
  have hts := atoms_spec (ws := .code yX2_levelOf cX2_levelOf 1 (some .int) :: GW) B.pre
  have hG : ∀ w ∈ GW, w.before _ s = true := fun w h => hts w (List.mem_cons_of_mem _ h)
  have hown : s.vm.findClass RX2 = some m.cls := findClass_of_methodNamed B.named
  subst hsz
  have hS : va_S (fun q => s.heap.size ≤ q) s.heap s.heap [] := va_S.rf
  have hP : va_P (dC, dI) vwCl [] s.heap := hP
  have hl := lv_entry ([.int p0]) (n := 1) (Nat.le_of_ble_eq_true rfl)
  rw [lg_entry_eq]
  generalize (lg_sl ([.int p0]) ++ List.replicate (1 - (lg_sl ([.int p0])).length) Slot.unset).toArray = ls at hl ⊢
  have hl : lv_has ls 1 [(0, .int p0)] := hl
  refine nameQ (fun Q hQ => ?_)
  refine lv_iload_n hx hb dX2_levelOf_0 rfl (lv_at hl 0 rfl) ?_
  rcases ls_37_42_43_45_47_60_61_62_109_110 p0 with hs1 | hs1 | hs1 | hs1 | hs1 | hs1 | hs1 | hs1 | hs1 | hs1 | hs1
  · skip
    refine lv_lookup (off := 99) (tgt := 100) hx hb dX2_levelOf_1 (by decide) (by rw [hs1]; decide) (by decide) ?_
    have f2 : p0.toInt = 37 := qi_eq hs1 rfl zc_37
    refine lv_iconst (v := 4) hx hb dX2_levelOf_100 (by decide) ?_
    rw [hQ]
    exact W.iret (v := 4) hx hb hr (fun t ht hW => ⟨⟨4, 4, rfl, rfl, ⟨(ox_779 zc_4), (ox_780 zc_4)⟩⟩, hS.F ht⟩) hS.2.2 dX2_levelOf_101
  · skip
    refine lv_lookup (off := 99) (tgt := 100) hx hb dX2_levelOf_1 (by decide) (by rw [hs1]; decide) (by decide) ?_
    have f3 : p0.toInt = 42 := qi_eq hs1 rfl zc_42
    refine lv_iconst (v := 4) hx hb dX2_levelOf_100 (by decide) ?_
    rw [hQ]
    exact W.iret (v := 4) hx hb hr (fun t ht hW => ⟨⟨4, 4, rfl, rfl, ⟨(ox_779 zc_4), (ox_780 zc_4)⟩⟩, hS.F ht⟩) hS.2.2 dX2_levelOf_101
  · skip
    refine lv_lookup (off := 97) (tgt := 98) hx hb dX2_levelOf_1 (by decide) (by rw [hs1]; decide) (by decide) ?_
    have f4 : p0.toInt = 43 := qi_eq hs1 rfl zc_43
    refine lv_iconst (v := 3) hx hb dX2_levelOf_98 (by decide) ?_
    rw [hQ]
    exact W.iret (v := 3) hx hb hr (fun t ht hW => ⟨⟨3, 3, rfl, rfl, ⟨(ox_781 zc_3), (ox_782 zc_3)⟩⟩, hS.F ht⟩) hS.2.2 dX2_levelOf_99
  · skip
    refine lv_lookup (off := 97) (tgt := 98) hx hb dX2_levelOf_1 (by decide) (by rw [hs1]; decide) (by decide) ?_
    have f5 : p0.toInt = 45 := qi_eq hs1 rfl zc_45
    refine lv_iconst (v := 3) hx hb dX2_levelOf_98 (by decide) ?_
    rw [hQ]
    exact W.iret (v := 3) hx hb hr (fun t ht hW => ⟨⟨3, 3, rfl, rfl, ⟨(ox_781 zc_3), (ox_782 zc_3)⟩⟩, hS.F ht⟩) hS.2.2 dX2_levelOf_99
  · skip
    refine lv_lookup (off := 99) (tgt := 100) hx hb dX2_levelOf_1 (by decide) (by rw [hs1]; decide) (by decide) ?_
    have f6 : p0.toInt = 47 := qi_eq hs1 rfl zc_47
    refine lv_iconst (v := 4) hx hb dX2_levelOf_100 (by decide) ?_
    rw [hQ]
    exact W.iret (v := 4) hx hb hr (fun t ht hW => ⟨⟨4, 4, rfl, rfl, ⟨(ox_779 zc_4), (ox_780 zc_4)⟩⟩, hS.F ht⟩) hS.2.2 dX2_levelOf_101
  · skip
    refine lv_lookup (off := 95) (tgt := 96) hx hb dX2_levelOf_1 (by decide) (by rw [hs1]; decide) (by decide) ?_
    have f7 : p0.toInt = 60 := qi_eq hs1 rfl zc_60
    refine lv_iconst (v := 2) hx hb dX2_levelOf_96 (by decide) ?_
    rw [hQ]
    exact W.iret (v := 2) hx hb hr (fun t ht hW => ⟨⟨2, 2, rfl, rfl, ⟨(ox_783 zc_2), (ox_495 zc_2)⟩⟩, hS.F ht⟩) hS.2.2 dX2_levelOf_97
  · skip
    refine lv_lookup (off := 95) (tgt := 96) hx hb dX2_levelOf_1 (by decide) (by rw [hs1]; decide) (by decide) ?_
    have f8 : p0.toInt = 61 := qi_eq hs1 rfl zc_61
    refine lv_iconst (v := 2) hx hb dX2_levelOf_96 (by decide) ?_
    rw [hQ]
    exact W.iret (v := 2) hx hb hr (fun t ht hW => ⟨⟨2, 2, rfl, rfl, ⟨(ox_783 zc_2), (ox_495 zc_2)⟩⟩, hS.F ht⟩) hS.2.2 dX2_levelOf_97
  · skip
    refine lv_lookup (off := 95) (tgt := 96) hx hb dX2_levelOf_1 (by decide) (by rw [hs1]; decide) (by decide) ?_
    have f9 : p0.toInt = 62 := qi_eq hs1 rfl zc_62
    refine lv_iconst (v := 2) hx hb dX2_levelOf_96 (by decide) ?_
    rw [hQ]
    exact W.iret (v := 2) hx hb hr (fun t ht hW => ⟨⟨2, 2, rfl, rfl, ⟨(ox_783 zc_2), (ox_495 zc_2)⟩⟩, hS.F ht⟩) hS.2.2 dX2_levelOf_97
  · skip
    refine lv_lookup (off := 91) (tgt := 92) hx hb dX2_levelOf_1 (by decide) (by rw [hs1]; decide) (by decide) ?_
    have f10 : p0.toInt = 109 := qi_eq hs1 rfl zc_109
    refine lv_iconst (v := 0) hx hb dX2_levelOf_92 (by decide) ?_
    rw [hQ]
    exact W.iret (v := 0) hx hb hr (fun t ht hW => ⟨⟨0, 0, rfl, rfl, ⟨(ox_784 zc_0), (ox_224 zc_0)⟩⟩, hS.F ht⟩) hS.2.2 dX2_levelOf_93
  · skip
    refine lv_lookup (off := 93) (tgt := 94) hx hb dX2_levelOf_1 (by decide) (by rw [hs1]; decide) (by decide) ?_
    have f11 : p0.toInt = 110 := qi_eq hs1 rfl zc_110
    refine lv_iconst (v := 1) hx hb dX2_levelOf_94 (by decide) ?_
    rw [hQ]
    exact W.iret (v := 1) hx hb hr (fun t ht hW => ⟨⟨1, 1, rfl, rfl, ⟨(ox_785 zc_1), (ox_485 zc_1)⟩⟩, hS.F ht⟩) hS.2.2 dX2_levelOf_95
  · skip
    refine lv_lookup (off := 101) (tgt := 102) hx hb dX2_levelOf_1 (by decide) (show Op.lookupswitch.offset [(37, 99), (42, 99), (43, 97), (45, 97), (47, 99), (60, 95), (61, 95), (62, 95), (109, 91), (110, 93)] 101 _ = 101 from ((lv_osw hs1.1 (by decide)).trans ((lv_osw hs1.2.1 (by decide)).trans ((lv_osw hs1.2.2.1 (by decide)).trans ((lv_osw hs1.2.2.2.1 (by decide)).trans ((lv_osw hs1.2.2.2.2.1 (by decide)).trans ((lv_osw hs1.2.2.2.2.2.1 (by decide)).trans ((lv_osw hs1.2.2.2.2.2.2.1 (by decide)).trans ((lv_osw hs1.2.2.2.2.2.2.2.1 (by decide)).trans ((lv_osw hs1.2.2.2.2.2.2.2.2.1 (by decide)).trans ((lv_osw hs1.2.2.2.2.2.2.2.2.2 (by decide)).trans rfl))))))))))) (by decide) ?_
    have f12 : p0.toInt ≠ 37 := qi_ne hs1.1 rfl zc_37
    have f13 : p0.toInt ≠ 42 := qi_ne hs1.2.1 rfl zc_42
    have f14 : p0.toInt ≠ 43 := qi_ne hs1.2.2.1 rfl zc_43
    have f15 : p0.toInt ≠ 45 := qi_ne hs1.2.2.2.1 rfl zc_45
    have f16 : p0.toInt ≠ 47 := qi_ne hs1.2.2.2.2.1 rfl zc_47
    have f17 : p0.toInt ≠ 60 := qi_ne hs1.2.2.2.2.2.1 rfl zc_60
    have f18 : p0.toInt ≠ 61 := qi_ne hs1.2.2.2.2.2.2.1 rfl zc_61
    have f19 : p0.toInt ≠ 62 := qi_ne hs1.2.2.2.2.2.2.2.1 rfl zc_62
    have f20 : p0.toInt ≠ 109 := qi_ne hs1.2.2.2.2.2.2.2.2.1 rfl zc_109
    have f21 : p0.toInt ≠ 110 := qi_ne hs1.2.2.2.2.2.2.2.2.2 rfl zc_110
    refine lv_iconst (v := (-1)) hx hb dX2_levelOf_102 (by decide) ?_
    rw [hQ]
    exact W.iret (v := (-1)) hx hb hr (fun t ht hW => ⟨⟨(-1), (-1), rfl, rfl, ⟨(ox_83 zc_m1), (ox_85 zc_m1)⟩⟩, hS.F ht⟩) hS.2.2 dX2_levelOf_103
set_option maxHeartbeats 4000000 in
set_option maxRecDepth 100000 in
theorem kX6_isSign (l : Launch) (dC : Nat → ClassId) (dI : Nat → Nat → Nat) (p0 : Int32) (sz : Nat) : Met l yX6_isSign (.code yX6_isSign cX6_isSign 1 (some .boolean) :: GW) { frames := 4, cells := 0, slots := 0, locals := 160 } (va_Pc [.int p0] (pR (dC, dI) [] [] sz)) (va_Qi (fun (r0 : Int32) (u : Int32) => r0 = u) (fun (u : Int32) (t : State) => (((p0.toInt = (59 : Int)) ∧ (u.toInt = (1 : Int))) ∨ ((p0.toInt ≠ (59 : Int)) ∧ (p0.toInt = (40 : Int)) ∧ (p0.toInt ≤ (58 : Int)) ∧ (u.toInt = (1 : Int))) ∨ ((p0.toInt ≠ (59 : Int)) ∧ (p0.toInt ≠ (40 : Int)) ∧ (p0.toInt = (41 : Int)) ∧ (p0.toInt ≤ (58 : Int)) ∧ ((41 : Int) ≤ p0.toInt) ∧ (u.toInt = (1 : Int))) ∨ ((p0.toInt ≠ (59 : Int)) ∧ (p0.toInt ≠ (40 : Int)) ∧ (p0.toInt ≠ (41 : Int)) ∧ (u.toInt = (0 : Int))) ∨ ((p0.toInt ≠ (59 : Int)) ∧ (p0.toInt ≠ (40 : Int)) ∧ (p0.toInt ≠ (41 : Int)) ∧ (u.toInt = (1 : Int)))) ∧ ((0 : Int) ≤ u.toInt) ∧ (u.toInt ≤ (1 : Int))) (fun q => sz ≤ q)) 0 0 (fun q => sz ≤ q) := by
  refine Met.ofW (cc := cX6_isSign) (maxL := 1) (ret := (some .boolean)) (by decide) rfl ?_
  intro p e s m args below meth c0 s₁ B hml hv
  obtain ⟨rfl, hsz, hP, hK⟩ := hv
  have hx := B.exec
  have hb := B.bytes
  have hr := B.returns
  have hts := atoms_spec (ws := .code yX6_isSign cX6_isSign 1 (some .boolean) :: GW) B.pre
  have hG : ∀ w ∈ GW, w.before _ s = true := fun w h => hts w (List.mem_cons_of_mem _ h)
  have hown : s.vm.findClass RX6 = some m.cls := findClass_of_methodNamed B.named
  subst hsz
  have hS : va_S (fun q => s.heap.size ≤ q) s.heap s.heap [] := va_S.rf
  have hP : va_P (dC, dI) vwCl [] s.heap := hP
  have hl := lv_entry ([.int p0]) (n := 1) (Nat.le_of_ble_eq_true rfl)
  rw [lg_entry_eq]
  generalize (lg_sl ([.int p0]) ++ List.replicate (1 - (lg_sl ([.int p0])).length) Slot.unset).toArray = ls at hl ⊢
  have hl : lv_has ls 1 [(0, .int p0)] := hl
  refine nameQ (fun Q hQ => ?_)
  refine lv_iload_n hx hb dX6_isSign_0 rfl (lv_at hl 0 rfl) ?_
  refine lv_bipush (v := 59) hx hb dX6_isSign_1 (by decide) ?_
  refine lv_icmp_eq (tgt := 25) hx hb dX6_isSign_3 (by decide) (fun c_1 => ?_) (fun c_1 => ?_)
  · skip
    have f2 : p0.toInt = 59 := qi_eq c_1 rfl zc_59
    refine lv_iconst (v := 1) hx hb dX6_isSign_25 (by decide) ?_
    refine lv_goto (tgt := 30) hx hb dX6_isSign_26 (by decide) ?_
    rw [hQ]
    exact W.zret (v := 1) hx hb hr (by decide) (fun t ht hW => ⟨⟨1, 1, rfl, rfl, ⟨(ox_786 f2 zc_1), (ox_31 zc_1), (ox_32 zc_1)⟩⟩, hS.F ht⟩) hS.2.2 dX6_isSign_30
  · skip
    have f3 : p0.toInt ≠ 59 := qi_ne c_1 rfl zc_59
    refine lv_iload_n hx hb dX6_isSign_6 rfl (lv_at hl 0 rfl) ?_
    refine lv_bipush (v := 40) hx hb dX6_isSign_7 (by decide) ?_
    refine lv_icmp_eq (tgt := 25) hx hb dX6_isSign_9 (by decide) (fun c_4 => ?_) (fun c_4 => ?_)
    · skip
      have f5 : p0.toInt = 40 := qi_eq c_4 rfl zc_40
      have f6 : p0.toInt ≤ (58 : Int) := (ox_787 f5)
      refine lv_iconst (v := 1) hx hb dX6_isSign_25 (by decide) ?_
      refine lv_goto (tgt := 30) hx hb dX6_isSign_26 (by decide) ?_
      rw [hQ]
      exact W.zret (v := 1) hx hb hr (by decide) (fun t ht hW => ⟨⟨1, 1, rfl, rfl, ⟨(ox_788 f5 f6 zc_1), (ox_31 zc_1), (ox_32 zc_1)⟩⟩, hS.F ht⟩) hS.2.2 dX6_isSign_30
    · skip
      have f7 : p0.toInt ≠ 40 := qi_ne c_4 rfl zc_40
      refine lv_iload_n hx hb dX6_isSign_12 rfl (lv_at hl 0 rfl) ?_
      refine lv_bipush (v := 41) hx hb dX6_isSign_13 (by decide) ?_
      refine lv_icmp_eq (tgt := 25) hx hb dX6_isSign_15 (by decide) (fun c_8 => ?_) (fun c_8 => ?_)
      · skip
        have f9 : p0.toInt = 41 := qi_eq c_8 rfl zc_41
        have f10 : p0.toInt ≤ (58 : Int) := (ox_789 f9)
        have f11 : (41 : Int) ≤ p0.toInt := (ox_790 f9 f10)
        refine lv_iconst (v := 1) hx hb dX6_isSign_25 (by decide) ?_
        refine lv_goto (tgt := 30) hx hb dX6_isSign_26 (by decide) ?_
        rw [hQ]
        exact W.zret (v := 1) hx hb hr (by decide) (fun t ht hW => ⟨⟨1, 1, rfl, rfl, ⟨(ox_791 f9 f10 f11 zc_1), (ox_31 zc_1), (ox_32 zc_1)⟩⟩, hS.F ht⟩) hS.2.2 dX6_isSign_30
      · skip
        have f12 : p0.toInt ≠ 41 := qi_ne c_8 rfl zc_41
        refine lv_iload_n hx hb dX6_isSign_18 rfl (lv_at hl 0 rfl) ?_
        refine va_calli (va_runS (As := [.int p0]) (rest := []) ⟨hx, hb, hml, hown, hG⟩ (kX2_levelOf l dC dI p0 s.heap.size) (va_cwS 1 hG (goodS gw612 gw613 gw144 gw614) rfl rfl rfl hd_X2_levelOf ⟨(Nat.le_of_ble_eq_true rfl), (Nat.le_of_ble_eq_true rfl)⟩) ⟨fbR, pR_in emptyP (emptyK hK)⟩ rfl rfl hl.1 rfl (lv_room (Nat.le_of_ble_eq_true rfl)) dX6_isSign_19 ⟨(Nat.le_of_ble_eq_true rfl), (Nat.le_of_ble_eq_true rfl)⟩) hS (fun q hq h => absurd hq (Nat.not_lt.mpr h)) (fun q h => Nat.le_trans hS.1 h) (fun r_14 u_ t_ H13 locs ht hvm hw hB hz1 hk1 hS => ?_)
        subst hw
        have hP := wk hP hk1
        obtain ⟨f15, f16⟩ := hB
        refine lv_if_lt (tgt := 29) hx hb dX6_isSign_22 (by decide) (fun c_17 => ?_) (fun c_17 => ?_)
        · skip
          have f18 : r_14.toInt < 0 := qi_lt c_17 rfl zc_0
          refine lv_iconst (v := 0) hx hb dX6_isSign_29 (by decide) ?_
          rw [hQ]
          exact W.zret (v := 0) hx hb hr (by decide) (fun t ht hW => ⟨⟨0, 0, rfl, rfl, ⟨(ox_792 f3 f7 f12 zc_0), (ox_27 zc_0), (ox_28 zc_0)⟩⟩, hS.F ht⟩) hS.2.2 dX6_isSign_30
        · skip
          have f19 : 0 ≤ r_14.toInt := qi_nlt c_17 rfl zc_0
          refine lv_iconst (v := 1) hx hb dX6_isSign_25 (by decide) ?_
          refine lv_goto (tgt := 30) hx hb dX6_isSign_26 (by decide) ?_
          rw [hQ]
          exact W.zret (v := 1) hx hb hr (by decide) (fun t ht hW => ⟨⟨1, 1, rfl, rfl, ⟨(ox_793 zc_1), (ox_31 zc_1), (ox_32 zc_1)⟩⟩, hS.F ht⟩) hS.2.2 dX6_isSign_30
set_option maxHeartbeats 4000000 in
set_option maxRecDepth 100000 in
theorem kX6_scanNumber (l : Launch) (dC : Nat → ClassId) (dI : Nat → Nat → Nat) (r : Nat → Nat) (ct : Nat → ClassId) (i_tapeLength i_time i_lyingCount i_rd_fault i_rd_token i_rd_kind i_sc_count i_sc_at i_A_tunes i_A_houses i_fA_length i_B_tunes i_B_houses i_fB_length i_acts_done i_acts_undone i_kn_count : Int32) (f_boxes f_boxKept f_trial f_offers f_A_noteCounts f_A_notes f_B_noteCounts f_B_notes f_now_where f_now_worn f_ahead_where f_ahead_worn f_acts_rows f_kn_tunes f_kn_noteTimes : Nat → Int32) (J : Nat → Nat → Int32) (L : Nat → Nat → Int64) (p1 : Int32) (sz : Nat) (hI : (IX i_tapeLength i_time i_lyingCount i_rd_token i_sc_count i_sc_at i_A_tunes i_A_houses i_fA_length i_B_tunes i_B_houses i_fB_length i_acts_done i_acts_undone i_kn_count f_boxes f_A_noteCounts f_A_notes f_B_noteCounts f_B_notes f_now_worn f_ahead_worn f_acts_rows f_kn_tunes)) (hp0 : i_sc_count.toInt ≤ (1600 : Int)) (hp1 : p1.toInt ≤ (1600 : Int)) : Met l yX6_scanNumber (.code yX6_scanNumber cX6_scanNumber 6 (some .int) :: GW) { frames := 4, cells := 0, slots := 0, locals := 160 } (va_Pc [.ref (r 2), .ref (r 11), .int p1] (pW (dC, dI) (WX r ct i_tapeLength i_time i_lyingCount i_rd_fault i_rd_token i_rd_kind i_sc_count i_sc_at i_A_tunes i_A_houses i_fA_length i_B_tunes i_B_houses i_fB_length i_acts_done i_acts_undone i_kn_count f_boxes f_boxKept f_trial f_offers f_A_noteCounts f_A_notes f_B_noteCounts f_B_notes f_now_where f_now_worn f_ahead_where f_ahead_worn f_acts_rows f_kn_tunes f_kn_noteTimes J L) (TX ct) sz)) (va_Qi (fun (r0 : Int32) (u : Int32) => r0 = u) (fun (u : Int32) (t : State) => ∃ (n_i_sc_at : Int32) (n_L : Nat → Nat → Int64), va_P (dC, dI) vwCl (WX r ct i_tapeLength i_time i_lyingCount i_rd_fault i_rd_token i_rd_kind i_sc_count n_i_sc_at i_A_tunes i_A_houses i_fA_length i_B_tunes i_B_houses i_fB_length i_acts_done i_acts_undone i_kn_count f_boxes f_boxKept f_trial f_offers f_A_noteCounts f_A_notes f_B_noteCounts f_B_notes f_now_where f_now_worn f_ahead_where f_ahead_worn f_acts_rows f_kn_tunes f_kn_noteTimes J n_L) t.heap ∧ va_D (va_A (WX r ct i_tapeLength i_time i_lyingCount i_rd_fault i_rd_token i_rd_kind i_sc_count i_sc_at i_A_tunes i_A_houses i_fA_length i_B_tunes i_B_houses i_fB_length i_acts_done i_acts_undone i_kn_count f_boxes f_boxKept f_trial f_offers f_A_noteCounts f_A_notes f_B_noteCounts f_B_notes f_now_where f_now_worn f_ahead_where f_ahead_worn f_acts_rows f_kn_tunes f_kn_noteTimes J L) sz) (WX r ct i_tapeLength i_time i_lyingCount i_rd_fault i_rd_token i_rd_kind i_sc_count n_i_sc_at i_A_tunes i_A_houses i_fA_length i_B_tunes i_B_houses i_fB_length i_acts_done i_acts_undone i_kn_count f_boxes f_boxKept f_trial f_offers f_A_noteCounts f_A_notes f_B_noteCounts f_B_notes f_now_where f_now_worn f_ahead_where f_ahead_worn f_acts_rows f_kn_tunes f_kn_noteTimes J n_L) ∧ (IX i_tapeLength i_time i_lyingCount i_rd_token i_sc_count n_i_sc_at i_A_tunes i_A_houses i_fA_length i_B_tunes i_B_houses i_fB_length i_acts_done i_acts_undone i_kn_count f_boxes f_A_noteCounts f_A_notes f_B_noteCounts f_B_notes f_now_worn f_ahead_worn f_acts_rows f_kn_tunes)) (va_A (WX r ct i_tapeLength i_time i_lyingCount i_rd_fault i_rd_token i_rd_kind i_sc_count i_sc_at i_A_tunes i_A_houses i_fA_length i_B_tunes i_B_houses i_fB_length i_acts_done i_acts_undone i_kn_count f_boxes f_boxKept f_trial f_offers f_A_noteCounts f_A_notes f_B_noteCounts f_B_notes f_now_where f_now_worn f_ahead_where f_ahead_worn f_acts_rows f_kn_tunes f_kn_noteTimes J L) sz)) 0 0 (va_A (WX r ct i_tapeLength i_time i_lyingCount i_rd_fault i_rd_token i_rd_kind i_sc_count i_sc_at i_A_tunes i_A_houses i_fA_length i_B_tunes i_B_houses i_fB_length i_acts_done i_acts_undone i_kn_count f_boxes f_boxKept f_trial f_offers f_A_noteCounts f_A_notes f_B_noteCounts f_B_notes f_now_where f_now_worn f_ahead_where f_ahead_worn f_acts_rows f_kn_tunes f_kn_noteTimes J L) sz) := by
  refine Met.ofW (cc := cX6_scanNumber) (maxL := 6) (ret := (some .int)) (by decide) rfl ?_
  intro p e s m args below meth c0 s₁ B hml hv
  obtain ⟨rfl, hsz, hP, hK, hD0⟩ := hv
  have hx := B.exec
  have hb := B.bytes
  have hr := B.returns
  have hts := atoms_spec (ws := .code yX6_scanNumber cX6_scanNumber 6 (some .int) :: GW) B.pre
  have hG : ∀ w ∈ GW, w.before _ s = true := fun w h => hts w (List.mem_cons_of_mem _ h)
  have hown : s.vm.findClass RX6 = some m.cls := findClass_of_methodNamed B.named
  subst hsz
  have hD := hD0.self (sz := s.heap.size)
  generalize hAe : va_A (WX r ct i_tapeLength i_time i_lyingCount i_rd_fault i_rd_token i_rd_kind i_sc_count i_sc_at i_A_tunes i_A_houses i_fA_length i_B_tunes i_B_houses i_fB_length i_acts_done i_acts_undone i_kn_count f_boxes f_boxKept f_trial f_offers f_A_noteCounts f_A_notes f_B_noteCounts f_B_notes f_now_where f_now_worn f_ahead_where f_ahead_worn f_acts_rows f_kn_tunes f_kn_noteTimes J L) s.heap.size = A at hD ⊢
  have hA : ∀ q : Nat, s.heap.size ≤ q → A q := fun q h => by rw [← hAe]; exact Or.inr h
  have hS : va_S A s.heap s.heap [] := va_S.rf
  have hP : va_P (dC, dI) vwCl (WX r ct i_tapeLength i_time i_lyingCount i_rd_fault i_rd_token i_rd_kind i_sc_count i_sc_at i_A_tunes i_A_houses i_fA_length i_B_tunes i_B_houses i_fB_length i_acts_done i_acts_undone i_kn_count f_boxes f_boxKept f_trial f_offers f_A_noteCounts f_A_notes f_B_noteCounts f_B_notes f_now_where f_now_worn f_ahead_where f_ahead_worn f_acts_rows f_kn_tunes f_kn_noteTimes J L) s.heap := hP
  have hl := lv_entry ([.ref (r 2), .ref (r 11), .int p1]) (n := 6) (Nat.le_of_ble_eq_true rfl)
  rw [lg_entry_eq]
  generalize (lg_sl ([.ref (r 2), .ref (r 11), .int p1]) ++ List.replicate (6 - (lg_sl ([.ref (r 2), .ref (r 11), .int p1])).length) Slot.unset).toArray = ls at hl ⊢
  have hl : lv_has ls 6 [(0, .ref (r 2)), (1, .ref (r 11)), (2, .int p1)] := hl
  refine nameQ (fun Q hQ => ?_)
  obtain ⟨ie0, ie1, ie2, ie3, ie4, ie5, ie6, ie7, ie8, ie9, ie10, ie11, ie12, ie13, ie14, ie15, ie16, ie17, ie18, ie19, ie20, ie21, ie22, ie23, ie24, ie25, ie26, ie27, ie28, ie29, ie30, ie31, ie32, ie33, ie34, ie35, ie36, ie37, ie38, ie39⟩ := id hI
  refine lv_aload_n hx hb dX6_scanNumber_0 rfl (lv_at hl 0 rfl) ?_
  refine gX_X6_26_2 hx hb hG hown hK hP dX6_scanNumber_1 ?_
  refine lv_istore_n (lv' := [(3, .int i_sc_at), (0, .ref (r 2)), (1, .ref (r 11)), (2, .int p1)]) hx hb dX6_scanNumber_4 rfl hl (by decide) rfl (fun ls hl => ?_)
  refine lv_iconst (v := 0) hx hb dX6_scanNumber_5 (by decide) ?_
  refine lv_istore (lv' := [(4, .int 0), (3, .int i_sc_at), (0, .ref (r 2)), (1, .ref (r 11)), (2, .int p1)]) hx hb dX6_scanNumber_6 hl (by decide) rfl (fun ls hl => ?_)
  refine lv_iconst (v := 0) hx hb dX6_scanNumber_8 (by decide) ?_
  refine lv_istore (lv' := [(5, .int 0), (4, .int 0), (3, .int i_sc_at), (0, .ref (r 2)), (1, .ref (r 11)), (2, .int p1)]) hx hb dX6_scanNumber_9 hl (by decide) rfl (fun ls hl => ?_)
  have L11 : ∀ (N11 : Nat) (y11_4 y11_5 : Int32) (m11_i_sc_at : Int32) (H11 : Heap) (locs : List Loc) (ls : Array Slot) (g11_0 : (0 : Int) ≤ y11_5.toInt) (g11_1 : y11_5.toInt ≤ (1600 : Int)) (g11_2 : (0 : Int) ≤ m11_i_sc_at.toInt) (g11_3 : m11_i_sc_at.toInt ≤ (1600 : Int)) (gi11_i_sc_at_lo : (0 : Int) ≤ m11_i_sc_at.toInt) (gi11_i_sc_at_hi : m11_i_sc_at.toInt ≤ (1600 : Int)) (hP : va_P (dC, dI) vwCl (WX r ct i_tapeLength i_time i_lyingCount i_rd_fault i_rd_token i_rd_kind i_sc_count m11_i_sc_at i_A_tunes i_A_houses i_fA_length i_B_tunes i_B_houses i_fB_length i_acts_done i_acts_undone i_kn_count f_boxes f_boxKept f_trial f_offers f_A_noteCounts f_A_notes f_B_noteCounts f_B_notes f_now_where f_now_worn f_ahead_where f_ahead_worn f_acts_rows f_kn_tunes f_kn_noteTimes J L) H11) (hD : va_D A (WX r ct i_tapeLength i_time i_lyingCount i_rd_fault i_rd_token i_rd_kind i_sc_count m11_i_sc_at i_A_tunes i_A_houses i_fA_length i_B_tunes i_B_houses i_fB_length i_acts_done i_acts_undone i_kn_count f_boxes f_boxKept f_trial f_offers f_A_noteCounts f_A_notes f_B_noteCounts f_B_notes f_now_where f_now_worn f_ahead_where f_ahead_worn f_acts_rows f_kn_tunes f_kn_noteTimes J L)) (hS : va_S A s.heap H11 locs) (hl : lv_has ls 6 [(0, .ref (r 2)), (1, .ref (r 11)), (2, .int p1), (3, .int i_sc_at), (4, .int y11_4), (5, .int y11_5)]) (hM : -1 * y11_5.toInt + 1600 < (N11 : Int)), W p l e { frames := 4, cells := 0, slots := 0, locals := 160 } s m ([.ref (r 2), .ref (r 11), .int p1] : List Value).toArray below meth c0 H11 locs 0 0 Q (F0 m 11 ls []) := by
    intro N11
    induction N11 with
    | zero =>
      intro y11_4 y11_5 m11_i_sc_at H11 locs ls g11_0 g11_1 g11_2 g11_3 gi11_i_sc_at_lo gi11_i_sc_at_hi hP hD hS hl hM
      exact ((ox_794 hM g11_0 g11_1)).elim
    | succ N11 ih11 =>
      intro y11_4 y11_5 m11_i_sc_at H11 locs ls g11_0 g11_1 g11_2 g11_3 gi11_i_sc_at_lo gi11_i_sc_at_hi hP hD hS hl hM
      have hM11 := msucc hM
      refine lv_iload hx hb dX6_scanNumber_11 (lv_at hl 5 rfl) ?_
      refine lv_sipush (v := 1600) hx hb dX6_scanNumber_13 (by decide) ?_
      refine lv_icmp_ge (tgt := 72) hx hb dX6_scanNumber_16 (by decide) (fun c_1 => ?_) (fun c_1 => ?_)
      · skip
        have f2 : 1600 ≤ y11_5.toInt := qi_le c_1 zc_1600 rfl
        refine lv_aload_n hx hb dX6_scanNumber_72 rfl (lv_at hl 0 rfl) ?_
        refine gX_X6_18_2 hx hb hG hown hK hP dX6_scanNumber_73 ?_
        refine lv_aload_n hx hb dX6_scanNumber_76 rfl (lv_at hl 0 rfl) ?_
        refine gX_X6_22_2 hx hb hG hown hK hP dX6_scanNumber_77 ?_
        refine lv_iload hx hb dX6_scanNumber_80 (lv_at hl 4 rfl) ?_
        refine lv_i2l (v := _) hx hb dX6_scanNumber_82 rfl ?_
        refine lv_topl (fun y3 _ => ?_)
        refine stX_22 (mm := i_sc_count.toInt) hx hb hK hP hD hS rfl (ox_795 ie8 ie9 hp0) (ox_796 ie8 ie9 hp0) dX6_scanNumber_83 (fun L5 H4 locs hP hD hS => ?_)
        refine lv_aload_n hx hb dX6_scanNumber_84 rfl (lv_at hl 0 rfl) ?_
        refine gX_X6_26_2 hx hb hG hown hK hP dX6_scanNumber_85 ?_
        refine lv_iload_n hx hb dX6_scanNumber_88 rfl (lv_at hl 3 rfl) ?_
        refine lv_isub hx hb dX6_scanNumber_89 ?_
        refine lv_topi (fun x6 ex6 => ?_)
        have f7 : x6.toInt = -1 * i_sc_at.toInt + m11_i_sc_at.toInt := (ox_799 (qi_sub ex6 rfl rfl (ox_797 ie11 g11_2) (ox_798 ie10 g11_3)))
        refine lv_iconst (v := 4) hx hb dX6_scanNumber_90 (by decide) ?_
        refine lv_icmp_gt (tgt := 114) hx hb dX6_scanNumber_91 (by decide) (fun c_8 => ?_) (fun c_8 => ?_)
        · skip
          have f9 : 4 < x6.toInt := qi_lt c_8 zc_4 rfl
          refine lv_iconst (v := 1) hx hb dX6_scanNumber_114 (by decide) ?_
          refine lv_goto (tgt := 119) hx hb dX6_scanNumber_115 (by decide) ?_
          refine lv_istore (lv' := [(5, .int 1), (0, .ref (r 2)), (1, .ref (r 11)), (2, .int p1), (3, .int i_sc_at), (4, .int y11_4)]) hx hb dX6_scanNumber_119 hl (by decide) rfl (fun ls hl => ?_)
          refine lv_iload hx hb dX6_scanNumber_121 (lv_at hl 0 rfl) ?_
          refine lv_if_eq (tgt := 130) hx hb dX6_scanNumber_123 (by decide) (fun c_10 => absurd c_10 (by decide)) (fun c_10 => ?_)
          refine lv_iconst (v := 0) hx hb dX6_scanNumber_126 (by decide) ?_
          refine lv_goto (tgt := 131) hx hb dX6_scanNumber_127 (by decide) ?_
          rw [hQ]
          exact W.iret (v := 0) hx hb hr (fun t ht hW => ⟨⟨0, 0, rfl, rfl, ⟨m11_i_sc_at, L5, by rw [ht]; exact hP, hD, ⟨ie0, ie1, ie2, ie3, ie4, ie5, ie6, ie7, ie8, ie9, gi11_i_sc_at_lo, gi11_i_sc_at_hi, ie12, ie13, ie14, ie15, ie16, ie17, ie18, ie19, ie20, ie21, ie22, ie23, ie24, ie25, ie26, ie27, ie28, ie29, ie30, ie31, ie32, ie33, ie34, ie35, ie36, ie37, ie38, ie39⟩⟩⟩, hS.F ht⟩) hS.2.2 dX6_scanNumber_131
        · skip
          have f11 : x6.toInt ≤ 4 := qi_nlt c_8 zc_4 rfl
          refine lv_aload_n hx hb dX6_scanNumber_94 rfl (lv_at hl 0 rfl) ?_
          refine gX_X6_26_2 hx hb hG hown hK hP dX6_scanNumber_95 ?_
          refine lv_iload_n hx hb dX6_scanNumber_98 rfl (lv_at hl 2 rfl) ?_
          refine lv_icmp_ge (tgt := 118) hx hb dX6_scanNumber_99 (by decide) (fun c_12 => ?_) (fun c_12 => ?_)
          · skip
            have f13 : p1.toInt ≤ m11_i_sc_at.toInt := qi_le c_12 rfl rfl
            refine lv_iconst (v := 0) hx hb dX6_scanNumber_118 (by decide) ?_
            refine lv_istore (lv' := [(5, .int 0), (0, .ref (r 2)), (1, .ref (r 11)), (2, .int p1), (3, .int i_sc_at), (4, .int y11_4)]) hx hb dX6_scanNumber_119 hl (by decide) rfl (fun ls hl => ?_)
            refine lv_iload hx hb dX6_scanNumber_121 (lv_at hl 0 rfl) ?_
            refine lv_if_eq (tgt := 130) hx hb dX6_scanNumber_123 (by decide) (fun c_14 => ?_) (fun c_14 => absurd (by decide) c_14)
            refine lv_iconst (v := 2) hx hb dX6_scanNumber_130 (by decide) ?_
            rw [hQ]
            exact W.iret (v := 2) hx hb hr (fun t ht hW => ⟨⟨2, 2, rfl, rfl, ⟨m11_i_sc_at, L5, by rw [ht]; exact hP, hD, ⟨ie0, ie1, ie2, ie3, ie4, ie5, ie6, ie7, ie8, ie9, gi11_i_sc_at_lo, gi11_i_sc_at_hi, ie12, ie13, ie14, ie15, ie16, ie17, ie18, ie19, ie20, ie21, ie22, ie23, ie24, ie25, ie26, ie27, ie28, ie29, ie30, ie31, ie32, ie33, ie34, ie35, ie36, ie37, ie38, ie39⟩⟩⟩, hS.F ht⟩) hS.2.2 dX6_scanNumber_131
          · skip
            have f15 : m11_i_sc_at.toInt < p1.toInt := qi_nle c_12 rfl rfl
            refine lv_aload_n hx hb dX6_scanNumber_102 rfl (lv_at hl 1 rfl) ?_
            refine lv_aload_n hx hb dX6_scanNumber_103 rfl (lv_at hl 0 rfl) ?_
            refine gX_X6_26_2 hx hb hG hown hK hP dX6_scanNumber_104 ?_
            refine ldX_11 (mm := m11_i_sc_at.toInt) hx hb hK hP rfl (ox_9 g11_2) (ox_800 hp1 f15) dX6_scanNumber_107 (fun x16 => ?_)
            refine va_calli (va_runS (As := [.int x16]) (rest := []) ⟨hx, hb, hml, hown, hG⟩ (kX6_isLetter l dC dI x16 H4.size) (va_cwS 1 hG (goodS gw548 gw549 gw131 gw550) rfl rfl rfl hd_X6_isLetter ⟨(Nat.le_of_ble_eq_true rfl), (Nat.le_of_ble_eq_true rfl)⟩) ⟨fbR, pR_in emptyP (emptyK hK)⟩ rfl rfl hl.1 rfl (lv_room (Nat.le_of_ble_eq_true rfl)) dX6_scanNumber_108 ⟨(Nat.le_of_ble_eq_true rfl), (Nat.le_of_ble_eq_true rfl)⟩) hS (fun q hq h => absurd hq (Nat.not_lt.mpr h)) (fun q h => hA q (Nat.le_trans hS.1 h)) (fun r_18 u_ t_ H17 locs ht hvm hw hB hz1 hk1 hS => ?_)
            subst hw
            have hP := wk hP hk1
            obtain ⟨f19, f20, f21⟩ := hB
            refine lv_if_eq (tgt := 118) hx hb dX6_scanNumber_111 (by decide) (fun c_22 => ?_) (fun c_22 => ?_)
            · skip
              have f23 : r_18.toInt = 0 := qi_eq c_22 rfl zc_0
              refine lv_iconst (v := 0) hx hb dX6_scanNumber_118 (by decide) ?_
              refine lv_istore (lv' := [(5, .int 0), (0, .ref (r 2)), (1, .ref (r 11)), (2, .int p1), (3, .int i_sc_at), (4, .int y11_4)]) hx hb dX6_scanNumber_119 hl (by decide) rfl (fun ls hl => ?_)
              refine lv_iload hx hb dX6_scanNumber_121 (lv_at hl 0 rfl) ?_
              refine lv_if_eq (tgt := 130) hx hb dX6_scanNumber_123 (by decide) (fun c_24 => ?_) (fun c_24 => absurd (by decide) c_24)
              refine lv_iconst (v := 2) hx hb dX6_scanNumber_130 (by decide) ?_
              rw [hQ]
              exact W.iret (v := 2) hx hb hr (fun t ht hW => ⟨⟨2, 2, rfl, rfl, ⟨m11_i_sc_at, L5, by rw [ht]; exact hP, hD, ⟨ie0, ie1, ie2, ie3, ie4, ie5, ie6, ie7, ie8, ie9, gi11_i_sc_at_lo, gi11_i_sc_at_hi, ie12, ie13, ie14, ie15, ie16, ie17, ie18, ie19, ie20, ie21, ie22, ie23, ie24, ie25, ie26, ie27, ie28, ie29, ie30, ie31, ie32, ie33, ie34, ie35, ie36, ie37, ie38, ie39⟩⟩⟩, hS.F ht⟩) hS.2.2 dX6_scanNumber_131
            · skip
              have f25 : r_18.toInt ≠ 0 := qi_ne c_22 rfl zc_0
              have f26 : (97 : Int) ≤ x16.toInt := (ox_801 f19 f25)
              have f27 : x16.toInt ≤ (122 : Int) := (ox_802 f19 f25)
              have f28 : r_18.toInt = (1 : Int) := (ox_803 f19 f25)
              have f29 : (1 : Int) ≤ r_18.toInt := (ox_53 f20 f21 f28)
              refine lv_iconst (v := 1) hx hb dX6_scanNumber_114 (by decide) ?_
              refine lv_goto (tgt := 119) hx hb dX6_scanNumber_115 (by decide) ?_
              refine lv_istore (lv' := [(5, .int 1), (0, .ref (r 2)), (1, .ref (r 11)), (2, .int p1), (3, .int i_sc_at), (4, .int y11_4)]) hx hb dX6_scanNumber_119 hl (by decide) rfl (fun ls hl => ?_)
              refine lv_iload hx hb dX6_scanNumber_121 (lv_at hl 0 rfl) ?_
              refine lv_if_eq (tgt := 130) hx hb dX6_scanNumber_123 (by decide) (fun c_30 => absurd c_30 (by decide)) (fun c_30 => ?_)
              refine lv_iconst (v := 0) hx hb dX6_scanNumber_126 (by decide) ?_
              refine lv_goto (tgt := 131) hx hb dX6_scanNumber_127 (by decide) ?_
              rw [hQ]
              exact W.iret (v := 0) hx hb hr (fun t ht hW => ⟨⟨0, 0, rfl, rfl, ⟨m11_i_sc_at, L5, by rw [ht]; exact hP, hD, ⟨ie0, ie1, ie2, ie3, ie4, ie5, ie6, ie7, ie8, ie9, gi11_i_sc_at_lo, gi11_i_sc_at_hi, ie12, ie13, ie14, ie15, ie16, ie17, ie18, ie19, ie20, ie21, ie22, ie23, ie24, ie25, ie26, ie27, ie28, ie29, ie30, ie31, ie32, ie33, ie34, ie35, ie36, ie37, ie38, ie39⟩⟩⟩, hS.F ht⟩) hS.2.2 dX6_scanNumber_131
      · skip
        have f31 : y11_5.toInt < 1600 := qi_nle c_1 zc_1600 rfl
        refine lv_aload_n hx hb dX6_scanNumber_19 rfl (lv_at hl 0 rfl) ?_
        refine gX_X6_26_2 hx hb hG hown hK hP dX6_scanNumber_20 ?_
        refine lv_iload_n hx hb dX6_scanNumber_23 rfl (lv_at hl 2 rfl) ?_
        refine lv_icmp_ge (tgt := 72) hx hb dX6_scanNumber_24 (by decide) (fun c_32 => ?_) (fun c_32 => ?_)
        · skip
          have f33 : p1.toInt ≤ m11_i_sc_at.toInt := qi_le c_32 rfl rfl
          refine lv_aload_n hx hb dX6_scanNumber_72 rfl (lv_at hl 0 rfl) ?_
          refine gX_X6_18_2 hx hb hG hown hK hP dX6_scanNumber_73 ?_
          refine lv_aload_n hx hb dX6_scanNumber_76 rfl (lv_at hl 0 rfl) ?_
          refine gX_X6_22_2 hx hb hG hown hK hP dX6_scanNumber_77 ?_
          refine lv_iload hx hb dX6_scanNumber_80 (lv_at hl 4 rfl) ?_
          refine lv_i2l (v := _) hx hb dX6_scanNumber_82 rfl ?_
          refine lv_topl (fun y34 _ => ?_)
          refine stX_22 (mm := i_sc_count.toInt) hx hb hK hP hD hS rfl (ox_795 ie8 ie9 hp0) (ox_796 ie8 ie9 hp0) dX6_scanNumber_83 (fun L36 H35 locs hP hD hS => ?_)
          refine lv_aload_n hx hb dX6_scanNumber_84 rfl (lv_at hl 0 rfl) ?_
          refine gX_X6_26_2 hx hb hG hown hK hP dX6_scanNumber_85 ?_
          refine lv_iload_n hx hb dX6_scanNumber_88 rfl (lv_at hl 3 rfl) ?_
          refine lv_isub hx hb dX6_scanNumber_89 ?_
          refine lv_topi (fun x37 ex37 => ?_)
          have f38 : x37.toInt = -1 * i_sc_at.toInt + m11_i_sc_at.toInt := (ox_799 (qi_sub ex37 rfl rfl (ox_797 ie11 g11_2) (ox_798 ie10 g11_3)))
          refine lv_iconst (v := 4) hx hb dX6_scanNumber_90 (by decide) ?_
          refine lv_icmp_gt (tgt := 114) hx hb dX6_scanNumber_91 (by decide) (fun c_39 => ?_) (fun c_39 => ?_)
          · skip
            have f40 : 4 < x37.toInt := qi_lt c_39 zc_4 rfl
            refine lv_iconst (v := 1) hx hb dX6_scanNumber_114 (by decide) ?_
            refine lv_goto (tgt := 119) hx hb dX6_scanNumber_115 (by decide) ?_
            refine lv_istore (lv' := [(5, .int 1), (0, .ref (r 2)), (1, .ref (r 11)), (2, .int p1), (3, .int i_sc_at), (4, .int y11_4)]) hx hb dX6_scanNumber_119 hl (by decide) rfl (fun ls hl => ?_)
            refine lv_iload hx hb dX6_scanNumber_121 (lv_at hl 0 rfl) ?_
            refine lv_if_eq (tgt := 130) hx hb dX6_scanNumber_123 (by decide) (fun c_41 => absurd c_41 (by decide)) (fun c_41 => ?_)
            refine lv_iconst (v := 0) hx hb dX6_scanNumber_126 (by decide) ?_
            refine lv_goto (tgt := 131) hx hb dX6_scanNumber_127 (by decide) ?_
            rw [hQ]
            exact W.iret (v := 0) hx hb hr (fun t ht hW => ⟨⟨0, 0, rfl, rfl, ⟨m11_i_sc_at, L36, by rw [ht]; exact hP, hD, ⟨ie0, ie1, ie2, ie3, ie4, ie5, ie6, ie7, ie8, ie9, gi11_i_sc_at_lo, gi11_i_sc_at_hi, ie12, ie13, ie14, ie15, ie16, ie17, ie18, ie19, ie20, ie21, ie22, ie23, ie24, ie25, ie26, ie27, ie28, ie29, ie30, ie31, ie32, ie33, ie34, ie35, ie36, ie37, ie38, ie39⟩⟩⟩, hS.F ht⟩) hS.2.2 dX6_scanNumber_131
          · skip
            have f42 : x37.toInt ≤ 4 := qi_nlt c_39 zc_4 rfl
            refine lv_aload_n hx hb dX6_scanNumber_94 rfl (lv_at hl 0 rfl) ?_
            refine gX_X6_26_2 hx hb hG hown hK hP dX6_scanNumber_95 ?_
            refine lv_iload_n hx hb dX6_scanNumber_98 rfl (lv_at hl 2 rfl) ?_
            refine lv_icmp_ge (tgt := 118) hx hb dX6_scanNumber_99 (by decide) (fun c_43 => ?_) (fun c_43 => ((ox_804 (qi_nle c_43 rfl rfl) f33)).elim)
            have f44 : p1.toInt ≤ m11_i_sc_at.toInt := qi_le c_43 rfl rfl
            refine lv_iconst (v := 0) hx hb dX6_scanNumber_118 (by decide) ?_
            refine lv_istore (lv' := [(5, .int 0), (0, .ref (r 2)), (1, .ref (r 11)), (2, .int p1), (3, .int i_sc_at), (4, .int y11_4)]) hx hb dX6_scanNumber_119 hl (by decide) rfl (fun ls hl => ?_)
            refine lv_iload hx hb dX6_scanNumber_121 (lv_at hl 0 rfl) ?_
            refine lv_if_eq (tgt := 130) hx hb dX6_scanNumber_123 (by decide) (fun c_45 => ?_) (fun c_45 => absurd (by decide) c_45)
            refine lv_iconst (v := 2) hx hb dX6_scanNumber_130 (by decide) ?_
            rw [hQ]
            exact W.iret (v := 2) hx hb hr (fun t ht hW => ⟨⟨2, 2, rfl, rfl, ⟨m11_i_sc_at, L36, by rw [ht]; exact hP, hD, ⟨ie0, ie1, ie2, ie3, ie4, ie5, ie6, ie7, ie8, ie9, gi11_i_sc_at_lo, gi11_i_sc_at_hi, ie12, ie13, ie14, ie15, ie16, ie17, ie18, ie19, ie20, ie21, ie22, ie23, ie24, ie25, ie26, ie27, ie28, ie29, ie30, ie31, ie32, ie33, ie34, ie35, ie36, ie37, ie38, ie39⟩⟩⟩, hS.F ht⟩) hS.2.2 dX6_scanNumber_131
        · skip
          have f46 : m11_i_sc_at.toInt < p1.toInt := qi_nle c_32 rfl rfl
          refine lv_aload_n hx hb dX6_scanNumber_27 rfl (lv_at hl 1 rfl) ?_
          refine lv_aload_n hx hb dX6_scanNumber_28 rfl (lv_at hl 0 rfl) ?_
          refine gX_X6_26_2 hx hb hG hown hK hP dX6_scanNumber_29 ?_
          refine ldX_11 (mm := m11_i_sc_at.toInt) hx hb hK hP rfl (ox_9 g11_2) (ox_800 hp1 f46) dX6_scanNumber_32 (fun x47 => ?_)
          refine va_calli (va_runS (As := [.int x47]) (rest := []) ⟨hx, hb, hml, hown, hG⟩ (kX6_isDigit l dC dI x47 H11.size) (va_cwS 1 hG (goodS gw602 gw603 gw131 gw604) rfl rfl rfl hd_X6_isDigit ⟨(Nat.le_of_ble_eq_true rfl), (Nat.le_of_ble_eq_true rfl)⟩) ⟨fbR, pR_in emptyP (emptyK hK)⟩ rfl rfl hl.1 rfl (lv_room (Nat.le_of_ble_eq_true rfl)) dX6_scanNumber_33 ⟨(Nat.le_of_ble_eq_true rfl), (Nat.le_of_ble_eq_true rfl)⟩) hS (fun q hq h => absurd hq (Nat.not_lt.mpr h)) (fun q h => hA q (Nat.le_trans hS.1 h)) (fun r_49 u_ t_ H48 locs ht hvm hw hB hz1 hk1 hS => ?_)
          subst hw
          have hP := wk hP hk1
          obtain ⟨f50, f51, f52⟩ := hB
          refine lv_if_eq (tgt := 72) hx hb dX6_scanNumber_36 (by decide) (fun c_53 => ?_) (fun c_53 => ?_)
          · skip
            have f54 : r_49.toInt = 0 := qi_eq c_53 rfl zc_0
            refine lv_aload_n hx hb dX6_scanNumber_72 rfl (lv_at hl 0 rfl) ?_
            refine gX_X6_18_2 hx hb hG hown hK hP dX6_scanNumber_73 ?_
            refine lv_aload_n hx hb dX6_scanNumber_76 rfl (lv_at hl 0 rfl) ?_
            refine gX_X6_22_2 hx hb hG hown hK hP dX6_scanNumber_77 ?_
            refine lv_iload hx hb dX6_scanNumber_80 (lv_at hl 4 rfl) ?_
            refine lv_i2l (v := _) hx hb dX6_scanNumber_82 rfl ?_
            refine lv_topl (fun y55 _ => ?_)
            refine stX_22 (mm := i_sc_count.toInt) hx hb hK hP hD hS rfl (ox_795 ie8 ie9 hp0) (ox_796 ie8 ie9 hp0) dX6_scanNumber_83 (fun L57 H56 locs hP hD hS => ?_)
            refine lv_aload_n hx hb dX6_scanNumber_84 rfl (lv_at hl 0 rfl) ?_
            refine gX_X6_26_2 hx hb hG hown hK hP dX6_scanNumber_85 ?_
            refine lv_iload_n hx hb dX6_scanNumber_88 rfl (lv_at hl 3 rfl) ?_
            refine lv_isub hx hb dX6_scanNumber_89 ?_
            refine lv_topi (fun x58 ex58 => ?_)
            have f59 : x58.toInt = -1 * i_sc_at.toInt + m11_i_sc_at.toInt := (ox_799 (qi_sub ex58 rfl rfl (ox_797 ie11 g11_2) (ox_798 ie10 g11_3)))
            refine lv_iconst (v := 4) hx hb dX6_scanNumber_90 (by decide) ?_
            refine lv_icmp_gt (tgt := 114) hx hb dX6_scanNumber_91 (by decide) (fun c_60 => ?_) (fun c_60 => ?_)
            · skip
              have f61 : 4 < x58.toInt := qi_lt c_60 zc_4 rfl
              refine lv_iconst (v := 1) hx hb dX6_scanNumber_114 (by decide) ?_
              refine lv_goto (tgt := 119) hx hb dX6_scanNumber_115 (by decide) ?_
              refine lv_istore (lv' := [(5, .int 1), (0, .ref (r 2)), (1, .ref (r 11)), (2, .int p1), (3, .int i_sc_at), (4, .int y11_4)]) hx hb dX6_scanNumber_119 hl (by decide) rfl (fun ls hl => ?_)
              refine lv_iload hx hb dX6_scanNumber_121 (lv_at hl 0 rfl) ?_
              refine lv_if_eq (tgt := 130) hx hb dX6_scanNumber_123 (by decide) (fun c_62 => absurd c_62 (by decide)) (fun c_62 => ?_)
              refine lv_iconst (v := 0) hx hb dX6_scanNumber_126 (by decide) ?_
              refine lv_goto (tgt := 131) hx hb dX6_scanNumber_127 (by decide) ?_
              rw [hQ]
              exact W.iret (v := 0) hx hb hr (fun t ht hW => ⟨⟨0, 0, rfl, rfl, ⟨m11_i_sc_at, L57, by rw [ht]; exact hP, hD, ⟨ie0, ie1, ie2, ie3, ie4, ie5, ie6, ie7, ie8, ie9, gi11_i_sc_at_lo, gi11_i_sc_at_hi, ie12, ie13, ie14, ie15, ie16, ie17, ie18, ie19, ie20, ie21, ie22, ie23, ie24, ie25, ie26, ie27, ie28, ie29, ie30, ie31, ie32, ie33, ie34, ie35, ie36, ie37, ie38, ie39⟩⟩⟩, hS.F ht⟩) hS.2.2 dX6_scanNumber_131
            · skip
              have f63 : x58.toInt ≤ 4 := qi_nlt c_60 zc_4 rfl
              refine lv_aload_n hx hb dX6_scanNumber_94 rfl (lv_at hl 0 rfl) ?_
              refine gX_X6_26_2 hx hb hG hown hK hP dX6_scanNumber_95 ?_
              refine lv_iload_n hx hb dX6_scanNumber_98 rfl (lv_at hl 2 rfl) ?_
              refine lv_icmp_ge (tgt := 118) hx hb dX6_scanNumber_99 (by decide) (fun c_64 => ((ox_805 (qi_le c_64 rfl rfl) f46)).elim) (fun c_64 => ?_)
              have f65 : m11_i_sc_at.toInt < p1.toInt := qi_nle c_64 rfl rfl
              refine lv_aload_n hx hb dX6_scanNumber_102 rfl (lv_at hl 1 rfl) ?_
              refine lv_aload_n hx hb dX6_scanNumber_103 rfl (lv_at hl 0 rfl) ?_
              refine gX_X6_26_2 hx hb hG hown hK hP dX6_scanNumber_104 ?_
              refine ldX_11 (mm := m11_i_sc_at.toInt) hx hb hK hP rfl (ox_9 g11_2) (ox_800 hp1 f46) dX6_scanNumber_107 (fun x66 => ?_)
              refine va_calli (va_runS (As := [.int x66]) (rest := []) ⟨hx, hb, hml, hown, hG⟩ (kX6_isLetter l dC dI x66 H56.size) (va_cwS 1 hG (goodS gw548 gw549 gw131 gw550) rfl rfl rfl hd_X6_isLetter ⟨(Nat.le_of_ble_eq_true rfl), (Nat.le_of_ble_eq_true rfl)⟩) ⟨fbR, pR_in emptyP (emptyK hK)⟩ rfl rfl hl.1 rfl (lv_room (Nat.le_of_ble_eq_true rfl)) dX6_scanNumber_108 ⟨(Nat.le_of_ble_eq_true rfl), (Nat.le_of_ble_eq_true rfl)⟩) hS (fun q hq h => absurd hq (Nat.not_lt.mpr h)) (fun q h => hA q (Nat.le_trans hS.1 h)) (fun r_68 u_ t_ H67 locs ht hvm hw hB hz1 hk1 hS => ?_)
              subst hw
              have hP := wk hP hk1
              obtain ⟨f69, f70, f71⟩ := hB
              refine lv_if_eq (tgt := 118) hx hb dX6_scanNumber_111 (by decide) (fun c_72 => ?_) (fun c_72 => ?_)
              · skip
                have f73 : r_68.toInt = 0 := qi_eq c_72 rfl zc_0
                refine lv_iconst (v := 0) hx hb dX6_scanNumber_118 (by decide) ?_
                refine lv_istore (lv' := [(5, .int 0), (0, .ref (r 2)), (1, .ref (r 11)), (2, .int p1), (3, .int i_sc_at), (4, .int y11_4)]) hx hb dX6_scanNumber_119 hl (by decide) rfl (fun ls hl => ?_)
                refine lv_iload hx hb dX6_scanNumber_121 (lv_at hl 0 rfl) ?_
                refine lv_if_eq (tgt := 130) hx hb dX6_scanNumber_123 (by decide) (fun c_74 => ?_) (fun c_74 => absurd (by decide) c_74)
                refine lv_iconst (v := 2) hx hb dX6_scanNumber_130 (by decide) ?_
                rw [hQ]
                exact W.iret (v := 2) hx hb hr (fun t ht hW => ⟨⟨2, 2, rfl, rfl, ⟨m11_i_sc_at, L57, by rw [ht]; exact hP, hD, ⟨ie0, ie1, ie2, ie3, ie4, ie5, ie6, ie7, ie8, ie9, gi11_i_sc_at_lo, gi11_i_sc_at_hi, ie12, ie13, ie14, ie15, ie16, ie17, ie18, ie19, ie20, ie21, ie22, ie23, ie24, ie25, ie26, ie27, ie28, ie29, ie30, ie31, ie32, ie33, ie34, ie35, ie36, ie37, ie38, ie39⟩⟩⟩, hS.F ht⟩) hS.2.2 dX6_scanNumber_131
              · skip
                have f75 : r_68.toInt ≠ 0 := qi_ne c_72 rfl zc_0
                have f76 : (97 : Int) ≤ x66.toInt := (ox_801 f69 f75)
                have f77 : x66.toInt ≤ (122 : Int) := (ox_802 f69 f75)
                have f78 : r_68.toInt = (1 : Int) := (ox_803 f69 f75)
                have f79 : (1 : Int) ≤ r_68.toInt := (ox_53 f70 f71 f78)
                refine lv_iconst (v := 1) hx hb dX6_scanNumber_114 (by decide) ?_
                refine lv_goto (tgt := 119) hx hb dX6_scanNumber_115 (by decide) ?_
                refine lv_istore (lv' := [(5, .int 1), (0, .ref (r 2)), (1, .ref (r 11)), (2, .int p1), (3, .int i_sc_at), (4, .int y11_4)]) hx hb dX6_scanNumber_119 hl (by decide) rfl (fun ls hl => ?_)
                refine lv_iload hx hb dX6_scanNumber_121 (lv_at hl 0 rfl) ?_
                refine lv_if_eq (tgt := 130) hx hb dX6_scanNumber_123 (by decide) (fun c_80 => absurd c_80 (by decide)) (fun c_80 => ?_)
                refine lv_iconst (v := 0) hx hb dX6_scanNumber_126 (by decide) ?_
                refine lv_goto (tgt := 131) hx hb dX6_scanNumber_127 (by decide) ?_
                rw [hQ]
                exact W.iret (v := 0) hx hb hr (fun t ht hW => ⟨⟨0, 0, rfl, rfl, ⟨m11_i_sc_at, L57, by rw [ht]; exact hP, hD, ⟨ie0, ie1, ie2, ie3, ie4, ie5, ie6, ie7, ie8, ie9, gi11_i_sc_at_lo, gi11_i_sc_at_hi, ie12, ie13, ie14, ie15, ie16, ie17, ie18, ie19, ie20, ie21, ie22, ie23, ie24, ie25, ie26, ie27, ie28, ie29, ie30, ie31, ie32, ie33, ie34, ie35, ie36, ie37, ie38, ie39⟩⟩⟩, hS.F ht⟩) hS.2.2 dX6_scanNumber_131
          · skip
            have f81 : r_49.toInt ≠ 0 := qi_ne c_53 rfl zc_0
            have f82 : (48 : Int) ≤ x47.toInt := (ox_806 f50 f81)
            have f83 : x47.toInt ≤ (57 : Int) := (ox_807 f50 f81)
            have f84 : r_49.toInt = (1 : Int) := (ox_808 f50 f81)
            have f85 : (1 : Int) ≤ r_49.toInt := (ox_53 f51 f52 f84)
            refine lv_iload hx hb dX6_scanNumber_39 (lv_at hl 4 rfl) ?_
            refine lv_bipush (v := 10) hx hb dX6_scanNumber_41 (by decide) ?_
            refine lv_imul hx hb dX6_scanNumber_43 ?_
            refine lv_topi (fun x86 ex86 => ?_)
            refine lv_aload_n hx hb dX6_scanNumber_44 rfl (lv_at hl 1 rfl) ?_
            refine lv_aload_n hx hb dX6_scanNumber_45 rfl (lv_at hl 0 rfl) ?_
            refine gX_X6_26_2 hx hb hG hown hK hP dX6_scanNumber_46 ?_
            refine ldX_11 (mm := m11_i_sc_at.toInt) hx hb hK hP rfl (ox_9 g11_2) (ox_800 hp1 f46) dX6_scanNumber_49 (fun x87 => ?_)
            refine lv_iadd hx hb dX6_scanNumber_50 ?_
            refine lv_topi (fun x88 ex88 => ?_)
            refine lv_bipush (v := 48) hx hb dX6_scanNumber_51 (by decide) ?_
            refine lv_isub hx hb dX6_scanNumber_53 ?_
            refine lv_topi (fun x89 ex89 => ?_)
            refine lv_istore (lv' := [(4, .int x89), (0, .ref (r 2)), (1, .ref (r 11)), (2, .int p1), (3, .int i_sc_at), (5, .int y11_5)]) hx hb dX6_scanNumber_54 hl (by decide) rfl (fun ls hl => ?_)
            refine lv_aload_n hx hb dX6_scanNumber_56 rfl (lv_at hl 1 rfl) ?_
            refine lv_dup hx hb dX6_scanNumber_57 rfl ?_
            refine gX_X6_26_2 hx hb hG hown hK hP dX6_scanNumber_58 ?_
            refine lv_iconst (v := 1) hx hb dX6_scanNumber_61 (by decide) ?_
            refine lv_iadd hx hb dX6_scanNumber_62 ?_
            refine lv_topi (fun x90 ex90 => ?_)
            have f91 : x90.toInt = m11_i_sc_at.toInt + 1 := (ox_13 (qi_add ex90 rfl zc_1 (ox_11 g11_2) (ox_12 g11_3)))
            refine pX_X6_26_2 hx hb hG hown hK hP hD hS dX6_scanNumber_63 (fun H92 locs hP hD hS => ?_)
            obtain ⟨x93, ex93⟩ : ∃ y : Int32, y = y11_5 + Int32.ofInt 1 := ⟨_, rfl⟩
            have f94 : x93.toInt = y11_5.toInt + 1 := (ox_13 (qi_add ex93 rfl (by decide) (ox_11 g11_0) (ox_12 g11_1)))
            refine lv_iinc (v := x93) (lv' := [(5, .int x93), (4, .int x89), (0, .ref (r 2)), (1, .ref (r 11)), (2, .int p1), (3, .int i_sc_at)]) hx hb dX6_scanNumber_66 hl (k := 5) rfl ex93.symm (by decide) rfl (fun ls hl => ?_)
            refine lv_goto (tgt := 11) hx hb dX6_scanNumber_69 (by decide) ?_
            exact ih11 x89 x93 x90 H92 _ _ (ox_14 g11_0 f94) (ox_15 f31 f94) (ox_14 g11_2 f91) (ox_809 hp1 f46 f91) (ox_14 g11_2 f91) (ox_809 hp1 f46 f91) hP hD hS (lv_sub hl [2, 3, 4, 5, 1, 0] rfl) (ox_810 hM11 f94)
  exact L11 (-1 * (0 : Int32).toInt + 1600 + 1).toNat 0 0 i_sc_at s.heap _ _ (ox_27 zc_0) (ox_811 zc_0) (ox_18 ie10 ie11) (ox_19 ie10 ie11) ie10 ie11 hP hD hS (lv_sub hl [3, 4, 5, 2, 1, 0] rfl) (mlt (ox_812 zc_0))
set_option maxHeartbeats 4000000 in
set_option maxRecDepth 100000 in
theorem kJ0_isLatin1_aae02 (l : Launch) (dC : Nat → ClassId) (dI : Nat → Nat → Nat) (adK adV : Nat) (fS : Nat → Int32) (sz : Nat) : Met l yJ0_isLatin1_aae02 (.code yJ0_isLatin1_aae02 cJ0_isLatin1_aae02 1 (some .boolean) :: GW) { frames := 2, cells := 0, slots := 0, locals := 100 } (va_Pc [.ref (adK)] (pZ (dC, dI) [] [] sz adK adV fS)) (va_Qi (fun (r0 : Int32) (u : Int32) => r0 = u) (fun (u : Int32) (t : State) => (u.toInt = (1 : Int))) (fun q => sz ≤ q)) 0 0 (fun q => sz ≤ q) := by
  refine Met.ofW (cc := cJ0_isLatin1_aae02) (maxL := 1) (ret := (some .boolean)) (by decide) rfl ?_
  intro p e s m args below meth c0 s₁ B hml hv
  obtain ⟨rfl, hsz, hP, hK, hZ⟩ := hv
  have hx := B.exec
  have hb := B.bytes
  have hr := B.returns
  have hts := atoms_spec (ws := .code yJ0_isLatin1_aae02 cJ0_isLatin1_aae02 1 (some .boolean) :: GW) B.pre
  have hG : ∀ w ∈ GW, w.before _ s = true := fun w h => hts w (List.mem_cons_of_mem _ h)
  have hown : s.vm.findClass RJ0 = some m.cls := findClass_of_methodNamed B.named
  subst hsz
  have hS : va_S (fun q => s.heap.size ≤ q) s.heap s.heap [] := va_S.rf
  have hP : va_P (dC, dI) vwCl [] s.heap := hP
  have hl := lv_entry ([.ref (adK)]) (n := 1) (Nat.le_of_ble_eq_true rfl)
  rw [lg_entry_eq]
  generalize (lg_sl ([.ref (adK)]) ++ List.replicate (1 - (lg_sl ([.ref (adK)])).length) Slot.unset).toArray = ls at hl ⊢
  have hl : lv_has ls 1 [(0, .ref (adK))] := hl
  refine nameQ (fun Q hQ => ?_)
  refine va_gets hx hb hZ.1 hS hown (hG _ gw570) (fun _ h9 => h9) dJ0_isLatin1_aae02_0 ?_
  refine lv_if_eq (tgt := 17) hx hb dJ0_isLatin1_aae02_3 (by decide) (fun c_1 => absurd c_1 (by decide)) (fun c_1 => ?_)
  refine lv_aload_n hx hb dJ0_isLatin1_aae02_6 rfl (lv_at hl 0 rfl) ?_
  refine vk_getf hx hb hZ.coder hS hown (hG _ gw1889) (fun _ h9 => h9) dJ0_isLatin1_aae02_7 ?_
  refine lv_if_ne (tgt := 17) hx hb dJ0_isLatin1_aae02_10 (by decide) (fun c_2 => absurd (by decide) c_2) (fun c_2 => ?_)
  refine lv_iconst (v := 1) hx hb dJ0_isLatin1_aae02_13 (by decide) ?_
  refine lv_goto (tgt := 18) hx hb dJ0_isLatin1_aae02_14 (by decide) ?_
  rw [hQ]
  exact W.zret (v := 1) hx hb hr (by decide) (fun t ht hW => ⟨⟨1, 1, rfl, rfl, (ox_813 zc_1)⟩, hS.F ht⟩) hS.2.2 dJ0_isLatin1_aae02_18
set_option maxHeartbeats 4000000 in
set_option maxRecDepth 100000 in
theorem kJ3_checkIndex_8e157 (l : Launch) (dC : Nat → ClassId) (dI : Nat → Nat → Nat) (p0 p1 : Int32) (sz : Nat) (hp0 : (0 : Int) ≤ p0.toInt) (hp1 : p0.toInt + 1 ≤ p1.toInt) : Met l yJ3_checkIndex_8e157 (.code yJ3_checkIndex_8e157 cJ3_checkIndex_8e157 3 (some .int) :: GW) { frames := 2, cells := 0, slots := 0, locals := 100 } (va_Pc [.int p0, .int p1, .null] (pR (dC, dI) [] [] sz)) (va_Qi (fun (r0 : Int32) (u : Int32) => r0 = u) (fun (u : Int32) (t : State) => True) (fun q => sz ≤ q)) 0 0 (fun q => sz ≤ q) := by
  refine Met.ofW (cc := cJ3_checkIndex_8e157) (maxL := 3) (ret := (some .int)) (by decide) rfl ?_
  intro p e s m args below meth c0 s₁ B hml hv
  obtain ⟨rfl, hsz, hP, hK⟩ := hv
  have hx := B.exec
  have hb := B.bytes
  have hr := B.returns
  have hts := atoms_spec (ws := .code yJ3_checkIndex_8e157 cJ3_checkIndex_8e157 3 (some .int) :: GW) B.pre
  have hG : ∀ w ∈ GW, w.before _ s = true := fun w h => hts w (List.mem_cons_of_mem _ h)
  have hown : s.vm.findClass RJ3 = some m.cls := findClass_of_methodNamed B.named
  subst hsz
  have hS : va_S (fun q => s.heap.size ≤ q) s.heap s.heap [] := va_S.rf
  have hP : va_P (dC, dI) vwCl [] s.heap := hP
  have hl := lv_entry ([.int p0, .int p1, .null]) (n := 3) (Nat.le_of_ble_eq_true rfl)
  rw [lg_entry_eq]
  generalize (lg_sl ([.int p0, .int p1, .null]) ++ List.replicate (3 - (lg_sl ([.int p0, .int p1, .null])).length) Slot.unset).toArray = ls at hl ⊢
  have hl : lv_has ls 3 [(0, .int p0), (1, .int p1), (2, .null)] := hl
  refine nameQ (fun Q hQ => ?_)
  refine lv_iload_n hx hb dJ3_checkIndex_8e157_0 rfl (lv_at hl 0 rfl) ?_
  refine lv_if_lt (tgt := 9) hx hb dJ3_checkIndex_8e157_1 (by decide) (fun c_1 => ((ox_814 (qi_lt c_1 rfl zc_0) hp0 hp1)).elim) (fun c_1 => ?_)
  have f2 : 0 ≤ p0.toInt := qi_nlt c_1 rfl zc_0
  refine lv_iload_n hx hb dJ3_checkIndex_8e157_4 rfl (lv_at hl 0 rfl) ?_
  refine lv_iload_n hx hb dJ3_checkIndex_8e157_5 rfl (lv_at hl 1 rfl) ?_
  refine lv_icmp_lt (tgt := 16) hx hb dJ3_checkIndex_8e157_6 (by decide) (fun c_3 => ?_) (fun c_3 => ((ox_815 (qi_nlt c_3 rfl rfl) hp0 hp1 f2)).elim)
  have f4 : p0.toInt < p1.toInt := qi_lt c_3 rfl rfl
  refine lv_iload_n hx hb dJ3_checkIndex_8e157_16 rfl (lv_at hl 0 rfl) ?_
  rw [hQ]
  exact W.iret (v := p0) hx hb hr (fun t ht hW => ⟨⟨p0, p0, rfl, rfl, trivial⟩, hS.F ht⟩) hS.2.2 dJ3_checkIndex_8e157_17
set_option maxHeartbeats 4000000 in
set_option maxRecDepth 100000 in
theorem kJ3_checkIndex_8e157_v1 (l : Launch) (dC : Nat → ClassId) (dI : Nat → Nat → Nat) (p0 p1 : Int32) (aF : Nat) (sz : Nat) (hp0 : (0 : Int) ≤ p0.toInt) (hp1 : p0.toInt + 1 ≤ p1.toInt) : Met l yJ3_checkIndex_8e157 (.code yJ3_checkIndex_8e157 cJ3_checkIndex_8e157 3 (some .int) :: GW) { frames := 2, cells := 0, slots := 0, locals := 100 } (va_Pc [.int p0, .int p1, .ref (aF)] (pR (dC, dI) [] [] sz)) (va_Qi (fun (r0 : Int32) (u : Int32) => r0 = u) (fun (u : Int32) (t : State) => True) (fun q => sz ≤ q)) 0 0 (fun q => sz ≤ q) := by
  refine Met.ofW (cc := cJ3_checkIndex_8e157) (maxL := 3) (ret := (some .int)) (by decide) rfl ?_
  intro p e s m args below meth c0 s₁ B hml hv
  obtain ⟨rfl, hsz, hP, hK⟩ := hv
  have hx := B.exec
  have hb := B.bytes
  have hr := B.returns
  have hts := atoms_spec (ws := .code yJ3_checkIndex_8e157 cJ3_checkIndex_8e157 3 (some .int) :: GW) B.pre
  have hG : ∀ w ∈ GW, w.before _ s = true := fun w h => hts w (List.mem_cons_of_mem _ h)
  have hown : s.vm.findClass RJ3 = some m.cls := findClass_of_methodNamed B.named
  subst hsz
  have hS : va_S (fun q => s.heap.size ≤ q) s.heap s.heap [] := va_S.rf
  have hP : va_P (dC, dI) vwCl [] s.heap := hP
  have hl := lv_entry ([.int p0, .int p1, .ref (aF)]) (n := 3) (Nat.le_of_ble_eq_true rfl)
  rw [lg_entry_eq]
  generalize (lg_sl ([.int p0, .int p1, .ref (aF)]) ++ List.replicate (3 - (lg_sl ([.int p0, .int p1, .ref (aF)])).length) Slot.unset).toArray = ls at hl ⊢
  have hl : lv_has ls 3 [(0, .int p0), (1, .int p1), (2, .ref (aF))] := hl
  refine nameQ (fun Q hQ => ?_)
  refine lv_iload_n hx hb dJ3_checkIndex_8e157_0 rfl (lv_at hl 0 rfl) ?_
  refine lv_if_lt (tgt := 9) hx hb dJ3_checkIndex_8e157_1 (by decide) (fun c_1 => ((ox_814 (qi_lt c_1 rfl zc_0) hp0 hp1)).elim) (fun c_1 => ?_)
  have f2 : 0 ≤ p0.toInt := qi_nlt c_1 rfl zc_0
  refine lv_iload_n hx hb dJ3_checkIndex_8e157_4 rfl (lv_at hl 0 rfl) ?_
  refine lv_iload_n hx hb dJ3_checkIndex_8e157_5 rfl (lv_at hl 1 rfl) ?_
  refine lv_icmp_lt (tgt := 16) hx hb dJ3_checkIndex_8e157_6 (by decide) (fun c_3 => ?_) (fun c_3 => ((ox_815 (qi_nlt c_3 rfl rfl) hp0 hp1 f2)).elim)
  have f4 : p0.toInt < p1.toInt := qi_lt c_3 rfl rfl
  refine lv_iload_n hx hb dJ3_checkIndex_8e157_16 rfl (lv_at hl 0 rfl) ?_
  rw [hQ]
  exact W.iret (v := p0) hx hb hr (fun t ht hW => ⟨⟨p0, p0, rfl, rfl, trivial⟩, hS.F ht⟩) hS.2.2 dJ3_checkIndex_8e157_17
set_option maxHeartbeats 4000000 in
set_option maxRecDepth 100000 in
theorem kJ0_checkIndex_df160 (l : Launch) (dC : Nat → ClassId) (dI : Nat → Nat → Nat) (p0 p1 : Int32) (adK adV : Nat) (fS : Nat → Int32) (sz : Nat) (hp0 : (0 : Int) ≤ p0.toInt) (hp1 : p0.toInt + 1 ≤ p1.toInt) : Met l yJ0_checkIndex_df160 (.code yJ0_checkIndex_df160 cJ0_checkIndex_df160 2 none :: GW) { frames := 4, cells := 0, slots := 0, locals := 162 } (va_Pc [.int p0, .int p1] (pZ (dC, dI) [] [] sz adK adV fS)) (va_Qv (fun _ : Unit => True) (fun (_ : Unit) (t : State) => True) (fun q => sz ≤ q)) 0 0 (fun q => sz ≤ q) := by
  refine Met.ofW (cc := cJ0_checkIndex_df160) (maxL := 2) (ret := none) (by decide) rfl ?_
  intro p e s m args below meth c0 s₁ B hml hv
  obtain ⟨rfl, hsz, hP, hK, hZ⟩ := hv
  have hx := B.exec
  have hb := B.bytes
  have hr := B.returns
  have hts := atoms_spec (ws := .code yJ0_checkIndex_df160 cJ0_checkIndex_df160 2 none :: GW) B.pre
  have hG : ∀ w ∈ GW, w.before _ s = true := fun w h => hts w (List.mem_cons_of_mem _ h)
  have hown : s.vm.findClass RJ0 = some m.cls := findClass_of_methodNamed B.named
  subst hsz
  have hS : va_S (fun q => s.heap.size ≤ q) s.heap s.heap [] := va_S.rf
  have hP : va_P (dC, dI) vwCl [] s.heap := hP
  have hl := lv_entry ([.int p0, .int p1]) (n := 2) (Nat.le_of_ble_eq_true rfl)
  rw [lg_entry_eq]
  generalize (lg_sl ([.int p0, .int p1]) ++ List.replicate (2 - (lg_sl ([.int p0, .int p1])).length) Slot.unset).toArray = ls at hl ⊢
  have hl : lv_has ls 2 [(0, .int p0), (1, .int p1)] := hl
  refine nameQ (fun Q hQ => ?_)
  refine lv_iload_n hx hb dJ0_checkIndex_df160_0 rfl (lv_at hl 0 rfl) ?_
  refine lv_iload_n hx hb dJ0_checkIndex_df160_1 rfl (lv_at hl 1 rfl) ?_
  rcases hZ.2.1 with hF | ⟨aF, hF⟩
  · skip
    refine va_gets hx hb hF hS hown (hG _ gw578) (fun _ h9 => h9) dJ0_checkIndex_df160_2 ?_
    refine va_calli (va_runS (As := [.int p0, .int p1, .null]) (rest := []) ⟨hx, hb, hml, hown, hG⟩ (kJ3_checkIndex_8e157 l dC dI p0 p1 s.heap.size (ox_54 hp0 hp1) (ox_816 hp0 hp1)) (va_cwS 3 hG (goodS gw580 gw581 gw142 gw582) rfl rfl rfl hd_J3_checkIndex_8e157 ⟨(Nat.le_of_ble_eq_true rfl), (Nat.le_of_ble_eq_true rfl)⟩) ⟨fbR, pR_in emptyP (emptyK hK)⟩ rfl rfl hl.1 rfl (lv_room (Nat.le_of_ble_eq_true rfl)) dJ0_checkIndex_df160_5 ⟨(Nat.le_of_ble_eq_true rfl), (Nat.le_of_ble_eq_true rfl)⟩) hS (fun q hq h => absurd hq (Nat.not_lt.mpr h)) (fun q h => Nat.le_trans hS.1 h) (fun r_2 u_ t_ H1 locs ht hvm hw hB hz1 hk1 hS => ?_)
    subst hw
    have hP := wk hP hk1
    refine lv_pop hx hb dJ0_checkIndex_df160_8 rfl ?_
    rw [hQ]
    exact W.vret hx hb hr (fun t ht hW => ⟨⟨(), rfl, trivial, trivial⟩, hS.F ht⟩) hS.2.2 dJ0_checkIndex_df160_9
  · skip
    refine va_gets hx hb hF hS hown (hG _ gw578) (fun _ h9 => h9) dJ0_checkIndex_df160_2 ?_
    refine va_calli (va_runS (As := [.int p0, .int p1, .ref (aF)]) (rest := []) ⟨hx, hb, hml, hown, hG⟩ (kJ3_checkIndex_8e157_v1 l dC dI p0 p1 aF s.heap.size (ox_54 hp0 hp1) (ox_816 hp0 hp1)) (va_cwS 3 hG (goodS gw580 gw581 gw142 gw582) rfl rfl rfl hd_J3_checkIndex_8e157 ⟨(Nat.le_of_ble_eq_true rfl), (Nat.le_of_ble_eq_true rfl)⟩) ⟨fbR, pR_in emptyP (emptyK hK)⟩ rfl rfl hl.1 rfl (lv_room (Nat.le_of_ble_eq_true rfl)) dJ0_checkIndex_df160_5 ⟨(Nat.le_of_ble_eq_true rfl), (Nat.le_of_ble_eq_true rfl)⟩) hS (fun q hq h => absurd hq (Nat.not_lt.mpr h)) (fun q h => Nat.le_trans hS.1 h) (fun r_4 u_ t_ H3 locs ht hvm hw hB hz1 hk1 hS => ?_)
    subst hw
    have hP := wk hP hk1
    refine lv_pop hx hb dJ0_checkIndex_df160_8 rfl ?_
    rw [hQ]
    exact W.vret hx hb hr (fun t ht hW => ⟨⟨(), rfl, trivial, trivial⟩, hS.F ht⟩) hS.2.2 dJ0_checkIndex_df160_9
set_option maxHeartbeats 4000000 in
set_option maxRecDepth 100000 in
theorem kJ1_charAt_3b067 (l : Launch) (dC : Nat → ClassId) (dI : Nat → Nat → Nat) (p1 : Int32) (adK adV : Nat) (fS : Nat → Int32) (sz : Nat) (hp0 : (0 : Int) ≤ p1.toInt) (hp1 : p1.toInt ≤ (151 : Int)) : Met l yJ1_charAt_3b067 (.code yJ1_charAt_3b067 cJ1_charAt_3b067 2 (some .char) :: GW) { frames := 6, cells := 0, slots := 0, locals := 223 } (va_Pc [.ref (adV), .int p1] (pZ (dC, dI) [] [] sz adK adV fS)) (va_Qi (fun (r0 : Int32) (u : Int32) => r0 = u) (fun (u : Int32) (t : State) => (narrow .char (.int u) = .int u)) (fun q => sz ≤ q)) 0 0 (fun q => sz ≤ q) := by
  refine Met.ofW (cc := cJ1_charAt_3b067) (maxL := 2) (ret := (some .char)) (by decide) rfl ?_
  intro p e s m args below meth c0 s₁ B hml hv
  obtain ⟨rfl, hsz, hP, hK, hZ⟩ := hv
  have hx := B.exec
  have hb := B.bytes
  have hr := B.returns
  have hts := atoms_spec (ws := .code yJ1_charAt_3b067 cJ1_charAt_3b067 2 (some .char) :: GW) B.pre
  have hG : ∀ w ∈ GW, w.before _ s = true := fun w h => hts w (List.mem_cons_of_mem _ h)
  have hown : s.vm.findClass RJ1 = some m.cls := findClass_of_methodNamed B.named
  subst hsz
  have hS : va_S (fun q => s.heap.size ≤ q) s.heap s.heap [] := va_S.rf
  have hP : va_P (dC, dI) vwCl [] s.heap := hP
  have hl := lv_entry ([.ref (adV), .int p1]) (n := 2) (Nat.le_of_ble_eq_true rfl)
  rw [lg_entry_eq]
  generalize (lg_sl ([.ref (adV), .int p1]) ++ List.replicate (2 - (lg_sl ([.ref (adV), .int p1])).length) Slot.unset).toArray = ls at hl ⊢
  have hl : lv_has ls 2 [(0, .ref (adV)), (1, .int p1)] := hl
  refine nameQ (fun Q hQ => ?_)
  refine lv_iload_n hx hb dJ1_charAt_3b067_0 rfl (lv_at hl 1 rfl) ?_
  refine lv_aload_n hx hb dJ1_charAt_3b067_1 rfl (lv_at hl 0 rfl) ?_
  refine va_tlen (v := 152) hx hb hZ.arr hS (by decide) dJ1_charAt_3b067_2 ?_
  refine va_callv (va_runS (As := [.int p1, .int 152]) (rest := []) ⟨hx, hb, hml, hown, hG⟩ (kJ0_checkIndex_df160 l dC dI p1 152 adK adV fS s.heap.size (ox_817 hp0 hp1) (ox_818 hp0 hp1 zc_152)) (va_cwS 2 hG (goodS gw575 gw576 gw140 gw577) rfl rfl rfl hd_J0_checkIndex_df160 ⟨(Nat.le_of_ble_eq_true rfl), (Nat.le_of_ble_eq_true rfl)⟩) ⟨fbZ, pZ_in emptyP (emptyK hK) hZ hS (fun q h => Nat.le_trans hS.1 h)⟩ rfl rfl hl.1 rfl (lv_room (Nat.le_of_ble_eq_true rfl)) dJ1_charAt_3b067_3 ⟨(Nat.le_of_ble_eq_true rfl), (Nat.le_of_ble_eq_true rfl)⟩) hS (fun q hq h => absurd hq (Nat.not_lt.mpr h)) (fun q h => Nat.le_trans hS.1 h) (fun _ t_ H1 locs ht hvm hw hB hz1 hk1 hS => ?_)
  have hP := wk hP hk1
  refine lv_aload_n hx hb dJ1_charAt_3b067_6 rfl (lv_at hl 0 rfl) ?_
  refine lv_iload_n hx hb dJ1_charAt_3b067_7 rfl (lv_at hl 1 rfl) ?_
  refine va_tb hx hb hZ.arr hS (vin3 (ox_819 hp0 hp1) (ox_820 hp0 hp1)) rfl dJ1_charAt_3b067_8 ?_
  refine lv_topi (fun x3 ex3 => ?_)
  refine lv_sipush (v := 255) hx hb dJ1_charAt_3b067_9 (by decide) ?_
  refine lv_iand hx hb dJ1_charAt_3b067_12 ?_
  refine lv_topi (fun x4 ex4 => ?_)
  refine lv_i2c (v := x4) hx hb dJ1_charAt_3b067_13 (by rw [ex4]; exact sc_c2 _) ?_
  have nc5 : narrow .char (.int x4) = .int x4 := by rw [ex4]; exact sc_nar _
  rw [hQ]
  exact W.zret (v := x4) hx hb hr nc5 (fun t ht hW => ⟨⟨x4, x4, rfl, rfl, nc5⟩, hS.F ht⟩) hS.2.2 dJ1_charAt_3b067_14
set_option maxHeartbeats 4000000 in
set_option maxRecDepth 100000 in
theorem kJ0_charAt_5068e (l : Launch) (dC : Nat → ClassId) (dI : Nat → Nat → Nat) (p0 : Int32) (adK adV : Nat) (fS : Nat → Int32) (sz : Nat) (hp0 : (0 : Int) ≤ p0.toInt) (hp1 : p0.toInt ≤ (151 : Int)) : Met l yJ0_charAt_5068e (.code yJ0_charAt_5068e cJ0_charAt_5068e 2 (some .char) :: GW) { frames := 8, cells := 0, slots := 0, locals := 284 } (va_Pc [.ref (adK), .int p0] (pZ (dC, dI) [] [] sz adK adV fS)) (va_Qi (fun (r0 : Int32) (u : Int32) => r0 = u) (fun (u : Int32) (t : State) => True) (fun q => sz ≤ q)) 0 0 (fun q => sz ≤ q) := by
  refine Met.ofW (cc := cJ0_charAt_5068e) (maxL := 2) (ret := (some .char)) (by decide) rfl ?_
  intro p e s m args below meth c0 s₁ B hml hv
  obtain ⟨rfl, hsz, hP, hK, hZ⟩ := hv
  have hx := B.exec
  have hb := B.bytes
  have hr := B.returns
  have hts := atoms_spec (ws := .code yJ0_charAt_5068e cJ0_charAt_5068e 2 (some .char) :: GW) B.pre
  have hG : ∀ w ∈ GW, w.before _ s = true := fun w h => hts w (List.mem_cons_of_mem _ h)
  have hown : s.vm.findClass RJ0 = some m.cls := findClass_of_methodNamed B.named
  subst hsz
  have hS : va_S (fun q => s.heap.size ≤ q) s.heap s.heap [] := va_S.rf
  have hP : va_P (dC, dI) vwCl [] s.heap := hP
  have hl := lv_entry ([.ref (adK), .int p0]) (n := 2) (Nat.le_of_ble_eq_true rfl)
  rw [lg_entry_eq]
  generalize (lg_sl ([.ref (adK), .int p0]) ++ List.replicate (2 - (lg_sl ([.ref (adK), .int p0])).length) Slot.unset).toArray = ls at hl ⊢
  have hl : lv_has ls 2 [(0, .ref (adK)), (1, .int p0)] := hl
  refine nameQ (fun Q hQ => ?_)
  refine lv_aload_n hx hb dJ0_charAt_5068e_0 rfl (lv_at hl 0 rfl) ?_
  refine va_calli (va_runV (As := []) (rest := []) ⟨hx, hb, hml, hown, hG⟩ (kJ0_isLatin1_aae02 l dC dI adK adV fS s.heap.size) (cwV 0 hG (goodV gw566 gw567 gw568 gw140 gw569) rfl rfl rfl hd_J0_isLatin1_aae02 ⟨(Nat.le_of_ble_eq_true rfl), (Nat.le_of_ble_eq_true rfl)⟩) ⟨fbZ, ZS.recv hZ hS, pZ_in emptyP (emptyK hK) hZ hS (fun q h => Nat.le_trans hS.1 h)⟩ rfl rfl hl.1 rfl (lv_room (Nat.le_of_ble_eq_true rfl)) dJ0_charAt_5068e_1 ⟨(Nat.le_of_ble_eq_true rfl), (Nat.le_of_ble_eq_true rfl)⟩) hS (fun q hq h => absurd hq (Nat.not_lt.mpr h)) (fun q h => Nat.le_trans hS.1 h) (fun r_2 u_ t_ H1 locs ht hvm hw hB hz1 hk1 hS => ?_)
  subst hw
  have hP := wk hP hk1
  have f3 := hB
  have f4 : r_2.toInt = (1 : Int) := (ox_821 f3)
  refine lv_if_eq (tgt := 16) hx hb dJ0_charAt_5068e_4 (by decide) (fun c_5 => ((ox_822 (qi_eq c_5 rfl zc_0) f4)).elim) (fun c_5 => ?_)
  have f6 : r_2.toInt ≠ 0 := qi_ne c_5 rfl zc_0
  refine lv_aload_n hx hb dJ0_charAt_5068e_7 rfl (lv_at hl 0 rfl) ?_
  refine vk_getf hx hb hZ.value hS hown (hG _ gw1890) (fun _ h9 => h9) dJ0_charAt_5068e_8 ?_
  refine lv_iload_n hx hb dJ0_charAt_5068e_11 rfl (lv_at hl 1 rfl) ?_
  refine va_calli (va_runS (As := [.ref (adV), .int p0]) (rest := []) ⟨hx, hb, hml, hown, hG⟩ (kJ1_charAt_3b067 l dC dI p0 adK adV fS H1.size (ox_817 hp0 hp1) (ox_823 hp0 hp1)) (va_cwS 2 hG (goodS gw572 gw573 gw141 gw574) rfl rfl rfl hd_J1_charAt_3b067 ⟨(Nat.le_of_ble_eq_true rfl), (Nat.le_of_ble_eq_true rfl)⟩) ⟨fbZ, pZ_in emptyP (emptyK hK) hZ hS (fun q h => Nat.le_trans hS.1 h)⟩ rfl rfl hl.1 rfl (lv_room (Nat.le_of_ble_eq_true rfl)) dJ0_charAt_5068e_12 ⟨(Nat.le_of_ble_eq_true rfl), (Nat.le_of_ble_eq_true rfl)⟩) hS (fun q hq h => absurd hq (Nat.not_lt.mpr h)) (fun q h => Nat.le_trans hS.1 h) (fun r_8 u_ t_ H7 locs ht hvm hw hB hz1 hk1 hS => ?_)
  subst hw
  have hP := wk hP hk1
  have f9 := hB
  rw [hQ]
  exact W.zret (v := r_8) hx hb hr f9 (fun t ht hW => ⟨⟨r_8, r_8, rfl, rfl, trivial⟩, hS.F ht⟩) hS.2.2 dJ0_charAt_5068e_15
set_option maxHeartbeats 4000000 in
set_option maxRecDepth 100000 in
theorem kX6_isSpelled (l : Launch) (dC : Nat → ClassId) (dI : Nat → Nat → Nat) (r : Nat → Nat) (ct : Nat → ClassId) (i_tapeLength i_time i_lyingCount i_rd_fault i_rd_token i_rd_kind i_sc_count i_sc_at i_A_tunes i_A_houses i_fA_length i_B_tunes i_B_houses i_fB_length i_acts_done i_acts_undone i_kn_count : Int32) (f_boxes f_boxKept f_trial f_offers f_A_noteCounts f_A_notes f_B_noteCounts f_B_notes f_now_where f_now_worn f_ahead_where f_ahead_worn f_acts_rows f_kn_tunes f_kn_noteTimes : Nat → Int32) (J : Nat → Nat → Int32) (L : Nat → Nat → Int64) (p0 p2 : Int32) (adK adV : Nat) (fS : Nat → Int32) (sz : Nat) (hI : (IX i_tapeLength i_time i_lyingCount i_rd_token i_sc_count i_sc_at i_A_tunes i_A_houses i_fA_length i_B_tunes i_B_houses i_fB_length i_acts_done i_acts_undone i_kn_count f_boxes f_A_noteCounts f_A_notes f_B_noteCounts f_B_notes f_now_worn f_ahead_worn f_acts_rows f_kn_tunes)) (hp0 : (0 : Int) ≤ p0.toInt) (hp1 : p0.toInt ≤ (18 : Int)) (hp2 : (0 : Int) ≤ p2.toInt) (hp3 : p2.toInt ≤ (1600 : Int)) : Met l yX6_isSpelled (.code yX6_isSpelled cX6_isSpelled 6 (some .boolean) :: GW) { frames := 10, cells := 0, slots := 0, locals := 345 } (va_Pc [.ref (r 2), .int p0, .ref (r 11), .int p2] (pS (dC, dI) (WX r ct i_tapeLength i_time i_lyingCount i_rd_fault i_rd_token i_rd_kind i_sc_count i_sc_at i_A_tunes i_A_houses i_fA_length i_B_tunes i_B_houses i_fB_length i_acts_done i_acts_undone i_kn_count f_boxes f_boxKept f_trial f_offers f_A_noteCounts f_A_notes f_B_noteCounts f_B_notes f_now_where f_now_worn f_ahead_where f_ahead_worn f_acts_rows f_kn_tunes f_kn_noteTimes J L) (TX ct) sz adK adV fS)) (va_Qi (fun (r0 : Int32) (u : Int32) => r0 = u) (fun (u : Int32) (t : State) => ∃ (n_J : Nat → Nat → Int32), va_P (dC, dI) vwCl (WX r ct i_tapeLength i_time i_lyingCount i_rd_fault i_rd_token i_rd_kind i_sc_count i_sc_at i_A_tunes i_A_houses i_fA_length i_B_tunes i_B_houses i_fB_length i_acts_done i_acts_undone i_kn_count f_boxes f_boxKept f_trial f_offers f_A_noteCounts f_A_notes f_B_noteCounts f_B_notes f_now_where f_now_worn f_ahead_where f_ahead_worn f_acts_rows f_kn_tunes f_kn_noteTimes n_J L) t.heap ∧ va_D (va_A (WX r ct i_tapeLength i_time i_lyingCount i_rd_fault i_rd_token i_rd_kind i_sc_count i_sc_at i_A_tunes i_A_houses i_fA_length i_B_tunes i_B_houses i_fB_length i_acts_done i_acts_undone i_kn_count f_boxes f_boxKept f_trial f_offers f_A_noteCounts f_A_notes f_B_noteCounts f_B_notes f_now_where f_now_worn f_ahead_where f_ahead_worn f_acts_rows f_kn_tunes f_kn_noteTimes J L) sz) (WX r ct i_tapeLength i_time i_lyingCount i_rd_fault i_rd_token i_rd_kind i_sc_count i_sc_at i_A_tunes i_A_houses i_fA_length i_B_tunes i_B_houses i_fB_length i_acts_done i_acts_undone i_kn_count f_boxes f_boxKept f_trial f_offers f_A_noteCounts f_A_notes f_B_noteCounts f_B_notes f_now_where f_now_worn f_ahead_where f_ahead_worn f_acts_rows f_kn_tunes f_kn_noteTimes n_J L) ∧ (IX i_tapeLength i_time i_lyingCount i_rd_token i_sc_count i_sc_at i_A_tunes i_A_houses i_fA_length i_B_tunes i_B_houses i_fB_length i_acts_done i_acts_undone i_kn_count f_boxes f_A_noteCounts f_A_notes f_B_noteCounts f_B_notes f_now_worn f_ahead_worn f_acts_rows f_kn_tunes) ∧ ((0 : Int) ≤ u.toInt) ∧ (u.toInt ≤ (1 : Int))) (va_A (WX r ct i_tapeLength i_time i_lyingCount i_rd_fault i_rd_token i_rd_kind i_sc_count i_sc_at i_A_tunes i_A_houses i_fA_length i_B_tunes i_B_houses i_fB_length i_acts_done i_acts_undone i_kn_count f_boxes f_boxKept f_trial f_offers f_A_noteCounts f_A_notes f_B_noteCounts f_B_notes f_now_where f_now_worn f_ahead_where f_ahead_worn f_acts_rows f_kn_tunes f_kn_noteTimes J L) sz)) 0 0 (va_A (WX r ct i_tapeLength i_time i_lyingCount i_rd_fault i_rd_token i_rd_kind i_sc_count i_sc_at i_A_tunes i_A_houses i_fA_length i_B_tunes i_B_houses i_fB_length i_acts_done i_acts_undone i_kn_count f_boxes f_boxKept f_trial f_offers f_A_noteCounts f_A_notes f_B_noteCounts f_B_notes f_now_where f_now_worn f_ahead_where f_ahead_worn f_acts_rows f_kn_tunes f_kn_noteTimes J L) sz) := by
  refine Met.ofW (cc := cX6_isSpelled) (maxL := 6) (ret := (some .boolean)) (by decide) rfl ?_
  intro p e s m args below meth c0 s₁ B hml hv
  obtain ⟨rfl, hsz, hP, hK, hD0, hZ⟩ := hv
  have hx := B.exec
  have hb := B.bytes
  have hr := B.returns
  have hts := atoms_spec (ws := .code yX6_isSpelled cX6_isSpelled 6 (some .boolean) :: GW) B.pre
  have hG : ∀ w ∈ GW, w.before _ s = true := fun w h => hts w (List.mem_cons_of_mem _ h)
  have hown : s.vm.findClass RX6 = some m.cls := findClass_of_methodNamed B.named
  subst hsz
  have hD := hD0.self (sz := s.heap.size)
  generalize hAe : va_A (WX r ct i_tapeLength i_time i_lyingCount i_rd_fault i_rd_token i_rd_kind i_sc_count i_sc_at i_A_tunes i_A_houses i_fA_length i_B_tunes i_B_houses i_fB_length i_acts_done i_acts_undone i_kn_count f_boxes f_boxKept f_trial f_offers f_A_noteCounts f_A_notes f_B_noteCounts f_B_notes f_now_where f_now_worn f_ahead_where f_ahead_worn f_acts_rows f_kn_tunes f_kn_noteTimes J L) s.heap.size = A at hD hZ ⊢
  have hA : ∀ q : Nat, s.heap.size ≤ q → A q := fun q h => by rw [← hAe]; exact Or.inr h
  have hS : va_S A s.heap s.heap [] := va_S.rf
  have hP : va_P (dC, dI) vwCl (WX r ct i_tapeLength i_time i_lyingCount i_rd_fault i_rd_token i_rd_kind i_sc_count i_sc_at i_A_tunes i_A_houses i_fA_length i_B_tunes i_B_houses i_fB_length i_acts_done i_acts_undone i_kn_count f_boxes f_boxKept f_trial f_offers f_A_noteCounts f_A_notes f_B_noteCounts f_B_notes f_now_where f_now_worn f_ahead_where f_ahead_worn f_acts_rows f_kn_tunes f_kn_noteTimes J L) s.heap := hP
  have hl := lv_entry ([.ref (r 2), .int p0, .ref (r 11), .int p2]) (n := 6) (Nat.le_of_ble_eq_true rfl)
  rw [lg_entry_eq]
  generalize (lg_sl ([.ref (r 2), .int p0, .ref (r 11), .int p2]) ++ List.replicate (6 - (lg_sl ([.ref (r 2), .int p0, .ref (r 11), .int p2])).length) Slot.unset).toArray = ls at hl ⊢
  have hl : lv_has ls 6 [(0, .ref (r 2)), (1, .int p0), (2, .ref (r 11)), (3, .int p2)] := hl
  refine nameQ (fun Q hQ => ?_)
  obtain ⟨ie0, ie1, ie2, ie3, ie4, ie5, ie6, ie7, ie8, ie9, ie10, ie11, ie12, ie13, ie14, ie15, ie16, ie17, ie18, ie19, ie20, ie21, ie22, ie23, ie24, ie25, ie26, ie27, ie28, ie29, ie30, ie31, ie32, ie33, ie34, ie35, ie36, ie37, ie38, ie39⟩ := id hI
  refine lv_iconst (v := 0) hx hb dX6_isSpelled_0 (by decide) ?_
  refine lv_istore (lv' := [(4, .int 0), (0, .ref (r 2)), (1, .int p0), (2, .ref (r 11)), (3, .int p2)]) hx hb dX6_isSpelled_1 hl (by decide) rfl (fun ls hl => ?_)
  have L3 : ∀ (N3 : Nat) (y3_4 : Int32) (H3 : Heap) (locs : List Loc) (ls : Array Slot) (g3_0 : (0 : Int) ≤ y3_4.toInt) (g3_1 : y3_4.toInt ≤ (8 : Int)) (hP : va_P (dC, dI) vwCl (WX r ct i_tapeLength i_time i_lyingCount i_rd_fault i_rd_token i_rd_kind i_sc_count i_sc_at i_A_tunes i_A_houses i_fA_length i_B_tunes i_B_houses i_fB_length i_acts_done i_acts_undone i_kn_count f_boxes f_boxKept f_trial f_offers f_A_noteCounts f_A_notes f_B_noteCounts f_B_notes f_now_where f_now_worn f_ahead_where f_ahead_worn f_acts_rows f_kn_tunes f_kn_noteTimes J L) H3) (hD : va_D A (WX r ct i_tapeLength i_time i_lyingCount i_rd_fault i_rd_token i_rd_kind i_sc_count i_sc_at i_A_tunes i_A_houses i_fA_length i_B_tunes i_B_houses i_fB_length i_acts_done i_acts_undone i_kn_count f_boxes f_boxKept f_trial f_offers f_A_noteCounts f_A_notes f_B_noteCounts f_B_notes f_now_where f_now_worn f_ahead_where f_ahead_worn f_acts_rows f_kn_tunes f_kn_noteTimes J L)) (hS : va_S A s.heap H3 locs) (hl : lv_has ls 6 [(0, .ref (r 2)), (1, .int p0), (2, .ref (r 11)), (3, .int p2), (4, .int y3_4)]) (hM : -1 * y3_4.toInt + 8 < (N3 : Int)), W p l e { frames := 10, cells := 0, slots := 0, locals := 345 } s m ([.ref (r 2), .int p0, .ref (r 11), .int p2] : List Value).toArray below meth c0 H3 locs 0 0 Q (F0 m 3 ls []) := by
    intro N3
    induction N3 with
    | zero =>
      intro y3_4 H3 locs ls g3_0 g3_1 hP hD hS hl hM
      exact ((ox_125 hM g3_0 g3_1)).elim
    | succ N3 ih3 =>
      intro y3_4 H3 locs ls g3_0 g3_1 hP hD hS hl hM
      have hM3 := msucc hM
      refine lv_iload hx hb dX6_isSpelled_3 (lv_at hl 4 rfl) ?_
      refine lv_bipush (v := 8) hx hb dX6_isSpelled_5 (by decide) ?_
      refine lv_icmp_ge (tgt := 59) hx hb dX6_isSpelled_7 (by decide) (fun c_1 => ?_) (fun c_1 => ?_)
      · skip
        have f2 : 8 ≤ y3_4.toInt := qi_le c_1 zc_8 rfl
        refine lv_iconst (v := 1) hx hb dX6_isSpelled_59 (by decide) ?_
        rw [hQ]
        exact W.zret (v := 1) hx hb hr (by decide) (fun t ht hW => ⟨⟨1, 1, rfl, rfl, ⟨J, by rw [ht]; exact hP, hD, hI, (ox_31 zc_1), (ox_32 zc_1)⟩⟩, hS.F ht⟩) hS.2.2 dX6_isSpelled_60
      · skip
        have f3 : y3_4.toInt < 8 := qi_nle c_1 zc_8 rfl
        refine lv_iload_n hx hb dX6_isSpelled_10 rfl (lv_at hl 3 rfl) ?_
        refine lv_iload hx hb dX6_isSpelled_11 (lv_at hl 4 rfl) ?_
        refine lv_iadd hx hb dX6_isSpelled_13 ?_
        refine lv_topi (fun x4 ex4 => ?_)
        have f5 : x4.toInt = p2.toInt + y3_4.toInt := (ox_608 (qi_add ex4 rfl rfl (ox_769 hp2 g3_0) (ox_824 hp3 g3_1)))
        refine lv_aload_n hx hb dX6_isSpelled_14 rfl (lv_at hl 0 rfl) ?_
        refine gX_X6_26_2 hx hb hG hown hK hP dX6_isSpelled_15 ?_
        refine lv_icmp_ge (tgt := 30) hx hb dX6_isSpelled_18 (by decide) (fun c_6 => ?_) (fun c_6 => ?_)
        · skip
          have f7 : i_sc_at.toInt ≤ x4.toInt := qi_le c_6 rfl rfl
          refine lv_bipush (v := 32) hx hb dX6_isSpelled_30 (by decide) ?_
          refine lv_istore (lv' := [(5, .int 32), (0, .ref (r 2)), (1, .int p0), (2, .ref (r 11)), (3, .int p2), (4, .int y3_4)]) hx hb dX6_isSpelled_32 hl (by decide) rfl (fun ls hl => ?_)
          refine lv_iload hx hb dX6_isSpelled_34 (lv_at hl 0 rfl) ?_
          refine va_ldcS hx hb hown hZ.ldc dX6_isSpelled_36 ?_
          refine lv_iload_n hx hb dX6_isSpelled_38 rfl (lv_at hl 2 rfl) ?_
          refine lv_bipush (v := 8) hx hb dX6_isSpelled_39 (by decide) ?_
          refine lv_imul hx hb dX6_isSpelled_41 ?_
          refine lv_topi (fun x8 ex8 => ?_)
          have f9 : x8.toInt = 8 * p0.toInt := (ox_64 (qi_mul ex8 rfl zc_8 (ox_825 hp0 hp1) (ox_826 hp0 hp1)))
          refine lv_iload hx hb dX6_isSpelled_42 (lv_at hl 5 rfl) ?_
          refine lv_iadd hx hb dX6_isSpelled_44 ?_
          refine lv_topi (fun x10 ex10 => ?_)
          have f11 : x10.toInt = y3_4.toInt + 8 * p0.toInt := (ox_829 (qi_add ex10 rfl rfl (ox_827 hp0 g3_0 f9) (ox_828 hp1 g3_1 f9)) f9)
          refine va_calli (va_runV (As := [.int x10]) (rest := [.int 32]) ⟨hx, hb, hml, hown, hG⟩ (kJ0_charAt_5068e l dC dI x10 adK adV fS H3.size (ox_830 hp0 g3_0 f11) (ox_831 hp1 f3 f11)) (cwV 1 hG (goodV gw562 gw563 gw564 gw140 gw565) rfl rfl rfl hd_J0_charAt_5068e ⟨(Nat.le_of_ble_eq_true rfl), (Nat.le_of_ble_eq_true rfl)⟩) ⟨fbZ, ZS.recv hZ hS, pZ_in emptyP (emptyK hK) hZ hS (fun q h => hA q (Nat.le_trans hS.1 h))⟩ rfl rfl hl.1 rfl (lv_room (Nat.le_of_ble_eq_true rfl)) dX6_isSpelled_45 ⟨(Nat.le_of_ble_eq_true rfl), (Nat.le_of_ble_eq_true rfl)⟩) hS (fun q hq h => absurd hq (Nat.not_lt.mpr h)) (fun q h => hA q (Nat.le_trans hS.1 h)) (fun r_13 u_ t_ H12 locs ht hvm hw hB hz1 hk1 hS => ?_)
          subst hw
          have hP := wk hP hk1
          refine lv_icmp_eq (tgt := 53) hx hb dX6_isSpelled_48 (by decide) (fun c_14 => ?_) (fun c_14 => ?_)
          · skip
            have f15 : 32 = r_13.toInt := qi_eq c_14 zc_32 rfl
            obtain ⟨x16, ex16⟩ : ∃ y : Int32, y = y3_4 + Int32.ofInt 1 := ⟨_, rfl⟩
            have f17 : x16.toInt = y3_4.toInt + 1 := (ox_13 (qi_add ex16 rfl (by decide) (ox_11 g3_0) (ox_130 g3_1)))
            refine lv_iinc (v := x16) (lv' := [(4, .int x16), (5, .int 32), (0, .ref (r 2)), (1, .int p0), (2, .ref (r 11)), (3, .int p2)]) hx hb dX6_isSpelled_53 hl (k := 5) rfl ex16.symm (by decide) rfl (fun ls hl => ?_)
            refine lv_goto (tgt := 3) hx hb dX6_isSpelled_56 (by decide) ?_
            exact ih3 x16 H12 _ _ (ox_14 g3_0 f17) (ox_832 f3 f17) hP hD hS (lv_sub hl [2, 3, 4, 5, 0] rfl) (ox_132 hM3 f17)
          · skip
            have f18 : 32 ≠ r_13.toInt := qi_ne c_14 zc_32 rfl
            refine lv_iconst (v := 0) hx hb dX6_isSpelled_51 (by decide) ?_
            rw [hQ]
            exact W.zret (v := 0) hx hb hr (by decide) (fun t ht hW => ⟨⟨0, 0, rfl, rfl, ⟨J, by rw [ht]; exact hP, hD, hI, (ox_27 zc_0), (ox_28 zc_0)⟩⟩, hS.F ht⟩) hS.2.2 dX6_isSpelled_52
        · skip
          have f19 : x4.toInt < i_sc_at.toInt := qi_nle c_6 rfl rfl
          refine lv_aload_n hx hb dX6_isSpelled_21 rfl (lv_at hl 2 rfl) ?_
          refine lv_iload_n hx hb dX6_isSpelled_22 rfl (lv_at hl 3 rfl) ?_
          refine lv_iload hx hb dX6_isSpelled_23 (lv_at hl 4 rfl) ?_
          refine lv_iadd hx hb dX6_isSpelled_25 ?_
          refine lv_topi (fun x20 ex20 => ?_)
          have f21 : x20.toInt = p2.toInt + y3_4.toInt := (ox_608 (qi_add ex20 rfl rfl (ox_769 hp2 g3_0) (ox_824 hp3 g3_1)))
          refine ldX_11 (mm := p2.toInt + y3_4.toInt) hx hb hK hP f21 (ox_833 hp2 g3_0) (ox_834 ie11 f19 f5) dX6_isSpelled_26 (fun x22 => ?_)
          refine lv_goto (tgt := 32) hx hb dX6_isSpelled_27 (by decide) ?_
          refine lv_istore (lv' := [(5, .int x22), (0, .ref (r 2)), (1, .int p0), (2, .ref (r 11)), (3, .int p2), (4, .int y3_4)]) hx hb dX6_isSpelled_32 hl (by decide) rfl (fun ls hl => ?_)
          refine lv_iload hx hb dX6_isSpelled_34 (lv_at hl 0 rfl) ?_
          refine va_ldcS hx hb hown hZ.ldc dX6_isSpelled_36 ?_
          refine lv_iload_n hx hb dX6_isSpelled_38 rfl (lv_at hl 2 rfl) ?_
          refine lv_bipush (v := 8) hx hb dX6_isSpelled_39 (by decide) ?_
          refine lv_imul hx hb dX6_isSpelled_41 ?_
          refine lv_topi (fun x23 ex23 => ?_)
          have f24 : x23.toInt = 8 * p0.toInt := (ox_64 (qi_mul ex23 rfl zc_8 (ox_825 hp0 hp1) (ox_826 hp0 hp1)))
          refine lv_iload hx hb dX6_isSpelled_42 (lv_at hl 5 rfl) ?_
          refine lv_iadd hx hb dX6_isSpelled_44 ?_
          refine lv_topi (fun x25 ex25 => ?_)
          have f26 : x25.toInt = y3_4.toInt + 8 * p0.toInt := (ox_829 (qi_add ex25 rfl rfl (ox_827 hp0 g3_0 f24) (ox_828 hp1 g3_1 f24)) f24)
          refine va_calli (va_runV (As := [.int x25]) (rest := [.int x22]) ⟨hx, hb, hml, hown, hG⟩ (kJ0_charAt_5068e l dC dI x25 adK adV fS H3.size (ox_830 hp0 g3_0 f26) (ox_831 hp1 f3 f26)) (cwV 1 hG (goodV gw562 gw563 gw564 gw140 gw565) rfl rfl rfl hd_J0_charAt_5068e ⟨(Nat.le_of_ble_eq_true rfl), (Nat.le_of_ble_eq_true rfl)⟩) ⟨fbZ, ZS.recv hZ hS, pZ_in emptyP (emptyK hK) hZ hS (fun q h => hA q (Nat.le_trans hS.1 h))⟩ rfl rfl hl.1 rfl (lv_room (Nat.le_of_ble_eq_true rfl)) dX6_isSpelled_45 ⟨(Nat.le_of_ble_eq_true rfl), (Nat.le_of_ble_eq_true rfl)⟩) hS (fun q hq h => absurd hq (Nat.not_lt.mpr h)) (fun q h => hA q (Nat.le_trans hS.1 h)) (fun r_28 u_ t_ H27 locs ht hvm hw hB hz1 hk1 hS => ?_)
          subst hw
          have hP := wk hP hk1
          refine lv_icmp_eq (tgt := 53) hx hb dX6_isSpelled_48 (by decide) (fun c_29 => ?_) (fun c_29 => ?_)
          · skip
            have f30 : x22.toInt = r_28.toInt := qi_eq c_29 rfl rfl
            obtain ⟨x31, ex31⟩ : ∃ y : Int32, y = y3_4 + Int32.ofInt 1 := ⟨_, rfl⟩
            have f32 : x31.toInt = y3_4.toInt + 1 := (ox_13 (qi_add ex31 rfl (by decide) (ox_11 g3_0) (ox_130 g3_1)))
            refine lv_iinc (v := x31) (lv' := [(4, .int x31), (5, .int x22), (0, .ref (r 2)), (1, .int p0), (2, .ref (r 11)), (3, .int p2)]) hx hb dX6_isSpelled_53 hl (k := 5) rfl ex31.symm (by decide) rfl (fun ls hl => ?_)
            refine lv_goto (tgt := 3) hx hb dX6_isSpelled_56 (by decide) ?_
            exact ih3 x31 H27 _ _ (ox_14 g3_0 f32) (ox_832 f3 f32) hP hD hS (lv_sub hl [2, 3, 4, 5, 0] rfl) (ox_132 hM3 f32)
          · skip
            have f33 : x22.toInt ≠ r_28.toInt := qi_ne c_29 rfl rfl
            refine lv_iconst (v := 0) hx hb dX6_isSpelled_51 (by decide) ?_
            rw [hQ]
            exact W.zret (v := 0) hx hb hr (by decide) (fun t ht hW => ⟨⟨0, 0, rfl, rfl, ⟨J, by rw [ht]; exact hP, hD, hI, (ox_27 zc_0), (ox_28 zc_0)⟩⟩, hS.F ht⟩) hS.2.2 dX6_isSpelled_52
  exact L3 (-1 * (0 : Int32).toInt + 8 + 1).toNat 0 s.heap _ _ (ox_27 zc_0) (ox_205 zc_0) hP hD hS (lv_sub hl [1, 2, 3, 4, 0] rfl) (mlt (ox_210 zc_0))
set_option maxHeartbeats 4000000 in
set_option maxRecDepth 100000 in
theorem kX6_scanWord (l : Launch) (dC : Nat → ClassId) (dI : Nat → Nat → Nat) (r : Nat → Nat) (ct : Nat → ClassId) (i_tapeLength i_time i_lyingCount i_rd_fault i_rd_token i_rd_kind i_sc_count i_sc_at i_A_tunes i_A_houses i_fA_length i_B_tunes i_B_houses i_fB_length i_acts_done i_acts_undone i_kn_count : Int32) (f_boxes f_boxKept f_trial f_offers f_A_noteCounts f_A_notes f_B_noteCounts f_B_notes f_now_where f_now_worn f_ahead_where f_ahead_worn f_acts_rows f_kn_tunes f_kn_noteTimes : Nat → Int32) (J : Nat → Nat → Int32) (L : Nat → Nat → Int64) (p1 : Int32) (adK adV : Nat) (fS : Nat → Int32) (sz : Nat) (hI : (IX i_tapeLength i_time i_lyingCount i_rd_token i_sc_count i_sc_at i_A_tunes i_A_houses i_fA_length i_B_tunes i_B_houses i_fB_length i_acts_done i_acts_undone i_kn_count f_boxes f_A_noteCounts f_A_notes f_B_noteCounts f_B_notes f_now_worn f_ahead_worn f_acts_rows f_kn_tunes)) (hp0 : i_sc_count.toInt ≤ (1600 : Int)) (hp1 : p1.toInt ≤ (1600 : Int)) : Met l yX6_scanWord (.code yX6_scanWord cX6_scanWord 7 (some .int) :: GW) { frames := 12, cells := 0, slots := 0, locals := 410 } (va_Pc [.ref (r 2), .ref (r 11), .int p1] (pS (dC, dI) (WX r ct i_tapeLength i_time i_lyingCount i_rd_fault i_rd_token i_rd_kind i_sc_count i_sc_at i_A_tunes i_A_houses i_fA_length i_B_tunes i_B_houses i_fB_length i_acts_done i_acts_undone i_kn_count f_boxes f_boxKept f_trial f_offers f_A_noteCounts f_A_notes f_B_noteCounts f_B_notes f_now_where f_now_worn f_ahead_where f_ahead_worn f_acts_rows f_kn_tunes f_kn_noteTimes J L) (TX ct) sz adK adV fS)) (va_Qi (fun (r0 : Int32) (u : Int32) => r0 = u) (fun (u : Int32) (t : State) => ∃ (n_i_sc_at : Int32) (n_J : Nat → Nat → Int32) (n_L : Nat → Nat → Int64), va_P (dC, dI) vwCl (WX r ct i_tapeLength i_time i_lyingCount i_rd_fault i_rd_token i_rd_kind i_sc_count n_i_sc_at i_A_tunes i_A_houses i_fA_length i_B_tunes i_B_houses i_fB_length i_acts_done i_acts_undone i_kn_count f_boxes f_boxKept f_trial f_offers f_A_noteCounts f_A_notes f_B_noteCounts f_B_notes f_now_where f_now_worn f_ahead_where f_ahead_worn f_acts_rows f_kn_tunes f_kn_noteTimes n_J n_L) t.heap ∧ va_D (va_A (WX r ct i_tapeLength i_time i_lyingCount i_rd_fault i_rd_token i_rd_kind i_sc_count i_sc_at i_A_tunes i_A_houses i_fA_length i_B_tunes i_B_houses i_fB_length i_acts_done i_acts_undone i_kn_count f_boxes f_boxKept f_trial f_offers f_A_noteCounts f_A_notes f_B_noteCounts f_B_notes f_now_where f_now_worn f_ahead_where f_ahead_worn f_acts_rows f_kn_tunes f_kn_noteTimes J L) sz) (WX r ct i_tapeLength i_time i_lyingCount i_rd_fault i_rd_token i_rd_kind i_sc_count n_i_sc_at i_A_tunes i_A_houses i_fA_length i_B_tunes i_B_houses i_fB_length i_acts_done i_acts_undone i_kn_count f_boxes f_boxKept f_trial f_offers f_A_noteCounts f_A_notes f_B_noteCounts f_B_notes f_now_where f_now_worn f_ahead_where f_ahead_worn f_acts_rows f_kn_tunes f_kn_noteTimes n_J n_L) ∧ (IX i_tapeLength i_time i_lyingCount i_rd_token i_sc_count n_i_sc_at i_A_tunes i_A_houses i_fA_length i_B_tunes i_B_houses i_fB_length i_acts_done i_acts_undone i_kn_count f_boxes f_A_noteCounts f_A_notes f_B_noteCounts f_B_notes f_now_worn f_ahead_worn f_acts_rows f_kn_tunes)) (va_A (WX r ct i_tapeLength i_time i_lyingCount i_rd_fault i_rd_token i_rd_kind i_sc_count i_sc_at i_A_tunes i_A_houses i_fA_length i_B_tunes i_B_houses i_fB_length i_acts_done i_acts_undone i_kn_count f_boxes f_boxKept f_trial f_offers f_A_noteCounts f_A_notes f_B_noteCounts f_B_notes f_now_where f_now_worn f_ahead_where f_ahead_worn f_acts_rows f_kn_tunes f_kn_noteTimes J L) sz)) 0 0 (va_A (WX r ct i_tapeLength i_time i_lyingCount i_rd_fault i_rd_token i_rd_kind i_sc_count i_sc_at i_A_tunes i_A_houses i_fA_length i_B_tunes i_B_houses i_fB_length i_acts_done i_acts_undone i_kn_count f_boxes f_boxKept f_trial f_offers f_A_noteCounts f_A_notes f_B_noteCounts f_B_notes f_now_where f_now_worn f_ahead_where f_ahead_worn f_acts_rows f_kn_tunes f_kn_noteTimes J L) sz) := by
  refine Met.ofW (cc := cX6_scanWord) (maxL := 7) (ret := (some .int)) (by decide) rfl ?_
  intro p e s m args below meth c0 s₁ B hml hv
  obtain ⟨rfl, hsz, hP, hK, hD0, hZ⟩ := hv
  have hx := B.exec
  have hb := B.bytes
  have hr := B.returns
  have hts := atoms_spec (ws := .code yX6_scanWord cX6_scanWord 7 (some .int) :: GW) B.pre
  have hG : ∀ w ∈ GW, w.before _ s = true := fun w h => hts w (List.mem_cons_of_mem _ h)
  have hown : s.vm.findClass RX6 = some m.cls := findClass_of_methodNamed B.named
  subst hsz
  have hD := hD0.self (sz := s.heap.size)
  generalize hAe : va_A (WX r ct i_tapeLength i_time i_lyingCount i_rd_fault i_rd_token i_rd_kind i_sc_count i_sc_at i_A_tunes i_A_houses i_fA_length i_B_tunes i_B_houses i_fB_length i_acts_done i_acts_undone i_kn_count f_boxes f_boxKept f_trial f_offers f_A_noteCounts f_A_notes f_B_noteCounts f_B_notes f_now_where f_now_worn f_ahead_where f_ahead_worn f_acts_rows f_kn_tunes f_kn_noteTimes J L) s.heap.size = A at hD hZ ⊢
  have hA : ∀ q : Nat, s.heap.size ≤ q → A q := fun q h => by rw [← hAe]; exact Or.inr h
  have hS : va_S A s.heap s.heap [] := va_S.rf
  have hP : va_P (dC, dI) vwCl (WX r ct i_tapeLength i_time i_lyingCount i_rd_fault i_rd_token i_rd_kind i_sc_count i_sc_at i_A_tunes i_A_houses i_fA_length i_B_tunes i_B_houses i_fB_length i_acts_done i_acts_undone i_kn_count f_boxes f_boxKept f_trial f_offers f_A_noteCounts f_A_notes f_B_noteCounts f_B_notes f_now_where f_now_worn f_ahead_where f_ahead_worn f_acts_rows f_kn_tunes f_kn_noteTimes J L) s.heap := hP
  have hl := lv_entry ([.ref (r 2), .ref (r 11), .int p1]) (n := 7) (Nat.le_of_ble_eq_true rfl)
  rw [lg_entry_eq]
  generalize (lg_sl ([.ref (r 2), .ref (r 11), .int p1]) ++ List.replicate (7 - (lg_sl ([.ref (r 2), .ref (r 11), .int p1])).length) Slot.unset).toArray = ls at hl ⊢
  have hl : lv_has ls 7 [(0, .ref (r 2)), (1, .ref (r 11)), (2, .int p1)] := hl
  refine nameQ (fun Q hQ => ?_)
  obtain ⟨ie0, ie1, ie2, ie3, ie4, ie5, ie6, ie7, ie8, ie9, ie10, ie11, ie12, ie13, ie14, ie15, ie16, ie17, ie18, ie19, ie20, ie21, ie22, ie23, ie24, ie25, ie26, ie27, ie28, ie29, ie30, ie31, ie32, ie33, ie34, ie35, ie36, ie37, ie38, ie39⟩ := id hI
  refine lv_aload_n hx hb dX6_scanWord_0 rfl (lv_at hl 0 rfl) ?_
  refine gX_X6_26_2 hx hb hG hown hK hP dX6_scanWord_1 ?_
  refine lv_istore_n (lv' := [(3, .int i_sc_at), (0, .ref (r 2)), (1, .ref (r 11)), (2, .int p1)]) hx hb dX6_scanWord_4 rfl hl (by decide) rfl (fun ls hl => ?_)
  refine lv_lconst (v := 0) hx hb dX6_scanWord_5 (by decide) ?_
  refine lv_lstore (lv' := [(4, .long (0 : Int64)), (3, .int i_sc_at), (0, .ref (r 2)), (1, .ref (r 11)), (2, .int p1)]) hx hb dX6_scanWord_6 hl (by decide) rfl (fun ls hl => ?_)
  refine lv_iconst (v := 0) hx hb dX6_scanWord_8 (by decide) ?_
  refine lv_istore (lv' := [(6, .int 0), (4, .long (0 : Int64)), (3, .int i_sc_at), (0, .ref (r 2)), (1, .ref (r 11)), (2, .int p1)]) hx hb dX6_scanWord_9 hl (by decide) rfl (fun ls hl => ?_)
  have L11 : ∀ (N11 : Nat) (y11_6 : Int32) (y11_4 : Int64) (m11_i_sc_at : Int32) (H11 : Heap) (locs : List Loc) (ls : Array Slot) (g11_0 : (0 : Int) ≤ y11_6.toInt) (g11_1 : y11_6.toInt ≤ (1600 : Int)) (g11_2 : (0 : Int) ≤ m11_i_sc_at.toInt) (g11_3 : m11_i_sc_at.toInt ≤ (1600 : Int)) (gi11_i_sc_at_lo : (0 : Int) ≤ m11_i_sc_at.toInt) (gi11_i_sc_at_hi : m11_i_sc_at.toInt ≤ (1600 : Int)) (hP : va_P (dC, dI) vwCl (WX r ct i_tapeLength i_time i_lyingCount i_rd_fault i_rd_token i_rd_kind i_sc_count m11_i_sc_at i_A_tunes i_A_houses i_fA_length i_B_tunes i_B_houses i_fB_length i_acts_done i_acts_undone i_kn_count f_boxes f_boxKept f_trial f_offers f_A_noteCounts f_A_notes f_B_noteCounts f_B_notes f_now_where f_now_worn f_ahead_where f_ahead_worn f_acts_rows f_kn_tunes f_kn_noteTimes J L) H11) (hD : va_D A (WX r ct i_tapeLength i_time i_lyingCount i_rd_fault i_rd_token i_rd_kind i_sc_count m11_i_sc_at i_A_tunes i_A_houses i_fA_length i_B_tunes i_B_houses i_fB_length i_acts_done i_acts_undone i_kn_count f_boxes f_boxKept f_trial f_offers f_A_noteCounts f_A_notes f_B_noteCounts f_B_notes f_now_where f_now_worn f_ahead_where f_ahead_worn f_acts_rows f_kn_tunes f_kn_noteTimes J L)) (hS : va_S A s.heap H11 locs) (hl : lv_has ls 7 [(0, .ref (r 2)), (1, .ref (r 11)), (2, .int p1), (3, .int i_sc_at), (4, .long y11_4), (6, .int y11_6)]) (hM : -1 * y11_6.toInt + 1600 < (N11 : Int)), W p l e { frames := 12, cells := 0, slots := 0, locals := 410 } s m ([.ref (r 2), .ref (r 11), .int p1] : List Value).toArray below meth c0 H11 locs 0 0 Q (F0 m 11 ls []) := by
    intro N11
    induction N11 with
    | zero =>
      intro y11_6 y11_4 m11_i_sc_at H11 locs ls g11_0 g11_1 g11_2 g11_3 gi11_i_sc_at_lo gi11_i_sc_at_hi hP hD hS hl hM
      exact ((ox_794 hM g11_0 g11_1)).elim
    | succ N11 ih11 =>
      intro y11_6 y11_4 m11_i_sc_at H11 locs ls g11_0 g11_1 g11_2 g11_3 gi11_i_sc_at_lo gi11_i_sc_at_hi hP hD hS hl hM
      have hM11 := msucc hM
      refine lv_iload hx hb dX6_scanWord_11 (lv_at hl 5 rfl) ?_
      refine lv_sipush (v := 1600) hx hb dX6_scanWord_13 (by decide) ?_
      refine lv_icmp_ge (tgt := 77) hx hb dX6_scanWord_16 (by decide) (fun c_1 => ?_) (fun c_1 => ?_)
      · skip
        have f2 : 1600 ≤ y11_6.toInt := qi_le c_1 zc_1600 rfl
        refine lv_aload_n hx hb dX6_scanWord_77 rfl (lv_at hl 0 rfl) ?_
        refine gX_X6_26_2 hx hb hG hown hK hP dX6_scanWord_78 ?_
        refine lv_iload_n hx hb dX6_scanWord_81 rfl (lv_at hl 3 rfl) ?_
        refine lv_isub hx hb dX6_scanWord_82 ?_
        refine lv_topi (fun x3 ex3 => ?_)
        have f4 : x3.toInt = -1 * i_sc_at.toInt + m11_i_sc_at.toInt := (ox_799 (qi_sub ex3 rfl rfl (ox_797 ie11 g11_2) (ox_798 ie10 g11_3)))
        refine lv_bipush (v := 8) hx hb dX6_scanWord_83 (by decide) ?_
        refine lv_icmp_le (tgt := 90) hx hb dX6_scanWord_85 (by decide) (fun c_5 => ?_) (fun c_5 => ?_)
        · skip
          have f6 : x3.toInt ≤ 8 := qi_le c_5 rfl zc_8
          refine lv_aload_n hx hb dX6_scanWord_90 rfl (lv_at hl 0 rfl) ?_
          refine gX_X6_18_2 hx hb hG hown hK hP dX6_scanWord_91 ?_
          refine lv_aload_n hx hb dX6_scanWord_94 rfl (lv_at hl 0 rfl) ?_
          refine gX_X6_22_2 hx hb hG hown hK hP dX6_scanWord_95 ?_
          refine lv_lload hx hb dX6_scanWord_98 (lv_at hl 4 rfl) ?_
          refine stX_22 (mm := i_sc_count.toInt) hx hb hK hP hD hS rfl (ox_795 ie8 ie9 hp0) (ox_796 ie8 ie9 hp0) dX6_scanWord_100 (fun L8 H7 locs hP hD hS => ?_)
          refine lv_iconst (v := 0) hx hb dX6_scanWord_101 (by decide) ?_
          refine lv_istore (lv' := [(6, .int 0), (0, .ref (r 2)), (1, .ref (r 11)), (2, .int p1), (3, .int i_sc_at), (4, .long y11_4)]) hx hb dX6_scanWord_102 hl (by decide) rfl (fun ls hl => ?_)
          have L104 : ∀ (N104 : Nat) (y104_6 : Int32) (m104_J : Nat → Nat → Int32) (H104 : Heap) (locs : List Loc) (ls : Array Slot) (g104_0 : (0 : Int) ≤ y104_6.toInt) (g104_1 : y104_6.toInt ≤ (19 : Int)) (hP : va_P (dC, dI) vwCl (WX r ct i_tapeLength i_time i_lyingCount i_rd_fault i_rd_token i_rd_kind i_sc_count m11_i_sc_at i_A_tunes i_A_houses i_fA_length i_B_tunes i_B_houses i_fB_length i_acts_done i_acts_undone i_kn_count f_boxes f_boxKept f_trial f_offers f_A_noteCounts f_A_notes f_B_noteCounts f_B_notes f_now_where f_now_worn f_ahead_where f_ahead_worn f_acts_rows f_kn_tunes f_kn_noteTimes m104_J L8) H104) (hD : va_D A (WX r ct i_tapeLength i_time i_lyingCount i_rd_fault i_rd_token i_rd_kind i_sc_count m11_i_sc_at i_A_tunes i_A_houses i_fA_length i_B_tunes i_B_houses i_fB_length i_acts_done i_acts_undone i_kn_count f_boxes f_boxKept f_trial f_offers f_A_noteCounts f_A_notes f_B_noteCounts f_B_notes f_now_where f_now_worn f_ahead_where f_ahead_worn f_acts_rows f_kn_tunes f_kn_noteTimes m104_J L8)) (hS : va_S A s.heap H104 locs) (hl : lv_has ls 7 [(0, .ref (r 2)), (1, .ref (r 11)), (2, .int p1), (3, .int i_sc_at), (4, .long y11_4), (6, .int y104_6)]) (hM : -1 * y104_6.toInt + 19 < (N104 : Int)), W p l e { frames := 12, cells := 0, slots := 0, locals := 410 } s m ([.ref (r 2), .ref (r 11), .int p1] : List Value).toArray below meth c0 H104 locs 0 0 Q (F0 m 104 ls []) := by
            intro N104
            induction N104 with
            | zero =>
              intro y104_6 m104_J H104 locs ls g104_0 g104_1 hP hD hS hl hM
              exact ((ox_835 hM g104_0 g104_1)).elim
            | succ N104 ih104 =>
              intro y104_6 m104_J H104 locs ls g104_0 g104_1 hP hD hS hl hM
              have hM104 := msucc hM
              refine lv_iload hx hb dX6_scanWord_104 (lv_at hl 5 rfl) ?_
              refine lv_bipush (v := 19) hx hb dX6_scanWord_106 (by decide) ?_
              refine lv_icmp_ge (tgt := 134) hx hb dX6_scanWord_108 (by decide) (fun c_9 => ?_) (fun c_9 => ?_)
              · skip
                have f10 : 19 ≤ y104_6.toInt := qi_le c_9 zc_19 rfl
                refine lv_iconst (v := 3) hx hb dX6_scanWord_134 (by decide) ?_
                rw [hQ]
                exact W.iret (v := 3) hx hb hr (fun t ht hW => ⟨⟨3, 3, rfl, rfl, ⟨m11_i_sc_at, m104_J, L8, by rw [ht]; exact hP, hD, ⟨ie0, ie1, ie2, ie3, ie4, ie5, ie6, ie7, ie8, ie9, gi11_i_sc_at_lo, gi11_i_sc_at_hi, ie12, ie13, ie14, ie15, ie16, ie17, ie18, ie19, ie20, ie21, ie22, ie23, ie24, ie25, ie26, ie27, ie28, ie29, ie30, ie31, ie32, ie33, ie34, ie35, ie36, ie37, ie38, ie39⟩⟩⟩, hS.F ht⟩) hS.2.2 dX6_scanWord_135
              · skip
                have f11 : y104_6.toInt < 19 := qi_nle c_9 zc_19 rfl
                refine lv_aload_n hx hb dX6_scanWord_111 rfl (lv_at hl 0 rfl) ?_
                refine lv_iload hx hb dX6_scanWord_112 (lv_at hl 5 rfl) ?_
                refine lv_aload_n hx hb dX6_scanWord_114 rfl (lv_at hl 1 rfl) ?_
                refine lv_iload_n hx hb dX6_scanWord_115 rfl (lv_at hl 3 rfl) ?_
                have hFc := frA hD hS hA
                refine va_calli (va_runV (As := [.int y104_6, .ref (r 11), .int i_sc_at]) (rest := []) ⟨hx, hb, hml, hown, hG⟩ (kX6_isSpelled l dC dI r ct i_tapeLength i_time i_lyingCount i_rd_fault i_rd_token i_rd_kind i_sc_count m11_i_sc_at i_A_tunes i_A_houses i_fA_length i_B_tunes i_B_houses i_fB_length i_acts_done i_acts_undone i_kn_count f_boxes f_boxKept f_trial f_offers f_A_noteCounts f_A_notes f_B_noteCounts f_B_notes f_now_where f_now_worn f_ahead_where f_ahead_worn f_acts_rows f_kn_tunes f_kn_noteTimes m104_J L8 y104_6 i_sc_at adK adV fS H104.size ⟨ie0, ie1, ie2, ie3, ie4, ie5, ie6, ie7, ie8, ie9, gi11_i_sc_at_lo, gi11_i_sc_at_hi, ie12, ie13, ie14, ie15, ie16, ie17, ie18, ie19, ie20, ie21, ie22, ie23, ie24, ie25, ie26, ie27, ie28, ie29, ie30, ie31, ie32, ie33, ie34, ie35, ie36, ie37, ie38, ie39⟩ (ox_6 g104_0) (ox_836 f11) (ox_837 ie10 ie11 f6 f4) (ox_838 ie10 ie11 f6 f4)) (cwV 3 hG (goodV gw557 gw559 gw5 gw131 gw560) rfl rfl rfl hd_X6_isSpelled ⟨(Nat.le_of_ble_eq_true rfl), (Nat.le_of_ble_eq_true rfl)⟩) ⟨fbS, va_recv hK hP (ci := 5) (q0 := 2) rfl rfl, pS_in hP hK hD hZ hS hFc⟩ rfl rfl hl.1 rfl (lv_room (Nat.le_of_ble_eq_true rfl)) dX6_scanWord_116 ⟨(Nat.le_of_ble_eq_true rfl), (Nat.le_of_ble_eq_true rfl)⟩) hS (fun q _ h => hFc q h) hFc (fun r_13 u_ t_ H12 locs ht hvm hw hB hz1 hk1 hS => ?_)
                subst hw
                obtain ⟨J14, hP1, hD1, hI17, f15, f16⟩ := hB
                rw [ht] at hP1
                have hP := hP1
                have hD := dW hFc hD1
                obtain ⟨im18, im19, im20, im21, im22, im23, im24, im25, im26, im27, im28, im29, im30, im31, im32, im33, im34, im35, im36, im37, im38, im39, im40, im41, im42, im43, im44, im45, im46, im47, im48, im49, im50, im51, im52, im53, im54, im55, im56, im57⟩ := id hI17
                refine lv_if_eq (tgt := 128) hx hb dX6_scanWord_119 (by decide) (fun c_58 => ?_) (fun c_58 => ?_)
                · skip
                  have f59 : r_13.toInt = 0 := qi_eq c_58 rfl zc_0
                  obtain ⟨x60, ex60⟩ : ∃ y : Int32, y = y104_6 + Int32.ofInt 1 := ⟨_, rfl⟩
                  have f61 : x60.toInt = y104_6.toInt + 1 := (ox_13 (qi_add ex60 rfl (by decide) (ox_11 g104_0) (ox_839 g104_1)))
                  refine lv_iinc (v := x60) (lv' := [(6, .int x60), (0, .ref (r 2)), (1, .ref (r 11)), (2, .int p1), (3, .int i_sc_at), (4, .long y11_4)]) hx hb dX6_scanWord_128 hl (k := 5) rfl ex60.symm (by decide) rfl (fun ls hl => ?_)
                  refine lv_goto (tgt := 104) hx hb dX6_scanWord_131 (by decide) ?_
                  exact ih104 x60 J14 H12 _ _ (ox_14 g104_0 f61) (ox_840 f11 f61) hP hD hS (lv_sub hl [1, 2, 3, 4, 5, 0] rfl) (ox_841 hM104 f61)
                · skip
                  have f62 : r_13.toInt ≠ 0 := qi_ne c_58 rfl zc_0
                  have f63 : (1 : Int) ≤ r_13.toInt := (ox_842 f15 f16 f62)
                  refine lv_bipush (v := 100) hx hb dX6_scanWord_122 (by decide) ?_
                  refine lv_iload hx hb dX6_scanWord_124 (lv_at hl 5 rfl) ?_
                  refine lv_iadd hx hb dX6_scanWord_126 ?_
                  refine lv_topi (fun x64 ex64 => ?_)
                  have f65 : x64.toInt = y104_6.toInt + 100 := (ox_845 (qi_add ex64 zc_100 rfl (ox_843 g104_0) (ox_844 g104_1)))
                  rw [hQ]
                  exact W.iret (v := x64) hx hb hr (fun t ht hW => ⟨⟨x64, x64, rfl, rfl, ⟨m11_i_sc_at, J14, L8, by rw [ht]; exact hP, hD, hI17⟩⟩, hS.F ht⟩) hS.2.2 dX6_scanWord_127
          exact L104 (-1 * (0 : Int32).toInt + 19 + 1).toNat 0 J H7 _ _ (ox_27 zc_0) (ox_846 zc_0) hP hD hS (lv_sub hl [1, 2, 3, 4, 5, 0] rfl) (mlt (ox_847 zc_0))
        · skip
          have f66 : 8 < x3.toInt := qi_nle c_5 rfl zc_8
          refine lv_iconst (v := 0) hx hb dX6_scanWord_88 (by decide) ?_
          rw [hQ]
          exact W.iret (v := 0) hx hb hr (fun t ht hW => ⟨⟨0, 0, rfl, rfl, ⟨m11_i_sc_at, J, L, by rw [ht]; exact hP, hD, ⟨ie0, ie1, ie2, ie3, ie4, ie5, ie6, ie7, ie8, ie9, gi11_i_sc_at_lo, gi11_i_sc_at_hi, ie12, ie13, ie14, ie15, ie16, ie17, ie18, ie19, ie20, ie21, ie22, ie23, ie24, ie25, ie26, ie27, ie28, ie29, ie30, ie31, ie32, ie33, ie34, ie35, ie36, ie37, ie38, ie39⟩⟩⟩, hS.F ht⟩) hS.2.2 dX6_scanWord_89
      · skip
        have f67 : y11_6.toInt < 1600 := qi_nle c_1 zc_1600 rfl
        refine lv_aload_n hx hb dX6_scanWord_19 rfl (lv_at hl 0 rfl) ?_
        refine gX_X6_26_2 hx hb hG hown hK hP dX6_scanWord_20 ?_
        refine lv_iload_n hx hb dX6_scanWord_23 rfl (lv_at hl 2 rfl) ?_
        refine lv_icmp_ge (tgt := 77) hx hb dX6_scanWord_24 (by decide) (fun c_68 => ?_) (fun c_68 => ?_)
        · skip
          have f69 : p1.toInt ≤ m11_i_sc_at.toInt := qi_le c_68 rfl rfl
          refine lv_aload_n hx hb dX6_scanWord_77 rfl (lv_at hl 0 rfl) ?_
          refine gX_X6_26_2 hx hb hG hown hK hP dX6_scanWord_78 ?_
          refine lv_iload_n hx hb dX6_scanWord_81 rfl (lv_at hl 3 rfl) ?_
          refine lv_isub hx hb dX6_scanWord_82 ?_
          refine lv_topi (fun x70 ex70 => ?_)
          have f71 : x70.toInt = -1 * i_sc_at.toInt + m11_i_sc_at.toInt := (ox_799 (qi_sub ex70 rfl rfl (ox_797 ie11 g11_2) (ox_798 ie10 g11_3)))
          refine lv_bipush (v := 8) hx hb dX6_scanWord_83 (by decide) ?_
          refine lv_icmp_le (tgt := 90) hx hb dX6_scanWord_85 (by decide) (fun c_72 => ?_) (fun c_72 => ?_)
          · skip
            have f73 : x70.toInt ≤ 8 := qi_le c_72 rfl zc_8
            refine lv_aload_n hx hb dX6_scanWord_90 rfl (lv_at hl 0 rfl) ?_
            refine gX_X6_18_2 hx hb hG hown hK hP dX6_scanWord_91 ?_
            refine lv_aload_n hx hb dX6_scanWord_94 rfl (lv_at hl 0 rfl) ?_
            refine gX_X6_22_2 hx hb hG hown hK hP dX6_scanWord_95 ?_
            refine lv_lload hx hb dX6_scanWord_98 (lv_at hl 4 rfl) ?_
            refine stX_22 (mm := i_sc_count.toInt) hx hb hK hP hD hS rfl (ox_795 ie8 ie9 hp0) (ox_796 ie8 ie9 hp0) dX6_scanWord_100 (fun L75 H74 locs hP hD hS => ?_)
            refine lv_iconst (v := 0) hx hb dX6_scanWord_101 (by decide) ?_
            refine lv_istore (lv' := [(6, .int 0), (0, .ref (r 2)), (1, .ref (r 11)), (2, .int p1), (3, .int i_sc_at), (4, .long y11_4)]) hx hb dX6_scanWord_102 hl (by decide) rfl (fun ls hl => ?_)
            have L104 : ∀ (N104 : Nat) (y104_6 : Int32) (m104_J : Nat → Nat → Int32) (H104 : Heap) (locs : List Loc) (ls : Array Slot) (g104_0 : (0 : Int) ≤ y104_6.toInt) (g104_1 : y104_6.toInt ≤ (19 : Int)) (hP : va_P (dC, dI) vwCl (WX r ct i_tapeLength i_time i_lyingCount i_rd_fault i_rd_token i_rd_kind i_sc_count m11_i_sc_at i_A_tunes i_A_houses i_fA_length i_B_tunes i_B_houses i_fB_length i_acts_done i_acts_undone i_kn_count f_boxes f_boxKept f_trial f_offers f_A_noteCounts f_A_notes f_B_noteCounts f_B_notes f_now_where f_now_worn f_ahead_where f_ahead_worn f_acts_rows f_kn_tunes f_kn_noteTimes m104_J L75) H104) (hD : va_D A (WX r ct i_tapeLength i_time i_lyingCount i_rd_fault i_rd_token i_rd_kind i_sc_count m11_i_sc_at i_A_tunes i_A_houses i_fA_length i_B_tunes i_B_houses i_fB_length i_acts_done i_acts_undone i_kn_count f_boxes f_boxKept f_trial f_offers f_A_noteCounts f_A_notes f_B_noteCounts f_B_notes f_now_where f_now_worn f_ahead_where f_ahead_worn f_acts_rows f_kn_tunes f_kn_noteTimes m104_J L75)) (hS : va_S A s.heap H104 locs) (hl : lv_has ls 7 [(0, .ref (r 2)), (1, .ref (r 11)), (2, .int p1), (3, .int i_sc_at), (4, .long y11_4), (6, .int y104_6)]) (hM : -1 * y104_6.toInt + 19 < (N104 : Int)), W p l e { frames := 12, cells := 0, slots := 0, locals := 410 } s m ([.ref (r 2), .ref (r 11), .int p1] : List Value).toArray below meth c0 H104 locs 0 0 Q (F0 m 104 ls []) := by
              intro N104
              induction N104 with
              | zero =>
                intro y104_6 m104_J H104 locs ls g104_0 g104_1 hP hD hS hl hM
                exact ((ox_835 hM g104_0 g104_1)).elim
              | succ N104 ih104 =>
                intro y104_6 m104_J H104 locs ls g104_0 g104_1 hP hD hS hl hM
                have hM104 := msucc hM
                refine lv_iload hx hb dX6_scanWord_104 (lv_at hl 5 rfl) ?_
                refine lv_bipush (v := 19) hx hb dX6_scanWord_106 (by decide) ?_
                refine lv_icmp_ge (tgt := 134) hx hb dX6_scanWord_108 (by decide) (fun c_76 => ?_) (fun c_76 => ?_)
                · skip
                  have f77 : 19 ≤ y104_6.toInt := qi_le c_76 zc_19 rfl
                  refine lv_iconst (v := 3) hx hb dX6_scanWord_134 (by decide) ?_
                  rw [hQ]
                  exact W.iret (v := 3) hx hb hr (fun t ht hW => ⟨⟨3, 3, rfl, rfl, ⟨m11_i_sc_at, m104_J, L75, by rw [ht]; exact hP, hD, ⟨ie0, ie1, ie2, ie3, ie4, ie5, ie6, ie7, ie8, ie9, gi11_i_sc_at_lo, gi11_i_sc_at_hi, ie12, ie13, ie14, ie15, ie16, ie17, ie18, ie19, ie20, ie21, ie22, ie23, ie24, ie25, ie26, ie27, ie28, ie29, ie30, ie31, ie32, ie33, ie34, ie35, ie36, ie37, ie38, ie39⟩⟩⟩, hS.F ht⟩) hS.2.2 dX6_scanWord_135
                · skip
                  have f78 : y104_6.toInt < 19 := qi_nle c_76 zc_19 rfl
                  refine lv_aload_n hx hb dX6_scanWord_111 rfl (lv_at hl 0 rfl) ?_
                  refine lv_iload hx hb dX6_scanWord_112 (lv_at hl 5 rfl) ?_
                  refine lv_aload_n hx hb dX6_scanWord_114 rfl (lv_at hl 1 rfl) ?_
                  refine lv_iload_n hx hb dX6_scanWord_115 rfl (lv_at hl 3 rfl) ?_
                  have hFc := frA hD hS hA
                  refine va_calli (va_runV (As := [.int y104_6, .ref (r 11), .int i_sc_at]) (rest := []) ⟨hx, hb, hml, hown, hG⟩ (kX6_isSpelled l dC dI r ct i_tapeLength i_time i_lyingCount i_rd_fault i_rd_token i_rd_kind i_sc_count m11_i_sc_at i_A_tunes i_A_houses i_fA_length i_B_tunes i_B_houses i_fB_length i_acts_done i_acts_undone i_kn_count f_boxes f_boxKept f_trial f_offers f_A_noteCounts f_A_notes f_B_noteCounts f_B_notes f_now_where f_now_worn f_ahead_where f_ahead_worn f_acts_rows f_kn_tunes f_kn_noteTimes m104_J L75 y104_6 i_sc_at adK adV fS H104.size ⟨ie0, ie1, ie2, ie3, ie4, ie5, ie6, ie7, ie8, ie9, gi11_i_sc_at_lo, gi11_i_sc_at_hi, ie12, ie13, ie14, ie15, ie16, ie17, ie18, ie19, ie20, ie21, ie22, ie23, ie24, ie25, ie26, ie27, ie28, ie29, ie30, ie31, ie32, ie33, ie34, ie35, ie36, ie37, ie38, ie39⟩ (ox_6 g104_0) (ox_836 f78) (ox_837 ie10 ie11 f73 f71) (ox_838 ie10 ie11 f73 f71)) (cwV 3 hG (goodV gw557 gw559 gw5 gw131 gw560) rfl rfl rfl hd_X6_isSpelled ⟨(Nat.le_of_ble_eq_true rfl), (Nat.le_of_ble_eq_true rfl)⟩) ⟨fbS, va_recv hK hP (ci := 5) (q0 := 2) rfl rfl, pS_in hP hK hD hZ hS hFc⟩ rfl rfl hl.1 rfl (lv_room (Nat.le_of_ble_eq_true rfl)) dX6_scanWord_116 ⟨(Nat.le_of_ble_eq_true rfl), (Nat.le_of_ble_eq_true rfl)⟩) hS (fun q _ h => hFc q h) hFc (fun r_80 u_ t_ H79 locs ht hvm hw hB hz1 hk1 hS => ?_)
                  subst hw
                  obtain ⟨J81, hP1, hD1, hI84, f82, f83⟩ := hB
                  rw [ht] at hP1
                  have hP := hP1
                  have hD := dW hFc hD1
                  obtain ⟨im85, im86, im87, im88, im89, im90, im91, im92, im93, im94, im95, im96, im97, im98, im99, im100, im101, im102, im103, im104, im105, im106, im107, im108, im109, im110, im111, im112, im113, im114, im115, im116, im117, im118, im119, im120, im121, im122, im123, im124⟩ := id hI84
                  refine lv_if_eq (tgt := 128) hx hb dX6_scanWord_119 (by decide) (fun c_125 => ?_) (fun c_125 => ?_)
                  · skip
                    have f126 : r_80.toInt = 0 := qi_eq c_125 rfl zc_0
                    obtain ⟨x127, ex127⟩ : ∃ y : Int32, y = y104_6 + Int32.ofInt 1 := ⟨_, rfl⟩
                    have f128 : x127.toInt = y104_6.toInt + 1 := (ox_13 (qi_add ex127 rfl (by decide) (ox_11 g104_0) (ox_839 g104_1)))
                    refine lv_iinc (v := x127) (lv' := [(6, .int x127), (0, .ref (r 2)), (1, .ref (r 11)), (2, .int p1), (3, .int i_sc_at), (4, .long y11_4)]) hx hb dX6_scanWord_128 hl (k := 5) rfl ex127.symm (by decide) rfl (fun ls hl => ?_)
                    refine lv_goto (tgt := 104) hx hb dX6_scanWord_131 (by decide) ?_
                    exact ih104 x127 J81 H79 _ _ (ox_14 g104_0 f128) (ox_840 f78 f128) hP hD hS (lv_sub hl [1, 2, 3, 4, 5, 0] rfl) (ox_841 hM104 f128)
                  · skip
                    have f129 : r_80.toInt ≠ 0 := qi_ne c_125 rfl zc_0
                    have f130 : (1 : Int) ≤ r_80.toInt := (ox_842 f82 f83 f129)
                    refine lv_bipush (v := 100) hx hb dX6_scanWord_122 (by decide) ?_
                    refine lv_iload hx hb dX6_scanWord_124 (lv_at hl 5 rfl) ?_
                    refine lv_iadd hx hb dX6_scanWord_126 ?_
                    refine lv_topi (fun x131 ex131 => ?_)
                    have f132 : x131.toInt = y104_6.toInt + 100 := (ox_845 (qi_add ex131 zc_100 rfl (ox_843 g104_0) (ox_844 g104_1)))
                    rw [hQ]
                    exact W.iret (v := x131) hx hb hr (fun t ht hW => ⟨⟨x131, x131, rfl, rfl, ⟨m11_i_sc_at, J81, L75, by rw [ht]; exact hP, hD, hI84⟩⟩, hS.F ht⟩) hS.2.2 dX6_scanWord_127
            exact L104 (-1 * (0 : Int32).toInt + 19 + 1).toNat 0 J H74 _ _ (ox_27 zc_0) (ox_846 zc_0) hP hD hS (lv_sub hl [1, 2, 3, 4, 5, 0] rfl) (mlt (ox_847 zc_0))
          · skip
            have f133 : 8 < x70.toInt := qi_nle c_72 rfl zc_8
            refine lv_iconst (v := 0) hx hb dX6_scanWord_88 (by decide) ?_
            rw [hQ]
            exact W.iret (v := 0) hx hb hr (fun t ht hW => ⟨⟨0, 0, rfl, rfl, ⟨m11_i_sc_at, J, L, by rw [ht]; exact hP, hD, ⟨ie0, ie1, ie2, ie3, ie4, ie5, ie6, ie7, ie8, ie9, gi11_i_sc_at_lo, gi11_i_sc_at_hi, ie12, ie13, ie14, ie15, ie16, ie17, ie18, ie19, ie20, ie21, ie22, ie23, ie24, ie25, ie26, ie27, ie28, ie29, ie30, ie31, ie32, ie33, ie34, ie35, ie36, ie37, ie38, ie39⟩⟩⟩, hS.F ht⟩) hS.2.2 dX6_scanWord_89
        · skip
          have f134 : m11_i_sc_at.toInt < p1.toInt := qi_nle c_68 rfl rfl
          refine lv_aload_n hx hb dX6_scanWord_27 rfl (lv_at hl 1 rfl) ?_
          refine lv_aload_n hx hb dX6_scanWord_28 rfl (lv_at hl 0 rfl) ?_
          refine gX_X6_26_2 hx hb hG hown hK hP dX6_scanWord_29 ?_
          refine ldX_11 (mm := m11_i_sc_at.toInt) hx hb hK hP rfl (ox_9 g11_2) (ox_800 hp1 f134) dX6_scanWord_32 (fun x135 => ?_)
          refine va_calli (va_runS (As := [.int x135]) (rest := []) ⟨hx, hb, hml, hown, hG⟩ (kX6_isLetter l dC dI x135 H11.size) (va_cwS 1 hG (goodS gw548 gw549 gw131 gw550) rfl rfl rfl hd_X6_isLetter ⟨(Nat.le_of_ble_eq_true rfl), (Nat.le_of_ble_eq_true rfl)⟩) ⟨fbR, pR_in emptyP (emptyK hK)⟩ rfl rfl hl.1 rfl (lv_room (Nat.le_of_ble_eq_true rfl)) dX6_scanWord_33 ⟨(Nat.le_of_ble_eq_true rfl), (Nat.le_of_ble_eq_true rfl)⟩) hS (fun q hq h => absurd hq (Nat.not_lt.mpr h)) (fun q h => hA q (Nat.le_trans hS.1 h)) (fun r_137 u_ t_ H136 locs ht hvm hw hB hz1 hk1 hS => ?_)
          subst hw
          have hP := wk hP hk1
          obtain ⟨f138, f139, f140⟩ := hB
          refine lv_if_eq (tgt := 77) hx hb dX6_scanWord_36 (by decide) (fun c_141 => ?_) (fun c_141 => ?_)
          · skip
            have f142 : r_137.toInt = 0 := qi_eq c_141 rfl zc_0
            refine lv_aload_n hx hb dX6_scanWord_77 rfl (lv_at hl 0 rfl) ?_
            refine gX_X6_26_2 hx hb hG hown hK hP dX6_scanWord_78 ?_
            refine lv_iload_n hx hb dX6_scanWord_81 rfl (lv_at hl 3 rfl) ?_
            refine lv_isub hx hb dX6_scanWord_82 ?_
            refine lv_topi (fun x143 ex143 => ?_)
            have f144 : x143.toInt = -1 * i_sc_at.toInt + m11_i_sc_at.toInt := (ox_799 (qi_sub ex143 rfl rfl (ox_797 ie11 g11_2) (ox_798 ie10 g11_3)))
            refine lv_bipush (v := 8) hx hb dX6_scanWord_83 (by decide) ?_
            refine lv_icmp_le (tgt := 90) hx hb dX6_scanWord_85 (by decide) (fun c_145 => ?_) (fun c_145 => ?_)
            · skip
              have f146 : x143.toInt ≤ 8 := qi_le c_145 rfl zc_8
              refine lv_aload_n hx hb dX6_scanWord_90 rfl (lv_at hl 0 rfl) ?_
              refine gX_X6_18_2 hx hb hG hown hK hP dX6_scanWord_91 ?_
              refine lv_aload_n hx hb dX6_scanWord_94 rfl (lv_at hl 0 rfl) ?_
              refine gX_X6_22_2 hx hb hG hown hK hP dX6_scanWord_95 ?_
              refine lv_lload hx hb dX6_scanWord_98 (lv_at hl 4 rfl) ?_
              refine stX_22 (mm := i_sc_count.toInt) hx hb hK hP hD hS rfl (ox_795 ie8 ie9 hp0) (ox_796 ie8 ie9 hp0) dX6_scanWord_100 (fun L148 H147 locs hP hD hS => ?_)
              refine lv_iconst (v := 0) hx hb dX6_scanWord_101 (by decide) ?_
              refine lv_istore (lv' := [(6, .int 0), (0, .ref (r 2)), (1, .ref (r 11)), (2, .int p1), (3, .int i_sc_at), (4, .long y11_4)]) hx hb dX6_scanWord_102 hl (by decide) rfl (fun ls hl => ?_)
              have L104 : ∀ (N104 : Nat) (y104_6 : Int32) (m104_J : Nat → Nat → Int32) (H104 : Heap) (locs : List Loc) (ls : Array Slot) (g104_0 : (0 : Int) ≤ y104_6.toInt) (g104_1 : y104_6.toInt ≤ (19 : Int)) (hP : va_P (dC, dI) vwCl (WX r ct i_tapeLength i_time i_lyingCount i_rd_fault i_rd_token i_rd_kind i_sc_count m11_i_sc_at i_A_tunes i_A_houses i_fA_length i_B_tunes i_B_houses i_fB_length i_acts_done i_acts_undone i_kn_count f_boxes f_boxKept f_trial f_offers f_A_noteCounts f_A_notes f_B_noteCounts f_B_notes f_now_where f_now_worn f_ahead_where f_ahead_worn f_acts_rows f_kn_tunes f_kn_noteTimes m104_J L148) H104) (hD : va_D A (WX r ct i_tapeLength i_time i_lyingCount i_rd_fault i_rd_token i_rd_kind i_sc_count m11_i_sc_at i_A_tunes i_A_houses i_fA_length i_B_tunes i_B_houses i_fB_length i_acts_done i_acts_undone i_kn_count f_boxes f_boxKept f_trial f_offers f_A_noteCounts f_A_notes f_B_noteCounts f_B_notes f_now_where f_now_worn f_ahead_where f_ahead_worn f_acts_rows f_kn_tunes f_kn_noteTimes m104_J L148)) (hS : va_S A s.heap H104 locs) (hl : lv_has ls 7 [(0, .ref (r 2)), (1, .ref (r 11)), (2, .int p1), (3, .int i_sc_at), (4, .long y11_4), (6, .int y104_6)]) (hM : -1 * y104_6.toInt + 19 < (N104 : Int)), W p l e { frames := 12, cells := 0, slots := 0, locals := 410 } s m ([.ref (r 2), .ref (r 11), .int p1] : List Value).toArray below meth c0 H104 locs 0 0 Q (F0 m 104 ls []) := by
                intro N104
                induction N104 with
                | zero =>
                  intro y104_6 m104_J H104 locs ls g104_0 g104_1 hP hD hS hl hM
                  exact ((ox_835 hM g104_0 g104_1)).elim
                | succ N104 ih104 =>
                  intro y104_6 m104_J H104 locs ls g104_0 g104_1 hP hD hS hl hM
                  have hM104 := msucc hM
                  refine lv_iload hx hb dX6_scanWord_104 (lv_at hl 5 rfl) ?_
                  refine lv_bipush (v := 19) hx hb dX6_scanWord_106 (by decide) ?_
                  refine lv_icmp_ge (tgt := 134) hx hb dX6_scanWord_108 (by decide) (fun c_149 => ?_) (fun c_149 => ?_)
                  · skip
                    have f150 : 19 ≤ y104_6.toInt := qi_le c_149 zc_19 rfl
                    refine lv_iconst (v := 3) hx hb dX6_scanWord_134 (by decide) ?_
                    rw [hQ]
                    exact W.iret (v := 3) hx hb hr (fun t ht hW => ⟨⟨3, 3, rfl, rfl, ⟨m11_i_sc_at, m104_J, L148, by rw [ht]; exact hP, hD, ⟨ie0, ie1, ie2, ie3, ie4, ie5, ie6, ie7, ie8, ie9, gi11_i_sc_at_lo, gi11_i_sc_at_hi, ie12, ie13, ie14, ie15, ie16, ie17, ie18, ie19, ie20, ie21, ie22, ie23, ie24, ie25, ie26, ie27, ie28, ie29, ie30, ie31, ie32, ie33, ie34, ie35, ie36, ie37, ie38, ie39⟩⟩⟩, hS.F ht⟩) hS.2.2 dX6_scanWord_135
                  · skip
                    have f151 : y104_6.toInt < 19 := qi_nle c_149 zc_19 rfl
                    refine lv_aload_n hx hb dX6_scanWord_111 rfl (lv_at hl 0 rfl) ?_
                    refine lv_iload hx hb dX6_scanWord_112 (lv_at hl 5 rfl) ?_
                    refine lv_aload_n hx hb dX6_scanWord_114 rfl (lv_at hl 1 rfl) ?_
                    refine lv_iload_n hx hb dX6_scanWord_115 rfl (lv_at hl 3 rfl) ?_
                    have hFc := frA hD hS hA
                    refine va_calli (va_runV (As := [.int y104_6, .ref (r 11), .int i_sc_at]) (rest := []) ⟨hx, hb, hml, hown, hG⟩ (kX6_isSpelled l dC dI r ct i_tapeLength i_time i_lyingCount i_rd_fault i_rd_token i_rd_kind i_sc_count m11_i_sc_at i_A_tunes i_A_houses i_fA_length i_B_tunes i_B_houses i_fB_length i_acts_done i_acts_undone i_kn_count f_boxes f_boxKept f_trial f_offers f_A_noteCounts f_A_notes f_B_noteCounts f_B_notes f_now_where f_now_worn f_ahead_where f_ahead_worn f_acts_rows f_kn_tunes f_kn_noteTimes m104_J L148 y104_6 i_sc_at adK adV fS H104.size ⟨ie0, ie1, ie2, ie3, ie4, ie5, ie6, ie7, ie8, ie9, gi11_i_sc_at_lo, gi11_i_sc_at_hi, ie12, ie13, ie14, ie15, ie16, ie17, ie18, ie19, ie20, ie21, ie22, ie23, ie24, ie25, ie26, ie27, ie28, ie29, ie30, ie31, ie32, ie33, ie34, ie35, ie36, ie37, ie38, ie39⟩ (ox_6 g104_0) (ox_836 f151) (ox_837 ie10 ie11 f146 f144) (ox_838 ie10 ie11 f146 f144)) (cwV 3 hG (goodV gw557 gw559 gw5 gw131 gw560) rfl rfl rfl hd_X6_isSpelled ⟨(Nat.le_of_ble_eq_true rfl), (Nat.le_of_ble_eq_true rfl)⟩) ⟨fbS, va_recv hK hP (ci := 5) (q0 := 2) rfl rfl, pS_in hP hK hD hZ hS hFc⟩ rfl rfl hl.1 rfl (lv_room (Nat.le_of_ble_eq_true rfl)) dX6_scanWord_116 ⟨(Nat.le_of_ble_eq_true rfl), (Nat.le_of_ble_eq_true rfl)⟩) hS (fun q _ h => hFc q h) hFc (fun r_153 u_ t_ H152 locs ht hvm hw hB hz1 hk1 hS => ?_)
                    subst hw
                    obtain ⟨J154, hP1, hD1, hI157, f155, f156⟩ := hB
                    rw [ht] at hP1
                    have hP := hP1
                    have hD := dW hFc hD1
                    obtain ⟨im158, im159, im160, im161, im162, im163, im164, im165, im166, im167, im168, im169, im170, im171, im172, im173, im174, im175, im176, im177, im178, im179, im180, im181, im182, im183, im184, im185, im186, im187, im188, im189, im190, im191, im192, im193, im194, im195, im196, im197⟩ := id hI157
                    refine lv_if_eq (tgt := 128) hx hb dX6_scanWord_119 (by decide) (fun c_198 => ?_) (fun c_198 => ?_)
                    · skip
                      have f199 : r_153.toInt = 0 := qi_eq c_198 rfl zc_0
                      obtain ⟨x200, ex200⟩ : ∃ y : Int32, y = y104_6 + Int32.ofInt 1 := ⟨_, rfl⟩
                      have f201 : x200.toInt = y104_6.toInt + 1 := (ox_13 (qi_add ex200 rfl (by decide) (ox_11 g104_0) (ox_839 g104_1)))
                      refine lv_iinc (v := x200) (lv' := [(6, .int x200), (0, .ref (r 2)), (1, .ref (r 11)), (2, .int p1), (3, .int i_sc_at), (4, .long y11_4)]) hx hb dX6_scanWord_128 hl (k := 5) rfl ex200.symm (by decide) rfl (fun ls hl => ?_)
                      refine lv_goto (tgt := 104) hx hb dX6_scanWord_131 (by decide) ?_
                      exact ih104 x200 J154 H152 _ _ (ox_14 g104_0 f201) (ox_840 f151 f201) hP hD hS (lv_sub hl [1, 2, 3, 4, 5, 0] rfl) (ox_841 hM104 f201)
                    · skip
                      have f202 : r_153.toInt ≠ 0 := qi_ne c_198 rfl zc_0
                      have f203 : (1 : Int) ≤ r_153.toInt := (ox_842 f155 f156 f202)
                      refine lv_bipush (v := 100) hx hb dX6_scanWord_122 (by decide) ?_
                      refine lv_iload hx hb dX6_scanWord_124 (lv_at hl 5 rfl) ?_
                      refine lv_iadd hx hb dX6_scanWord_126 ?_
                      refine lv_topi (fun x204 ex204 => ?_)
                      have f205 : x204.toInt = y104_6.toInt + 100 := (ox_845 (qi_add ex204 zc_100 rfl (ox_843 g104_0) (ox_844 g104_1)))
                      rw [hQ]
                      exact W.iret (v := x204) hx hb hr (fun t ht hW => ⟨⟨x204, x204, rfl, rfl, ⟨m11_i_sc_at, J154, L148, by rw [ht]; exact hP, hD, hI157⟩⟩, hS.F ht⟩) hS.2.2 dX6_scanWord_127
              exact L104 (-1 * (0 : Int32).toInt + 19 + 1).toNat 0 J H147 _ _ (ox_27 zc_0) (ox_846 zc_0) hP hD hS (lv_sub hl [1, 2, 3, 4, 5, 0] rfl) (mlt (ox_847 zc_0))
            · skip
              have f206 : 8 < x143.toInt := qi_nle c_145 rfl zc_8
              refine lv_iconst (v := 0) hx hb dX6_scanWord_88 (by decide) ?_
              rw [hQ]
              exact W.iret (v := 0) hx hb hr (fun t ht hW => ⟨⟨0, 0, rfl, rfl, ⟨m11_i_sc_at, J, L, by rw [ht]; exact hP, hD, ⟨ie0, ie1, ie2, ie3, ie4, ie5, ie6, ie7, ie8, ie9, gi11_i_sc_at_lo, gi11_i_sc_at_hi, ie12, ie13, ie14, ie15, ie16, ie17, ie18, ie19, ie20, ie21, ie22, ie23, ie24, ie25, ie26, ie27, ie28, ie29, ie30, ie31, ie32, ie33, ie34, ie35, ie36, ie37, ie38, ie39⟩⟩⟩, hS.F ht⟩) hS.2.2 dX6_scanWord_89
          · skip
            have f207 : r_137.toInt ≠ 0 := qi_ne c_141 rfl zc_0
            have f208 : (97 : Int) ≤ x135.toInt := (ox_801 f138 f207)
            have f209 : x135.toInt ≤ (122 : Int) := (ox_802 f138 f207)
            have f210 : r_137.toInt = (1 : Int) := (ox_803 f138 f207)
            have f211 : (1 : Int) ≤ r_137.toInt := (ox_53 f139 f140 f210)
            refine lv_lload hx hb dX6_scanWord_39 (lv_at hl 4 rfl) ?_
            refine lv_ldc2 (v := 27) hx hb hown (hG _ gw555) dX6_scanWord_41 ?_
            refine lv_lmul hx hb dX6_scanWord_44 ?_
            refine lv_topl (fun y212 _ => ?_)
            refine lv_aload_n hx hb dX6_scanWord_45 rfl (lv_at hl 1 rfl) ?_
            refine lv_aload_n hx hb dX6_scanWord_46 rfl (lv_at hl 0 rfl) ?_
            refine gX_X6_26_2 hx hb hG hown hK hP dX6_scanWord_47 ?_
            refine ldX_11 (mm := m11_i_sc_at.toInt) hx hb hK hP rfl (ox_9 g11_2) (ox_800 hp1 f134) dX6_scanWord_50 (fun x213 => ?_)
            refine lv_i2l (v := _) hx hb dX6_scanWord_51 rfl ?_
            refine lv_topl (fun y214 _ => ?_)
            refine lv_ladd hx hb dX6_scanWord_52 ?_
            refine lv_topl (fun y215 _ => ?_)
            refine lv_ldc2 (v := 97) hx hb hown (hG _ gw556) dX6_scanWord_53 ?_
            refine lv_lsub hx hb dX6_scanWord_56 ?_
            refine lv_topl (fun y216 _ => ?_)
            refine lv_lconst (v := 1) hx hb dX6_scanWord_57 (by decide) ?_
            refine lv_ladd hx hb dX6_scanWord_58 ?_
            refine lv_topl (fun y217 _ => ?_)
            refine lv_lstore (lv' := [(4, .long y217), (0, .ref (r 2)), (1, .ref (r 11)), (2, .int p1), (3, .int i_sc_at), (6, .int y11_6)]) hx hb dX6_scanWord_59 hl (by decide) rfl (fun ls hl => ?_)
            refine lv_aload_n hx hb dX6_scanWord_61 rfl (lv_at hl 1 rfl) ?_
            refine lv_dup hx hb dX6_scanWord_62 rfl ?_
            refine gX_X6_26_2 hx hb hG hown hK hP dX6_scanWord_63 ?_
            refine lv_iconst (v := 1) hx hb dX6_scanWord_66 (by decide) ?_
            refine lv_iadd hx hb dX6_scanWord_67 ?_
            refine lv_topi (fun x218 ex218 => ?_)
            have f219 : x218.toInt = m11_i_sc_at.toInt + 1 := (ox_13 (qi_add ex218 rfl zc_1 (ox_11 g11_2) (ox_12 g11_3)))
            refine pX_X6_26_2 hx hb hG hown hK hP hD hS dX6_scanWord_68 (fun H220 locs hP hD hS => ?_)
            obtain ⟨x221, ex221⟩ : ∃ y : Int32, y = y11_6 + Int32.ofInt 1 := ⟨_, rfl⟩
            have f222 : x221.toInt = y11_6.toInt + 1 := (ox_13 (qi_add ex221 rfl (by decide) (ox_11 g11_0) (ox_12 g11_1)))
            refine lv_iinc (v := x221) (lv' := [(6, .int x221), (4, .long y217), (0, .ref (r 2)), (1, .ref (r 11)), (2, .int p1), (3, .int i_sc_at)]) hx hb dX6_scanWord_71 hl (k := 5) rfl ex221.symm (by decide) rfl (fun ls hl => ?_)
            refine lv_goto (tgt := 11) hx hb dX6_scanWord_74 (by decide) ?_
            exact ih11 x221 y217 x218 H220 _ _ (ox_14 g11_0 f222) (ox_15 f67 f222) (ox_14 g11_2 f219) (ox_809 hp1 f134 f219) (ox_14 g11_2 f219) (ox_809 hp1 f134 f219) hP hD hS (lv_sub hl [2, 3, 4, 5, 1, 0] rfl) (ox_810 hM11 f222)
  exact L11 (-1 * (0 : Int32).toInt + 1600 + 1).toNat 0 (0 : Int64) i_sc_at s.heap _ _ (ox_27 zc_0) (ox_811 zc_0) (ox_18 ie10 ie11) (ox_19 ie10 ie11) ie10 ie11 hP hD hS (lv_sub hl [3, 4, 5, 2, 1, 0] rfl) (mlt (ox_812 zc_0))
