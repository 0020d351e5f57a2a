set_option maxHeartbeats 4000000 in
set_option maxRecDepth 100000 in
theorem kX9_power_v2 (l : Launch) (dC : Nat → ClassId) (dI : Nat → Nat → Nat) (p0 p1 : Int32) (sz : Nat) (hp0 : 0 ≤ p0.toInt) (hp1 : p0.toInt ≤ 6) (hp2 : 0 ≤ p1.toInt) (hp3 : p1.toInt ≤ 4) : Met l yX9_power (.code yX9_power cX9_power 4 (some .int) :: GW) { frames := 2, cells := 0, slots := 0, locals := 100 } (va_Pc [.int p0, .int p1] (pR (dC, dI) [] [] sz)) (va_Qi (fun (r0 : Int32) (u : Int32) => r0 = u) (fun (u : Int32) (t : State) => (u.toInt = (pw p0.toInt (p1.toInt).toNat)) ∧ (0 ≤ (pw p0.toInt (p1.toInt).toNat)) ∧ ((pw p0.toInt (p1.toInt).toNat) ≤ 1296)) (fun q => sz ≤ q)) 0 0 (fun q => sz ≤ q) := by
  refine Met.ofW (cc := cX9_power) (maxL := 4) (ret := (some .int)) (by decide) rfl ?_
  intro p e s m args below meth c0 s₁ B hml hv
  obtain ⟨rfl, hsz, hP, hK⟩ := hv
  have hx := B.exec
  have hb := B.bytes
  have hr := B.returns
  have hts := atoms_spec (ws := .code yX9_power cX9_power 4 (some .int) :: GW) B.pre
  have hG : ∀ w ∈ GW, w.before _ s = true := fun w h => hts w (List.mem_cons_of_mem _ h)
  have hown : s.vm.findClass RX9 = some m.cls := findClass_of_methodNamed B.named
  subst hsz
  have hS : va_S (fun q => s.heap.size ≤ q) s.heap s.heap [] := va_S.rf
  have hP : va_P (dC, dI) vwCl [] s.heap := hP
  have hl := lv_entry ([.int p0, .int p1]) (n := 4) (Nat.le_of_ble_eq_true rfl)
  rw [lg_entry_eq]
  generalize (lg_sl ([.int p0, .int p1]) ++ List.replicate (4 - (lg_sl ([.int p0, .int p1])).length) Slot.unset).toArray = ls at hl ⊢
  have hl : lv_has ls 4 [(0, .int p0), (1, .int p1)] := hl
  refine nameQ (fun Q hQ => ?_)
  refine lv_iconst (v := 1) hx hb dX9_power_0 (by decide) ?_
  refine lv_istore_n (lv' := [(2, .int 1), (0, .int p0), (1, .int p1)]) hx hb dX9_power_1 rfl hl (by decide) rfl (fun ls hl => ?_)
  refine lv_iconst (v := 0) hx hb dX9_power_2 (by decide) ?_
  refine lv_istore_n (lv' := [(3, .int 0), (2, .int 1), (0, .int p0), (1, .int p1)]) hx hb dX9_power_3 rfl hl (by decide) rfl (fun ls hl => ?_)
  refine lv_iload_n hx hb dX9_power_4 rfl (lv_at hl 0 rfl) ?_
  refine lv_iload_n hx hb dX9_power_5 rfl (lv_at hl 3 rfl) ?_
  refine lv_icmp_ge (tgt := 19) hx hb dX9_power_6 (by decide) (fun c_1 => ?_) (fun c_1 => ?_)
  · skip
    have f2 : p1.toInt ≤ 0 := qi_le c_1 rfl zc_0
    refine lv_iload_n hx hb dX9_power_19 rfl (lv_at hl 1 rfl) ?_
    have f3 : (pw p0.toInt (p1.toInt).toNat) = 1 := pw_0 (ob_247 hp2 hp3 f2)
    rw [hQ]
    exact W.iret (v := 1) hx hb hr (fun t ht hW => ⟨⟨1, 1, rfl, rfl, ⟨(ob_248 f3 zc_1), (ob_9 f3), (ob_553 f3)⟩⟩, hS.F ht⟩) hS.2.2 dX9_power_20
  · skip
    have f4 : 0 < p1.toInt := qi_nle c_1 rfl zc_0
    refine lv_iload_n hx hb dX9_power_9 rfl (lv_at hl 1 rfl) ?_
    refine lv_iload_n hx hb dX9_power_10 rfl (lv_at hl 2 rfl) ?_
    refine lv_imul hx hb dX9_power_11 ?_
    refine lv_topi (fun x5 ex5 => ?_)
    have f6 : x5.toInt = p0.toInt := (ob_252 (qi_mul ex5 zc_1 rfl (ob_632 hp0 hp1) (ob_633 hp0 hp1)))
    refine lv_istore_n (lv' := [(2, .int x5), (3, .int 0), (0, .int p0), (1, .int p1)]) hx hb dX9_power_12 rfl hl (by decide) rfl (fun ls hl => ?_)
    refine lv_iinc (v := 1) (lv' := [(3, .int 1), (2, .int x5), (0, .int p0), (1, .int p1)]) hx hb dX9_power_13 hl (k := 1) rfl (by decide) (by decide) rfl (fun ls hl => ?_)
    refine lv_goto (tgt := 4) hx hb dX9_power_16 (by decide) ?_
    refine lv_iload_n hx hb dX9_power_4 rfl (lv_at hl 0 rfl) ?_
    refine lv_iload_n hx hb dX9_power_5 rfl (lv_at hl 3 rfl) ?_
    refine lv_icmp_ge (tgt := 19) hx hb dX9_power_6 (by decide) (fun c_7 => ?_) (fun c_7 => ?_)
    · skip
      have f8 : p1.toInt ≤ 1 := qi_le c_7 rfl zc_1
      refine lv_iload_n hx hb dX9_power_19 rfl (lv_at hl 1 rfl) ?_
      have f9 : (pw p0.toInt (p1.toInt).toNat) = p0.toInt := pw_1 (ob_253 f4 f8)
      rw [hQ]
      exact W.iret (v := x5) hx hb hr (fun t ht hW => ⟨⟨x5, x5, rfl, rfl, ⟨(ob_634 hp0 hp1 f9 f6), (ob_635 hp0 hp1 f9), (ob_636 hp0 hp1 f9)⟩⟩, hS.F ht⟩) hS.2.2 dX9_power_20
    · skip
      have f10 : 1 < p1.toInt := qi_nle c_7 rfl zc_1
      refine lv_iload_n hx hb dX9_power_9 rfl (lv_at hl 1 rfl) ?_
      refine lv_iload_n hx hb dX9_power_10 rfl (lv_at hl 2 rfl) ?_
      refine lv_imul hx hb dX9_power_11 ?_
      refine lv_topi (fun x11 ex11 => ?_)
      have f12 : 0 * 0 ≤ x11.toInt ∧ x11.toInt ≤ 6 * 6 := qi_mulb ex11 (ob_635 hp0 hp1 f6) (ob_637 hp0 hp1 f6) (ob_638 hp0 hp1) (ob_639 hp0 hp1) (by decide) (by decide) (by decide)
      have f13 : x11.toInt = (p0.toInt * p0.toInt) := qi_mulx ex11 f6 rfl (ob_635 hp0 hp1 f6) (ob_637 hp0 hp1 f6) (ob_638 hp0 hp1) (ob_639 hp0 hp1) (by decide) (by decide) (by decide)
      refine lv_istore_n (lv' := [(2, .int x11), (3, .int 1), (0, .int p0), (1, .int p1)]) hx hb dX9_power_12 rfl hl (by decide) rfl (fun ls hl => ?_)
      refine lv_iinc (v := 2) (lv' := [(3, .int 2), (2, .int x11), (0, .int p0), (1, .int p1)]) hx hb dX9_power_13 hl (k := 1) rfl (by decide) (by decide) rfl (fun ls hl => ?_)
      refine lv_goto (tgt := 4) hx hb dX9_power_16 (by decide) ?_
      refine lv_iload_n hx hb dX9_power_4 rfl (lv_at hl 0 rfl) ?_
      refine lv_iload_n hx hb dX9_power_5 rfl (lv_at hl 3 rfl) ?_
      refine lv_icmp_ge (tgt := 19) hx hb dX9_power_6 (by decide) (fun c_14 => ?_) (fun c_14 => ?_)
      · skip
        have f15 : p1.toInt ≤ 2 := qi_le c_14 rfl zc_2
        refine lv_iload_n hx hb dX9_power_19 rfl (lv_at hl 1 rfl) ?_
        have f16 : (pw p0.toInt (p1.toInt).toNat) = (p0.toInt * p0.toInt) := pw_2 (ob_260 f10 f15)
        rw [hQ]
        exact W.iret (v := x11) hx hb hr (fun t ht hW => ⟨⟨x11, x11, rfl, rfl, ⟨(ob_640 f12 f16 f13), (ob_641 f12 f16 f13), (ob_642 f12 f16 f13)⟩⟩, hS.F ht⟩) hS.2.2 dX9_power_20
      · skip
        have f17 : 2 < p1.toInt := qi_nle c_14 rfl zc_2
        refine lv_iload_n hx hb dX9_power_9 rfl (lv_at hl 1 rfl) ?_
        refine lv_iload_n hx hb dX9_power_10 rfl (lv_at hl 2 rfl) ?_
        refine lv_imul hx hb dX9_power_11 ?_
        refine lv_topi (fun x18 ex18 => ?_)
        have f19 : 0 * 0 ≤ x18.toInt ∧ x18.toInt ≤ 36 * 6 := qi_mulb ex18 (ob_643 f12 f13) (ob_644 f12 f13) (ob_638 hp0 hp1) (ob_639 hp0 hp1) (by decide) (by decide) (by decide)
        have f20 : x18.toInt = ((p0.toInt * p0.toInt) * p0.toInt) := qi_mulx ex18 f13 rfl (ob_643 f12 f13) (ob_644 f12 f13) (ob_638 hp0 hp1) (ob_639 hp0 hp1) (by decide) (by decide) (by decide)
        refine lv_istore_n (lv' := [(2, .int x18), (3, .int 2), (0, .int p0), (1, .int p1)]) hx hb dX9_power_12 rfl hl (by decide) rfl (fun ls hl => ?_)
        refine lv_iinc (v := 3) (lv' := [(3, .int 3), (2, .int x18), (0, .int p0), (1, .int p1)]) hx hb dX9_power_13 hl (k := 1) rfl (by decide) (by decide) rfl (fun ls hl => ?_)
        refine lv_goto (tgt := 4) hx hb dX9_power_16 (by decide) ?_
        refine lv_iload_n hx hb dX9_power_4 rfl (lv_at hl 0 rfl) ?_
        refine lv_iload_n hx hb dX9_power_5 rfl (lv_at hl 3 rfl) ?_
        refine lv_icmp_ge (tgt := 19) hx hb dX9_power_6 (by decide) (fun c_21 => ?_) (fun c_21 => ?_)
        · skip
          have f22 : p1.toInt ≤ 3 := qi_le c_21 rfl zc_3
          refine lv_iload_n hx hb dX9_power_19 rfl (lv_at hl 1 rfl) ?_
          have f23 : (pw p0.toInt (p1.toInt).toNat) = ((p0.toInt * p0.toInt) * p0.toInt) := pw_3 (ob_266 f17 f22)
          rw [hQ]
          exact W.iret (v := x18) hx hb hr (fun t ht hW => ⟨⟨x18, x18, rfl, rfl, ⟨(ob_645 f19 f23 f20), (ob_646 f19 f23 f20), (ob_647 f19 f23 f20)⟩⟩, hS.F ht⟩) hS.2.2 dX9_power_20
        · skip
          have f24 : 3 < p1.toInt := qi_nle c_21 rfl zc_3
          refine lv_iload_n hx hb dX9_power_9 rfl (lv_at hl 1 rfl) ?_
          refine lv_iload_n hx hb dX9_power_10 rfl (lv_at hl 2 rfl) ?_
          refine lv_imul hx hb dX9_power_11 ?_
          refine lv_topi (fun x25 ex25 => ?_)
          have f26 : 0 * 0 ≤ x25.toInt ∧ x25.toInt ≤ 216 * 6 := qi_mulb ex25 (ob_648 f19 f20) (ob_649 f19 f20) (ob_638 hp0 hp1) (ob_639 hp0 hp1) (by decide) (by decide) (by decide)
          have f27 : x25.toInt = (((p0.toInt * p0.toInt) * p0.toInt) * p0.toInt) := qi_mulx ex25 f20 rfl (ob_648 f19 f20) (ob_649 f19 f20) (ob_638 hp0 hp1) (ob_639 hp0 hp1) (by decide) (by decide) (by decide)
          refine lv_istore_n (lv' := [(2, .int x25), (3, .int 3), (0, .int p0), (1, .int p1)]) hx hb dX9_power_12 rfl hl (by decide) rfl (fun ls hl => ?_)
          refine lv_iinc (v := 4) (lv' := [(3, .int 4), (2, .int x25), (0, .int p0), (1, .int p1)]) hx hb dX9_power_13 hl (k := 1) rfl (by decide) (by decide) rfl (fun ls hl => ?_)
          refine lv_goto (tgt := 4) hx hb dX9_power_16 (by decide) ?_
          refine lv_iload_n hx hb dX9_power_4 rfl (lv_at hl 0 rfl) ?_
          refine lv_iload_n hx hb dX9_power_5 rfl (lv_at hl 3 rfl) ?_
          refine lv_icmp_ge (tgt := 19) hx hb dX9_power_6 (by decide) (fun c_28 => ?_) (fun c_28 => ((ob_272 (qi_nle c_28 rfl zc_4) hp3)).elim)
          have f29 : p1.toInt ≤ 4 := qi_le c_28 rfl zc_4
          refine lv_iload_n hx hb dX9_power_19 rfl (lv_at hl 1 rfl) ?_
          have f30 : (pw p0.toInt (p1.toInt).toNat) = (((p0.toInt * p0.toInt) * p0.toInt) * p0.toInt) := pw_4 (ob_273 hp3 f24)
          rw [hQ]
          exact W.iret (v := x25) hx hb hr (fun t ht hW => ⟨⟨x25, x25, rfl, rfl, ⟨(ob_650 f26 f30 f27), (ob_651 f26 f30 f27), (ob_652 f26 f30 f27)⟩⟩, hS.F ht⟩) hS.2.2 dX9_power_20
set_option maxHeartbeats 4000000 in
set_option maxRecDepth 100000 in
theorem kX9_walk (l : Launch) (dC : Nat → ClassId) (dI : Nat → Nat → Nat) (r : Nat → Nat) (ct : Nat → ClassId) (i_taped i_size i_faultKind i_at i_end i_token i_number i_bank i_rb i_codes i_within i_piled i_unitsInRule i_askHouse i_askTune i_acts i_undone i_laid i_knowns i_time : Int32) (f_text f_tunes f_houses f_hums f_told f_many f_ruleFrom f_ruleTo f_code f_eWhat f_eSign f_all f_kept f_was f_sTune f_boxAll : Nat → Int32) (J : Nat → Nat → Int32) (L : Nat → Nat → Int64) (p0 : Int32) (sz : Nat) (hI : (IM i_taped i_size i_at i_end i_bank i_rb i_acts i_undone i_laid i_knowns i_time f_tunes f_houses f_hums f_told f_many f_ruleFrom f_ruleTo f_code f_all f_kept f_was f_sTune f_boxAll)) : Met l yX9_walk (.code yX9_walk cX9_walk 6 (some .int) :: GW) { frames := 8, cells := 0, slots := 0, locals := 293 } (va_Pc [.ref (r 0), .int p0] (pW (dC, dI) (WM r ct i_taped i_size i_faultKind i_at i_end i_token i_number i_bank i_rb i_codes i_within i_piled i_unitsInRule i_askHouse i_askTune i_acts i_undone i_laid i_knowns i_time f_text f_tunes f_houses f_hums f_told f_many f_ruleFrom f_ruleTo f_code f_eWhat f_eSign f_all f_kept f_was f_sTune f_boxAll J L) (TM ct) sz)) (va_Qi (fun (r0 : Int32) (u : Int32) => r0 = u) (fun (u : Int32) (t : State) => ∃ (n_i_laid : Int32) (n_J : Nat → Nat → Int32), va_P (dC, dI) vwCl (WM r ct i_taped i_size i_faultKind i_at i_end i_token i_number i_bank i_rb i_codes i_within i_piled i_unitsInRule i_askHouse i_askTune i_acts i_undone n_i_laid i_knowns i_time f_text f_tunes f_houses f_hums f_told f_many f_ruleFrom f_ruleTo f_code f_eWhat f_eSign f_all f_kept f_was f_sTune f_boxAll n_J L) t.heap ∧ va_D (va_A (WM r ct i_taped i_size i_faultKind i_at i_end i_token i_number i_bank i_rb i_codes i_within i_piled i_unitsInRule i_askHouse i_askTune i_acts i_undone i_laid i_knowns i_time f_text f_tunes f_houses f_hums f_told f_many f_ruleFrom f_ruleTo f_code f_eWhat f_eSign f_all f_kept f_was f_sTune f_boxAll J L) sz) (WM r ct i_taped i_size i_faultKind i_at i_end i_token i_number i_bank i_rb i_codes i_within i_piled i_unitsInRule i_askHouse i_askTune i_acts i_undone n_i_laid i_knowns i_time f_text f_tunes f_houses f_hums f_told f_many f_ruleFrom f_ruleTo f_code f_eWhat f_eSign f_all f_kept f_was f_sTune f_boxAll n_J L) ∧ (IM i_taped i_size i_at i_end i_bank i_rb i_acts i_undone n_i_laid i_knowns i_time f_tunes f_houses f_hums f_told f_many f_ruleFrom f_ruleTo f_code f_all f_kept f_was f_sTune f_boxAll)) (va_A (WM r ct i_taped i_size i_faultKind i_at i_end i_token i_number i_bank i_rb i_codes i_within i_piled i_unitsInRule i_askHouse i_askTune i_acts i_undone i_laid i_knowns i_time f_text f_tunes f_houses f_hums f_told f_many f_ruleFrom f_ruleTo f_code f_eWhat f_eSign f_all f_kept f_was f_sTune f_boxAll J L) sz)) 0 0 (va_A (WM r ct i_taped i_size i_faultKind i_at i_end i_token i_number i_bank i_rb i_codes i_within i_piled i_unitsInRule i_askHouse i_askTune i_acts i_undone i_laid i_knowns i_time f_text f_tunes f_houses f_hums f_told f_many f_ruleFrom f_ruleTo f_code f_eWhat f_eSign f_all f_kept f_was f_sTune f_boxAll J L) sz) := by
  refine Met.ofW (cc := cX9_walk) (maxL := 6) (ret := (some .int)) (by decide) rfl ?_
  intro p e s m args below meth c0 s₁ B hml hv
  obtain ⟨rfl, hsz, hP, hK, hD0⟩ := hv
  have hx := B.exec
  have hb := B.bytes
  have hr := B.returns
  have hts := atoms_spec (ws := .code yX9_walk cX9_walk 6 (some .int) :: GW) B.pre
  have hG : ∀ w ∈ GW, w.before _ s = true := fun w h => hts w (List.mem_cons_of_mem _ h)
  have hown : s.vm.findClass RX9 = some m.cls := findClass_of_methodNamed B.named
  subst hsz
  have hD := hD0.self (sz := s.heap.size)
  generalize hAe : va_A (WM r ct i_taped i_size i_faultKind i_at i_end i_token i_number i_bank i_rb i_codes i_within i_piled i_unitsInRule i_askHouse i_askTune i_acts i_undone i_laid i_knowns i_time f_text f_tunes f_houses f_hums f_told f_many f_ruleFrom f_ruleTo f_code f_eWhat f_eSign f_all f_kept f_was f_sTune f_boxAll J L) s.heap.size = A at hD ⊢
  have hA : ∀ q : Nat, s.heap.size ≤ q → A q := fun q h => by rw [← hAe]; exact Or.inr h
  have hS : va_S A s.heap s.heap [] := va_S.rf
  have hP : va_P (dC, dI) vwCl (WM r ct i_taped i_size i_faultKind i_at i_end i_token i_number i_bank i_rb i_codes i_within i_piled i_unitsInRule i_askHouse i_askTune i_acts i_undone i_laid i_knowns i_time f_text f_tunes f_houses f_hums f_told f_many f_ruleFrom f_ruleTo f_code f_eWhat f_eSign f_all f_kept f_was f_sTune f_boxAll J L) s.heap := hP
  have hl := lv_entry ([.ref (r 0), .int p0]) (n := 6) (Nat.le_of_ble_eq_true rfl)
  rw [lg_entry_eq]
  generalize (lg_sl ([.ref (r 0), .int p0]) ++ List.replicate (6 - (lg_sl ([.ref (r 0), .int p0])).length) Slot.unset).toArray = ls at hl ⊢
  have hl : lv_has ls 6 [(0, .ref (r 0)), (1, .int p0)] := hl
  refine nameQ (fun Q hQ => ?_)
  obtain ⟨im0, im1, im2, im3, im4, im5, im6, im7, im8, im9, im10, im11, im12, im13, im14, im15, im16, im17, im18, im19, im20, im21, im22, im23, im24, im25, im26, im27, im28, im29, im30⟩ := id hI
  have f1 : 0 ≤ (f_tunes (i_bank.toInt).toNat).toInt ∧ (f_tunes (i_bank.toInt).toNat).toInt ≤ 5 := im20 (i_bank.toInt)
  have f2 : 0 ≤ (f_houses (i_bank.toInt).toNat).toInt ∧ (f_houses (i_bank.toInt).toNat).toInt ≤ 4 := im21 (i_bank.toInt)
  refine lv_iload_n hx hb dX9_walk_0 rfl (lv_at hl 1 rfl) ?_
  refine lv_iconst (v := 0) hx hb dX9_walk_1 (by decide) ?_
  refine lv_bipush (v := 99) hx hb dX9_walk_2 (by decide) ?_
  refine va_calli (va_runS (As := [.int p0, .int 0, .int 99]) (rest := []) ⟨hx, hb, hml, hown, hG⟩ (kX9_isIn l dC dI p0 0 99 s.heap.size) (va_cwS 3 hG (goodS gw1516 gw1517 gw138 gw1518) rfl rfl rfl hd_X9_isIn ⟨(Nat.le_of_ble_eq_true rfl), (Nat.le_of_ble_eq_true rfl)⟩) ⟨fbR, pR_in emptyP (emptyK hK)⟩ rfl rfl hl.1 rfl (lv_room (Nat.le_of_ble_eq_true rfl)) dX9_walk_4 ⟨(Nat.le_of_ble_eq_true rfl), (Nat.le_of_ble_eq_true rfl)⟩) hS (fun q hq h => absurd hq (Nat.not_lt.mpr h)) (fun q h => hA q (Nat.le_trans hS.1 h)) (fun r_4 u_ t_ H3 locs ht hvm hw hB hz1 hk1 hS => ?_)
  subst hw
  have hP := wk hP hk1
  obtain ⟨f5, f6, f7⟩ := hB
  refine lv_if_ne (tgt := 12) hx hb dX9_walk_7 (by decide) (fun c_8 => ?_) (fun c_8 => ?_)
  · skip
    have f9 : r_4.toInt ≠ 0 := qi_ne c_8 rfl zc_0
    have f10 : 1 ≤ r_4.toInt := (ob_468 f5 f9 zc_99 zc_0)
    have f11 : 0 ≤ p0.toInt := (ob_469 f5 f9 zc_99 zc_0)
    have f12 : p0.toInt ≤ 99 := (ob_470 f5 f9 zc_99 zc_0)
    have f13 : r_4.toInt = 1 := (ob_167 f6 f7 f10)
    refine lv_iconst (v := 0) hx hb dX9_walk_12 (by decide) ?_
    refine lv_istore_n (lv' := [(2, .int 0), (0, .ref (r 0)), (1, .int p0)]) hx hb dX9_walk_13 rfl hl (by decide) rfl (fun ls hl => ?_)
    refine lv_iconst (v := (-1)) hx hb dX9_walk_14 (by decide) ?_
    refine lv_istore_n (lv' := [(3, .int (-1)), (2, .int 0), (0, .ref (r 0)), (1, .int p0)]) hx hb dX9_walk_15 rfl hl (by decide) rfl (fun ls hl => ?_)
    refine lv_iconst (v := 0) hx hb dX9_walk_16 (by decide) ?_
    refine lv_istore (lv' := [(4, .int 0), (3, .int (-1)), (2, .int 0), (0, .ref (r 0)), (1, .int p0)]) hx hb dX9_walk_17 hl (by decide) rfl (fun ls hl => ?_)
    have L19 : ∀ (N19 : Nat) (y19_2 y19_3 y19_4 : Int32) (H19 : Heap) (locs : List Loc) (ls : Array Slot) (g19_0 : 0 ≤ y19_2.toInt) (g19_1 : y19_2.toInt ≤ 1048576) (g19_2 : 0 ≤ y19_3.toInt + 1) (g19_3 : 0 ≤ y19_4.toInt) (g19_4 : y19_4.toInt ≤ 1296) (hP : va_P (dC, dI) vwCl (WM r ct i_taped i_size i_faultKind i_at i_end i_token i_number i_bank i_rb i_codes i_within i_piled i_unitsInRule i_askHouse i_askTune i_acts i_undone i_laid i_knowns i_time f_text f_tunes f_houses f_hums f_told f_many f_ruleFrom f_ruleTo f_code f_eWhat f_eSign f_all f_kept f_was f_sTune f_boxAll J L) H19) (hD : va_D A (WM r ct i_taped i_size i_faultKind i_at i_end i_token i_number i_bank i_rb i_codes i_within i_piled i_unitsInRule i_askHouse i_askTune i_acts i_undone i_laid i_knowns i_time f_text f_tunes f_houses f_hums f_told f_many f_ruleFrom f_ruleTo f_code f_eWhat f_eSign f_all f_kept f_was f_sTune f_boxAll J L)) (hS : va_S A s.heap H19 locs) (hl : lv_has ls 6 [(0, .ref (r 0)), (1, .int p0), (2, .int y19_2), (3, .int y19_3), (4, .int y19_4)]) (hM : -1 * y19_4.toInt + 1296 < (N19 : Int)), W p l e { frames := 8, cells := 0, slots := 0, locals := 293 } s m ([.ref (r 0), .int p0] : List Value).toArray below meth c0 H19 locs 0 0 Q (F0 m 19 ls []) := by
      intro N19
      induction N19 with
      | zero =>
        intro y19_2 y19_3 y19_4 H19 locs ls g19_0 g19_1 g19_2 g19_3 g19_4 hP hD hS hl hM
        exact ((ob_602 hM g19_3 g19_4)).elim
      | succ N19 ih19 =>
        intro y19_2 y19_3 y19_4 H19 locs ls g19_0 g19_1 g19_2 g19_3 g19_4 hP hD hS hl hM
        have hM19 := msucc hM
        refine lv_iload hx hb dX9_walk_19 (lv_at hl 4 rfl) ?_
        refine lv_aload_n hx hb dX9_walk_21 rfl (lv_at hl 0 rfl) ?_
        refine va_calli (va_runV (As := []) (rest := [.int y19_4]) ⟨hx, hb, hml, hown, hG⟩ (kX9_homes l dC dI r ct i_taped i_size i_faultKind i_at i_end i_token i_number i_bank i_rb i_codes i_within i_piled i_unitsInRule i_askHouse i_askTune i_acts i_undone i_laid i_knowns i_time f_text f_tunes f_houses f_hums f_told f_many f_ruleFrom f_ruleTo f_code f_eWhat f_eSign f_all f_kept f_was f_sTune f_boxAll J L H19.size hI) (cwV 0 hG (goodV gw1167 gw1169 gw58 gw138 gw1170) rfl rfl rfl hd_X9_homes ⟨(Nat.le_of_ble_eq_true rfl), (Nat.le_of_ble_eq_true rfl)⟩) ⟨fbR, va_recv hK hP (ci := 8) (q0 := 0) rfl rfl, pR_in hP hK⟩ rfl rfl hl.1 rfl (lv_room (Nat.le_of_ble_eq_true rfl)) dX9_walk_22 ⟨(Nat.le_of_ble_eq_true rfl), (Nat.le_of_ble_eq_true rfl)⟩) hS (fun q hq h => absurd hq (Nat.not_lt.mpr h)) (fun q h => hA q (Nat.le_trans hS.1 h)) (fun r_15 u_ t_ H14 locs ht hvm hw hB hz1 hk1 hS => ?_)
        subst hw
        have hP := wk hP hk1
        have f16 := hB
        have f17 : r_15.toInt = (f_houses (i_bank.toInt).toNat).toInt := (ob_278 f16)
        refine lv_aload_n hx hb dX9_walk_25 rfl (lv_at hl 0 rfl) ?_
        refine va_calli (va_runV (As := []) (rest := [.int r_15, .int y19_4]) ⟨hx, hb, hml, hown, hG⟩ (kX9_homes l dC dI r ct i_taped i_size i_faultKind i_at i_end i_token i_number i_bank i_rb i_codes i_within i_piled i_unitsInRule i_askHouse i_askTune i_acts i_undone i_laid i_knowns i_time f_text f_tunes f_houses f_hums f_told f_many f_ruleFrom f_ruleTo f_code f_eWhat f_eSign f_all f_kept f_was f_sTune f_boxAll J L H14.size hI) (cwV 0 hG (goodV gw1167 gw1169 gw58 gw138 gw1170) rfl rfl rfl hd_X9_homes ⟨(Nat.le_of_ble_eq_true rfl), (Nat.le_of_ble_eq_true rfl)⟩) ⟨fbR, va_recv hK hP (ci := 8) (q0 := 0) rfl rfl, pR_in hP hK⟩ rfl rfl hl.1 rfl (lv_room (Nat.le_of_ble_eq_true rfl)) dX9_walk_26 ⟨(Nat.le_of_ble_eq_true rfl), (Nat.le_of_ble_eq_true rfl)⟩) hS (fun q hq h => absurd hq (Nat.not_lt.mpr h)) (fun q h => hA q (Nat.le_trans hS.1 h)) (fun r_19 u_ t_ H18 locs ht hvm hw hB hz1 hk1 hS => ?_)
        subst hw
        have hP := wk hP hk1
        have f20 := hB
        have f21 : r_19.toInt = (f_houses (i_bank.toInt).toNat).toInt := (ob_278 f20)
        refine va_calli (va_runS (As := [.int r_15, .int r_19]) (rest := [.int y19_4]) ⟨hx, hb, hml, hown, hG⟩ (kX9_power_v2 l dC dI r_15 r_19 H18.size (ob_603 f2 f17) (ob_653 f2 f17) (ob_603 f2 f21) (ob_604 f2 f21)) (va_cwS 2 hG (goodS gw1756 gw1757 gw138 gw1758) rfl rfl rfl hd_X9_power ⟨(Nat.le_of_ble_eq_true rfl), (Nat.le_of_ble_eq_true rfl)⟩) ⟨fbR, pR_in emptyP (emptyK hK)⟩ rfl rfl hl.1 rfl (lv_room (Nat.le_of_ble_eq_true rfl)) dX9_walk_29 ⟨(Nat.le_of_ble_eq_true rfl), (Nat.le_of_ble_eq_true rfl)⟩) hS (fun q hq h => absurd hq (Nat.not_lt.mpr h)) (fun q h => hA q (Nat.le_trans hS.1 h)) (fun r_23 u_ t_ H22 locs ht hvm hw hB hz1 hk1 hS => ?_)
        subst hw
        have hP := wk hP hk1
        obtain ⟨f24, f25, f26⟩ := hB
        have f27 : (pw r_15.toInt (r_19.toInt).toNat) = (pw ((f_houses (i_bank.toInt).toNat).toInt) (r_19.toInt).toNat) := by rw [f17]
        have f28 : (pw ((f_houses (i_bank.toInt).toNat).toInt) (r_19.toInt).toNat) = (pw ((f_houses (i_bank.toInt).toNat).toInt) (((f_houses (i_bank.toInt).toNat).toInt)).toNat) := by rw [f21]
        have f29 : r_23.toInt = (pw ((f_houses (i_bank.toInt).toNat).toInt) (((f_houses (i_bank.toInt).toNat).toInt)).toNat) := (ob_605 f24 f28)
        refine lv_icmp_ge (tgt := 74) hx hb dX9_walk_32 (by decide) (fun c_30 => ?_) (fun c_30 => ?_)
        · skip
          have f31 : r_23.toInt ≤ y19_4.toInt := qi_le c_30 rfl rfl
          refine lv_aload_n hx hb dX9_walk_74 rfl (lv_at hl 0 rfl) ?_
          refine lv_aload_n hx hb dX9_walk_75 rfl (lv_at hl 0 rfl) ?_
          refine va_calli (va_runV (As := []) (rest := [.ref (r 0)]) ⟨hx, hb, hml, hown, hG⟩ (kX9_homes l dC dI r ct i_taped i_size i_faultKind i_at i_end i_token i_number i_bank i_rb i_codes i_within i_piled i_unitsInRule i_askHouse i_askTune i_acts i_undone i_laid i_knowns i_time f_text f_tunes f_houses f_hums f_told f_many f_ruleFrom f_ruleTo f_code f_eWhat f_eSign f_all f_kept f_was f_sTune f_boxAll J L H22.size hI) (cwV 0 hG (goodV gw1167 gw1169 gw58 gw138 gw1170) rfl rfl rfl hd_X9_homes ⟨(Nat.le_of_ble_eq_true rfl), (Nat.le_of_ble_eq_true rfl)⟩) ⟨fbR, va_recv hK hP (ci := 8) (q0 := 0) rfl rfl, pR_in hP hK⟩ rfl rfl hl.1 rfl (lv_room (Nat.le_of_ble_eq_true rfl)) dX9_walk_76 ⟨(Nat.le_of_ble_eq_true rfl), (Nat.le_of_ble_eq_true rfl)⟩) hS (fun q hq h => absurd hq (Nat.not_lt.mpr h)) (fun q h => hA q (Nat.le_trans hS.1 h)) (fun r_33 u_ t_ H32 locs ht hvm hw hB hz1 hk1 hS => ?_)
          subst hw
          have hP := wk hP hk1
          have f34 := hB
          have f35 : r_33.toInt = (f_houses (i_bank.toInt).toNat).toInt := (ob_278 f34)
          refine pM_X9_373_0 hx hb hG hown hK hP hD hS dX9_walk_79 (fun H36 locs hP hD hS => ?_)
          refine lv_iconst (v := 0) hx hb dX9_walk_82 (by decide) ?_
          refine lv_istore (lv' := [(4, .int 0), (0, .ref (r 0)), (1, .int p0), (2, .int y19_2), (3, .int y19_3)]) hx hb dX9_walk_83 hl (by decide) rfl (fun ls hl => ?_)
          have L85 : ∀ (N85 : Nat) (y85_4 : Int32) (m85_J : Nat → Nat → Int32) (H85 : Heap) (locs : List Loc) (ls : Array Slot) (g85_0 : 0 ≤ y85_4.toInt) (g85_1 : y85_4.toInt ≤ 4) (hP : va_P (dC, dI) vwCl (WM r ct i_taped i_size i_faultKind i_at i_end i_token i_number i_bank i_rb i_codes i_within i_piled i_unitsInRule i_askHouse i_askTune i_acts i_undone r_33 i_knowns i_time f_text f_tunes f_houses f_hums f_told f_many f_ruleFrom f_ruleTo f_code f_eWhat f_eSign f_all f_kept f_was f_sTune f_boxAll m85_J L) H85) (hD : va_D A (WM r ct i_taped i_size i_faultKind i_at i_end i_token i_number i_bank i_rb i_codes i_within i_piled i_unitsInRule i_askHouse i_askTune i_acts i_undone r_33 i_knowns i_time f_text f_tunes f_houses f_hums f_told f_many f_ruleFrom f_ruleTo f_code f_eWhat f_eSign f_all f_kept f_was f_sTune f_boxAll m85_J L)) (hS : va_S A s.heap H85 locs) (hl : lv_has ls 6 [(0, .ref (r 0)), (1, .int p0), (2, .int y19_2), (3, .int y19_3), (4, .int y85_4)]) (hM : -1 * y85_4.toInt + 4 < (N85 : Int)), W p l e { frames := 8, cells := 0, slots := 0, locals := 293 } s m ([.ref (r 0), .int p0] : List Value).toArray below meth c0 H85 locs 0 0 Q (F0 m 85 ls []) := by
            intro N85
            induction N85 with
            | zero =>
              intro y85_4 m85_J H85 locs ls g85_0 g85_1 hP hD hS hl hM
              exact ((ob_293 hM g85_0 g85_1)).elim
            | succ N85 ih85 =>
              intro y85_4 m85_J H85 locs ls g85_0 g85_1 hP hD hS hl hM
              have hM85 := msucc hM
              refine lv_iload hx hb dX9_walk_85 (lv_at hl 4 rfl) ?_
              refine lv_aload_n hx hb dX9_walk_87 rfl (lv_at hl 0 rfl) ?_
              refine va_calli (va_runV (As := []) (rest := [.int y85_4]) ⟨hx, hb, hml, hown, hG⟩ (kX9_homes l dC dI r ct i_taped i_size i_faultKind i_at i_end i_token i_number i_bank i_rb i_codes i_within i_piled i_unitsInRule i_askHouse i_askTune i_acts i_undone r_33 i_knowns i_time f_text f_tunes f_houses f_hums f_told f_many f_ruleFrom f_ruleTo f_code f_eWhat f_eSign f_all f_kept f_was f_sTune f_boxAll m85_J L H85.size ⟨im0, im1, im2, im3, im4, im5, im6, im7, (ob_603 f2 f35), (ob_604 f2 f35), im10, im11, im12, im13, im14, im15, im16, im17, im18, im19, im20, im21, im22, im23, im24, im25, im26, im27, im28, im29, im30⟩) (cwV 0 hG (goodV gw1167 gw1169 gw58 gw138 gw1170) rfl rfl rfl hd_X9_homes ⟨(Nat.le_of_ble_eq_true rfl), (Nat.le_of_ble_eq_true rfl)⟩) ⟨fbR, va_recv hK hP (ci := 8) (q0 := 0) rfl rfl, pR_in hP hK⟩ rfl rfl hl.1 rfl (lv_room (Nat.le_of_ble_eq_true rfl)) dX9_walk_88 ⟨(Nat.le_of_ble_eq_true rfl), (Nat.le_of_ble_eq_true rfl)⟩) hS (fun q hq h => absurd hq (Nat.not_lt.mpr h)) (fun q h => hA q (Nat.le_trans hS.1 h)) (fun r_38 u_ t_ H37 locs ht hvm hw hB hz1 hk1 hS => ?_)
              subst hw
              have hP := wk hP hk1
              have f39 := hB
              have f40 : r_38.toInt = (f_houses (i_bank.toInt).toNat).toInt := (ob_278 f39)
              refine lv_icmp_ge (tgt := 118) hx hb dX9_walk_91 (by decide) (fun c_41 => ?_) (fun c_41 => ?_)
              · skip
                have f42 : r_38.toInt ≤ y85_4.toInt := qi_le c_41 rfl rfl
                refine lv_iload_n hx hb dX9_walk_118 rfl (lv_at hl 3 rfl) ?_
                rw [hQ]
                exact W.iret (v := y19_3) hx hb hr (fun t ht hW => ⟨⟨y19_3, y19_3, rfl, rfl, ⟨r_33, m85_J, by rw [ht]; exact hP, hD, ⟨im0, im1, im2, im3, im4, im5, im6, im7, (ob_606 f2 f42 f40 f35), (ob_607 f2 f42 f40 f35), im10, im11, im12, im13, im14, im15, im16, im17, im18, im19, im20, im21, im22, im23, im24, im25, im26, im27, im28, im29, im30⟩⟩⟩, hS.F ht⟩) hS.2.2 dX9_walk_119
              · skip
                have f43 : y85_4.toInt < r_38.toInt := qi_nle c_41 rfl rfl
                refine lv_aload_n hx hb dX9_walk_94 rfl (lv_at hl 0 rfl) ?_
                refine gM_X9_97_0 hx hb hG hown hK hP dX9_walk_95 ?_
                refine lv_iload hx hb dX9_walk_98 (lv_at hl 4 rfl) ?_
                refine lv_aload_n hx hb dX9_walk_100 rfl (lv_at hl 0 rfl) ?_
                refine lv_iload_n hx hb dX9_walk_101 rfl (lv_at hl 2 rfl) ?_
                refine lv_aload_n hx hb dX9_walk_102 rfl (lv_at hl 0 rfl) ?_
                refine va_calli (va_runV (As := []) (rest := [.int y19_2, .ref (r 0), .int y85_4, .ref (r 28)]) ⟨hx, hb, hml, hown, hG⟩ (kX9_homes l dC dI r ct i_taped i_size i_faultKind i_at i_end i_token i_number i_bank i_rb i_codes i_within i_piled i_unitsInRule i_askHouse i_askTune i_acts i_undone r_33 i_knowns i_time f_text f_tunes f_houses f_hums f_told f_many f_ruleFrom f_ruleTo f_code f_eWhat f_eSign f_all f_kept f_was f_sTune f_boxAll m85_J L H37.size ⟨im0, im1, im2, im3, im4, im5, im6, im7, (ob_608 f2 f43 f40 f35), (ob_609 f2 f43 f40 f35), im10, im11, im12, im13, im14, im15, im16, im17, im18, im19, im20, im21, im22, im23, im24, im25, im26, im27, im28, im29, im30⟩) (cwV 0 hG (goodV gw1167 gw1169 gw58 gw138 gw1170) rfl rfl rfl hd_X9_homes ⟨(Nat.le_of_ble_eq_true rfl), (Nat.le_of_ble_eq_true rfl)⟩) ⟨fbR, va_recv hK hP (ci := 8) (q0 := 0) rfl rfl, pR_in hP hK⟩ rfl rfl hl.1 rfl (lv_room (Nat.le_of_ble_eq_true rfl)) dX9_walk_103 ⟨(Nat.le_of_ble_eq_true rfl), (Nat.le_of_ble_eq_true rfl)⟩) hS (fun q hq h => absurd hq (Nat.not_lt.mpr h)) (fun q h => hA q (Nat.le_trans hS.1 h)) (fun r_45 u_ t_ H44 locs ht hvm hw hB hz1 hk1 hS => ?_)
                subst hw
                have hP := wk hP hk1
                have f46 := hB
                have f47 : r_45.toInt = (f_houses (i_bank.toInt).toNat).toInt := (ob_278 f46)
                refine lv_iload hx hb dX9_walk_106 (lv_at hl 4 rfl) ?_
                refine va_calli (va_runV (As := [.int y19_2, .int r_45, .int y85_4]) (rest := [.int y85_4, .ref (r 28)]) ⟨hx, hb, hml, hown, hG⟩ (kX9_digit_v1 l dC dI r ct i_taped i_size i_faultKind i_at i_end i_token i_number i_bank i_rb i_codes i_within i_piled i_unitsInRule i_askHouse i_askTune i_acts i_undone r_33 i_knowns i_time f_text f_tunes f_houses f_hums f_told f_many f_ruleFrom f_ruleTo f_code f_eWhat f_eSign f_all f_kept f_was f_sTune f_boxAll m85_J L y19_2 r_45 y85_4 H44.size ⟨im0, im1, im2, im3, im4, im5, im6, im7, (ob_608 f2 f43 f40 f35), (ob_609 f2 f43 f40 f35), im10, im11, im12, im13, im14, im15, im16, im17, im18, im19, im20, im21, im22, im23, im24, im25, im26, im27, im28, im29, im30⟩ (ob_628 g85_0 f43 f40 f47) (ob_629 f2 f43 f40 f47) (ob_133 g85_0) (ob_361 f43 f40) (ob_654 g19_0 g19_1) (ob_655 g19_0 g19_1)) (cwV 3 hG (goodV gw1763 gw1765 gw116 gw138 gw1766) rfl rfl rfl hd_X9_digit ⟨(Nat.le_of_ble_eq_true rfl), (Nat.le_of_ble_eq_true rfl)⟩) ⟨fbR, va_recv hK hP (ci := 8) (q0 := 0) rfl rfl, pR_in hP hK⟩ rfl rfl hl.1 rfl (lv_room (Nat.le_of_ble_eq_true rfl)) dX9_walk_108 ⟨(Nat.le_of_ble_eq_true rfl), (Nat.le_of_ble_eq_true rfl)⟩) hS (fun q hq h => absurd hq (Nat.not_lt.mpr h)) (fun q h => hA q (Nat.le_trans hS.1 h)) (fun r_49 u_ t_ H48 locs ht hvm hw hB hz1 hk1 hS => ?_)
                subst hw
                have hP := wk hP hk1
                obtain ⟨f50, f51, f52, f53⟩ := hB
                have f54 : ((y19_2.toInt / (pw r_45.toInt (((f_houses (i_bank.toInt).toNat).toInt + -1 * y85_4.toInt + (-1))).toNat)) % r_45.toInt) = ((y19_2.toInt / (pw ((f_houses (i_bank.toInt).toNat).toInt) (((f_houses (i_bank.toInt).toNat).toInt + -1 * y85_4.toInt + (-1))).toNat)) % ((f_houses (i_bank.toInt).toNat).toInt)) := by rw [f47]
                have f55 : r_49.toInt = ((y19_2.toInt / (pw ((f_houses (i_bank.toInt).toNat).toInt) (((f_houses (i_bank.toInt).toNat).toInt + -1 * y85_4.toInt + (-1))).toNat)) % ((f_houses (i_bank.toInt).toNat).toInt)) := (ob_581 f50 f54)
                refine stM_28 (mm := y85_4.toInt) hx hb hK hP hD hS rfl (ob_133 g85_0) (ob_610 f2 f43 f40) dX9_walk_111 (fun J57 H56 locs hP hD hS => ?_)
                obtain ⟨x58, ex58⟩ : ∃ y : Int32, y = y85_4 + Int32.ofInt 1 := ⟨_, rfl⟩
                have f59 : x58.toInt = y85_4.toInt + 1 := (ob_139 (qi_add ex58 rfl (by decide) (ob_137 g85_0) (ob_304 g85_1)))
                refine lv_iinc (v := x58) (lv' := [(4, .int x58), (0, .ref (r 0)), (1, .int p0), (2, .int y19_2), (3, .int y19_3)]) hx hb dX9_walk_112 hl (k := 4) rfl ex58.symm (by decide) rfl (fun ls hl => ?_)
                refine lv_goto (tgt := 85) hx hb dX9_walk_115 (by decide) ?_
                exact ih85 x58 J57 H56 _ _ (ob_140 g85_0 f59) (ob_305 f2 f43 f40 f59) hP hD hS (lv_sub hl [1, 2, 3, 4, 0] rfl) (ob_306 hM85 f59)
          exact L85 (-1 * (0 : Int32).toInt + 4 + 1).toNat 0 J H36 _ _ (ob_5 zc_0) (ob_307 zc_0) hP hD hS (lv_sub hl [1, 2, 3, 4, 0] rfl) (mlt (ob_308 zc_0))
        · skip
          have f60 : y19_4.toInt < r_23.toInt := qi_nle c_30 rfl rfl
          refine lv_aload_n hx hb dX9_walk_35 rfl (lv_at hl 0 rfl) ?_
          refine lv_iload hx hb dX9_walk_36 (lv_at hl 4 rfl) ?_
          refine lv_iload_n hx hb dX9_walk_38 rfl (lv_at hl 1 rfl) ?_
          refine va_calli (va_runV (As := [.int y19_4, .int p0]) (rest := []) ⟨hx, hb, hml, hown, hG⟩ (kX9_wayOf l dC dI r ct i_taped i_size i_faultKind i_at i_end i_token i_number i_bank i_rb i_codes i_within i_piled i_unitsInRule i_askHouse i_askTune i_acts i_undone i_laid i_knowns i_time f_text f_tunes f_houses f_hums f_told f_many f_ruleFrom f_ruleTo f_code f_eWhat f_eSign f_all f_kept f_was f_sTune f_boxAll J L y19_4 p0 H22.size hI (ob_133 g19_3) (ob_611 g19_4)) (cwV 2 hG (goodV gw1771 gw1773 gw117 gw138 gw1774) rfl rfl rfl hd_X9_wayOf ⟨(Nat.le_of_ble_eq_true rfl), (Nat.le_of_ble_eq_true rfl)⟩) ⟨fbR, va_recv hK hP (ci := 8) (q0 := 0) rfl rfl, pR_in hP hK⟩ rfl rfl hl.1 rfl (lv_room (Nat.le_of_ble_eq_true rfl)) dX9_walk_39 ⟨(Nat.le_of_ble_eq_true rfl), (Nat.le_of_ble_eq_true rfl)⟩) hS (fun q hq h => absurd hq (Nat.not_lt.mpr h)) (fun q h => hA q (Nat.le_trans hS.1 h)) (fun r_62 u_ t_ H61 locs ht hvm hw hB hz1 hk1 hS => ?_)
          subst hw
          have hP := wk hP hk1
          have f63 := hB
          refine lv_istore (lv' := [(5, .int r_62), (0, .ref (r 0)), (1, .int p0), (2, .int y19_2), (3, .int y19_3), (4, .int y19_4)]) hx hb dX9_walk_42 hl (by decide) rfl (fun ls hl => ?_)
          refine lv_iload hx hb dX9_walk_44 (lv_at hl 0 rfl) ?_
          refine lv_if_lt (tgt := 68) hx hb dX9_walk_46 (by decide) (fun c_64 => ?_) (fun c_64 => ?_)
          · skip
            have f65 : r_62.toInt < 0 := qi_lt c_64 rfl zc_0
            obtain ⟨x66, ex66⟩ : ∃ y : Int32, y = y19_4 + Int32.ofInt 1 := ⟨_, rfl⟩
            have f67 : x66.toInt = y19_4.toInt + 1 := (ob_139 (qi_add ex66 rfl (by decide) (ob_137 g19_3) (ob_613 g19_4)))
            refine lv_iinc (v := x66) (lv' := [(4, .int x66), (5, .int r_62), (0, .ref (r 0)), (1, .int p0), (2, .int y19_2), (3, .int y19_3)]) hx hb dX9_walk_68 hl (k := 5) rfl ex66.symm (by decide) rfl (fun ls hl => ?_)
            refine lv_goto (tgt := 19) hx hb dX9_walk_71 (by decide) ?_
            exact ih19 y19_2 y19_3 x66 H61 _ _ (ob_654 g19_0 g19_1) (ob_656 g19_0 g19_1) (ob_435 g19_2) (ob_140 g19_3 f67) (ob_616 f27 f28 f26 f60 f29 f67) hP hD hS (lv_sub hl [2, 3, 4, 5, 0] rfl) (ob_617 hM19 f67)
          · skip
            have f68 : 0 ≤ r_62.toInt := qi_nlt c_64 rfl zc_0
            refine lv_iload_n hx hb dX9_walk_49 rfl (lv_at hl 4 rfl) ?_
            refine lv_if_lt (tgt := 62) hx hb dX9_walk_50 (by decide) (fun c_69 => ?_) (fun c_69 => ?_)
            · skip
              have f70 : y19_3.toInt < 0 := qi_lt c_69 rfl zc_0
              refine lv_iload hx hb dX9_walk_62 (lv_at hl 5 rfl) ?_
              refine lv_istore_n (lv' := [(2, .int y19_4), (5, .int r_62), (0, .ref (r 0)), (1, .int p0), (3, .int y19_3), (4, .int y19_4)]) hx hb dX9_walk_64 rfl hl (by decide) rfl (fun ls hl => ?_)
              refine lv_iload hx hb dX9_walk_65 (lv_at hl 1 rfl) ?_
              refine lv_istore_n (lv' := [(3, .int r_62), (2, .int y19_4), (5, .int r_62), (0, .ref (r 0)), (1, .int p0), (4, .int y19_4)]) hx hb dX9_walk_67 rfl hl (by decide) rfl (fun ls hl => ?_)
              obtain ⟨x71, ex71⟩ : ∃ y : Int32, y = y19_4 + Int32.ofInt 1 := ⟨_, rfl⟩
              have f72 : x71.toInt = y19_4.toInt + 1 := (ob_139 (qi_add ex71 rfl (by decide) (ob_137 g19_3) (ob_613 g19_4)))
              refine lv_iinc (v := x71) (lv' := [(4, .int x71), (3, .int r_62), (2, .int y19_4), (5, .int r_62), (0, .ref (r 0)), (1, .int p0)]) hx hb dX9_walk_68 hl (k := 5) rfl ex71.symm (by decide) rfl (fun ls hl => ?_)
              refine lv_goto (tgt := 19) hx hb dX9_walk_71 (by decide) ?_
              exact ih19 y19_4 r_62 x71 H61 _ _ (ob_133 g19_3) (ob_614 g19_4) (ob_360 f68) (ob_140 g19_3 f72) (ob_616 f27 f28 f26 f60 f29 f72) hP hD hS (lv_sub hl [4, 5, 2, 1, 0] rfl) (ob_617 hM19 f72)
            · skip
              have f73 : 0 ≤ y19_3.toInt := qi_nlt c_69 rfl zc_0
              refine lv_iload hx hb dX9_walk_53 (lv_at hl 0 rfl) ?_
              refine lv_iload_n hx hb dX9_walk_55 rfl (lv_at hl 4 rfl) ?_
              refine lv_icmp_lt (tgt := 62) hx hb dX9_walk_56 (by decide) (fun c_74 => ?_) (fun c_74 => ?_)
              · skip
                have f75 : r_62.toInt < y19_3.toInt := qi_lt c_74 rfl rfl
                refine lv_iload hx hb dX9_walk_62 (lv_at hl 5 rfl) ?_
                refine lv_istore_n (lv' := [(2, .int y19_4), (5, .int r_62), (0, .ref (r 0)), (1, .int p0), (3, .int y19_3), (4, .int y19_4)]) hx hb dX9_walk_64 rfl hl (by decide) rfl (fun ls hl => ?_)
                refine lv_iload hx hb dX9_walk_65 (lv_at hl 1 rfl) ?_
                refine lv_istore_n (lv' := [(3, .int r_62), (2, .int y19_4), (5, .int r_62), (0, .ref (r 0)), (1, .int p0), (4, .int y19_4)]) hx hb dX9_walk_67 rfl hl (by decide) rfl (fun ls hl => ?_)
                obtain ⟨x76, ex76⟩ : ∃ y : Int32, y = y19_4 + Int32.ofInt 1 := ⟨_, rfl⟩
                have f77 : x76.toInt = y19_4.toInt + 1 := (ob_139 (qi_add ex76 rfl (by decide) (ob_137 g19_3) (ob_613 g19_4)))
                refine lv_iinc (v := x76) (lv' := [(4, .int x76), (3, .int r_62), (2, .int y19_4), (5, .int r_62), (0, .ref (r 0)), (1, .int p0)]) hx hb dX9_walk_68 hl (k := 5) rfl ex76.symm (by decide) rfl (fun ls hl => ?_)
                refine lv_goto (tgt := 19) hx hb dX9_walk_71 (by decide) ?_
                exact ih19 y19_4 r_62 x76 H61 _ _ (ob_133 g19_3) (ob_614 g19_4) (ob_657 f68 f75) (ob_140 g19_3 f77) (ob_616 f27 f28 f26 f60 f29 f77) hP hD hS (lv_sub hl [4, 5, 2, 1, 0] rfl) (ob_617 hM19 f77)
              · skip
                have f78 : y19_3.toInt ≤ r_62.toInt := qi_nlt c_74 rfl rfl
                refine lv_goto (tgt := 68) hx hb dX9_walk_59 (by decide) ?_
                obtain ⟨x79, ex79⟩ : ∃ y : Int32, y = y19_4 + Int32.ofInt 1 := ⟨_, rfl⟩
                have f80 : x79.toInt = y19_4.toInt + 1 := (ob_139 (qi_add ex79 rfl (by decide) (ob_137 g19_3) (ob_613 g19_4)))
                refine lv_iinc (v := x79) (lv' := [(4, .int x79), (5, .int r_62), (0, .ref (r 0)), (1, .int p0), (2, .int y19_2), (3, .int y19_3)]) hx hb dX9_walk_68 hl (k := 5) rfl ex79.symm (by decide) rfl (fun ls hl => ?_)
                refine lv_goto (tgt := 19) hx hb dX9_walk_71 (by decide) ?_
                exact ih19 y19_2 y19_3 x79 H61 _ _ (ob_654 g19_0 g19_1) (ob_656 g19_0 g19_1) (ob_658 g19_2 f73 f78) (ob_140 g19_3 f80) (ob_616 f27 f28 f26 f60 f29 f80) hP hD hS (lv_sub hl [2, 3, 4, 5, 0] rfl) (ob_617 hM19 f80)
    exact L19 (-1 * (0 : Int32).toInt + 1296 + 1).toNat 0 (-1) 0 H3 _ _ (ob_5 zc_0) (ob_659 zc_0) (ob_349 zc_m1) (ob_5 zc_0) (ob_625 zc_0) hP hD hS (lv_sub hl [3, 4, 2, 1, 0] rfl) (mlt (ob_626 zc_0))
  · skip
    have f81 : r_4.toInt = 0 := qi_eq c_8 rfl zc_0
    refine lv_iconst (v := (-1)) hx hb dX9_walk_10 (by decide) ?_
    rw [hQ]
    exact W.iret (v := (-1)) hx hb hr (fun t ht hW => ⟨⟨(-1), (-1), rfl, rfl, ⟨i_laid, J, by rw [ht]; exact hP, hD, hI⟩⟩, hS.F ht⟩) hS.2.2 dX9_walk_11
set_option maxHeartbeats 4000000 in
set_option maxRecDepth 100000 in
theorem kX9_gladAnew (l : Launch) (dC : Nat → ClassId) (dI : Nat → Nat → Nat) (r : Nat → Nat) (ct : Nat → ClassId) (i_taped i_size i_faultKind i_at i_end i_token i_number i_bank i_rb i_codes i_within i_piled i_unitsInRule i_askHouse i_askTune i_acts i_undone i_laid i_knowns i_time : Int32) (f_text f_tunes f_houses f_hums f_told f_many f_ruleFrom f_ruleTo f_code f_eWhat f_eSign f_all f_kept f_was f_sTune f_boxAll : Nat → Int32) (J : Nat → Nat → Int32) (L : Nat → Nat → Int64) (p0 p1 : Int32) (sz : Nat) (hI : (IM i_taped i_size i_at i_end i_bank i_rb i_acts i_undone i_laid i_knowns i_time f_tunes f_houses f_hums f_told f_many f_ruleFrom f_ruleTo f_code f_all f_kept f_was f_sTune f_boxAll)) (hp0 : 0 ≤ p0.toInt) (hp1 : p0.toInt + 1 ≤ (f_houses (i_bank.toInt).toNat).toInt) (hp2 : 0 ≤ p1.toInt) (hp3 : p1.toInt + 1 ≤ (f_tunes (i_bank.toInt).toNat).toInt) : Met l yX9_gladAnew (.code yX9_gladAnew cX9_gladAnew 3 (some .int) :: GW) { frames := 20, cells := 0, slots := 0, locals := 667 } (va_Pc [.ref (r 0), .int p0, .int p1] (pW (dC, dI) (WM r ct i_taped i_size i_faultKind i_at i_end i_token i_number i_bank i_rb i_codes i_within i_piled i_unitsInRule i_askHouse i_askTune i_acts i_undone i_laid i_knowns i_time f_text f_tunes f_houses f_hums f_told f_many f_ruleFrom f_ruleTo f_code f_eWhat f_eSign f_all f_kept f_was f_sTune f_boxAll J L) (TM ct) sz)) (va_Qi (fun (r0 : Int32) (u : Int32) => r0 = u) (fun (u : Int32) (t : State) => ∃ (n_i_askHouse n_i_askTune : Int32) (n_J : Nat → Nat → Int32), va_P (dC, dI) vwCl (WM r ct i_taped i_size i_faultKind i_at i_end i_token i_number i_bank i_rb i_codes i_within i_piled i_unitsInRule n_i_askHouse n_i_askTune i_acts i_undone i_laid i_knowns i_time f_text f_tunes f_houses f_hums f_told f_many f_ruleFrom f_ruleTo f_code f_eWhat f_eSign f_all f_kept f_was f_sTune f_boxAll n_J L) t.heap ∧ va_D (va_A (WM r ct i_taped i_size i_faultKind i_at i_end i_token i_number i_bank i_rb i_codes i_within i_piled i_unitsInRule i_askHouse i_askTune i_acts i_undone i_laid i_knowns i_time f_text f_tunes f_houses f_hums f_told f_many f_ruleFrom f_ruleTo f_code f_eWhat f_eSign f_all f_kept f_was f_sTune f_boxAll J L) sz) (WM r ct i_taped i_size i_faultKind i_at i_end i_token i_number i_bank i_rb i_codes i_within i_piled i_unitsInRule n_i_askHouse n_i_askTune i_acts i_undone i_laid i_knowns i_time f_text f_tunes f_houses f_hums f_told f_many f_ruleFrom f_ruleTo f_code f_eWhat f_eSign f_all f_kept f_was f_sTune f_boxAll n_J L) ∧ (IM i_taped i_size i_at i_end i_bank i_rb i_acts i_undone i_laid i_knowns i_time f_tunes f_houses f_hums f_told f_many f_ruleFrom f_ruleTo f_code f_all f_kept f_was f_sTune f_boxAll) ∧ ((True))) (va_A (WM r ct i_taped i_size i_faultKind i_at i_end i_token i_number i_bank i_rb i_codes i_within i_piled i_unitsInRule i_askHouse i_askTune i_acts i_undone i_laid i_knowns i_time f_text f_tunes f_houses f_hums f_told f_many f_ruleFrom f_ruleTo f_code f_eWhat f_eSign f_all f_kept f_was f_sTune f_boxAll J L) sz)) 0 0 (va_A (WM r ct i_taped i_size i_faultKind i_at i_end i_token i_number i_bank i_rb i_codes i_within i_piled i_unitsInRule i_askHouse i_askTune i_acts i_undone i_laid i_knowns i_time f_text f_tunes f_houses f_hums f_told f_many f_ruleFrom f_ruleTo f_code f_eWhat f_eSign f_all f_kept f_was f_sTune f_boxAll J L) sz) := by
  refine Met.ofW (cc := cX9_gladAnew) (maxL := 3) (ret := (some .int)) (by decide) rfl ?_
  intro p e s m args below meth c0 s₁ B hml hv
  obtain ⟨rfl, hsz, hP, hK, hD0⟩ := hv
  have hx := B.exec
  have hb := B.bytes
  have hr := B.returns
  have hts := atoms_spec (ws := .code yX9_gladAnew cX9_gladAnew 3 (some .int) :: GW) B.pre
  have hG : ∀ w ∈ GW, w.before _ s = true := fun w h => hts w (List.mem_cons_of_mem _ h)
  have hown : s.vm.findClass RX9 = some m.cls := findClass_of_methodNamed B.named
  subst hsz
  have hD := hD0.self (sz := s.heap.size)
  generalize hAe : va_A (WM r ct i_taped i_size i_faultKind i_at i_end i_token i_number i_bank i_rb i_codes i_within i_piled i_unitsInRule i_askHouse i_askTune i_acts i_undone i_laid i_knowns i_time f_text f_tunes f_houses f_hums f_told f_many f_ruleFrom f_ruleTo f_code f_eWhat f_eSign f_all f_kept f_was f_sTune f_boxAll J L) s.heap.size = A at hD ⊢
  have hA : ∀ q : Nat, s.heap.size ≤ q → A q := fun q h => by rw [← hAe]; exact Or.inr h
  have hS : va_S A s.heap s.heap [] := va_S.rf
  have hP : va_P (dC, dI) vwCl (WM r ct i_taped i_size i_faultKind i_at i_end i_token i_number i_bank i_rb i_codes i_within i_piled i_unitsInRule i_askHouse i_askTune i_acts i_undone i_laid i_knowns i_time f_text f_tunes f_houses f_hums f_told f_many f_ruleFrom f_ruleTo f_code f_eWhat f_eSign f_all f_kept f_was f_sTune f_boxAll J L) s.heap := hP
  have hl := lv_entry ([.ref (r 0), .int p0, .int p1]) (n := 3) (Nat.le_of_ble_eq_true rfl)
  rw [lg_entry_eq]
  generalize (lg_sl ([.ref (r 0), .int p0, .int p1]) ++ List.replicate (3 - (lg_sl ([.ref (r 0), .int p0, .int p1])).length) Slot.unset).toArray = ls at hl ⊢
  have hl : lv_has ls 3 [(0, .ref (r 0)), (1, .int p0), (2, .int p1)] := hl
  refine nameQ (fun Q hQ => ?_)
  obtain ⟨im0, im1, im2, im3, im4, im5, im6, im7, im8, im9, im10, im11, im12, im13, im14, im15, im16, im17, im18, im19, im20, im21, im22, im23, im24, im25, im26, im27, im28, im29, im30⟩ := id hI
  have f1 : 0 ≤ (f_tunes (i_bank.toInt).toNat).toInt ∧ (f_tunes (i_bank.toInt).toNat).toInt ≤ 5 := im20 (i_bank.toInt)
  have f2 : 0 ≤ (f_houses (i_bank.toInt).toNat).toInt ∧ (f_houses (i_bank.toInt).toNat).toInt ≤ 4 := im21 (i_bank.toInt)
  refine lv_aload_n hx hb dX9_gladAnew_0 rfl (lv_at hl 0 rfl) ?_
  refine lv_iload_n hx hb dX9_gladAnew_1 rfl (lv_at hl 1 rfl) ?_
  refine lv_iload_n hx hb dX9_gladAnew_2 rfl (lv_at hl 2 rfl) ?_
  refine lv_aload_n hx hb dX9_gladAnew_3 rfl (lv_at hl 0 rfl) ?_
  refine lv_iload_n hx hb dX9_gladAnew_4 rfl (lv_at hl 1 rfl) ?_
  refine va_calli (va_runV (As := [.int p0]) (rest := [.int p1, .int p0, .ref (r 0)]) ⟨hx, hb, hml, hown, hG⟩ (kX9_triedBy l dC dI r ct i_taped i_size i_faultKind i_at i_end i_token i_number i_bank i_rb i_codes i_within i_piled i_unitsInRule i_askHouse i_askTune i_acts i_undone i_laid i_knowns i_time f_text f_tunes f_houses f_hums f_told f_many f_ruleFrom f_ruleTo f_code f_eWhat f_eSign f_all f_kept f_was f_sTune f_boxAll J L p0 s.heap.size hI) (cwV 1 hG (goodV gw1550 gw1552 gw92 gw138 gw1553) rfl rfl rfl hd_X9_triedBy ⟨(Nat.le_of_ble_eq_true rfl), (Nat.le_of_ble_eq_true rfl)⟩) ⟨fbR, va_recv hK hP (ci := 8) (q0 := 0) rfl rfl, pR_in hP hK⟩ rfl rfl hl.1 rfl (lv_room (Nat.le_of_ble_eq_true rfl)) dX9_gladAnew_5 ⟨(Nat.le_of_ble_eq_true rfl), (Nat.le_of_ble_eq_true rfl)⟩) hS (fun q hq h => absurd hq (Nat.not_lt.mpr h)) (fun q h => hA q (Nat.le_trans hS.1 h)) (fun r_4 u_ t_ H3 locs ht hvm hw hB hz1 hk1 hS => ?_)
  subst hw
  have hP := wk hP hk1
  obtain ⟨f5, f6, f7⟩ := hB
  have f8 : r_4.toInt = (trb f_all p0.toInt (f_tunes (i_bank.toInt).toNat).toInt (6 - (0 : Int32).toInt).toNat (0 : Int32).toInt) := (ob_278 f7)
  refine lv_iload_n hx hb dX9_gladAnew_8 rfl (lv_at hl 2 rfl) ?_
  refine lv_icmp_ne (tgt := 24) hx hb dX9_gladAnew_9 (by decide) (fun c_9 => ?_) (fun c_9 => ?_)
  · skip
    have f10 : r_4.toInt ≠ p1.toInt := qi_ne c_9 rfl rfl
    refine lv_iconst (v := 0) hx hb dX9_gladAnew_24 (by decide) ?_
    have hFc := frA hD hS hA
    refine va_calli (va_runV (As := [.int p0, .int p1, .int 0]) (rest := []) ⟨hx, hb, hml, hown, hG⟩ (kX9_gladBy l dC dI r ct i_taped i_size i_faultKind i_at i_end i_token i_number i_bank i_rb i_codes i_within i_piled i_unitsInRule i_askHouse i_askTune i_acts i_undone i_laid i_knowns i_time f_text f_tunes f_houses f_hums f_told f_many f_ruleFrom f_ruleTo f_code f_eWhat f_eSign f_all f_kept f_was f_sTune f_boxAll J L p0 p1 0 H3.size hI (ob_108 hp0 hp1) (ob_135 f2 hp0 hp1) (ob_108 hp2 hp3) (ob_368 hp3)) (cwV 3 hG (goodV gw1566 gw1568 gw95 gw138 gw1569) rfl rfl rfl hd_X9_gladBy ⟨(Nat.le_of_ble_eq_true rfl), (Nat.le_of_ble_eq_true rfl)⟩) ⟨fbW, va_recv hK hP (ci := 8) (q0 := 0) rfl rfl, pW_in hP hK hD⟩ rfl rfl hl.1 rfl (lv_room (Nat.le_of_ble_eq_true rfl)) dX9_gladAnew_25 ⟨(Nat.le_of_ble_eq_true rfl), (Nat.le_of_ble_eq_true rfl)⟩) hS (fun q _ h => hFc q h) hFc (fun r_12 u_ t_ H11 locs ht hvm hw hB hz1 hk1 hS => ?_)
    subst hw
    obtain ⟨x13, x14, J15, hP1, hD1, hI17, f16⟩ := hB
    rw [ht] at hP1
    have hP := hP1
    have hD := dW hFc hD1
    obtain ⟨im18, im19, im20, im21, im22, im23, im24, im25, im26, im27, im28, im29, im30, im31, im32, im33, im34, im35, im36, im37, im38, im39, im40, im41, im42, im43, im44, im45, im46, im47, im48⟩ := id hI17
    rw [hQ]
    exact W.iret (v := r_12) hx hb hr (fun t ht hW => ⟨⟨r_12, r_12, rfl, rfl, ⟨x13, x14, J15, by rw [ht]; exact hP, hD, hI17, (ob_366)⟩⟩, hS.F ht⟩) hS.2.2 dX9_gladAnew_28
  · skip
    have f49 : r_4.toInt = p1.toInt := qi_eq c_9 rfl rfl
    refine lv_aload_n hx hb dX9_gladAnew_12 rfl (lv_at hl 0 rfl) ?_
    refine gM_X9_88_0 hx hb hG hown hK hP dX9_gladAnew_13 ?_
    refine lv_bipush (v := 15) hx hb dX9_gladAnew_16 (by decide) ?_
    refine lv_iload_n hx hb dX9_gladAnew_18 rfl (lv_at hl 2 rfl) ?_
    refine lv_iadd hx hb dX9_gladAnew_19 ?_
    refine lv_topi (fun x50 ex50 => ?_)
    have f51 : x50.toInt = p1.toInt + 15 := (ob_371 (qi_add ex50 zc_15 rfl (ob_369 hp2 hp3 f49 f8) (ob_370 f1 hp3)))
    refine ldM_25 (mm := p1.toInt + 15) hx hb hK hP f51 (ob_372 hp2 hp3 f49 f8) (ob_373 f1 hp3) dX9_gladAnew_20 ?_
    refine lv_goto (tgt := 25) hx hb dX9_gladAnew_21 (by decide) ?_
    have hFc := frA hD hS hA
    refine va_calli (va_runV (As := [.int p0, .int p1, .int (f_all (p1.toInt + 15).toNat)]) (rest := []) ⟨hx, hb, hml, hown, hG⟩ (kX9_gladBy l dC dI r ct i_taped i_size i_faultKind i_at i_end i_token i_number i_bank i_rb i_codes i_within i_piled i_unitsInRule i_askHouse i_askTune i_acts i_undone i_laid i_knowns i_time f_text f_tunes f_houses f_hums f_told f_many f_ruleFrom f_ruleTo f_code f_eWhat f_eSign f_all f_kept f_was f_sTune f_boxAll J L p0 p1 (f_all (p1.toInt + 15).toNat) H3.size hI (ob_108 hp0 hp1) (ob_135 f2 hp0 hp1) (ob_374 hp2 hp3 f49 f8) (ob_368 hp3)) (cwV 3 hG (goodV gw1566 gw1568 gw95 gw138 gw1569) rfl rfl rfl hd_X9_gladBy ⟨(Nat.le_of_ble_eq_true rfl), (Nat.le_of_ble_eq_true rfl)⟩) ⟨fbW, va_recv hK hP (ci := 8) (q0 := 0) rfl rfl, pW_in hP hK hD⟩ rfl rfl hl.1 rfl (lv_room (Nat.le_of_ble_eq_true rfl)) dX9_gladAnew_25 ⟨(Nat.le_of_ble_eq_true rfl), (Nat.le_of_ble_eq_true rfl)⟩) hS (fun q _ h => hFc q h) hFc (fun r_53 u_ t_ H52 locs ht hvm hw hB hz1 hk1 hS => ?_)
    subst hw
    obtain ⟨x54, x55, J56, hP1, hD1, hI58, f57⟩ := hB
    rw [ht] at hP1
    have hP := hP1
    have hD := dW hFc hD1
    obtain ⟨im59, im60, im61, im62, im63, im64, im65, im66, im67, im68, im69, im70, im71, im72, im73, im74, im75, im76, im77, im78, im79, im80, im81, im82, im83, im84, im85, im86, im87, im88, im89⟩ := id hI58
    rw [hQ]
    exact W.iret (v := r_53) hx hb hr (fun t ht hW => ⟨⟨r_53, r_53, rfl, rfl, ⟨x54, x55, J56, by rw [ht]; exact hP, hD, hI58, (ob_366)⟩⟩, hS.F ht⟩) hS.2.2 dX9_gladAnew_28
set_option maxHeartbeats 4000000 in
set_option maxRecDepth 100000 in
theorem kX9_barterOf (l : Launch) (dC : Nat → ClassId) (dI : Nat → Nat → Nat) (r : Nat → Nat) (ct : Nat → ClassId) (i_taped i_size i_faultKind i_at i_end i_token i_number i_bank i_rb i_codes i_within i_piled i_unitsInRule i_askHouse i_askTune i_acts i_undone i_laid i_knowns i_time : Int32) (f_text f_tunes f_houses f_hums f_told f_many f_ruleFrom f_ruleTo f_code f_eWhat f_eSign f_all f_kept f_was f_sTune f_boxAll : Nat → Int32) (J : Nat → Nat → Int32) (L : Nat → Nat → Int64) (p0 : Int32) (sz : Nat) (hI : (IM i_taped i_size i_at i_end i_bank i_rb i_acts i_undone i_laid i_knowns i_time f_tunes f_houses f_hums f_told f_many f_ruleFrom f_ruleTo f_code f_all f_kept f_was f_sTune f_boxAll)) (hp0 : 0 ≤ p0.toInt) (hp1 : p0.toInt ≤ 2147483647) : Met l yX9_barterOf (.code yX9_barterOf cX9_barterOf 7 (some .int) :: GW) { frames := 22, cells := 0, slots := 0, locals := 729 } (va_Pc [.ref (r 0), .int p0] (pW (dC, dI) (WM r ct i_taped i_size i_faultKind i_at i_end i_token i_number i_bank i_rb i_codes i_within i_piled i_unitsInRule i_askHouse i_askTune i_acts i_undone i_laid i_knowns i_time f_text f_tunes f_houses f_hums f_told f_many f_ruleFrom f_ruleTo f_code f_eWhat f_eSign f_all f_kept f_was f_sTune f_boxAll J L) (TM ct) sz)) (va_Qi (fun (r0 : Int32) (u : Int32) => r0 = u) (fun (u : Int32) (t : State) => ∃ (n_i_askHouse n_i_askTune : Int32) (n_J : Nat → Nat → Int32), va_P (dC, dI) vwCl (WM r ct i_taped i_size i_faultKind i_at i_end i_token i_number i_bank i_rb i_codes i_within i_piled i_unitsInRule n_i_askHouse n_i_askTune i_acts i_undone i_laid i_knowns i_time f_text f_tunes f_houses f_hums f_told f_many f_ruleFrom f_ruleTo f_code f_eWhat f_eSign f_all f_kept f_was f_sTune f_boxAll n_J L) t.heap ∧ va_D (va_A (WM r ct i_taped i_size i_faultKind i_at i_end i_token i_number i_bank i_rb i_codes i_within i_piled i_unitsInRule i_askHouse i_askTune i_acts i_undone i_laid i_knowns i_time f_text f_tunes f_houses f_hums f_told f_many f_ruleFrom f_ruleTo f_code f_eWhat f_eSign f_all f_kept f_was f_sTune f_boxAll J L) sz) (WM r ct i_taped i_size i_faultKind i_at i_end i_token i_number i_bank i_rb i_codes i_within i_piled i_unitsInRule n_i_askHouse n_i_askTune i_acts i_undone i_laid i_knowns i_time f_text f_tunes f_houses f_hums f_told f_many f_ruleFrom f_ruleTo f_code f_eWhat f_eSign f_all f_kept f_was f_sTune f_boxAll n_J L) ∧ (IM i_taped i_size i_at i_end i_bank i_rb i_acts i_undone i_laid i_knowns i_time f_tunes f_houses f_hums f_told f_many f_ruleFrom f_ruleTo f_code f_all f_kept f_was f_sTune f_boxAll)) (va_A (WM r ct i_taped i_size i_faultKind i_at i_end i_token i_number i_bank i_rb i_codes i_within i_piled i_unitsInRule i_askHouse i_askTune i_acts i_undone i_laid i_knowns i_time f_text f_tunes f_houses f_hums f_told f_many f_ruleFrom f_ruleTo f_code f_eWhat f_eSign f_all f_kept f_was f_sTune f_boxAll J L) sz)) 0 0 (va_A (WM r ct i_taped i_size i_faultKind i_at i_end i_token i_number i_bank i_rb i_codes i_within i_piled i_unitsInRule i_askHouse i_askTune i_acts i_undone i_laid i_knowns i_time f_text f_tunes f_houses f_hums f_told f_many f_ruleFrom f_ruleTo f_code f_eWhat f_eSign f_all f_kept f_was f_sTune f_boxAll J L) sz) := by
  refine Met.ofW (cc := cX9_barterOf) (maxL := 7) (ret := (some .int)) (by decide) rfl ?_
  intro p e s m args below meth c0 s₁ B hml hv
  obtain ⟨rfl, hsz, hP, hK, hD0⟩ := hv
  have hx := B.exec
  have hb := B.bytes
  have hr := B.returns
  have hts := atoms_spec (ws := .code yX9_barterOf cX9_barterOf 7 (some .int) :: GW) B.pre
  have hG : ∀ w ∈ GW, w.before _ s = true := fun w h => hts w (List.mem_cons_of_mem _ h)
  have hown : s.vm.findClass RX9 = some m.cls := findClass_of_methodNamed B.named
  subst hsz
  have hD := hD0.self (sz := s.heap.size)
  generalize hAe : va_A (WM r ct i_taped i_size i_faultKind i_at i_end i_token i_number i_bank i_rb i_codes i_within i_piled i_unitsInRule i_askHouse i_askTune i_acts i_undone i_laid i_knowns i_time f_text f_tunes f_houses f_hums f_told f_many f_ruleFrom f_ruleTo f_code f_eWhat f_eSign f_all f_kept f_was f_sTune f_boxAll J L) s.heap.size = A at hD ⊢
  have hA : ∀ q : Nat, s.heap.size ≤ q → A q := fun q h => by rw [← hAe]; exact Or.inr h
  have hS : va_S A s.heap s.heap [] := va_S.rf
  have hP : va_P (dC, dI) vwCl (WM r ct i_taped i_size i_faultKind i_at i_end i_token i_number i_bank i_rb i_codes i_within i_piled i_unitsInRule i_askHouse i_askTune i_acts i_undone i_laid i_knowns i_time f_text f_tunes f_houses f_hums f_told f_many f_ruleFrom f_ruleTo f_code f_eWhat f_eSign f_all f_kept f_was f_sTune f_boxAll J L) s.heap := hP
  have hl := lv_entry ([.ref (r 0), .int p0]) (n := 7) (Nat.le_of_ble_eq_true rfl)
  rw [lg_entry_eq]
  generalize (lg_sl ([.ref (r 0), .int p0]) ++ List.replicate (7 - (lg_sl ([.ref (r 0), .int p0])).length) Slot.unset).toArray = ls at hl ⊢
  have hl : lv_has ls 7 [(0, .ref (r 0)), (1, .int p0)] := hl
  refine nameQ (fun Q hQ => ?_)
  obtain ⟨im0, im1, im2, im3, im4, im5, im6, im7, im8, im9, im10, im11, im12, im13, im14, im15, im16, im17, im18, im19, im20, im21, im22, im23, im24, im25, im26, im27, im28, im29, im30⟩ := id hI
  have f1 : 0 ≤ (f_tunes (i_bank.toInt).toNat).toInt ∧ (f_tunes (i_bank.toInt).toNat).toInt ≤ 5 := im20 (i_bank.toInt)
  have f2 : 0 ≤ (f_houses (i_bank.toInt).toNat).toInt ∧ (f_houses (i_bank.toInt).toNat).toInt ≤ 4 := im21 (i_bank.toInt)
  refine lv_iconst (v := 0) hx hb dX9_barterOf_0 (by decide) ?_
  refine lv_istore_n (lv' := [(2, .int 0), (0, .ref (r 0)), (1, .int p0)]) hx hb dX9_barterOf_1 rfl hl (by decide) rfl (fun ls hl => ?_)
  refine lv_iconst (v := 0) hx hb dX9_barterOf_2 (by decide) ?_
  refine lv_istore_n (lv' := [(3, .int 0), (2, .int 0), (0, .ref (r 0)), (1, .int p0)]) hx hb dX9_barterOf_3 rfl hl (by decide) rfl (fun ls hl => ?_)
  refine lv_iconst (v := 0) hx hb dX9_barterOf_4 (by decide) ?_
  refine lv_istore (lv' := [(4, .int 0), (3, .int 0), (2, .int 0), (0, .ref (r 0)), (1, .int p0)]) hx hb dX9_barterOf_5 hl (by decide) rfl (fun ls hl => ?_)
  have L7 : ∀ (N7 : Nat) (y7_2 y7_3 y7_4 : Int32) (m7_i_askHouse m7_i_askTune : Int32) (m7_J : Nat → Nat → Int32) (H7 : Heap) (locs : List Loc) (ls : Array Slot) (g7_0 : 0 ≤ y7_4.toInt) (g7_1 : y7_4.toInt ≤ 4) (hP : va_P (dC, dI) vwCl (WM r ct i_taped i_size i_faultKind i_at i_end i_token i_number i_bank i_rb i_codes i_within i_piled i_unitsInRule m7_i_askHouse m7_i_askTune i_acts i_undone i_laid i_knowns i_time f_text f_tunes f_houses f_hums f_told f_many f_ruleFrom f_ruleTo f_code f_eWhat f_eSign f_all f_kept f_was f_sTune f_boxAll m7_J L) H7) (hD : va_D A (WM r ct i_taped i_size i_faultKind i_at i_end i_token i_number i_bank i_rb i_codes i_within i_piled i_unitsInRule m7_i_askHouse m7_i_askTune i_acts i_undone i_laid i_knowns i_time f_text f_tunes f_houses f_hums f_told f_many f_ruleFrom f_ruleTo f_code f_eWhat f_eSign f_all f_kept f_was f_sTune f_boxAll m7_J L)) (hS : va_S A s.heap H7 locs) (hl : lv_has ls 7 [(0, .ref (r 0)), (1, .int p0), (2, .int y7_2), (3, .int y7_3), (4, .int y7_4)]) (hM : -1 * y7_4.toInt + 4 < (N7 : Int)), W p l e { frames := 22, cells := 0, slots := 0, locals := 729 } s m ([.ref (r 0), .int p0] : List Value).toArray below meth c0 H7 locs 0 0 Q (F0 m 7 ls []) := by
    intro N7
    induction N7 with
    | zero =>
      intro y7_2 y7_3 y7_4 m7_i_askHouse m7_i_askTune m7_J H7 locs ls g7_0 g7_1 hP hD hS hl hM
      exact ((ob_293 hM g7_0 g7_1)).elim
    | succ N7 ih7 =>
      intro y7_2 y7_3 y7_4 m7_i_askHouse m7_i_askTune m7_J H7 locs ls g7_0 g7_1 hP hD hS hl hM
      have hM7 := msucc hM
      refine lv_iload hx hb dX9_barterOf_7 (lv_at hl 4 rfl) ?_
      refine lv_aload_n hx hb dX9_barterOf_9 rfl (lv_at hl 0 rfl) ?_
      refine va_calli (va_runV (As := []) (rest := [.int y7_4]) ⟨hx, hb, hml, hown, hG⟩ (kX9_homes l dC dI r ct i_taped i_size i_faultKind i_at i_end i_token i_number i_bank i_rb i_codes i_within i_piled i_unitsInRule m7_i_askHouse m7_i_askTune i_acts i_undone i_laid i_knowns i_time f_text f_tunes f_houses f_hums f_told f_many f_ruleFrom f_ruleTo f_code f_eWhat f_eSign f_all f_kept f_was f_sTune f_boxAll m7_J L H7.size hI) (cwV 0 hG (goodV gw1167 gw1169 gw58 gw138 gw1170) rfl rfl rfl hd_X9_homes ⟨(Nat.le_of_ble_eq_true rfl), (Nat.le_of_ble_eq_true rfl)⟩) ⟨fbR, va_recv hK hP (ci := 8) (q0 := 0) rfl rfl, pR_in hP hK⟩ rfl rfl hl.1 rfl (lv_room (Nat.le_of_ble_eq_true rfl)) dX9_barterOf_10 ⟨(Nat.le_of_ble_eq_true rfl), (Nat.le_of_ble_eq_true rfl)⟩) hS (fun q hq h => absurd hq (Nat.not_lt.mpr h)) (fun q h => hA q (Nat.le_trans hS.1 h)) (fun r_4 u_ t_ H3 locs ht hvm hw hB hz1 hk1 hS => ?_)
      subst hw
      have hP := wk hP hk1
      have f5 := hB
      have f6 : r_4.toInt = (f_houses (i_bank.toInt).toNat).toInt := (ob_278 f5)
      refine lv_icmp_ge (tgt := 135) hx hb dX9_barterOf_13 (by decide) (fun c_7 => ?_) (fun c_7 => ?_)
      · skip
        have f8 : r_4.toInt ≤ y7_4.toInt := qi_le c_7 rfl rfl
        refine lv_iload_n hx hb dX9_barterOf_135 rfl (lv_at hl 3 rfl) ?_
        rw [hQ]
        exact W.iret (v := y7_3) hx hb hr (fun t ht hW => ⟨⟨y7_3, y7_3, rfl, rfl, ⟨m7_i_askHouse, m7_i_askTune, m7_J, by rw [ht]; exact hP, hD, hI⟩⟩, hS.F ht⟩) hS.2.2 dX9_barterOf_136
      · skip
        have f9 : y7_4.toInt < r_4.toInt := qi_nle c_7 rfl rfl
        refine lv_aload_n hx hb dX9_barterOf_16 rfl (lv_at hl 0 rfl) ?_
        refine lv_iload hx hb dX9_barterOf_17 (lv_at hl 4 rfl) ?_
        refine va_calli (va_runV (As := [.int y7_4]) (rest := []) ⟨hx, hb, hml, hown, hG⟩ (kX9_triedBy l dC dI r ct i_taped i_size i_faultKind i_at i_end i_token i_number i_bank i_rb i_codes i_within i_piled i_unitsInRule m7_i_askHouse m7_i_askTune i_acts i_undone i_laid i_knowns i_time f_text f_tunes f_houses f_hums f_told f_many f_ruleFrom f_ruleTo f_code f_eWhat f_eSign f_all f_kept f_was f_sTune f_boxAll m7_J L y7_4 H3.size hI) (cwV 1 hG (goodV gw1550 gw1552 gw92 gw138 gw1553) rfl rfl rfl hd_X9_triedBy ⟨(Nat.le_of_ble_eq_true rfl), (Nat.le_of_ble_eq_true rfl)⟩) ⟨fbR, va_recv hK hP (ci := 8) (q0 := 0) rfl rfl, pR_in hP hK⟩ rfl rfl hl.1 rfl (lv_room (Nat.le_of_ble_eq_true rfl)) dX9_barterOf_19 ⟨(Nat.le_of_ble_eq_true rfl), (Nat.le_of_ble_eq_true rfl)⟩) hS (fun q hq h => absurd hq (Nat.not_lt.mpr h)) (fun q h => hA q (Nat.le_trans hS.1 h)) (fun r_11 u_ t_ H10 locs ht hvm hw hB hz1 hk1 hS => ?_)
        subst hw
        have hP := wk hP hk1
        obtain ⟨f12, f13, f14⟩ := hB
        have f15 : r_11.toInt = (trb f_all y7_4.toInt (f_tunes (i_bank.toInt).toNat).toInt (6 - (0 : Int32).toInt).toNat (0 : Int32).toInt) := (ob_278 f14)
        refine lv_istore (lv' := [(5, .int r_11), (0, .ref (r 0)), (1, .int p0), (2, .int y7_2), (3, .int y7_3), (4, .int y7_4)]) hx hb dX9_barterOf_22 hl (by decide) rfl (fun ls hl => ?_)
        refine lv_aload_n hx hb dX9_barterOf_24 rfl (lv_at hl 1 rfl) ?_
        refine lv_iload_n hx hb dX9_barterOf_25 rfl (lv_at hl 2 rfl) ?_
        refine lv_aload_n hx hb dX9_barterOf_26 rfl (lv_at hl 1 rfl) ?_
        refine va_calli (va_runV (As := []) (rest := [.int p0, .ref (r 0)]) ⟨hx, hb, hml, hown, hG⟩ (kX9_songs l dC dI r ct i_taped i_size i_faultKind i_at i_end i_token i_number i_bank i_rb i_codes i_within i_piled i_unitsInRule m7_i_askHouse m7_i_askTune i_acts i_undone i_laid i_knowns i_time f_text f_tunes f_houses f_hums f_told f_many f_ruleFrom f_ruleTo f_code f_eWhat f_eSign f_all f_kept f_was f_sTune f_boxAll m7_J L H10.size hI) (cwV 0 hG (goodV gw1512 gw1514 gw86 gw138 gw1515) rfl rfl rfl hd_X9_songs ⟨(Nat.le_of_ble_eq_true rfl), (Nat.le_of_ble_eq_true rfl)⟩) ⟨fbR, va_recv hK hP (ci := 8) (q0 := 0) rfl rfl, pR_in hP hK⟩ rfl rfl hl.1 rfl (lv_room (Nat.le_of_ble_eq_true rfl)) dX9_barterOf_27 ⟨(Nat.le_of_ble_eq_true rfl), (Nat.le_of_ble_eq_true rfl)⟩) hS (fun q hq h => absurd hq (Nat.not_lt.mpr h)) (fun q h => hA q (Nat.le_trans hS.1 h)) (fun r_17 u_ t_ H16 locs ht hvm hw hB hz1 hk1 hS => ?_)
        subst hw
        have hP := wk hP hk1
        have f18 := hB
        have f19 : r_17.toInt = (f_tunes (i_bank.toInt).toNat).toInt := (ob_278 f18)
        refine lv_iconst (v := 1) hx hb dX9_barterOf_30 (by decide) ?_
        refine lv_iadd hx hb dX9_barterOf_31 ?_
        refine lv_topi (fun x20 ex20 => ?_)
        have f21 : x20.toInt = (f_tunes (i_bank.toInt).toNat).toInt + 1 := (ob_594 (qi_add ex20 rfl zc_1 (ob_660 f1 f13 f15 f19) (ob_661 f1 f13 f15 f19)) f19)
        refine lv_iload hx hb dX9_barterOf_32 (lv_at hl 5 rfl) ?_
        refine va_calli (va_runV (As := [.int p0, .int x20, .int y7_4]) (rest := []) ⟨hx, hb, hml, hown, hG⟩ (kX9_digit_v1 l dC dI r ct i_taped i_size i_faultKind i_at i_end i_token i_number i_bank i_rb i_codes i_within i_piled i_unitsInRule m7_i_askHouse m7_i_askTune i_acts i_undone i_laid i_knowns i_time f_text f_tunes f_houses f_hums f_told f_many f_ruleFrom f_ruleTo f_code f_eWhat f_eSign f_all f_kept f_was f_sTune f_boxAll m7_J L p0 x20 y7_4 H16.size hI (ob_662 f1 f13 f15 f21) (ob_663 f1 f13 f15 f21) (ob_133 g7_0) (ob_361 f9 f6) (ob_246 hp0 hp1) (ob_597 hp0 hp1)) (cwV 3 hG (goodV gw1763 gw1765 gw116 gw138 gw1766) rfl rfl rfl hd_X9_digit ⟨(Nat.le_of_ble_eq_true rfl), (Nat.le_of_ble_eq_true rfl)⟩) ⟨fbR, va_recv hK hP (ci := 8) (q0 := 0) rfl rfl, pR_in hP hK⟩ rfl rfl hl.1 rfl (lv_room (Nat.le_of_ble_eq_true rfl)) dX9_barterOf_34 ⟨(Nat.le_of_ble_eq_true rfl), (Nat.le_of_ble_eq_true rfl)⟩) hS (fun q hq h => absurd hq (Nat.not_lt.mpr h)) (fun q h => hA q (Nat.le_trans hS.1 h)) (fun r_23 u_ t_ H22 locs ht hvm hw hB hz1 hk1 hS => ?_)
        subst hw
        have hP := wk hP hk1
        obtain ⟨f24, f25, f26, f27⟩ := hB
        have f28 : ((p0.toInt / (pw x20.toInt (((f_houses (i_bank.toInt).toNat).toInt + -1 * y7_4.toInt + (-1))).toNat)) % x20.toInt) = ((p0.toInt / (pw ((f_tunes (i_bank.toInt).toNat).toInt + 1) (((f_houses (i_bank.toInt).toNat).toInt + -1 * y7_4.toInt + (-1))).toNat)) % ((f_tunes (i_bank.toInt).toNat).toInt + 1)) := by rw [f21]
        have f29 : r_23.toInt = ((p0.toInt / (pw ((f_tunes (i_bank.toInt).toNat).toInt + 1) (((f_houses (i_bank.toInt).toNat).toInt + -1 * y7_4.toInt + (-1))).toNat)) % ((f_tunes (i_bank.toInt).toNat).toInt + 1)) := (ob_581 f24 f28)
        refine lv_istore (lv' := [(6, .int r_23), (5, .int r_11), (0, .ref (r 0)), (1, .int p0), (2, .int y7_2), (3, .int y7_3), (4, .int y7_4)]) hx hb dX9_barterOf_37 hl (by decide) rfl (fun ls hl => ?_)
        refine lv_iload hx hb dX9_barterOf_39 (lv_at hl 1 rfl) ?_
        refine lv_if_ge (tgt := 56) hx hb dX9_barterOf_41 (by decide) (fun c_30 => ?_) (fun c_30 => ?_)
        · skip
          have f31 : 0 ≤ r_11.toInt := qi_le c_30 zc_0 rfl
          refine lv_iload hx hb dX9_barterOf_56 (lv_at hl 1 rfl) ?_
          refine lv_if_lt (tgt := 107) hx hb dX9_barterOf_58 (by decide) (fun c_32 => ((ob_664 (qi_lt c_32 rfl zc_0) f12 f13 f31 f15)).elim) (fun c_32 => ?_)
          have f33 : 0 ≤ r_11.toInt := qi_nlt c_32 rfl zc_0
          refine lv_iload hx hb dX9_barterOf_61 (lv_at hl 0 rfl) ?_
          refine lv_aload_n hx hb dX9_barterOf_63 rfl (lv_at hl 2 rfl) ?_
          refine va_calli (va_runV (As := []) (rest := [.int r_23]) ⟨hx, hb, hml, hown, hG⟩ (kX9_songs l dC dI r ct i_taped i_size i_faultKind i_at i_end i_token i_number i_bank i_rb i_codes i_within i_piled i_unitsInRule m7_i_askHouse m7_i_askTune i_acts i_undone i_laid i_knowns i_time f_text f_tunes f_houses f_hums f_told f_many f_ruleFrom f_ruleTo f_code f_eWhat f_eSign f_all f_kept f_was f_sTune f_boxAll m7_J L H22.size hI) (cwV 0 hG (goodV gw1512 gw1514 gw86 gw138 gw1515) rfl rfl rfl hd_X9_songs ⟨(Nat.le_of_ble_eq_true rfl), (Nat.le_of_ble_eq_true rfl)⟩) ⟨fbR, va_recv hK hP (ci := 8) (q0 := 0) rfl rfl, pR_in hP hK⟩ rfl rfl hl.1 rfl (lv_room (Nat.le_of_ble_eq_true rfl)) dX9_barterOf_64 ⟨(Nat.le_of_ble_eq_true rfl), (Nat.le_of_ble_eq_true rfl)⟩) hS (fun q hq h => absurd hq (Nat.not_lt.mpr h)) (fun q h => hA q (Nat.le_trans hS.1 h)) (fun r_35 u_ t_ H34 locs ht hvm hw hB hz1 hk1 hS => ?_)
          subst hw
          have hP := wk hP hk1
          have f36 := hB
          have f37 : r_35.toInt = (f_tunes (i_bank.toInt).toNat).toInt := (ob_278 f36)
          refine lv_icmp_eq (tgt := 107) hx hb dX9_barterOf_67 (by decide) (fun c_38 => ?_) (fun c_38 => ?_)
          · skip
            have f39 : r_23.toInt = r_35.toInt := qi_eq c_38 rfl rfl
            refine lv_ldcw (v := (-1000000000)) hx hb hown (hG _ gw1601) dX9_barterOf_107 ?_
            rw [hQ]
            exact W.iret (v := (-1000000000)) hx hb hr (fun t ht hW => ⟨⟨(-1000000000), (-1000000000), rfl, rfl, ⟨m7_i_askHouse, m7_i_askTune, m7_J, by rw [ht]; exact hP, hD, hI⟩⟩, hS.F ht⟩) hS.2.2 dX9_barterOf_110
          · skip
            have f40 : r_23.toInt ≠ r_35.toInt := qi_ne c_38 rfl rfl
            have f41 : ((p0.toInt / (pw ((f_tunes (i_bank.toInt).toNat).toInt + 1) (((f_houses (i_bank.toInt).toNat).toInt + -1 * y7_4.toInt + (-1))).toNat)) % ((f_tunes (i_bank.toInt).toNat).toInt + 1)) + 1 ≤ (f_tunes (i_bank.toInt).toNat).toInt := (ob_598 f28 f26 f40 f37 f29 f21)
            refine lv_iload_n hx hb dX9_barterOf_70 rfl (lv_at hl 4 rfl) ?_
            refine lv_iload hx hb dX9_barterOf_71 (lv_at hl 0 rfl) ?_
            refine va_calli (va_runS (As := [.int y7_2, .int r_23]) (rest := []) ⟨hx, hb, hml, hown, hG⟩ (kX9_bit l dC dI y7_2 r_23 H34.size) (va_cwS 2 hG (goodS gw1417 gw1418 gw138 gw1419) rfl rfl rfl hd_X9_bit ⟨(Nat.le_of_ble_eq_true rfl), (Nat.le_of_ble_eq_true rfl)⟩) ⟨fbR, pR_in emptyP (emptyK hK)⟩ rfl rfl hl.1 rfl (lv_room (Nat.le_of_ble_eq_true rfl)) dX9_barterOf_73 ⟨(Nat.le_of_ble_eq_true rfl), (Nat.le_of_ble_eq_true rfl)⟩) hS (fun q hq h => absurd hq (Nat.not_lt.mpr h)) (fun q h => hA q (Nat.le_trans hS.1 h)) (fun r_43 u_ t_ H42 locs ht hvm hw hB hz1 hk1 hS => ?_)
            subst hw
            have hP := wk hP hk1
            obtain ⟨f44, f45, f46⟩ := hB
            refine lv_if_ne (tgt := 107) hx hb dX9_barterOf_76 (by decide) (fun c_47 => ?_) (fun c_47 => ?_)
            · skip
              have f48 : r_43.toInt ≠ 0 := qi_ne c_47 rfl zc_0
              have f49 : 1 ≤ r_43.toInt := (ob_367 f44 f45 f48)
              refine lv_ldcw (v := (-1000000000)) hx hb hown (hG _ gw1601) dX9_barterOf_107 ?_
              rw [hQ]
              exact W.iret (v := (-1000000000)) hx hb hr (fun t ht hW => ⟨⟨(-1000000000), (-1000000000), rfl, rfl, ⟨m7_i_askHouse, m7_i_askTune, m7_J, by rw [ht]; exact hP, hD, hI⟩⟩, hS.F ht⟩) hS.2.2 dX9_barterOf_110
            · skip
              have f50 : r_43.toInt = 0 := qi_eq c_47 rfl zc_0
              refine lv_aload_n hx hb dX9_barterOf_79 rfl (lv_at hl 2 rfl) ?_
              refine lv_iload hx hb dX9_barterOf_80 (lv_at hl 0 rfl) ?_
              refine va_calli (va_runV (As := [.int r_23]) (rest := []) ⟨hx, hb, hml, hown, hG⟩ (kX9_isTried l dC dI r ct i_taped i_size i_faultKind i_at i_end i_token i_number i_bank i_rb i_codes i_within i_piled i_unitsInRule m7_i_askHouse m7_i_askTune i_acts i_undone i_laid i_knowns i_time f_text f_tunes f_houses f_hums f_told f_many f_ruleFrom f_ruleTo f_code f_eWhat f_eSign f_all f_kept f_was f_sTune f_boxAll m7_J L r_23 H42.size hI (ob_600 f28 f25 f29) (ob_601 f41 f29)) (cwV 1 hG (goodV gw1668 gw1670 gw106 gw138 gw1671) rfl rfl rfl hd_X9_isTried ⟨(Nat.le_of_ble_eq_true rfl), (Nat.le_of_ble_eq_true rfl)⟩) ⟨fbR, va_recv hK hP (ci := 8) (q0 := 0) rfl rfl, pR_in hP hK⟩ rfl rfl hl.1 rfl (lv_room (Nat.le_of_ble_eq_true rfl)) dX9_barterOf_82 ⟨(Nat.le_of_ble_eq_true rfl), (Nat.le_of_ble_eq_true rfl)⟩) hS (fun q hq h => absurd hq (Nat.not_lt.mpr h)) (fun q h => hA q (Nat.le_trans hS.1 h)) (fun r_52 u_ t_ H51 locs ht hvm hw hB hz1 hk1 hS => ?_)
              subst hw
              have hP := wk hP hk1
              obtain ⟨f53, f54, f55⟩ := hB
              refine lv_if_eq (tgt := 107) hx hb dX9_barterOf_85 (by decide) (fun c_56 => ?_) (fun c_56 => ?_)
              · skip
                have f57 : r_52.toInt = 0 := qi_eq c_56 rfl zc_0
                refine lv_ldcw (v := (-1000000000)) hx hb hown (hG _ gw1601) dX9_barterOf_107 ?_
                rw [hQ]
                exact W.iret (v := (-1000000000)) hx hb hr (fun t ht hW => ⟨⟨(-1000000000), (-1000000000), rfl, rfl, ⟨m7_i_askHouse, m7_i_askTune, m7_J, by rw [ht]; exact hP, hD, hI⟩⟩, hS.F ht⟩) hS.2.2 dX9_barterOf_110
              · skip
                have f58 : r_52.toInt ≠ 0 := qi_ne c_56 rfl zc_0
                have f59 : 1 ≤ r_52.toInt := (ob_465 f53 f58)
                have f60 : 0 ≤ (f_all (r_23.toInt).toNat).toInt := (ob_466 f53 f58)
                have f61 : (f_all (r_23.toInt + 5).toNat).toInt = 0 := (ob_467 f53 f58)
                have f62 : r_52.toInt = 1 := (ob_167 f54 f55 f59)
                refine lv_aload_n hx hb dX9_barterOf_88 rfl (lv_at hl 2 rfl) ?_
                refine lv_iload hx hb dX9_barterOf_89 (lv_at hl 6 rfl) ?_
                refine lv_iload hx hb dX9_barterOf_91 (lv_at hl 0 rfl) ?_
                have hFc := frA hD hS hA
                refine va_calli (va_runV (As := [.int y7_4, .int r_23]) (rest := []) ⟨hx, hb, hml, hown, hG⟩ (kX9_gladAnew l dC dI r ct i_taped i_size i_faultKind i_at i_end i_token i_number i_bank i_rb i_codes i_within i_piled i_unitsInRule m7_i_askHouse m7_i_askTune i_acts i_undone i_laid i_knowns i_time f_text f_tunes f_houses f_hums f_told f_many f_ruleFrom f_ruleTo f_code f_eWhat f_eSign f_all f_kept f_was f_sTune f_boxAll m7_J L y7_4 r_23 H51.size hI (ob_133 g7_0) (ob_361 f9 f6) (ob_600 f28 f25 f29) (ob_601 f41 f29)) (cwV 2 hG (goodV gw1786 gw1788 gw119 gw138 gw1789) rfl rfl rfl hd_X9_gladAnew ⟨(Nat.le_of_ble_eq_true rfl), (Nat.le_of_ble_eq_true rfl)⟩) ⟨fbW, va_recv hK hP (ci := 8) (q0 := 0) rfl rfl, pW_in hP hK hD⟩ rfl rfl hl.1 rfl (lv_room (Nat.le_of_ble_eq_true rfl)) dX9_barterOf_93 ⟨(Nat.le_of_ble_eq_true rfl), (Nat.le_of_ble_eq_true rfl)⟩) hS (fun q _ h => hFc q h) hFc (fun r_64 u_ t_ H63 locs ht hvm hw hB hz1 hk1 hS => ?_)
                subst hw
                obtain ⟨x65, x66, J67, hP1, hD1, hI69, f68⟩ := hB
                rw [ht] at hP1
                have hP := hP1
                have hD := dW hFc hD1
                obtain ⟨im70, im71, im72, im73, im74, im75, im76, im77, im78, im79, im80, im81, im82, im83, im84, im85, im86, im87, im88, im89, im90, im91, im92, im93, im94, im95, im96, im97, im98, im99, im100⟩ := id hI69
                refine lv_aload_n hx hb dX9_barterOf_96 rfl (lv_at hl 2 rfl) ?_
                refine lv_iload hx hb dX9_barterOf_97 (lv_at hl 6 rfl) ?_
                refine lv_iload hx hb dX9_barterOf_99 (lv_at hl 1 rfl) ?_
                have hFc := frA hD hS hA
                refine va_calli (va_runV (As := [.int y7_4, .int r_11]) (rest := [.int r_64]) ⟨hx, hb, hml, hown, hG⟩ (kX9_gladNow l dC dI r ct i_taped i_size i_faultKind i_at i_end i_token i_number i_bank i_rb i_codes i_within i_piled i_unitsInRule x65 x66 i_acts i_undone i_laid i_knowns i_time f_text f_tunes f_houses f_hums f_told f_many f_ruleFrom f_ruleTo f_code f_eWhat f_eSign f_all f_kept f_was f_sTune f_boxAll J67 L y7_4 r_11 H63.size hI69 (ob_133 g7_0) (ob_361 f9 f6) (ob_665 f31 f15) (ob_397 f13 f15)) (cwV 2 hG (goodV gw1562 gw1564 gw94 gw138 gw1565) rfl rfl rfl hd_X9_gladNow ⟨(Nat.le_of_ble_eq_true rfl), (Nat.le_of_ble_eq_true rfl)⟩) ⟨fbW, va_recv hK hP (ci := 8) (q0 := 0) rfl rfl, pW_in hP hK hD⟩ rfl rfl hl.1 rfl (lv_room (Nat.le_of_ble_eq_true rfl)) dX9_barterOf_101 ⟨(Nat.le_of_ble_eq_true rfl), (Nat.le_of_ble_eq_true rfl)⟩) hS (fun q _ h => hFc q h) hFc (fun r_102 u_ t_ H101 locs ht hvm hw hB hz1 hk1 hS => ?_)
                subst hw
                obtain ⟨x103, x104, J105, hP1, hD1, hI107, f106⟩ := hB
                rw [ht] at hP1
                have hP := hP1
                have hD := dW hFc hD1
                obtain ⟨im108, im109, im110, im111, im112, im113, im114, im115, im116, im117, im118, im119, im120, im121, im122, im123, im124, im125, im126, im127, im128, im129, im130, im131, im132, im133, im134, im135, im136, im137, im138⟩ := id hI107
                refine lv_icmp_ge (tgt := 111) hx hb dX9_barterOf_104 (by decide) (fun c_139 => ?_) (fun c_139 => ?_)
                · skip
                  have f140 : r_102.toInt ≤ r_64.toInt := qi_le c_139 rfl rfl
                  refine lv_iload_n hx hb dX9_barterOf_111 rfl (lv_at hl 4 rfl) ?_
                  refine lv_iconst (v := 1) hx hb dX9_barterOf_112 (by decide) ?_
                  refine lv_iload hx hb dX9_barterOf_113 (lv_at hl 0 rfl) ?_
                  refine lv_ishl hx hb dX9_barterOf_115 ?_
                  refine lv_topi (fun x141 ex141 => ?_)
                  refine lv_ior hx hb dX9_barterOf_116 ?_
                  refine lv_topi (fun x142 ex142 => ?_)
                  refine lv_istore_n (lv' := [(2, .int x142), (6, .int r_23), (5, .int r_11), (0, .ref (r 0)), (1, .int p0), (3, .int y7_3), (4, .int y7_4)]) hx hb dX9_barterOf_117 rfl hl (by decide) rfl (fun ls hl => ?_)
                  refine lv_iload_n hx hb dX9_barterOf_118 rfl (lv_at hl 5 rfl) ?_
                  refine lv_aload_n hx hb dX9_barterOf_119 rfl (lv_at hl 3 rfl) ?_
                  refine lv_iload hx hb dX9_barterOf_120 (lv_at hl 6 rfl) ?_
                  refine lv_iload hx hb dX9_barterOf_122 (lv_at hl 1 rfl) ?_
                  have hFc := frA hD hS hA
                  refine va_calli (va_runV (As := [.int y7_4, .int r_23]) (rest := [.int y7_3]) ⟨hx, hb, hml, hown, hG⟩ (kX9_gladAnew l dC dI r ct i_taped i_size i_faultKind i_at i_end i_token i_number i_bank i_rb i_codes i_within i_piled i_unitsInRule x103 x104 i_acts i_undone i_laid i_knowns i_time f_text f_tunes f_houses f_hums f_told f_many f_ruleFrom f_ruleTo f_code f_eWhat f_eSign f_all f_kept f_was f_sTune f_boxAll J105 L y7_4 r_23 H101.size hI107 (ob_133 g7_0) (ob_361 f9 f6) (ob_600 f28 f25 f29) (ob_601 f41 f29)) (cwV 2 hG (goodV gw1786 gw1788 gw119 gw138 gw1789) rfl rfl rfl hd_X9_gladAnew ⟨(Nat.le_of_ble_eq_true rfl), (Nat.le_of_ble_eq_true rfl)⟩) ⟨fbW, va_recv hK hP (ci := 8) (q0 := 0) rfl rfl, pW_in hP hK hD⟩ rfl rfl hl.1 rfl (lv_room (Nat.le_of_ble_eq_true rfl)) dX9_barterOf_124 ⟨(Nat.le_of_ble_eq_true rfl), (Nat.le_of_ble_eq_true rfl)⟩) hS (fun q _ h => hFc q h) hFc (fun r_144 u_ t_ H143 locs ht hvm hw hB hz1 hk1 hS => ?_)
                  subst hw
                  obtain ⟨x145, x146, J147, hP1, hD1, hI149, f148⟩ := hB
                  rw [ht] at hP1
                  have hP := hP1
                  have hD := dW hFc hD1
                  obtain ⟨im150, im151, im152, im153, im154, im155, im156, im157, im158, im159, im160, im161, im162, im163, im164, im165, im166, im167, im168, im169, im170, im171, im172, im173, im174, im175, im176, im177, im178, im179, im180⟩ := id hI149
                  refine lv_iadd hx hb dX9_barterOf_127 ?_
                  refine lv_topi (fun x181 ex181 => ?_)
                  refine lv_istore_n (lv' := [(3, .int x181), (2, .int x142), (6, .int r_23), (5, .int r_11), (0, .ref (r 0)), (1, .int p0), (4, .int y7_4)]) hx hb dX9_barterOf_128 rfl hl (by decide) rfl (fun ls hl => ?_)
                  obtain ⟨x182, ex182⟩ : ∃ y : Int32, y = y7_4 + Int32.ofInt 1 := ⟨_, rfl⟩
                  have f183 : x182.toInt = y7_4.toInt + 1 := (ob_139 (qi_add ex182 rfl (by decide) (ob_137 g7_0) (ob_304 g7_1)))
                  refine lv_iinc (v := x182) (lv' := [(4, .int x182), (3, .int x181), (2, .int x142), (6, .int r_23), (5, .int r_11), (0, .ref (r 0)), (1, .int p0)]) hx hb dX9_barterOf_129 hl (k := 6) rfl ex182.symm (by decide) rfl (fun ls hl => ?_)
                  refine lv_goto (tgt := 7) hx hb dX9_barterOf_132 (by decide) ?_
                  exact ih7 x142 x181 x182 x145 x146 J147 H143 _ _ (ob_140 g7_0 f183) (ob_305 f2 f9 f6 f183) hP hD hS (lv_sub hl [5, 6, 2, 1, 0] rfl) (ob_306 hM7 f183)
                · skip
                  have f184 : r_64.toInt < r_102.toInt := qi_nle c_139 rfl rfl
                  refine lv_ldcw (v := (-1000000000)) hx hb hown (hG _ gw1601) dX9_barterOf_107 ?_
                  rw [hQ]
                  exact W.iret (v := (-1000000000)) hx hb hr (fun t ht hW => ⟨⟨(-1000000000), (-1000000000), rfl, rfl, ⟨x103, x104, J105, by rw [ht]; exact hP, hD, hI107⟩⟩, hS.F ht⟩) hS.2.2 dX9_barterOf_110
        · skip
          have f185 : r_11.toInt < 0 := qi_nle c_30 zc_0 rfl
          refine lv_iload hx hb dX9_barterOf_44 (lv_at hl 0 rfl) ?_
          refine lv_aload_n hx hb dX9_barterOf_46 rfl (lv_at hl 2 rfl) ?_
          refine va_calli (va_runV (As := []) (rest := [.int r_23]) ⟨hx, hb, hml, hown, hG⟩ (kX9_songs l dC dI r ct i_taped i_size i_faultKind i_at i_end i_token i_number i_bank i_rb i_codes i_within i_piled i_unitsInRule m7_i_askHouse m7_i_askTune i_acts i_undone i_laid i_knowns i_time f_text f_tunes f_houses f_hums f_told f_many f_ruleFrom f_ruleTo f_code f_eWhat f_eSign f_all f_kept f_was f_sTune f_boxAll m7_J L H22.size hI) (cwV 0 hG (goodV gw1512 gw1514 gw86 gw138 gw1515) rfl rfl rfl hd_X9_songs ⟨(Nat.le_of_ble_eq_true rfl), (Nat.le_of_ble_eq_true rfl)⟩) ⟨fbR, va_recv hK hP (ci := 8) (q0 := 0) rfl rfl, pR_in hP hK⟩ rfl rfl hl.1 rfl (lv_room (Nat.le_of_ble_eq_true rfl)) dX9_barterOf_47 ⟨(Nat.le_of_ble_eq_true rfl), (Nat.le_of_ble_eq_true rfl)⟩) hS (fun q hq h => absurd hq (Nat.not_lt.mpr h)) (fun q h => hA q (Nat.le_trans hS.1 h)) (fun r_187 u_ t_ H186 locs ht hvm hw hB hz1 hk1 hS => ?_)
          subst hw
          have hP := wk hP hk1
          have f188 := hB
          have f189 : r_187.toInt = (f_tunes (i_bank.toInt).toNat).toInt := (ob_278 f188)
          refine lv_icmp_ne (tgt := 56) hx hb dX9_barterOf_50 (by decide) (fun c_190 => ?_) (fun c_190 => ?_)
          · skip
            have f191 : r_23.toInt ≠ r_187.toInt := qi_ne c_190 rfl rfl
            have f192 : ((p0.toInt / (pw ((f_tunes (i_bank.toInt).toNat).toInt + 1) (((f_houses (i_bank.toInt).toNat).toInt + -1 * y7_4.toInt + (-1))).toNat)) % ((f_tunes (i_bank.toInt).toNat).toInt + 1)) + 1 ≤ (f_tunes (i_bank.toInt).toNat).toInt := (ob_598 f28 f26 f191 f189 f29 f21)
            refine lv_iload hx hb dX9_barterOf_56 (lv_at hl 1 rfl) ?_
            refine lv_if_lt (tgt := 107) hx hb dX9_barterOf_58 (by decide) (fun c_193 => ?_) (fun c_193 => ((ob_666 (qi_nlt c_193 rfl zc_0) f12 f13 f185 f15)).elim)
            have f194 : r_11.toInt < 0 := qi_lt c_193 rfl zc_0
            refine lv_ldcw (v := (-1000000000)) hx hb hown (hG _ gw1601) dX9_barterOf_107 ?_
            rw [hQ]
            exact W.iret (v := (-1000000000)) hx hb hr (fun t ht hW => ⟨⟨(-1000000000), (-1000000000), rfl, rfl, ⟨m7_i_askHouse, m7_i_askTune, m7_J, by rw [ht]; exact hP, hD, hI⟩⟩, hS.F ht⟩) hS.2.2 dX9_barterOf_110
          · skip
            have f195 : r_23.toInt = r_187.toInt := qi_eq c_190 rfl rfl
            refine lv_goto (tgt := 129) hx hb dX9_barterOf_53 (by decide) ?_
            obtain ⟨x196, ex196⟩ : ∃ y : Int32, y = y7_4 + Int32.ofInt 1 := ⟨_, rfl⟩
            have f197 : x196.toInt = y7_4.toInt + 1 := (ob_139 (qi_add ex196 rfl (by decide) (ob_137 g7_0) (ob_304 g7_1)))
            refine lv_iinc (v := x196) (lv' := [(4, .int x196), (6, .int r_23), (5, .int r_11), (0, .ref (r 0)), (1, .int p0), (2, .int y7_2), (3, .int y7_3)]) hx hb dX9_barterOf_129 hl (k := 6) rfl ex196.symm (by decide) rfl (fun ls hl => ?_)
            refine lv_goto (tgt := 7) hx hb dX9_barterOf_132 (by decide) ?_
            exact ih7 y7_2 y7_3 x196 m7_i_askHouse m7_i_askTune m7_J H186 _ _ (ob_140 g7_0 f197) (ob_305 f2 f9 f6 f197) hP hD hS (lv_sub hl [3, 4, 5, 6, 0] rfl) (ob_306 hM7 f197)
  exact L7 (-1 * (0 : Int32).toInt + 4 + 1).toNat 0 0 0 i_askHouse i_askTune J s.heap _ _ (ob_5 zc_0) (ob_307 zc_0) hP hD hS (lv_sub hl [3, 4, 2, 1, 0] rfl) (mlt (ob_308 zc_0))
set_option maxHeartbeats 4000000 in
set_option maxRecDepth 100000 in
theorem kX9_barter (l : Launch) (dC : Nat → ClassId) (dI : Nat → Nat → Nat) (r : Nat → Nat) (ct : Nat → ClassId) (i_taped i_size i_faultKind i_at i_end i_token i_number i_bank i_rb i_codes i_within i_piled i_unitsInRule i_askHouse i_askTune i_acts i_undone i_laid i_knowns i_time : Int32) (f_text f_tunes f_houses f_hums f_told f_many f_ruleFrom f_ruleTo f_code f_eWhat f_eSign f_all f_kept f_was f_sTune f_boxAll : Nat → Int32) (J : Nat → Nat → Int32) (L : Nat → Nat → Int64) (sz : Nat) (hI : (IM i_taped i_size i_at i_end i_bank i_rb i_acts i_undone i_laid i_knowns i_time f_tunes f_houses f_hums f_told f_many f_ruleFrom f_ruleTo f_code f_all f_kept f_was f_sTune f_boxAll)) : Met l yX9_barter (.code yX9_barter cX9_barter 5 (some .int) :: GW) { frames := 24, cells := 0, slots := 0, locals := 795 } (va_Pc [.ref (r 0)] (pW (dC, dI) (WM r ct i_taped i_size i_faultKind i_at i_end i_token i_number i_bank i_rb i_codes i_within i_piled i_unitsInRule i_askHouse i_askTune i_acts i_undone i_laid i_knowns i_time f_text f_tunes f_houses f_hums f_told f_many f_ruleFrom f_ruleTo f_code f_eWhat f_eSign f_all f_kept f_was f_sTune f_boxAll J L) (TM ct) sz)) (va_Qi (fun (r0 : Int32) (u : Int32) => r0 = u) (fun (u : Int32) (t : State) => ∃ (n_i_askHouse n_i_askTune n_i_laid : Int32) (n_J : Nat → Nat → Int32), va_P (dC, dI) vwCl (WM r ct i_taped i_size i_faultKind i_at i_end i_token i_number i_bank i_rb i_codes i_within i_piled i_unitsInRule n_i_askHouse n_i_askTune i_acts i_undone n_i_laid i_knowns i_time f_text f_tunes f_houses f_hums f_told f_many f_ruleFrom f_ruleTo f_code f_eWhat f_eSign f_all f_kept f_was f_sTune f_boxAll n_J L) t.heap ∧ va_D (va_A (WM r ct i_taped i_size i_faultKind i_at i_end i_token i_number i_bank i_rb i_codes i_within i_piled i_unitsInRule i_askHouse i_askTune i_acts i_undone i_laid i_knowns i_time f_text f_tunes f_houses f_hums f_told f_many f_ruleFrom f_ruleTo f_code f_eWhat f_eSign f_all f_kept f_was f_sTune f_boxAll J L) sz) (WM r ct i_taped i_size i_faultKind i_at i_end i_token i_number i_bank i_rb i_codes i_within i_piled i_unitsInRule n_i_askHouse n_i_askTune i_acts i_undone n_i_laid i_knowns i_time f_text f_tunes f_houses f_hums f_told f_many f_ruleFrom f_ruleTo f_code f_eWhat f_eSign f_all f_kept f_was f_sTune f_boxAll n_J L) ∧ (IM i_taped i_size i_at i_end i_bank i_rb i_acts i_undone n_i_laid i_knowns i_time f_tunes f_houses f_hums f_told f_many f_ruleFrom f_ruleTo f_code f_all f_kept f_was f_sTune f_boxAll)) (va_A (WM r ct i_taped i_size i_faultKind i_at i_end i_token i_number i_bank i_rb i_codes i_within i_piled i_unitsInRule i_askHouse i_askTune i_acts i_undone i_laid i_knowns i_time f_text f_tunes f_houses f_hums f_told f_many f_ruleFrom f_ruleTo f_code f_eWhat f_eSign f_all f_kept f_was f_sTune f_boxAll J L) sz)) 0 0 (va_A (WM r ct i_taped i_size i_faultKind i_at i_end i_token i_number i_bank i_rb i_codes i_within i_piled i_unitsInRule i_askHouse i_askTune i_acts i_undone i_laid i_knowns i_time f_text f_tunes f_houses f_hums f_told f_many f_ruleFrom f_ruleTo f_code f_eWhat f_eSign f_all f_kept f_was f_sTune f_boxAll J L) sz) := by
  refine Met.ofW (cc := cX9_barter) (maxL := 5) (ret := (some .int)) (by decide) rfl ?_
  intro p e s m args below meth c0 s₁ B hml hv
  obtain ⟨rfl, hsz, hP, hK, hD0⟩ := hv
  have hx := B.exec
  have hb := B.bytes
  have hr := B.returns
  have hts := atoms_spec (ws := .code yX9_barter cX9_barter 5 (some .int) :: GW) B.pre
  have hG : ∀ w ∈ GW, w.before _ s = true := fun w h => hts w (List.mem_cons_of_mem _ h)
  have hown : s.vm.findClass RX9 = some m.cls := findClass_of_methodNamed B.named
  subst hsz
  have hD := hD0.self (sz := s.heap.size)
  generalize hAe : va_A (WM r ct i_taped i_size i_faultKind i_at i_end i_token i_number i_bank i_rb i_codes i_within i_piled i_unitsInRule i_askHouse i_askTune i_acts i_undone i_laid i_knowns i_time f_text f_tunes f_houses f_hums f_told f_many f_ruleFrom f_ruleTo f_code f_eWhat f_eSign f_all f_kept f_was f_sTune f_boxAll J L) s.heap.size = A at hD ⊢
  have hA : ∀ q : Nat, s.heap.size ≤ q → A q := fun q h => by rw [← hAe]; exact Or.inr h
  have hS : va_S A s.heap s.heap [] := va_S.rf
  have hP : va_P (dC, dI) vwCl (WM r ct i_taped i_size i_faultKind i_at i_end i_token i_number i_bank i_rb i_codes i_within i_piled i_unitsInRule i_askHouse i_askTune i_acts i_undone i_laid i_knowns i_time f_text f_tunes f_houses f_hums f_told f_many f_ruleFrom f_ruleTo f_code f_eWhat f_eSign f_all f_kept f_was f_sTune f_boxAll J L) s.heap := hP
  have hl := lv_entry ([.ref (r 0)]) (n := 5) (Nat.le_of_ble_eq_true rfl)
  rw [lg_entry_eq]
  generalize (lg_sl ([.ref (r 0)]) ++ List.replicate (5 - (lg_sl ([.ref (r 0)])).length) Slot.unset).toArray = ls at hl ⊢
  have hl : lv_has ls 5 [(0, .ref (r 0))] := hl
  refine nameQ (fun Q hQ => ?_)
  obtain ⟨im0, im1, im2, im3, im4, im5, im6, im7, im8, im9, im10, im11, im12, im13, im14, im15, im16, im17, im18, im19, im20, im21, im22, im23, im24, im25, im26, im27, im28, im29, im30⟩ := id hI
  have f1 : 0 ≤ (f_tunes (i_bank.toInt).toNat).toInt ∧ (f_tunes (i_bank.toInt).toNat).toInt ≤ 5 := im20 (i_bank.toInt)
  have f2 : 0 ≤ (f_houses (i_bank.toInt).toNat).toInt ∧ (f_houses (i_bank.toInt).toNat).toInt ≤ 4 := im21 (i_bank.toInt)
  refine lv_iconst (v := (-1)) hx hb dX9_barter_0 (by decide) ?_
  refine lv_istore_n (lv' := [(1, .int (-1)), (0, .ref (r 0))]) hx hb dX9_barter_1 rfl hl (by decide) rfl (fun ls hl => ?_)
  refine lv_ldcw (v := (-1000000000)) hx hb hown (hG _ gw1601) dX9_barter_2 ?_
  refine lv_istore_n (lv' := [(2, .int (-1000000000)), (1, .int (-1)), (0, .ref (r 0))]) hx hb dX9_barter_5 rfl hl (by decide) rfl (fun ls hl => ?_)
  refine lv_iconst (v := 0) hx hb dX9_barter_6 (by decide) ?_
  refine lv_istore_n (lv' := [(3, .int 0), (2, .int (-1000000000)), (1, .int (-1)), (0, .ref (r 0))]) hx hb dX9_barter_7 rfl hl (by decide) rfl (fun ls hl => ?_)
  have L8 : ∀ (N8 : Nat) (y8_1 y8_2 y8_3 : Int32) (m8_i_askHouse m8_i_askTune : Int32) (m8_J : Nat → Nat → Int32) (H8 : Heap) (locs : List Loc) (ls : Array Slot) (g8_0 : 0 ≤ y8_1.toInt + 1) (g8_1 : y8_1.toInt ≤ 1048576) (g8_2 : 0 ≤ y8_2.toInt + 1000000000) (g8_3 : 0 ≤ y8_3.toInt) (g8_4 : y8_3.toInt ≤ 1296) (hP : va_P (dC, dI) vwCl (WM r ct i_taped i_size i_faultKind i_at i_end i_token i_number i_bank i_rb i_codes i_within i_piled i_unitsInRule m8_i_askHouse m8_i_askTune i_acts i_undone i_laid i_knowns i_time f_text f_tunes f_houses f_hums f_told f_many f_ruleFrom f_ruleTo f_code f_eWhat f_eSign f_all f_kept f_was f_sTune f_boxAll m8_J L) H8) (hD : va_D A (WM r ct i_taped i_size i_faultKind i_at i_end i_token i_number i_bank i_rb i_codes i_within i_piled i_unitsInRule m8_i_askHouse m8_i_askTune i_acts i_undone i_laid i_knowns i_time f_text f_tunes f_houses f_hums f_told f_many f_ruleFrom f_ruleTo f_code f_eWhat f_eSign f_all f_kept f_was f_sTune f_boxAll m8_J L)) (hS : va_S A s.heap H8 locs) (hl : lv_has ls 5 [(0, .ref (r 0)), (1, .int y8_1), (2, .int y8_2), (3, .int y8_3)]) (hM : -1 * y8_3.toInt + 1296 < (N8 : Int)), W p l e { frames := 24, cells := 0, slots := 0, locals := 795 } s m ([.ref (r 0)] : List Value).toArray below meth c0 H8 locs 0 0 Q (F0 m 8 ls []) := by
    intro N8
    induction N8 with
    | zero =>
      intro y8_1 y8_2 y8_3 m8_i_askHouse m8_i_askTune m8_J H8 locs ls g8_0 g8_1 g8_2 g8_3 g8_4 hP hD hS hl hM
      exact ((ob_602 hM g8_3 g8_4)).elim
    | succ N8 ih8 =>
      intro y8_1 y8_2 y8_3 m8_i_askHouse m8_i_askTune m8_J H8 locs ls g8_0 g8_1 g8_2 g8_3 g8_4 hP hD hS hl hM
      have hM8 := msucc hM
      refine lv_iload_n hx hb dX9_barter_8 rfl (lv_at hl 3 rfl) ?_
      refine lv_aload_n hx hb dX9_barter_9 rfl (lv_at hl 0 rfl) ?_
      refine va_calli (va_runV (As := []) (rest := [.int y8_3]) ⟨hx, hb, hml, hown, hG⟩ (kX9_songs l dC dI r ct i_taped i_size i_faultKind i_at i_end i_token i_number i_bank i_rb i_codes i_within i_piled i_unitsInRule m8_i_askHouse m8_i_askTune i_acts i_undone i_laid i_knowns i_time f_text f_tunes f_houses f_hums f_told f_many f_ruleFrom f_ruleTo f_code f_eWhat f_eSign f_all f_kept f_was f_sTune f_boxAll m8_J L H8.size hI) (cwV 0 hG (goodV gw1512 gw1514 gw86 gw138 gw1515) rfl rfl rfl hd_X9_songs ⟨(Nat.le_of_ble_eq_true rfl), (Nat.le_of_ble_eq_true rfl)⟩) ⟨fbR, va_recv hK hP (ci := 8) (q0 := 0) rfl rfl, pR_in hP hK⟩ rfl rfl hl.1 rfl (lv_room (Nat.le_of_ble_eq_true rfl)) dX9_barter_10 ⟨(Nat.le_of_ble_eq_true rfl), (Nat.le_of_ble_eq_true rfl)⟩) hS (fun q hq h => absurd hq (Nat.not_lt.mpr h)) (fun q h => hA q (Nat.le_trans hS.1 h)) (fun r_4 u_ t_ H3 locs ht hvm hw hB hz1 hk1 hS => ?_)
      subst hw
      have hP := wk hP hk1
      have f5 := hB
      have f6 : r_4.toInt = (f_tunes (i_bank.toInt).toNat).toInt := (ob_278 f5)
      refine lv_iconst (v := 1) hx hb dX9_barter_13 (by decide) ?_
      refine lv_iadd hx hb dX9_barter_14 ?_
      refine lv_topi (fun x7 ex7 => ?_)
      have f8 : x7.toInt = (f_tunes (i_bank.toInt).toNat).toInt + 1 := (ob_594 (qi_add ex7 rfl zc_1 (ob_592 f1 f6) (ob_593 f1 f6)) f6)
      refine lv_aload_n hx hb dX9_barter_15 rfl (lv_at hl 0 rfl) ?_
      refine va_calli (va_runV (As := []) (rest := [.int x7, .int y8_3]) ⟨hx, hb, hml, hown, hG⟩ (kX9_homes l dC dI r ct i_taped i_size i_faultKind i_at i_end i_token i_number i_bank i_rb i_codes i_within i_piled i_unitsInRule m8_i_askHouse m8_i_askTune i_acts i_undone i_laid i_knowns i_time f_text f_tunes f_houses f_hums f_told f_many f_ruleFrom f_ruleTo f_code f_eWhat f_eSign f_all f_kept f_was f_sTune f_boxAll m8_J L H3.size hI) (cwV 0 hG (goodV gw1167 gw1169 gw58 gw138 gw1170) rfl rfl rfl hd_X9_homes ⟨(Nat.le_of_ble_eq_true rfl), (Nat.le_of_ble_eq_true rfl)⟩) ⟨fbR, va_recv hK hP (ci := 8) (q0 := 0) rfl rfl, pR_in hP hK⟩ rfl rfl hl.1 rfl (lv_room (Nat.le_of_ble_eq_true rfl)) dX9_barter_16 ⟨(Nat.le_of_ble_eq_true rfl), (Nat.le_of_ble_eq_true rfl)⟩) hS (fun q hq h => absurd hq (Nat.not_lt.mpr h)) (fun q h => hA q (Nat.le_trans hS.1 h)) (fun r_10 u_ t_ H9 locs ht hvm hw hB hz1 hk1 hS => ?_)
      subst hw
      have hP := wk hP hk1
      have f11 := hB
      have f12 : r_10.toInt = (f_houses (i_bank.toInt).toNat).toInt := (ob_278 f11)
      refine va_calli (va_runS (As := [.int x7, .int r_10]) (rest := [.int y8_3]) ⟨hx, hb, hml, hown, hG⟩ (kX9_power_v1 l dC dI x7 r_10 H9.size (ob_595 f1 f8) (ob_596 f1 f8) (ob_603 f2 f12) (ob_604 f2 f12)) (va_cwS 2 hG (goodS gw1756 gw1757 gw138 gw1758) rfl rfl rfl hd_X9_power ⟨(Nat.le_of_ble_eq_true rfl), (Nat.le_of_ble_eq_true rfl)⟩) ⟨fbR, pR_in emptyP (emptyK hK)⟩ rfl rfl hl.1 rfl (lv_room (Nat.le_of_ble_eq_true rfl)) dX9_barter_19 ⟨(Nat.le_of_ble_eq_true rfl), (Nat.le_of_ble_eq_true rfl)⟩) hS (fun q hq h => absurd hq (Nat.not_lt.mpr h)) (fun q h => hA q (Nat.le_trans hS.1 h)) (fun r_14 u_ t_ H13 locs ht hvm hw hB hz1 hk1 hS => ?_)
      subst hw
      have hP := wk hP hk1
      obtain ⟨f15, f16, f17⟩ := hB
      have f18 : (pw x7.toInt (r_10.toInt).toNat) = (pw ((f_tunes (i_bank.toInt).toNat).toInt + 1) (r_10.toInt).toNat) := by rw [f8]
      have f19 : (pw ((f_tunes (i_bank.toInt).toNat).toInt + 1) (r_10.toInt).toNat) = (pw ((f_tunes (i_bank.toInt).toNat).toInt + 1) (((f_houses (i_bank.toInt).toNat).toInt)).toNat) := by rw [f12]
      have f20 : r_14.toInt = (pw ((f_tunes (i_bank.toInt).toNat).toInt + 1) (((f_houses (i_bank.toInt).toNat).toInt)).toNat) := (ob_605 f15 f19)
      refine lv_icmp_ge (tgt := 52) hx hb dX9_barter_22 (by decide) (fun c_21 => ?_) (fun c_21 => ?_)
      · skip
        have f22 : r_14.toInt ≤ y8_3.toInt := qi_le c_21 rfl rfl
        refine lv_aload_n hx hb dX9_barter_52 rfl (lv_at hl 0 rfl) ?_
        refine lv_aload_n hx hb dX9_barter_53 rfl (lv_at hl 0 rfl) ?_
        refine va_calli (va_runV (As := []) (rest := [.ref (r 0)]) ⟨hx, hb, hml, hown, hG⟩ (kX9_homes l dC dI r ct i_taped i_size i_faultKind i_at i_end i_token i_number i_bank i_rb i_codes i_within i_piled i_unitsInRule m8_i_askHouse m8_i_askTune i_acts i_undone i_laid i_knowns i_time f_text f_tunes f_houses f_hums f_told f_many f_ruleFrom f_ruleTo f_code f_eWhat f_eSign f_all f_kept f_was f_sTune f_boxAll m8_J L H13.size hI) (cwV 0 hG (goodV gw1167 gw1169 gw58 gw138 gw1170) rfl rfl rfl hd_X9_homes ⟨(Nat.le_of_ble_eq_true rfl), (Nat.le_of_ble_eq_true rfl)⟩) ⟨fbR, va_recv hK hP (ci := 8) (q0 := 0) rfl rfl, pR_in hP hK⟩ rfl rfl hl.1 rfl (lv_room (Nat.le_of_ble_eq_true rfl)) dX9_barter_54 ⟨(Nat.le_of_ble_eq_true rfl), (Nat.le_of_ble_eq_true rfl)⟩) hS (fun q hq h => absurd hq (Nat.not_lt.mpr h)) (fun q h => hA q (Nat.le_trans hS.1 h)) (fun r_24 u_ t_ H23 locs ht hvm hw hB hz1 hk1 hS => ?_)
        subst hw
        have hP := wk hP hk1
        have f25 := hB
        have f26 : r_24.toInt = (f_houses (i_bank.toInt).toNat).toInt := (ob_278 f25)
        refine pM_X9_373_0 hx hb hG hown hK hP hD hS dX9_barter_57 (fun H27 locs hP hD hS => ?_)
        refine lv_iconst (v := 0) hx hb dX9_barter_60 (by decide) ?_
        refine lv_istore_n (lv' := [(3, .int 0), (0, .ref (r 0)), (1, .int y8_1), (2, .int y8_2)]) hx hb dX9_barter_61 rfl hl (by decide) rfl (fun ls hl => ?_)
        have L62 : ∀ (N62 : Nat) (y62_3 : Int32) (m62_J : Nat → Nat → Int32) (H62 : Heap) (locs : List Loc) (ls : Array Slot) (g62_0 : 0 ≤ y62_3.toInt) (g62_1 : y62_3.toInt ≤ 4) (hP : va_P (dC, dI) vwCl (WM r ct i_taped i_size i_faultKind i_at i_end i_token i_number i_bank i_rb i_codes i_within i_piled i_unitsInRule m8_i_askHouse m8_i_askTune i_acts i_undone r_24 i_knowns i_time f_text f_tunes f_houses f_hums f_told f_many f_ruleFrom f_ruleTo f_code f_eWhat f_eSign f_all f_kept f_was f_sTune f_boxAll m62_J L) H62) (hD : va_D A (WM r ct i_taped i_size i_faultKind i_at i_end i_token i_number i_bank i_rb i_codes i_within i_piled i_unitsInRule m8_i_askHouse m8_i_askTune i_acts i_undone r_24 i_knowns i_time f_text f_tunes f_houses f_hums f_told f_many f_ruleFrom f_ruleTo f_code f_eWhat f_eSign f_all f_kept f_was f_sTune f_boxAll m62_J L)) (hS : va_S A s.heap H62 locs) (hl : lv_has ls 5 [(0, .ref (r 0)), (1, .int y8_1), (2, .int y8_2), (3, .int y62_3)]) (hM : -1 * y62_3.toInt + 4 < (N62 : Int)), W p l e { frames := 24, cells := 0, slots := 0, locals := 795 } s m ([.ref (r 0)] : List Value).toArray below meth c0 H62 locs 0 0 Q (F0 m 62 ls []) := by
          intro N62
          induction N62 with
          | zero =>
            intro y62_3 m62_J H62 locs ls g62_0 g62_1 hP hD hS hl hM
            exact ((ob_293 hM g62_0 g62_1)).elim
          | succ N62 ih62 =>
            intro y62_3 m62_J H62 locs ls g62_0 g62_1 hP hD hS hl hM
            have hM62 := msucc hM
            refine lv_iload_n hx hb dX9_barter_62 rfl (lv_at hl 3 rfl) ?_
            refine lv_aload_n hx hb dX9_barter_63 rfl (lv_at hl 0 rfl) ?_
            refine va_calli (va_runV (As := []) (rest := [.int y62_3]) ⟨hx, hb, hml, hown, hG⟩ (kX9_homes l dC dI r ct i_taped i_size i_faultKind i_at i_end i_token i_number i_bank i_rb i_codes i_within i_piled i_unitsInRule m8_i_askHouse m8_i_askTune i_acts i_undone r_24 i_knowns i_time f_text f_tunes f_houses f_hums f_told f_many f_ruleFrom f_ruleTo f_code f_eWhat f_eSign f_all f_kept f_was f_sTune f_boxAll m62_J L H62.size ⟨im0, im1, im2, im3, im4, im5, im6, im7, (ob_603 f2 f26), (ob_604 f2 f26), im10, im11, im12, im13, im14, im15, im16, im17, im18, im19, im20, im21, im22, im23, im24, im25, im26, im27, im28, im29, im30⟩) (cwV 0 hG (goodV gw1167 gw1169 gw58 gw138 gw1170) rfl rfl rfl hd_X9_homes ⟨(Nat.le_of_ble_eq_true rfl), (Nat.le_of_ble_eq_true rfl)⟩) ⟨fbR, va_recv hK hP (ci := 8) (q0 := 0) rfl rfl, pR_in hP hK⟩ rfl rfl hl.1 rfl (lv_room (Nat.le_of_ble_eq_true rfl)) dX9_barter_64 ⟨(Nat.le_of_ble_eq_true rfl), (Nat.le_of_ble_eq_true rfl)⟩) hS (fun q hq h => absurd hq (Nat.not_lt.mpr h)) (fun q h => hA q (Nat.le_trans hS.1 h)) (fun r_29 u_ t_ H28 locs ht hvm hw hB hz1 hk1 hS => ?_)
            subst hw
            have hP := wk hP hk1
            have f30 := hB
            have f31 : r_29.toInt = (f_houses (i_bank.toInt).toNat).toInt := (ob_278 f30)
            refine lv_icmp_ge (tgt := 117) hx hb dX9_barter_67 (by decide) (fun c_32 => ?_) (fun c_32 => ?_)
            · skip
              have f33 : r_29.toInt ≤ y62_3.toInt := qi_le c_32 rfl rfl
              refine lv_iload_n hx hb dX9_barter_117 rfl (lv_at hl 2 rfl) ?_
              rw [hQ]
              exact W.iret (v := y8_2) hx hb hr (fun t ht hW => ⟨⟨y8_2, y8_2, rfl, rfl, ⟨m8_i_askHouse, m8_i_askTune, r_24, m62_J, by rw [ht]; exact hP, hD, ⟨im0, im1, im2, im3, im4, im5, im6, im7, (ob_606 f2 f33 f31 f26), (ob_607 f2 f33 f31 f26), im10, im11, im12, im13, im14, im15, im16, im17, im18, im19, im20, im21, im22, im23, im24, im25, im26, im27, im28, im29, im30⟩⟩⟩, hS.F ht⟩) hS.2.2 dX9_barter_118
            · skip
              have f34 : y62_3.toInt < r_29.toInt := qi_nle c_32 rfl rfl
              refine lv_aload_n hx hb dX9_barter_70 rfl (lv_at hl 0 rfl) ?_
              refine gM_X9_97_0 hx hb hG hown hK hP dX9_barter_71 ?_
              refine lv_iload_n hx hb dX9_barter_74 rfl (lv_at hl 3 rfl) ?_
              refine lv_aload_n hx hb dX9_barter_75 rfl (lv_at hl 0 rfl) ?_
              refine lv_iload_n hx hb dX9_barter_76 rfl (lv_at hl 1 rfl) ?_
              refine lv_aload_n hx hb dX9_barter_77 rfl (lv_at hl 0 rfl) ?_
              refine va_calli (va_runV (As := []) (rest := [.int y8_1, .ref (r 0), .int y62_3, .ref (r 28)]) ⟨hx, hb, hml, hown, hG⟩ (kX9_songs l dC dI r ct i_taped i_size i_faultKind i_at i_end i_token i_number i_bank i_rb i_codes i_within i_piled i_unitsInRule m8_i_askHouse m8_i_askTune i_acts i_undone r_24 i_knowns i_time f_text f_tunes f_houses f_hums f_told f_many f_ruleFrom f_ruleTo f_code f_eWhat f_eSign f_all f_kept f_was f_sTune f_boxAll m62_J L H28.size ⟨im0, im1, im2, im3, im4, im5, im6, im7, (ob_608 f2 f34 f31 f26), (ob_609 f2 f34 f31 f26), im10, im11, im12, im13, im14, im15, im16, im17, im18, im19, im20, im21, im22, im23, im24, im25, im26, im27, im28, im29, im30⟩) (cwV 0 hG (goodV gw1512 gw1514 gw86 gw138 gw1515) rfl rfl rfl hd_X9_songs ⟨(Nat.le_of_ble_eq_true rfl), (Nat.le_of_ble_eq_true rfl)⟩) ⟨fbR, va_recv hK hP (ci := 8) (q0 := 0) rfl rfl, pR_in hP hK⟩ rfl rfl hl.1 rfl (lv_room (Nat.le_of_ble_eq_true rfl)) dX9_barter_78 ⟨(Nat.le_of_ble_eq_true rfl), (Nat.le_of_ble_eq_true rfl)⟩) hS (fun q hq h => absurd hq (Nat.not_lt.mpr h)) (fun q h => hA q (Nat.le_trans hS.1 h)) (fun r_36 u_ t_ H35 locs ht hvm hw hB hz1 hk1 hS => ?_)
              subst hw
              have hP := wk hP hk1
              have f37 := hB
              have f38 : r_36.toInt = (f_tunes (i_bank.toInt).toNat).toInt := (ob_278 f37)
              refine lv_iconst (v := 1) hx hb dX9_barter_81 (by decide) ?_
              refine lv_iadd hx hb dX9_barter_82 ?_
              refine lv_topi (fun x39 ex39 => ?_)
              have f40 : x39.toInt = (f_tunes (i_bank.toInt).toNat).toInt + 1 := (ob_594 (qi_add ex39 rfl zc_1 (ob_592 f1 f38) (ob_593 f1 f38)) f38)
              refine lv_iload_n hx hb dX9_barter_83 rfl (lv_at hl 3 rfl) ?_
              refine va_calli (va_runV (As := [.int y8_1, .int x39, .int y62_3]) (rest := [.int y62_3, .ref (r 28)]) ⟨hx, hb, hml, hown, hG⟩ (kX9_digit l dC dI r ct i_taped i_size i_faultKind i_at i_end i_token i_number i_bank i_rb i_codes i_within i_piled i_unitsInRule m8_i_askHouse m8_i_askTune i_acts i_undone r_24 i_knowns i_time f_text f_tunes f_houses f_hums f_told f_many f_ruleFrom f_ruleTo f_code f_eWhat f_eSign f_all f_kept f_was f_sTune f_boxAll m62_J L y8_1 x39 y62_3 H35.size ⟨im0, im1, im2, im3, im4, im5, im6, im7, (ob_608 f2 f34 f31 f26), (ob_609 f2 f34 f31 f26), im10, im11, im12, im13, im14, im15, im16, im17, im18, im19, im20, im21, im22, im23, im24, im25, im26, im27, im28, im29, im30⟩ (ob_595 f1 f40) (ob_596 f1 f40) (ob_133 g62_0) (ob_361 f34 f31)) (cwV 3 hG (goodV gw1763 gw1765 gw116 gw138 gw1766) rfl rfl rfl hd_X9_digit ⟨(Nat.le_of_ble_eq_true rfl), (Nat.le_of_ble_eq_true rfl)⟩) ⟨fbR, va_recv hK hP (ci := 8) (q0 := 0) rfl rfl, pR_in hP hK⟩ rfl rfl hl.1 rfl (lv_room (Nat.le_of_ble_eq_true rfl)) dX9_barter_84 ⟨(Nat.le_of_ble_eq_true rfl), (Nat.le_of_ble_eq_true rfl)⟩) hS (fun q hq h => absurd hq (Nat.not_lt.mpr h)) (fun q h => hA q (Nat.le_trans hS.1 h)) (fun r_42 u_ t_ H41 locs ht hvm hw hB hz1 hk1 hS => ?_)
              subst hw
              have hP := wk hP hk1
              refine lv_aload_n hx hb dX9_barter_87 rfl (lv_at hl 0 rfl) ?_
              refine va_calli (va_runV (As := []) (rest := [.int r_42, .int y62_3, .ref (r 28)]) ⟨hx, hb, hml, hown, hG⟩ (kX9_songs l dC dI r ct i_taped i_size i_faultKind i_at i_end i_token i_number i_bank i_rb i_codes i_within i_piled i_unitsInRule m8_i_askHouse m8_i_askTune i_acts i_undone r_24 i_knowns i_time f_text f_tunes f_houses f_hums f_told f_many f_ruleFrom f_ruleTo f_code f_eWhat f_eSign f_all f_kept f_was f_sTune f_boxAll m62_J L H41.size ⟨im0, im1, im2, im3, im4, im5, im6, im7, (ob_608 f2 f34 f31 f26), (ob_609 f2 f34 f31 f26), im10, im11, im12, im13, im14, im15, im16, im17, im18, im19, im20, im21, im22, im23, im24, im25, im26, im27, im28, im29, im30⟩) (cwV 0 hG (goodV gw1512 gw1514 gw86 gw138 gw1515) rfl rfl rfl hd_X9_songs ⟨(Nat.le_of_ble_eq_true rfl), (Nat.le_of_ble_eq_true rfl)⟩) ⟨fbR, va_recv hK hP (ci := 8) (q0 := 0) rfl rfl, pR_in hP hK⟩ rfl rfl hl.1 rfl (lv_room (Nat.le_of_ble_eq_true rfl)) dX9_barter_88 ⟨(Nat.le_of_ble_eq_true rfl), (Nat.le_of_ble_eq_true rfl)⟩) hS (fun q hq h => absurd hq (Nat.not_lt.mpr h)) (fun q h => hA q (Nat.le_trans hS.1 h)) (fun r_44 u_ t_ H43 locs ht hvm hw hB hz1 hk1 hS => ?_)
              subst hw
              have hP := wk hP hk1
              have f45 := hB
              have f46 : r_44.toInt = (f_tunes (i_bank.toInt).toNat).toInt := (ob_278 f45)
              refine lv_icmp_ne (tgt := 98) hx hb dX9_barter_91 (by decide) (fun c_47 => ?_) (fun c_47 => ?_)
              · skip
                have f48 : r_42.toInt ≠ r_44.toInt := qi_ne c_47 rfl rfl
                refine lv_aload_n hx hb dX9_barter_98 rfl (lv_at hl 0 rfl) ?_
                refine lv_iload_n hx hb dX9_barter_99 rfl (lv_at hl 1 rfl) ?_
                refine lv_aload_n hx hb dX9_barter_100 rfl (lv_at hl 0 rfl) ?_
                refine va_calli (va_runV (As := []) (rest := [.int y8_1, .ref (r 0), .int y62_3, .ref (r 28)]) ⟨hx, hb, hml, hown, hG⟩ (kX9_songs l dC dI r ct i_taped i_size i_faultKind i_at i_end i_token i_number i_bank i_rb i_codes i_within i_piled i_unitsInRule m8_i_askHouse m8_i_askTune i_acts i_undone r_24 i_knowns i_time f_text f_tunes f_houses f_hums f_told f_many f_ruleFrom f_ruleTo f_code f_eWhat f_eSign f_all f_kept f_was f_sTune f_boxAll m62_J L H43.size ⟨im0, im1, im2, im3, im4, im5, im6, im7, (ob_608 f2 f34 f31 f26), (ob_609 f2 f34 f31 f26), im10, im11, im12, im13, im14, im15, im16, im17, im18, im19, im20, im21, im22, im23, im24, im25, im26, im27, im28, im29, im30⟩) (cwV 0 hG (goodV gw1512 gw1514 gw86 gw138 gw1515) rfl rfl rfl hd_X9_songs ⟨(Nat.le_of_ble_eq_true rfl), (Nat.le_of_ble_eq_true rfl)⟩) ⟨fbR, va_recv hK hP (ci := 8) (q0 := 0) rfl rfl, pR_in hP hK⟩ rfl rfl hl.1 rfl (lv_room (Nat.le_of_ble_eq_true rfl)) dX9_barter_101 ⟨(Nat.le_of_ble_eq_true rfl), (Nat.le_of_ble_eq_true rfl)⟩) hS (fun q hq h => absurd hq (Nat.not_lt.mpr h)) (fun q h => hA q (Nat.le_trans hS.1 h)) (fun r_50 u_ t_ H49 locs ht hvm hw hB hz1 hk1 hS => ?_)
                subst hw
                have hP := wk hP hk1
                have f51 := hB
                have f52 : r_50.toInt = (f_tunes (i_bank.toInt).toNat).toInt := (ob_278 f51)
                refine lv_iconst (v := 1) hx hb dX9_barter_104 (by decide) ?_
                refine lv_iadd hx hb dX9_barter_105 ?_
                refine lv_topi (fun x53 ex53 => ?_)
                have f54 : x53.toInt = (f_tunes (i_bank.toInt).toNat).toInt + 1 := (ob_594 (qi_add ex53 rfl zc_1 (ob_592 f1 f52) (ob_593 f1 f52)) f52)
                refine lv_iload_n hx hb dX9_barter_106 rfl (lv_at hl 3 rfl) ?_
                refine va_calli (va_runV (As := [.int y8_1, .int x53, .int y62_3]) (rest := [.int y62_3, .ref (r 28)]) ⟨hx, hb, hml, hown, hG⟩ (kX9_digit l dC dI r ct i_taped i_size i_faultKind i_at i_end i_token i_number i_bank i_rb i_codes i_within i_piled i_unitsInRule m8_i_askHouse m8_i_askTune i_acts i_undone r_24 i_knowns i_time f_text f_tunes f_houses f_hums f_told f_many f_ruleFrom f_ruleTo f_code f_eWhat f_eSign f_all f_kept f_was f_sTune f_boxAll m62_J L y8_1 x53 y62_3 H49.size ⟨im0, im1, im2, im3, im4, im5, im6, im7, (ob_608 f2 f34 f31 f26), (ob_609 f2 f34 f31 f26), im10, im11, im12, im13, im14, im15, im16, im17, im18, im19, im20, im21, im22, im23, im24, im25, im26, im27, im28, im29, im30⟩ (ob_595 f1 f54) (ob_596 f1 f54) (ob_133 g62_0) (ob_361 f34 f31)) (cwV 3 hG (goodV gw1763 gw1765 gw116 gw138 gw1766) rfl rfl rfl hd_X9_digit ⟨(Nat.le_of_ble_eq_true rfl), (Nat.le_of_ble_eq_true rfl)⟩) ⟨fbR, va_recv hK hP (ci := 8) (q0 := 0) rfl rfl, pR_in hP hK⟩ rfl rfl hl.1 rfl (lv_room (Nat.le_of_ble_eq_true rfl)) dX9_barter_107 ⟨(Nat.le_of_ble_eq_true rfl), (Nat.le_of_ble_eq_true rfl)⟩) hS (fun q hq h => absurd hq (Nat.not_lt.mpr h)) (fun q h => hA q (Nat.le_trans hS.1 h)) (fun r_56 u_ t_ H55 locs ht hvm hw hB hz1 hk1 hS => ?_)
                subst hw
                have hP := wk hP hk1
                refine stM_28 (mm := y62_3.toInt) hx hb hK hP hD hS rfl (ob_133 g62_0) (ob_610 f2 f34 f31) dX9_barter_110 (fun J58 H57 locs hP hD hS => ?_)
                obtain ⟨x59, ex59⟩ : ∃ y : Int32, y = y62_3 + Int32.ofInt 1 := ⟨_, rfl⟩
                have f60 : x59.toInt = y62_3.toInt + 1 := (ob_139 (qi_add ex59 rfl (by decide) (ob_137 g62_0) (ob_304 g62_1)))
                refine lv_iinc (v := x59) (lv' := [(3, .int x59), (0, .ref (r 0)), (1, .int y8_1), (2, .int y8_2)]) hx hb dX9_barter_111 hl (k := 3) rfl ex59.symm (by decide) rfl (fun ls hl => ?_)
                refine lv_goto (tgt := 62) hx hb dX9_barter_114 (by decide) ?_
                exact ih62 x59 J58 H57 _ _ (ob_140 g62_0 f60) (ob_305 f2 f34 f31 f60) hP hD hS (lv_sub hl [1, 2, 3, 0] rfl) (ob_306 hM62 f60)
              · skip
                have f61 : r_42.toInt = r_44.toInt := qi_eq c_47 rfl rfl
                refine lv_iconst (v := (-1)) hx hb dX9_barter_94 (by decide) ?_
                refine lv_goto (tgt := 110) hx hb dX9_barter_95 (by decide) ?_
                refine stM_28 (mm := y62_3.toInt) hx hb hK hP hD hS rfl (ob_133 g62_0) (ob_610 f2 f34 f31) dX9_barter_110 (fun J63 H62 locs hP hD hS => ?_)
                obtain ⟨x64, ex64⟩ : ∃ y : Int32, y = y62_3 + Int32.ofInt 1 := ⟨_, rfl⟩
                have f65 : x64.toInt = y62_3.toInt + 1 := (ob_139 (qi_add ex64 rfl (by decide) (ob_137 g62_0) (ob_304 g62_1)))
                refine lv_iinc (v := x64) (lv' := [(3, .int x64), (0, .ref (r 0)), (1, .int y8_1), (2, .int y8_2)]) hx hb dX9_barter_111 hl (k := 3) rfl ex64.symm (by decide) rfl (fun ls hl => ?_)
                refine lv_goto (tgt := 62) hx hb dX9_barter_114 (by decide) ?_
                exact ih62 x64 J63 H62 _ _ (ob_140 g62_0 f65) (ob_305 f2 f34 f31 f65) hP hD hS (lv_sub hl [1, 2, 3, 0] rfl) (ob_306 hM62 f65)
        exact L62 (-1 * (0 : Int32).toInt + 4 + 1).toNat 0 m8_J H27 _ _ (ob_5 zc_0) (ob_307 zc_0) hP hD hS (lv_sub hl [1, 2, 3, 0] rfl) (mlt (ob_308 zc_0))
      · skip
        have f66 : y8_3.toInt < r_14.toInt := qi_nle c_21 rfl rfl
        refine lv_aload_n hx hb dX9_barter_25 rfl (lv_at hl 0 rfl) ?_
        refine lv_iload_n hx hb dX9_barter_26 rfl (lv_at hl 3 rfl) ?_
        have hFc := frA hD hS hA
        refine va_calli (va_runV (As := [.int y8_3]) (rest := []) ⟨hx, hb, hml, hown, hG⟩ (kX9_barterOf l dC dI r ct i_taped i_size i_faultKind i_at i_end i_token i_number i_bank i_rb i_codes i_within i_piled i_unitsInRule m8_i_askHouse m8_i_askTune i_acts i_undone i_laid i_knowns i_time f_text f_tunes f_houses f_hums f_told f_many f_ruleFrom f_ruleTo f_code f_eWhat f_eSign f_all f_kept f_was f_sTune f_boxAll m8_J L y8_3 H13.size hI (ob_133 g8_3) (ob_611 g8_4)) (cwV 1 hG (goodV gw1782 gw1784 gw118 gw138 gw1785) rfl rfl rfl hd_X9_barterOf ⟨(Nat.le_of_ble_eq_true rfl), (Nat.le_of_ble_eq_true rfl)⟩) ⟨fbW, va_recv hK hP (ci := 8) (q0 := 0) rfl rfl, pW_in hP hK hD⟩ rfl rfl hl.1 rfl (lv_room (Nat.le_of_ble_eq_true rfl)) dX9_barter_27 ⟨(Nat.le_of_ble_eq_true rfl), (Nat.le_of_ble_eq_true rfl)⟩) hS (fun q _ h => hFc q h) hFc (fun r_68 u_ t_ H67 locs ht hvm hw hB hz1 hk1 hS => ?_)
        subst hw
        obtain ⟨x69, x70, J71, hP1, hD1, hI72⟩ := hB
        rw [ht] at hP1
        have hP := hP1
        have hD := dW hFc hD1
        obtain ⟨im73, im74, im75, im76, im77, im78, im79, im80, im81, im82, im83, im84, im85, im86, im87, im88, im89, im90, im91, im92, im93, im94, im95, im96, im97, im98, im99, im100, im101, im102, im103⟩ := id hI72
        refine lv_istore (lv' := [(4, .int r_68), (0, .ref (r 0)), (1, .int y8_1), (2, .int y8_2), (3, .int y8_3)]) hx hb dX9_barter_30 hl (by decide) rfl (fun ls hl => ?_)
        refine lv_iload hx hb dX9_barter_32 (lv_at hl 0 rfl) ?_
        refine lv_iload_n hx hb dX9_barter_34 rfl (lv_at hl 3 rfl) ?_
        refine lv_icmp_gt (tgt := 41) hx hb dX9_barter_35 (by decide) (fun c_104 => ?_) (fun c_104 => ?_)
        · skip
          have f105 : y8_2.toInt < r_68.toInt := qi_lt c_104 rfl rfl
          refine lv_iload_n hx hb dX9_barter_41 rfl (lv_at hl 4 rfl) ?_
          refine lv_istore_n (lv' := [(1, .int y8_3), (4, .int r_68), (0, .ref (r 0)), (2, .int y8_2), (3, .int y8_3)]) hx hb dX9_barter_42 rfl hl (by decide) rfl (fun ls hl => ?_)
          refine lv_iload hx hb dX9_barter_43 (lv_at hl 1 rfl) ?_
          refine lv_istore_n (lv' := [(2, .int r_68), (1, .int y8_3), (4, .int r_68), (0, .ref (r 0)), (3, .int y8_3)]) hx hb dX9_barter_45 rfl hl (by decide) rfl (fun ls hl => ?_)
          obtain ⟨x106, ex106⟩ : ∃ y : Int32, y = y8_3 + Int32.ofInt 1 := ⟨_, rfl⟩
          have f107 : x106.toInt = y8_3.toInt + 1 := (ob_139 (qi_add ex106 rfl (by decide) (ob_137 g8_3) (ob_613 g8_4)))
          refine lv_iinc (v := x106) (lv' := [(3, .int x106), (2, .int r_68), (1, .int y8_3), (4, .int r_68), (0, .ref (r 0))]) hx hb dX9_barter_46 hl (k := 4) rfl ex106.symm (by decide) rfl (fun ls hl => ?_)
          refine lv_goto (tgt := 8) hx hb dX9_barter_49 (by decide) ?_
          exact ih8 y8_3 r_68 x106 x69 x70 J71 H67 _ _ (ob_360 g8_3) (ob_614 g8_4) (ob_667 g8_2 f105) (ob_140 g8_3 f107) (ob_616 f18 f19 f17 f66 f20 f107) hP hD hS (lv_sub hl [4, 2, 1, 0] rfl) (ob_617 hM8 f107)
        · skip
          have f108 : r_68.toInt ≤ y8_2.toInt := qi_nlt c_104 rfl rfl
          refine lv_goto (tgt := 46) hx hb dX9_barter_38 (by decide) ?_
          obtain ⟨x109, ex109⟩ : ∃ y : Int32, y = y8_3 + Int32.ofInt 1 := ⟨_, rfl⟩
          have f110 : x109.toInt = y8_3.toInt + 1 := (ob_139 (qi_add ex109 rfl (by decide) (ob_137 g8_3) (ob_613 g8_4)))
          refine lv_iinc (v := x109) (lv' := [(3, .int x109), (4, .int r_68), (0, .ref (r 0)), (1, .int y8_1), (2, .int y8_2)]) hx hb dX9_barter_46 hl (k := 4) rfl ex109.symm (by decide) rfl (fun ls hl => ?_)
          refine lv_goto (tgt := 8) hx hb dX9_barter_49 (by decide) ?_
          exact ih8 y8_1 y8_2 x109 x69 x70 J71 H67 _ _ (ob_459 g8_0 g8_1) (ob_460 g8_0 g8_1) (ob_668 g8_2 f108) (ob_140 g8_3 f110) (ob_616 f18 f19 f17 f66 f20 f110) hP hD hS (lv_sub hl [2, 3, 4, 0] rfl) (ob_617 hM8 f110)
  exact L8 (-1 * (0 : Int32).toInt + 1296 + 1).toNat (-1) (-1000000000) 0 i_askHouse i_askTune J s.heap _ _ (ob_349 zc_m1) (ob_462 zc_m1) (ob_669 zc_m1000000000) (ob_5 zc_0) (ob_625 zc_0) hP hD hS (lv_sub hl [3, 2, 1, 0] rfl) (mlt (ob_626 zc_0))
set_option maxHeartbeats 4000000 in
set_option maxRecDepth 100000 in
theorem kX9_swap (l : Launch) (dC : Nat → ClassId) (dI : Nat → Nat → Nat) (r : Nat → Nat) (ct : Nat → ClassId) (i_taped i_size i_faultKind i_at i_end i_token i_number i_bank i_rb i_codes i_within i_piled i_unitsInRule i_askHouse i_askTune i_acts i_undone i_laid i_knowns i_time : Int32) (f_text f_tunes f_houses f_hums f_told f_many f_ruleFrom f_ruleTo f_code f_eWhat f_eSign f_all f_kept f_was f_sTune f_boxAll : Nat → Int32) (J : Nat → Nat → Int32) (L : Nat → Nat → Int64) (p0 : Int32) (sz : Nat) (hI : (IM i_taped i_size i_at i_end i_bank i_rb i_acts i_undone i_laid i_knowns i_time f_tunes f_houses f_hums f_told f_many f_ruleFrom f_ruleTo f_code f_all f_kept f_was f_sTune f_boxAll)) : Met l yX9_swap (.code yX9_swap cX9_swap 5 (some .int) :: GW) { frames := 22, cells := 0, slots := 0, locals := 729 } (va_Pc [.ref (r 0), .int p0] (pW (dC, dI) (WM r ct i_taped i_size i_faultKind i_at i_end i_token i_number i_bank i_rb i_codes i_within i_piled i_unitsInRule i_askHouse i_askTune i_acts i_undone i_laid i_knowns i_time f_text f_tunes f_houses f_hums f_told f_many f_ruleFrom f_ruleTo f_code f_eWhat f_eSign f_all f_kept f_was f_sTune f_boxAll J L) (TM ct) sz)) (va_Qi (fun (r0 : Int32) (u : Int32) => r0 = u) (fun (u : Int32) (t : State) => ∃ (n_i_askHouse n_i_askTune : Int32) (n_J : Nat → Nat → Int32), va_P (dC, dI) vwCl (WM r ct i_taped i_size i_faultKind i_at i_end i_token i_number i_bank i_rb i_codes i_within i_piled i_unitsInRule n_i_askHouse n_i_askTune i_acts i_undone i_laid i_knowns i_time f_text f_tunes f_houses f_hums f_told f_many f_ruleFrom f_ruleTo f_code f_eWhat f_eSign f_all f_kept f_was f_sTune f_boxAll n_J L) t.heap ∧ va_D (va_A (WM r ct i_taped i_size i_faultKind i_at i_end i_token i_number i_bank i_rb i_codes i_within i_piled i_unitsInRule i_askHouse i_askTune i_acts i_undone i_laid i_knowns i_time f_text f_tunes f_houses f_hums f_told f_many f_ruleFrom f_ruleTo f_code f_eWhat f_eSign f_all f_kept f_was f_sTune f_boxAll J L) sz) (WM r ct i_taped i_size i_faultKind i_at i_end i_token i_number i_bank i_rb i_codes i_within i_piled i_unitsInRule n_i_askHouse n_i_askTune i_acts i_undone i_laid i_knowns i_time f_text f_tunes f_houses f_hums f_told f_many f_ruleFrom f_ruleTo f_code f_eWhat f_eSign f_all f_kept f_was f_sTune f_boxAll n_J L) ∧ (IM i_taped i_size i_at i_end i_bank i_rb i_acts i_undone i_laid i_knowns i_time f_tunes f_houses f_hums f_told f_many f_ruleFrom f_ruleTo f_code f_all f_kept f_was f_sTune f_boxAll)) (va_A (WM r ct i_taped i_size i_faultKind i_at i_end i_token i_number i_bank i_rb i_codes i_within i_piled i_unitsInRule i_askHouse i_askTune i_acts i_undone i_laid i_knowns i_time f_text f_tunes f_houses f_hums f_told f_many f_ruleFrom f_ruleTo f_code f_eWhat f_eSign f_all f_kept f_was f_sTune f_boxAll J L) sz)) 0 0 (va_A (WM r ct i_taped i_size i_faultKind i_at i_end i_token i_number i_bank i_rb i_codes i_within i_piled i_unitsInRule i_askHouse i_askTune i_acts i_undone i_laid i_knowns i_time f_text f_tunes f_houses f_hums f_told f_many f_ruleFrom f_ruleTo f_code f_eWhat f_eSign f_all f_kept f_was f_sTune f_boxAll J L) sz) := by
  refine Met.ofW (cc := cX9_swap) (maxL := 5) (ret := (some .int)) (by decide) rfl ?_
  intro p e s m args below meth c0 s₁ B hml hv
  obtain ⟨rfl, hsz, hP, hK, hD0⟩ := hv
  have hx := B.exec
  have hb := B.bytes
  have hr := B.returns
  have hts := atoms_spec (ws := .code yX9_swap cX9_swap 5 (some .int) :: GW) B.pre
  have hG : ∀ w ∈ GW, w.before _ s = true := fun w h => hts w (List.mem_cons_of_mem _ h)
  have hown : s.vm.findClass RX9 = some m.cls := findClass_of_methodNamed B.named
  subst hsz
  have hD := hD0.self (sz := s.heap.size)
  generalize hAe : va_A (WM r ct i_taped i_size i_faultKind i_at i_end i_token i_number i_bank i_rb i_codes i_within i_piled i_unitsInRule i_askHouse i_askTune i_acts i_undone i_laid i_knowns i_time f_text f_tunes f_houses f_hums f_told f_many f_ruleFrom f_ruleTo f_code f_eWhat f_eSign f_all f_kept f_was f_sTune f_boxAll J L) s.heap.size = A at hD ⊢
  have hA : ∀ q : Nat, s.heap.size ≤ q → A q := fun q h => by rw [← hAe]; exact Or.inr h
  have hS : va_S A s.heap s.heap [] := va_S.rf
  have hP : va_P (dC, dI) vwCl (WM r ct i_taped i_size i_faultKind i_at i_end i_token i_number i_bank i_rb i_codes i_within i_piled i_unitsInRule i_askHouse i_askTune i_acts i_undone i_laid i_knowns i_time f_text f_tunes f_houses f_hums f_told f_many f_ruleFrom f_ruleTo f_code f_eWhat f_eSign f_all f_kept f_was f_sTune f_boxAll J L) s.heap := hP
  have hl := lv_entry ([.ref (r 0), .int p0]) (n := 5) (Nat.le_of_ble_eq_true rfl)
  rw [lg_entry_eq]
  generalize (lg_sl ([.ref (r 0), .int p0]) ++ List.replicate (5 - (lg_sl ([.ref (r 0), .int p0])).length) Slot.unset).toArray = ls at hl ⊢
  have hl : lv_has ls 5 [(0, .ref (r 0)), (1, .int p0)] := hl
  refine nameQ (fun Q hQ => ?_)
  obtain ⟨im0, im1, im2, im3, im4, im5, im6, im7, im8, im9, im10, im11, im12, im13, im14, im15, im16, im17, im18, im19, im20, im21, im22, im23, im24, im25, im26, im27, im28, im29, im30⟩ := id hI
  have f1 : 0 ≤ (f_tunes (i_bank.toInt).toNat).toInt ∧ (f_tunes (i_bank.toInt).toNat).toInt ≤ 5 := im20 (i_bank.toInt)
  have f2 : 0 ≤ (f_houses (i_bank.toInt).toNat).toInt ∧ (f_houses (i_bank.toInt).toNat).toInt ≤ 4 := im21 (i_bank.toInt)
  refine lv_iload_n hx hb dX9_swap_0 rfl (lv_at hl 1 rfl) ?_
  refine lv_iconst (v := 0) hx hb dX9_swap_1 (by decide) ?_
  refine lv_iconst (v := 1) hx hb dX9_swap_2 (by decide) ?_
  refine va_calli (va_runS (As := [.int p0, .int 0, .int 1]) (rest := []) ⟨hx, hb, hml, hown, hG⟩ (kX9_isIn l dC dI p0 0 1 s.heap.size) (va_cwS 3 hG (goodS gw1516 gw1517 gw138 gw1518) rfl rfl rfl hd_X9_isIn ⟨(Nat.le_of_ble_eq_true rfl), (Nat.le_of_ble_eq_true rfl)⟩) ⟨fbR, pR_in emptyP (emptyK hK)⟩ rfl rfl hl.1 rfl (lv_room (Nat.le_of_ble_eq_true rfl)) dX9_swap_3 ⟨(Nat.le_of_ble_eq_true rfl), (Nat.le_of_ble_eq_true rfl)⟩) hS (fun q hq h => absurd hq (Nat.not_lt.mpr h)) (fun q h => hA q (Nat.le_trans hS.1 h)) (fun r_4 u_ t_ H3 locs ht hvm hw hB hz1 hk1 hS => ?_)
  subst hw
  have hP := wk hP hk1
  obtain ⟨f5, f6, f7⟩ := hB
  refine lv_if_ne (tgt := 11) hx hb dX9_swap_6 (by decide) (fun c_8 => ?_) (fun c_8 => ?_)
  · skip
    have f9 : r_4.toInt ≠ 0 := qi_ne c_8 rfl zc_0
    have f10 : 1 ≤ r_4.toInt := (ob_439 f5 f9 zc_1 zc_0)
    have f11 : 0 ≤ p0.toInt := (ob_440 f5 f9 zc_1 zc_0)
    have f12 : p0.toInt ≤ 1 := (ob_441 f5 f9 zc_1 zc_0)
    have f13 : r_4.toInt = 1 := (ob_167 f6 f7 f10)
    refine lv_iconst (v := 0) hx hb dX9_swap_11 (by decide) ?_
    refine lv_istore_n (lv' := [(2, .int 0), (0, .ref (r 0)), (1, .int p0)]) hx hb dX9_swap_12 rfl hl (by decide) rfl (fun ls hl => ?_)
    have L13 : ∀ (N13 : Nat) (y13_2 : Int32) (m13_i_askHouse m13_i_askTune : Int32) (m13_J : Nat → Nat → Int32) (H13 : Heap) (locs : List Loc) (ls : Array Slot) (g13_0 : 0 ≤ y13_2.toInt) (g13_1 : y13_2.toInt ≤ 16) (hP : va_P (dC, dI) vwCl (WM r ct i_taped i_size i_faultKind i_at i_end i_token i_number i_bank i_rb i_codes i_within i_piled i_unitsInRule m13_i_askHouse m13_i_askTune i_acts i_undone i_laid i_knowns i_time f_text f_tunes f_houses f_hums f_told f_many f_ruleFrom f_ruleTo f_code f_eWhat f_eSign f_all f_kept f_was f_sTune f_boxAll m13_J L) H13) (hD : va_D A (WM r ct i_taped i_size i_faultKind i_at i_end i_token i_number i_bank i_rb i_codes i_within i_piled i_unitsInRule m13_i_askHouse m13_i_askTune i_acts i_undone i_laid i_knowns i_time f_text f_tunes f_houses f_hums f_told f_many f_ruleFrom f_ruleTo f_code f_eWhat f_eSign f_all f_kept f_was f_sTune f_boxAll m13_J L)) (hS : va_S A s.heap H13 locs) (hl : lv_has ls 5 [(0, .ref (r 0)), (1, .int p0), (2, .int y13_2)]) (hM : -1 * y13_2.toInt + 16 < (N13 : Int)), W p l e { frames := 22, cells := 0, slots := 0, locals := 729 } s m ([.ref (r 0), .int p0] : List Value).toArray below meth c0 H13 locs 0 0 Q (F0 m 13 ls []) := by
      intro N13
      induction N13 with
      | zero =>
        intro y13_2 m13_i_askHouse m13_i_askTune m13_J H13 locs ls g13_0 g13_1 hP hD hS hl hM
        exact ((ob_670 hM g13_0 g13_1)).elim
      | succ N13 ih13 =>
        intro y13_2 m13_i_askHouse m13_i_askTune m13_J H13 locs ls g13_0 g13_1 hP hD hS hl hM
        have hM13 := msucc hM
        refine lv_iload_n hx hb dX9_swap_13 rfl (lv_at hl 2 rfl) ?_
        refine lv_bipush (v := 16) hx hb dX9_swap_14 (by decide) ?_
        refine lv_icmp_ge (tgt := 130) hx hb dX9_swap_16 (by decide) (fun c_14 => ?_) (fun c_14 => ?_)
        · skip
          have f15 : 16 ≤ y13_2.toInt := qi_le c_14 zc_16 rfl
          refine lv_iconst (v := (-1)) hx hb dX9_swap_130 (by decide) ?_
          rw [hQ]
          exact W.iret (v := (-1)) hx hb hr (fun t ht hW => ⟨⟨(-1), (-1), rfl, rfl, ⟨m13_i_askHouse, m13_i_askTune, m13_J, by rw [ht]; exact hP, hD, hI⟩⟩, hS.F ht⟩) hS.2.2 dX9_swap_131
        · skip
          have f16 : y13_2.toInt < 16 := qi_nle c_14 zc_16 rfl
          refine lv_iload_n hx hb dX9_swap_19 rfl (lv_at hl 2 rfl) ?_
          refine lv_iconst (v := 4) hx hb dX9_swap_20 (by decide) ?_
          refine lv_idiv hx hb dX9_swap_21 (by decide) ?_
          refine lv_topi (fun x17 ex17 => ?_)
          have f18 : 0 ≤ x17.toInt ∧ x17.toInt ≤ y13_2.toInt := qi_div ex17 rfl zc_4 (ob_133 g13_0) (by decide)
          have f19 : 4 * x17.toInt ≤ y13_2.toInt ∧ y13_2.toInt < 4 * x17.toInt + 4 := qi_divc ex17 rfl zc_4 (ob_133 g13_0) (by decide)
          refine lv_istore_n (lv' := [(3, .int x17), (0, .ref (r 0)), (1, .int p0), (2, .int y13_2)]) hx hb dX9_swap_22 rfl hl (by decide) rfl (fun ls hl => ?_)
          refine lv_iload_n hx hb dX9_swap_23 rfl (lv_at hl 3 rfl) ?_
          refine lv_iconst (v := 4) hx hb dX9_swap_24 (by decide) ?_
          refine lv_irem hx hb dX9_swap_25 (by decide) ?_
          refine lv_topi (fun x20 ex20 => ?_)
          have f21 : 0 ≤ x20.toInt ∧ x20.toInt < 4 ∧ x20.toInt ≤ y13_2.toInt := qi_rem ex20 rfl zc_4 (ob_133 g13_0) (by decide)
          have f22 : y13_2.toInt = 4 * (y13_2.toInt / 4) + x20.toInt := qi_remq ex20 rfl zc_4 (ob_133 g13_0) (by decide)
          refine lv_istore (lv' := [(4, .int x20), (3, .int x17), (0, .ref (r 0)), (1, .int p0), (2, .int y13_2)]) hx hb dX9_swap_26 hl (by decide) rfl (fun ls hl => ?_)
          refine lv_iload_n hx hb dX9_swap_28 rfl (lv_at hl 1 rfl) ?_
          refine lv_iload hx hb dX9_swap_29 (lv_at hl 0 rfl) ?_
          refine lv_icmp_ge (tgt := 124) hx hb dX9_swap_31 (by decide) (fun c_23 => ?_) (fun c_23 => ?_)
          · skip
            have f24 : x20.toInt ≤ x17.toInt := qi_le c_23 rfl rfl
            obtain ⟨x25, ex25⟩ : ∃ y : Int32, y = y13_2 + Int32.ofInt 1 := ⟨_, rfl⟩
            have f26 : x25.toInt = y13_2.toInt + 1 := (ob_139 (qi_add ex25 rfl (by decide) (ob_137 g13_0) (ob_671 g13_1)))
            refine lv_iinc (v := x25) (lv' := [(2, .int x25), (4, .int x20), (3, .int x17), (0, .ref (r 0)), (1, .int p0)]) hx hb dX9_swap_124 hl (k := 4) rfl ex25.symm (by decide) rfl (fun ls hl => ?_)
            refine lv_goto (tgt := 13) hx hb dX9_swap_127 (by decide) ?_
            exact ih13 x25 m13_i_askHouse m13_i_askTune m13_J H13 _ _ (ob_140 g13_0 f26) (ob_672 f16 f26) hP hD hS (lv_sub hl [3, 4, 0] rfl) (ob_673 hM13 f26)
          · skip
            have f27 : x17.toInt < x20.toInt := qi_nle c_23 rfl rfl
            refine lv_aload_n hx hb dX9_swap_34 rfl (lv_at hl 2 rfl) ?_
            refine lv_iload hx hb dX9_swap_35 (lv_at hl 0 rfl) ?_
            refine va_calli (va_runV (As := [.int x20]) (rest := []) ⟨hx, hb, hml, hown, hG⟩ (kX9_isHouse l dC dI r ct i_taped i_size i_faultKind i_at i_end i_token i_number i_bank i_rb i_codes i_within i_piled i_unitsInRule m13_i_askHouse m13_i_askTune i_acts i_undone i_laid i_knowns i_time f_text f_tunes f_houses f_hums f_told f_many f_ruleFrom f_ruleTo f_code f_eWhat f_eSign f_all f_kept f_was f_sTune f_boxAll m13_J L x20 H13.size hI) (cwV 1 hG (goodV gw1542 gw1544 gw90 gw138 gw1545) rfl rfl rfl hd_X9_isHouse ⟨(Nat.le_of_ble_eq_true rfl), (Nat.le_of_ble_eq_true rfl)⟩) ⟨fbR, va_recv hK hP (ci := 8) (q0 := 0) rfl rfl, pR_in hP hK⟩ rfl rfl hl.1 rfl (lv_room (Nat.le_of_ble_eq_true rfl)) dX9_swap_37 ⟨(Nat.le_of_ble_eq_true rfl), (Nat.le_of_ble_eq_true rfl)⟩) hS (fun q hq h => absurd hq (Nat.not_lt.mpr h)) (fun q h => hA q (Nat.le_trans hS.1 h)) (fun r_29 u_ t_ H28 locs ht hvm hw hB hz1 hk1 hS => ?_)
            subst hw
            have hP := wk hP hk1
            obtain ⟨f30, f31, f32, f33, f34⟩ := hB
            refine lv_if_eq (tgt := 124) hx hb dX9_swap_40 (by decide) (fun c_35 => ?_) (fun c_35 => ?_)
            · skip
              have f36 : r_29.toInt = 0 := qi_eq c_35 rfl zc_0
              have f37 : 0 ≤ x20.toInt := (ob_674 f21 f22 f27)
              have f38 : (f_houses (i_bank.toInt).toNat).toInt ≤ x20.toInt := (ob_675 f21 f30 f36)
              have f39 : r_29.toInt = 0 := (ob_676 f36)
              obtain ⟨x40, ex40⟩ : ∃ y : Int32, y = y13_2 + Int32.ofInt 1 := ⟨_, rfl⟩
              have f41 : x40.toInt = y13_2.toInt + 1 := (ob_139 (qi_add ex40 rfl (by decide) (ob_137 g13_0) (ob_671 g13_1)))
              refine lv_iinc (v := x40) (lv' := [(2, .int x40), (4, .int x20), (3, .int x17), (0, .ref (r 0)), (1, .int p0)]) hx hb dX9_swap_124 hl (k := 4) rfl ex40.symm (by decide) rfl (fun ls hl => ?_)
              refine lv_goto (tgt := 13) hx hb dX9_swap_127 (by decide) ?_
              exact ih13 x40 m13_i_askHouse m13_i_askTune m13_J H28 _ _ (ob_140 g13_0 f41) (ob_672 f16 f41) hP hD hS (lv_sub hl [3, 4, 0] rfl) (ob_673 hM13 f41)
            · skip
              have f42 : r_29.toInt ≠ 0 := qi_ne c_35 rfl zc_0
              have f43 : 1 ≤ r_29.toInt := (ob_399 f30 f42)
              have f44 : 0 ≤ x20.toInt := (ob_674 f21 f22 f27)
              have f45 : x20.toInt + 1 ≤ (f_houses (i_bank.toInt).toNat).toInt := (ob_401 f30 f42)
              have f46 : r_29.toInt = 1 := (ob_402 f32 f43)
              refine lv_aload_n hx hb dX9_swap_43 rfl (lv_at hl 2 rfl) ?_
              refine lv_iload_n hx hb dX9_swap_44 rfl (lv_at hl 1 rfl) ?_
              refine va_calli (va_runV (As := [.int x17]) (rest := []) ⟨hx, hb, hml, hown, hG⟩ (kX9_triedBy l dC dI r ct i_taped i_size i_faultKind i_at i_end i_token i_number i_bank i_rb i_codes i_within i_piled i_unitsInRule m13_i_askHouse m13_i_askTune i_acts i_undone i_laid i_knowns i_time f_text f_tunes f_houses f_hums f_told f_many f_ruleFrom f_ruleTo f_code f_eWhat f_eSign f_all f_kept f_was f_sTune f_boxAll m13_J L x17 H28.size hI) (cwV 1 hG (goodV gw1550 gw1552 gw92 gw138 gw1553) rfl rfl rfl hd_X9_triedBy ⟨(Nat.le_of_ble_eq_true rfl), (Nat.le_of_ble_eq_true rfl)⟩) ⟨fbR, va_recv hK hP (ci := 8) (q0 := 0) rfl rfl, pR_in hP hK⟩ rfl rfl hl.1 rfl (lv_room (Nat.le_of_ble_eq_true rfl)) dX9_swap_45 ⟨(Nat.le_of_ble_eq_true rfl), (Nat.le_of_ble_eq_true rfl)⟩) hS (fun q hq h => absurd hq (Nat.not_lt.mpr h)) (fun q h => hA q (Nat.le_trans hS.1 h)) (fun r_48 u_ t_ H47 locs ht hvm hw hB hz1 hk1 hS => ?_)
              subst hw
              have hP := wk hP hk1
              obtain ⟨f49, f50, f51⟩ := hB
              have f52 : r_48.toInt = (trb f_all x17.toInt (f_tunes (i_bank.toInt).toNat).toInt (6 - (0 : Int32).toInt).toNat (0 : Int32).toInt) := (ob_278 f51)
              refine lv_if_lt (tgt := 124) hx hb dX9_swap_48 (by decide) (fun c_53 => ?_) (fun c_53 => ?_)
              · skip
                have f54 : r_48.toInt < 0 := qi_lt c_53 rfl zc_0
                obtain ⟨x55, ex55⟩ : ∃ y : Int32, y = y13_2 + Int32.ofInt 1 := ⟨_, rfl⟩
                have f56 : x55.toInt = y13_2.toInt + 1 := (ob_139 (qi_add ex55 rfl (by decide) (ob_137 g13_0) (ob_671 g13_1)))
                refine lv_iinc (v := x55) (lv' := [(2, .int x55), (4, .int x20), (3, .int x17), (0, .ref (r 0)), (1, .int p0)]) hx hb dX9_swap_124 hl (k := 4) rfl ex55.symm (by decide) rfl (fun ls hl => ?_)
                refine lv_goto (tgt := 13) hx hb dX9_swap_127 (by decide) ?_
                exact ih13 x55 m13_i_askHouse m13_i_askTune m13_J H47 _ _ (ob_140 g13_0 f56) (ob_672 f16 f56) hP hD hS (lv_sub hl [3, 4, 0] rfl) (ob_673 hM13 f56)
              · skip
                have f57 : 0 ≤ r_48.toInt := qi_nlt c_53 rfl zc_0
                refine lv_aload_n hx hb dX9_swap_51 rfl (lv_at hl 2 rfl) ?_
                refine lv_iload hx hb dX9_swap_52 (lv_at hl 0 rfl) ?_
                refine va_calli (va_runV (As := [.int x20]) (rest := []) ⟨hx, hb, hml, hown, hG⟩ (kX9_triedBy l dC dI r ct i_taped i_size i_faultKind i_at i_end i_token i_number i_bank i_rb i_codes i_within i_piled i_unitsInRule m13_i_askHouse m13_i_askTune i_acts i_undone i_laid i_knowns i_time f_text f_tunes f_houses f_hums f_told f_many f_ruleFrom f_ruleTo f_code f_eWhat f_eSign f_all f_kept f_was f_sTune f_boxAll m13_J L x20 H47.size hI) (cwV 1 hG (goodV gw1550 gw1552 gw92 gw138 gw1553) rfl rfl rfl hd_X9_triedBy ⟨(Nat.le_of_ble_eq_true rfl), (Nat.le_of_ble_eq_true rfl)⟩) ⟨fbR, va_recv hK hP (ci := 8) (q0 := 0) rfl rfl, pR_in hP hK⟩ rfl rfl hl.1 rfl (lv_room (Nat.le_of_ble_eq_true rfl)) dX9_swap_54 ⟨(Nat.le_of_ble_eq_true rfl), (Nat.le_of_ble_eq_true rfl)⟩) hS (fun q hq h => absurd hq (Nat.not_lt.mpr h)) (fun q h => hA q (Nat.le_trans hS.1 h)) (fun r_59 u_ t_ H58 locs ht hvm hw hB hz1 hk1 hS => ?_)
                subst hw
                have hP := wk hP hk1
                obtain ⟨f60, f61, f62⟩ := hB
                have f63 : r_59.toInt = (trb f_all x20.toInt (f_tunes (i_bank.toInt).toNat).toInt (6 - (0 : Int32).toInt).toNat (0 : Int32).toInt) := (ob_278 f62)
                refine lv_if_ge (tgt := 63) hx hb dX9_swap_57 (by decide) (fun c_64 => ?_) (fun c_64 => ?_)
                · skip
                  have f65 : 0 ≤ r_59.toInt := qi_le c_64 zc_0 rfl
                  refine lv_aload_n hx hb dX9_swap_63 rfl (lv_at hl 2 rfl) ?_
                  refine lv_iload_n hx hb dX9_swap_64 rfl (lv_at hl 1 rfl) ?_
                  refine lv_aload_n hx hb dX9_swap_65 rfl (lv_at hl 2 rfl) ?_
                  refine lv_iload hx hb dX9_swap_66 (lv_at hl 0 rfl) ?_
                  refine va_calli (va_runV (As := [.int x20]) (rest := [.int x17, .ref (r 0)]) ⟨hx, hb, hml, hown, hG⟩ (kX9_triedBy l dC dI r ct i_taped i_size i_faultKind i_at i_end i_token i_number i_bank i_rb i_codes i_within i_piled i_unitsInRule m13_i_askHouse m13_i_askTune i_acts i_undone i_laid i_knowns i_time f_text f_tunes f_houses f_hums f_told f_many f_ruleFrom f_ruleTo f_code f_eWhat f_eSign f_all f_kept f_was f_sTune f_boxAll m13_J L x20 H58.size hI) (cwV 1 hG (goodV gw1550 gw1552 gw92 gw138 gw1553) rfl rfl rfl hd_X9_triedBy ⟨(Nat.le_of_ble_eq_true rfl), (Nat.le_of_ble_eq_true rfl)⟩) ⟨fbR, va_recv hK hP (ci := 8) (q0 := 0) rfl rfl, pR_in hP hK⟩ rfl rfl hl.1 rfl (lv_room (Nat.le_of_ble_eq_true rfl)) dX9_swap_68 ⟨(Nat.le_of_ble_eq_true rfl), (Nat.le_of_ble_eq_true rfl)⟩) hS (fun q hq h => absurd hq (Nat.not_lt.mpr h)) (fun q h => hA q (Nat.le_trans hS.1 h)) (fun r_67 u_ t_ H66 locs ht hvm hw hB hz1 hk1 hS => ?_)
                  subst hw
                  have hP := wk hP hk1
                  obtain ⟨f68, f69, f70⟩ := hB
                  have f71 : r_67.toInt = (trb f_all x20.toInt (f_tunes (i_bank.toInt).toNat).toInt (6 - (0 : Int32).toInt).toNat (0 : Int32).toInt) := (ob_278 f70)
                  have hFc := frA hD hS hA
                  refine va_calli (va_runV (As := [.int x17, .int r_67]) (rest := []) ⟨hx, hb, hml, hown, hG⟩ (kX9_gladAnew l dC dI r ct i_taped i_size i_faultKind i_at i_end i_token i_number i_bank i_rb i_codes i_within i_piled i_unitsInRule m13_i_askHouse m13_i_askTune i_acts i_undone i_laid i_knowns i_time f_text f_tunes f_houses f_hums f_told f_many f_ruleFrom f_ruleTo f_code f_eWhat f_eSign f_all f_kept f_was f_sTune f_boxAll m13_J L x17 r_67 H66.size hI (ob_677 f18 f19 f27) (ob_678 f27 f45) (ob_679 f65 f63 f71) (ob_680 f61 f63 f71)) (cwV 2 hG (goodV gw1786 gw1788 gw119 gw138 gw1789) rfl rfl rfl hd_X9_gladAnew ⟨(Nat.le_of_ble_eq_true rfl), (Nat.le_of_ble_eq_true rfl)⟩) ⟨fbW, va_recv hK hP (ci := 8) (q0 := 0) rfl rfl, pW_in hP hK hD⟩ rfl rfl hl.1 rfl (lv_room (Nat.le_of_ble_eq_true rfl)) dX9_swap_71 ⟨(Nat.le_of_ble_eq_true rfl), (Nat.le_of_ble_eq_true rfl)⟩) hS (fun q _ h => hFc q h) hFc (fun r_73 u_ t_ H72 locs ht hvm hw hB hz1 hk1 hS => ?_)
                  subst hw
                  obtain ⟨x74, x75, J76, hP1, hD1, hI78, f77⟩ := hB
                  rw [ht] at hP1
                  have hP := hP1
                  have hD := dW hFc hD1
                  obtain ⟨im79, im80, im81, im82, im83, im84, im85, im86, im87, im88, im89, im90, im91, im92, im93, im94, im95, im96, im97, im98, im99, im100, im101, im102, im103, im104, im105, im106, im107, im108, im109⟩ := id hI78
                  refine lv_aload_n hx hb dX9_swap_74 rfl (lv_at hl 2 rfl) ?_
                  refine lv_iload_n hx hb dX9_swap_75 rfl (lv_at hl 1 rfl) ?_
                  refine lv_aload_n hx hb dX9_swap_76 rfl (lv_at hl 2 rfl) ?_
                  refine lv_iload_n hx hb dX9_swap_77 rfl (lv_at hl 1 rfl) ?_
                  refine va_calli (va_runV (As := [.int x17]) (rest := [.int x17, .ref (r 0), .int r_73]) ⟨hx, hb, hml, hown, hG⟩ (kX9_triedBy l dC dI r ct i_taped i_size i_faultKind i_at i_end i_token i_number i_bank i_rb i_codes i_within i_piled i_unitsInRule x74 x75 i_acts i_undone i_laid i_knowns i_time f_text f_tunes f_houses f_hums f_told f_many f_ruleFrom f_ruleTo f_code f_eWhat f_eSign f_all f_kept f_was f_sTune f_boxAll J76 L x17 H72.size hI78) (cwV 1 hG (goodV gw1550 gw1552 gw92 gw138 gw1553) rfl rfl rfl hd_X9_triedBy ⟨(Nat.le_of_ble_eq_true rfl), (Nat.le_of_ble_eq_true rfl)⟩) ⟨fbR, va_recv hK hP (ci := 8) (q0 := 0) rfl rfl, pR_in hP hK⟩ rfl rfl hl.1 rfl (lv_room (Nat.le_of_ble_eq_true rfl)) dX9_swap_78 ⟨(Nat.le_of_ble_eq_true rfl), (Nat.le_of_ble_eq_true rfl)⟩) hS (fun q hq h => absurd hq (Nat.not_lt.mpr h)) (fun q h => hA q (Nat.le_trans hS.1 h)) (fun r_111 u_ t_ H110 locs ht hvm hw hB hz1 hk1 hS => ?_)
                  subst hw
                  have hP := wk hP hk1
                  obtain ⟨f112, f113, f114⟩ := hB
                  have f115 : r_111.toInt = (trb f_all x17.toInt (f_tunes (i_bank.toInt).toNat).toInt (6 - (0 : Int32).toInt).toNat (0 : Int32).toInt) := (ob_278 f114)
                  have hFc := frA hD hS hA
                  refine va_calli (va_runV (As := [.int x17, .int r_111]) (rest := [.int r_73]) ⟨hx, hb, hml, hown, hG⟩ (kX9_gladNow l dC dI r ct i_taped i_size i_faultKind i_at i_end i_token i_number i_bank i_rb i_codes i_within i_piled i_unitsInRule x74 x75 i_acts i_undone i_laid i_knowns i_time f_text f_tunes f_houses f_hums f_told f_many f_ruleFrom f_ruleTo f_code f_eWhat f_eSign f_all f_kept f_was f_sTune f_boxAll J76 L x17 r_111 H110.size hI78 (ob_677 f18 f19 f27) (ob_678 f27 f45) (ob_679 f57 f52 f115) (ob_680 f50 f52 f115)) (cwV 2 hG (goodV gw1562 gw1564 gw94 gw138 gw1565) rfl rfl rfl hd_X9_gladNow ⟨(Nat.le_of_ble_eq_true rfl), (Nat.le_of_ble_eq_true rfl)⟩) ⟨fbW, va_recv hK hP (ci := 8) (q0 := 0) rfl rfl, pW_in hP hK hD⟩ rfl rfl hl.1 rfl (lv_room (Nat.le_of_ble_eq_true rfl)) dX9_swap_81 ⟨(Nat.le_of_ble_eq_true rfl), (Nat.le_of_ble_eq_true rfl)⟩) hS (fun q _ h => hFc q h) hFc (fun r_117 u_ t_ H116 locs ht hvm hw hB hz1 hk1 hS => ?_)
                  subst hw
                  obtain ⟨x118, x119, J120, hP1, hD1, hI122, f121⟩ := hB
                  rw [ht] at hP1
                  have hP := hP1
                  have hD := dW hFc hD1
                  obtain ⟨im123, im124, im125, im126, im127, im128, im129, im130, im131, im132, im133, im134, im135, im136, im137, im138, im139, im140, im141, im142, im143, im144, im145, im146, im147, im148, im149, im150, im151, im152, im153⟩ := id hI122
                  refine lv_icmp_le (tgt := 124) hx hb dX9_swap_84 (by decide) (fun c_154 => ?_) (fun c_154 => ?_)
                  · skip
                    have f155 : r_73.toInt ≤ r_117.toInt := qi_le c_154 rfl rfl
                    obtain ⟨x156, ex156⟩ : ∃ y : Int32, y = y13_2 + Int32.ofInt 1 := ⟨_, rfl⟩
                    have f157 : x156.toInt = y13_2.toInt + 1 := (ob_139 (qi_add ex156 rfl (by decide) (ob_137 g13_0) (ob_671 g13_1)))
                    refine lv_iinc (v := x156) (lv' := [(2, .int x156), (4, .int x20), (3, .int x17), (0, .ref (r 0)), (1, .int p0)]) hx hb dX9_swap_124 hl (k := 4) rfl ex156.symm (by decide) rfl (fun ls hl => ?_)
                    refine lv_goto (tgt := 13) hx hb dX9_swap_127 (by decide) ?_
                    exact ih13 x156 x118 x119 J120 H116 _ _ (ob_140 g13_0 f157) (ob_672 f16 f157) hP hD hS (lv_sub hl [3, 4, 0] rfl) (ob_673 hM13 f157)
                  · skip
                    have f158 : r_117.toInt < r_73.toInt := qi_nle c_154 rfl rfl
                    refine lv_aload_n hx hb dX9_swap_87 rfl (lv_at hl 2 rfl) ?_
                    refine lv_iload hx hb dX9_swap_88 (lv_at hl 0 rfl) ?_
                    refine lv_aload_n hx hb dX9_swap_90 rfl (lv_at hl 2 rfl) ?_
                    refine lv_iload_n hx hb dX9_swap_91 rfl (lv_at hl 1 rfl) ?_
                    refine va_calli (va_runV (As := [.int x17]) (rest := [.int x20, .ref (r 0)]) ⟨hx, hb, hml, hown, hG⟩ (kX9_triedBy l dC dI r ct i_taped i_size i_faultKind i_at i_end i_token i_number i_bank i_rb i_codes i_within i_piled i_unitsInRule x118 x119 i_acts i_undone i_laid i_knowns i_time f_text f_tunes f_houses f_hums f_told f_many f_ruleFrom f_ruleTo f_code f_eWhat f_eSign f_all f_kept f_was f_sTune f_boxAll J120 L x17 H116.size hI122) (cwV 1 hG (goodV gw1550 gw1552 gw92 gw138 gw1553) rfl rfl rfl hd_X9_triedBy ⟨(Nat.le_of_ble_eq_true rfl), (Nat.le_of_ble_eq_true rfl)⟩) ⟨fbR, va_recv hK hP (ci := 8) (q0 := 0) rfl rfl, pR_in hP hK⟩ rfl rfl hl.1 rfl (lv_room (Nat.le_of_ble_eq_true rfl)) dX9_swap_92 ⟨(Nat.le_of_ble_eq_true rfl), (Nat.le_of_ble_eq_true rfl)⟩) hS (fun q hq h => absurd hq (Nat.not_lt.mpr h)) (fun q h => hA q (Nat.le_trans hS.1 h)) (fun r_160 u_ t_ H159 locs ht hvm hw hB hz1 hk1 hS => ?_)
                    subst hw
                    have hP := wk hP hk1
                    obtain ⟨f161, f162, f163⟩ := hB
                    have f164 : r_160.toInt = (trb f_all x17.toInt (f_tunes (i_bank.toInt).toNat).toInt (6 - (0 : Int32).toInt).toNat (0 : Int32).toInt) := (ob_278 f163)
                    have hFc := frA hD hS hA
                    refine va_calli (va_runV (As := [.int x20, .int r_160]) (rest := []) ⟨hx, hb, hml, hown, hG⟩ (kX9_gladAnew l dC dI r ct i_taped i_size i_faultKind i_at i_end i_token i_number i_bank i_rb i_codes i_within i_piled i_unitsInRule x118 x119 i_acts i_undone i_laid i_knowns i_time f_text f_tunes f_houses f_hums f_told f_many f_ruleFrom f_ruleTo f_code f_eWhat f_eSign f_all f_kept f_was f_sTune f_boxAll J120 L x20 r_160 H159.size hI122 (ob_681 f21) (ob_368 f45) (ob_679 f57 f52 f164) (ob_680 f50 f52 f164)) (cwV 2 hG (goodV gw1786 gw1788 gw119 gw138 gw1789) rfl rfl rfl hd_X9_gladAnew ⟨(Nat.le_of_ble_eq_true rfl), (Nat.le_of_ble_eq_true rfl)⟩) ⟨fbW, va_recv hK hP (ci := 8) (q0 := 0) rfl rfl, pW_in hP hK hD⟩ rfl rfl hl.1 rfl (lv_room (Nat.le_of_ble_eq_true rfl)) dX9_swap_95 ⟨(Nat.le_of_ble_eq_true rfl), (Nat.le_of_ble_eq_true rfl)⟩) hS (fun q _ h => hFc q h) hFc (fun r_166 u_ t_ H165 locs ht hvm hw hB hz1 hk1 hS => ?_)
                    subst hw
                    obtain ⟨x167, x168, J169, hP1, hD1, hI171, f170⟩ := hB
                    rw [ht] at hP1
                    have hP := hP1
                    have hD := dW hFc hD1
                    obtain ⟨im172, im173, im174, im175, im176, im177, im178, im179, im180, im181, im182, im183, im184, im185, im186, im187, im188, im189, im190, im191, im192, im193, im194, im195, im196, im197, im198, im199, im200, im201, im202⟩ := id hI171
                    refine lv_aload_n hx hb dX9_swap_98 rfl (lv_at hl 2 rfl) ?_
                    refine lv_iload hx hb dX9_swap_99 (lv_at hl 0 rfl) ?_
                    refine lv_aload_n hx hb dX9_swap_101 rfl (lv_at hl 2 rfl) ?_
                    refine lv_iload hx hb dX9_swap_102 (lv_at hl 0 rfl) ?_
                    refine va_calli (va_runV (As := [.int x20]) (rest := [.int x20, .ref (r 0), .int r_166]) ⟨hx, hb, hml, hown, hG⟩ (kX9_triedBy l dC dI r ct i_taped i_size i_faultKind i_at i_end i_token i_number i_bank i_rb i_codes i_within i_piled i_unitsInRule x167 x168 i_acts i_undone i_laid i_knowns i_time f_text f_tunes f_houses f_hums f_told f_many f_ruleFrom f_ruleTo f_code f_eWhat f_eSign f_all f_kept f_was f_sTune f_boxAll J169 L x20 H165.size hI171) (cwV 1 hG (goodV gw1550 gw1552 gw92 gw138 gw1553) rfl rfl rfl hd_X9_triedBy ⟨(Nat.le_of_ble_eq_true rfl), (Nat.le_of_ble_eq_true rfl)⟩) ⟨fbR, va_recv hK hP (ci := 8) (q0 := 0) rfl rfl, pR_in hP hK⟩ rfl rfl hl.1 rfl (lv_room (Nat.le_of_ble_eq_true rfl)) dX9_swap_104 ⟨(Nat.le_of_ble_eq_true rfl), (Nat.le_of_ble_eq_true rfl)⟩) hS (fun q hq h => absurd hq (Nat.not_lt.mpr h)) (fun q h => hA q (Nat.le_trans hS.1 h)) (fun r_204 u_ t_ H203 locs ht hvm hw hB hz1 hk1 hS => ?_)
                    subst hw
                    have hP := wk hP hk1
                    obtain ⟨f205, f206, f207⟩ := hB
                    have f208 : r_204.toInt = (trb f_all x20.toInt (f_tunes (i_bank.toInt).toNat).toInt (6 - (0 : Int32).toInt).toNat (0 : Int32).toInt) := (ob_278 f207)
                    have hFc := frA hD hS hA
                    refine va_calli (va_runV (As := [.int x20, .int r_204]) (rest := [.int r_166]) ⟨hx, hb, hml, hown, hG⟩ (kX9_gladNow l dC dI r ct i_taped i_size i_faultKind i_at i_end i_token i_number i_bank i_rb i_codes i_within i_piled i_unitsInRule x167 x168 i_acts i_undone i_laid i_knowns i_time f_text f_tunes f_houses f_hums f_told f_many f_ruleFrom f_ruleTo f_code f_eWhat f_eSign f_all f_kept f_was f_sTune f_boxAll J169 L x20 r_204 H203.size hI171 (ob_681 f21) (ob_368 f45) (ob_679 f65 f63 f208) (ob_680 f61 f63 f208)) (cwV 2 hG (goodV gw1562 gw1564 gw94 gw138 gw1565) rfl rfl rfl hd_X9_gladNow ⟨(Nat.le_of_ble_eq_true rfl), (Nat.le_of_ble_eq_true rfl)⟩) ⟨fbW, va_recv hK hP (ci := 8) (q0 := 0) rfl rfl, pW_in hP hK hD⟩ rfl rfl hl.1 rfl (lv_room (Nat.le_of_ble_eq_true rfl)) dX9_swap_107 ⟨(Nat.le_of_ble_eq_true rfl), (Nat.le_of_ble_eq_true rfl)⟩) hS (fun q _ h => hFc q h) hFc (fun r_210 u_ t_ H209 locs ht hvm hw hB hz1 hk1 hS => ?_)
                    subst hw
                    obtain ⟨x211, x212, J213, hP1, hD1, hI215, f214⟩ := hB
                    rw [ht] at hP1
                    have hP := hP1
                    have hD := dW hFc hD1
                    obtain ⟨im216, im217, im218, im219, im220, im221, im222, im223, im224, im225, im226, im227, im228, im229, im230, im231, im232, im233, im234, im235, im236, im237, im238, im239, im240, im241, im242, im243, im244, im245, im246⟩ := id hI215
                    refine lv_icmp_le (tgt := 124) hx hb dX9_swap_110 (by decide) (fun c_247 => ?_) (fun c_247 => ?_)
                    · skip
                      have f248 : r_166.toInt ≤ r_210.toInt := qi_le c_247 rfl rfl
                      obtain ⟨x249, ex249⟩ : ∃ y : Int32, y = y13_2 + Int32.ofInt 1 := ⟨_, rfl⟩
                      have f250 : x249.toInt = y13_2.toInt + 1 := (ob_139 (qi_add ex249 rfl (by decide) (ob_137 g13_0) (ob_671 g13_1)))
                      refine lv_iinc (v := x249) (lv' := [(2, .int x249), (4, .int x20), (3, .int x17), (0, .ref (r 0)), (1, .int p0)]) hx hb dX9_swap_124 hl (k := 4) rfl ex249.symm (by decide) rfl (fun ls hl => ?_)
                      refine lv_goto (tgt := 13) hx hb dX9_swap_127 (by decide) ?_
                      exact ih13 x249 x211 x212 J213 H209 _ _ (ob_140 g13_0 f250) (ob_672 f16 f250) hP hD hS (lv_sub hl [3, 4, 0] rfl) (ob_673 hM13 f250)
                    · skip
                      have f251 : r_210.toInt < r_166.toInt := qi_nle c_247 rfl rfl
                      refine lv_iload_n hx hb dX9_swap_113 rfl (lv_at hl 3 rfl) ?_
                      refine lv_if_ne (tgt := 121) hx hb dX9_swap_114 (by decide) (fun c_252 => ?_) (fun c_252 => ?_)
                      · skip
                        have f253 : p0.toInt ≠ 0 := qi_ne c_252 rfl zc_0
                        have f254 : 1 ≤ p0.toInt := (ob_444 f11 f253)
                        refine lv_iload hx hb dX9_swap_121 (lv_at hl 0 rfl) ?_
                        rw [hQ]
                        exact W.iret (v := x20) hx hb hr (fun t ht hW => ⟨⟨x20, x20, rfl, rfl, ⟨x211, x212, J213, by rw [ht]; exact hP, hD, hI215⟩⟩, hS.F ht⟩) hS.2.2 dX9_swap_123
                      · skip
                        have f255 : p0.toInt = 0 := qi_eq c_252 rfl zc_0
                        refine lv_iload_n hx hb dX9_swap_117 rfl (lv_at hl 1 rfl) ?_
                        refine lv_goto (tgt := 123) hx hb dX9_swap_118 (by decide) ?_
                        rw [hQ]
                        exact W.iret (v := x17) hx hb hr (fun t ht hW => ⟨⟨x17, x17, rfl, rfl, ⟨x211, x212, J213, by rw [ht]; exact hP, hD, hI215⟩⟩, hS.F ht⟩) hS.2.2 dX9_swap_123
                · skip
                  have f256 : r_59.toInt < 0 := qi_nle c_64 zc_0 rfl
                  refine lv_goto (tgt := 124) hx hb dX9_swap_60 (by decide) ?_
                  obtain ⟨x257, ex257⟩ : ∃ y : Int32, y = y13_2 + Int32.ofInt 1 := ⟨_, rfl⟩
                  have f258 : x257.toInt = y13_2.toInt + 1 := (ob_139 (qi_add ex257 rfl (by decide) (ob_137 g13_0) (ob_671 g13_1)))
                  refine lv_iinc (v := x257) (lv' := [(2, .int x257), (4, .int x20), (3, .int x17), (0, .ref (r 0)), (1, .int p0)]) hx hb dX9_swap_124 hl (k := 4) rfl ex257.symm (by decide) rfl (fun ls hl => ?_)
                  refine lv_goto (tgt := 13) hx hb dX9_swap_127 (by decide) ?_
                  exact ih13 x257 m13_i_askHouse m13_i_askTune m13_J H58 _ _ (ob_140 g13_0 f258) (ob_672 f16 f258) hP hD hS (lv_sub hl [3, 4, 0] rfl) (ob_673 hM13 f258)
    exact L13 (-1 * (0 : Int32).toInt + 16 + 1).toNat 0 i_askHouse i_askTune J H3 _ _ (ob_5 zc_0) (ob_682 zc_0) hP hD hS (lv_sub hl [1, 2, 0] rfl) (mlt (ob_683 zc_0))
  · skip
    have f259 : r_4.toInt = 0 := qi_eq c_8 rfl zc_0
    refine lv_iconst (v := (-1)) hx hb dX9_swap_9 (by decide) ?_
    rw [hQ]
    exact W.iret (v := (-1)) hx hb hr (fun t ht hW => ⟨⟨(-1), (-1), rfl, rfl, ⟨i_askHouse, i_askTune, J, by rw [ht]; exact hP, hD, hI⟩⟩, hS.F ht⟩) hS.2.2 dX9_swap_10
