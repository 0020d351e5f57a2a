set_option maxHeartbeats 4000000 in
set_option maxRecDepth 100000 in
theorem kX9_two (l : Launch) (dC : Nat → ClassId) (dI : Nat → Nat → Nat) (p0 p1 p2 : Int32) (sz : Nat) : Met l yX9_two (.code yX9_two cX9_two 3 (some .int) :: GW) { frames := 2, cells := 0, slots := 0, locals := 100 } (va_Pc [.int p0, .int p1, .int p2] (pR (dC, dI) [] [] sz)) (va_Qi (fun (r0 : Int32) (u : Int32) => r0 = u) (fun (u : Int32) (t : State) => True) (fun q => sz ≤ q)) 0 0 (fun q => sz ≤ q) := by
  refine Met.ofW (cc := cX9_two) (maxL := 3) (ret := (some .int)) (by decide) rfl ?_
  intro p e s m args below meth c0 s₁ B hml hv
  obtain ⟨rfl, hsz, hP, hK⟩ := hv
  have hx := B.exec
  have hb := B.bytes
  have hr := B.returns
  have hts := atoms_spec (ws := .code yX9_two cX9_two 3 (some .int) :: GW) B.pre
  have hG : ∀ w ∈ GW, w.before _ s = true := fun w h => hts w (List.mem_cons_of_mem _ h)
  have hown : s.vm.findClass RX9 = some m.cls := findClass_of_methodNamed B.named
  subst hsz
  have hS : va_S (fun q => s.heap.size ≤ q) s.heap s.heap [] := va_S.rf
  have hP : va_P (dC, dI) vwCl [] s.heap := hP
  have hl := lv_entry ([.int p0, .int p1, .int p2]) (n := 3) (Nat.le_of_ble_eq_true rfl)
  rw [lg_entry_eq]
  generalize (lg_sl ([.int p0, .int p1, .int p2]) ++ List.replicate (3 - (lg_sl ([.int p0, .int p1, .int p2])).length) Slot.unset).toArray = ls at hl ⊢
  have hl : lv_has ls 3 [(0, .int p0), (1, .int p1), (2, .int p2)] := hl
  refine nameQ (fun Q hQ => ?_)
  refine lv_iload_n hx hb dX9_two_0 rfl (lv_at hl 0 rfl) ?_
  rcases ts_37_62 p0 with hs1 | hs1 | hs1 | hs1 | hs1 | hs1 | hs1 | hs1 | hs1 | hs1 | hs1 | hs1 | hs1 | hs1 | hs1 | hs1 | hs1 | hs1 | hs1 | hs1 | hs1 | hs1 | hs1 | hs1 | hs1 | hs1 | hs1
  · skip
    refine lv_tableOut (tgt := 203) hx hb dX9_two_1 hs1 (by decide) ?_
    refine lv_iload_n hx hb dX9_two_203 rfl (lv_at hl 1 rfl) ?_
    refine lv_if_ne (tgt := 211) hx hb dX9_two_204 (by decide) (fun c_2 => ?_) (fun c_2 => ?_)
    · skip
      have f3 : p1.toInt ≠ 0 := qi_ne c_2 rfl zc_0
      refine lv_iconst (v := 1) hx hb dX9_two_211 (by decide) ?_
      refine lv_goto (tgt := 216) hx hb dX9_two_212 (by decide) ?_
      rw [hQ]
      exact W.iret (v := 1) hx hb hr (fun t ht hW => ⟨⟨1, 1, rfl, rfl, trivial⟩, hS.F ht⟩) hS.2.2 dX9_two_216
    · skip
      have f4 : p1.toInt = 0 := qi_eq c_2 rfl zc_0
      refine lv_iload_n hx hb dX9_two_207 rfl (lv_at hl 2 rfl) ?_
      refine lv_if_eq (tgt := 215) hx hb dX9_two_208 (by decide) (fun c_5 => ?_) (fun c_5 => ?_)
      · skip
        have f6 : p2.toInt = 0 := qi_eq c_5 rfl zc_0
        refine lv_iconst (v := 0) hx hb dX9_two_215 (by decide) ?_
        rw [hQ]
        exact W.iret (v := 0) hx hb hr (fun t ht hW => ⟨⟨0, 0, rfl, rfl, trivial⟩, hS.F ht⟩) hS.2.2 dX9_two_216
      · skip
        have f7 : p2.toInt ≠ 0 := qi_ne c_5 rfl zc_0
        refine lv_iconst (v := 1) hx hb dX9_two_211 (by decide) ?_
        refine lv_goto (tgt := 216) hx hb dX9_two_212 (by decide) ?_
        rw [hQ]
        exact W.iret (v := 1) hx hb hr (fun t ht hW => ⟨⟨1, 1, rfl, rfl, trivial⟩, hS.F ht⟩) hS.2.2 dX9_two_216
  · skip
    refine lv_tableIn (off := 143) (tgt := 144) hx hb dX9_two_1 (by rw [hs1]; decide) (by rw [hs1]; decide) (by rw [hs1]; decide) (by decide) ?_
    have f8 : p0.toInt = 37 := qi_eq hs1 rfl zc_37
    refine lv_iload_n hx hb dX9_two_144 rfl (lv_at hl 2 rfl) ?_
    refine lv_if_ne (tgt := 152) hx hb dX9_two_145 (by decide) (fun c_9 => ?_) (fun c_9 => ?_)
    · skip
      have f10 : p2.toInt ≠ 0 := qi_ne c_9 rfl zc_0
      refine lv_iload_n hx hb dX9_two_152 rfl (lv_at hl 1 rfl) ?_
      refine lv_iload_n hx hb dX9_two_153 rfl (lv_at hl 2 rfl) ?_
      refine lv_irem hx hb dX9_two_154 (qi_nz0 (ob_847 f10)) ?_
      refine lv_topi (fun x11 ex11 => ?_)
      rw [hQ]
      exact W.iret (v := x11) hx hb hr (fun t ht hW => ⟨⟨x11, x11, rfl, rfl, trivial⟩, hS.F ht⟩) hS.2.2 dX9_two_155
    · skip
      have f12 : p2.toInt = 0 := qi_eq c_9 rfl zc_0
      refine lv_iconst (v := 0) hx hb dX9_two_148 (by decide) ?_
      refine lv_goto (tgt := 155) hx hb dX9_two_149 (by decide) ?_
      rw [hQ]
      exact W.iret (v := 0) hx hb hr (fun t ht hW => ⟨⟨0, 0, rfl, rfl, trivial⟩, hS.F ht⟩) hS.2.2 dX9_two_155
  · skip
    refine lv_tableIn (off := 188) (tgt := 189) hx hb dX9_two_1 (by rw [hs1]; decide) (by rw [hs1]; decide) (by rw [hs1]; decide) (by decide) ?_
    have f13 : p0.toInt = 38 := qi_eq hs1 rfl zc_38
    refine lv_iload_n hx hb dX9_two_189 rfl (lv_at hl 1 rfl) ?_
    refine lv_if_eq (tgt := 201) hx hb dX9_two_190 (by decide) (fun c_14 => ?_) (fun c_14 => ?_)
    · skip
      have f15 : p1.toInt = 0 := qi_eq c_14 rfl zc_0
      refine lv_iconst (v := 0) hx hb dX9_two_201 (by decide) ?_
      rw [hQ]
      exact W.iret (v := 0) hx hb hr (fun t ht hW => ⟨⟨0, 0, rfl, rfl, trivial⟩, hS.F ht⟩) hS.2.2 dX9_two_202
    · skip
      have f16 : p1.toInt ≠ 0 := qi_ne c_14 rfl zc_0
      refine lv_iload_n hx hb dX9_two_193 rfl (lv_at hl 2 rfl) ?_
      refine lv_if_eq (tgt := 201) hx hb dX9_two_194 (by decide) (fun c_17 => ?_) (fun c_17 => ?_)
      · skip
        have f18 : p2.toInt = 0 := qi_eq c_17 rfl zc_0
        refine lv_iconst (v := 0) hx hb dX9_two_201 (by decide) ?_
        rw [hQ]
        exact W.iret (v := 0) hx hb hr (fun t ht hW => ⟨⟨0, 0, rfl, rfl, trivial⟩, hS.F ht⟩) hS.2.2 dX9_two_202
      · skip
        have f19 : p2.toInt ≠ 0 := qi_ne c_17 rfl zc_0
        refine lv_iconst (v := 1) hx hb dX9_two_197 (by decide) ?_
        refine lv_goto (tgt := 202) hx hb dX9_two_198 (by decide) ?_
        rw [hQ]
        exact W.iret (v := 1) hx hb hr (fun t ht hW => ⟨⟨1, 1, rfl, rfl, trivial⟩, hS.F ht⟩) hS.2.2 dX9_two_202
  · skip
    refine lv_tableIn (off := 202) (tgt := 203) hx hb dX9_two_1 (by rw [hs1]; decide) (by rw [hs1]; decide) (by rw [hs1]; decide) (by decide) ?_
    have f20 : p0.toInt = 39 := qi_eq hs1 rfl zc_39
    refine lv_iload_n hx hb dX9_two_203 rfl (lv_at hl 1 rfl) ?_
    refine lv_if_ne (tgt := 211) hx hb dX9_two_204 (by decide) (fun c_21 => ?_) (fun c_21 => ?_)
    · skip
      have f22 : p1.toInt ≠ 0 := qi_ne c_21 rfl zc_0
      refine lv_iconst (v := 1) hx hb dX9_two_211 (by decide) ?_
      refine lv_goto (tgt := 216) hx hb dX9_two_212 (by decide) ?_
      rw [hQ]
      exact W.iret (v := 1) hx hb hr (fun t ht hW => ⟨⟨1, 1, rfl, rfl, trivial⟩, hS.F ht⟩) hS.2.2 dX9_two_216
    · skip
      have f23 : p1.toInt = 0 := qi_eq c_21 rfl zc_0
      refine lv_iload_n hx hb dX9_two_207 rfl (lv_at hl 2 rfl) ?_
      refine lv_if_eq (tgt := 215) hx hb dX9_two_208 (by decide) (fun c_24 => ?_) (fun c_24 => ?_)
      · skip
        have f25 : p2.toInt = 0 := qi_eq c_24 rfl zc_0
        refine lv_iconst (v := 0) hx hb dX9_two_215 (by decide) ?_
        rw [hQ]
        exact W.iret (v := 0) hx hb hr (fun t ht hW => ⟨⟨0, 0, rfl, rfl, trivial⟩, hS.F ht⟩) hS.2.2 dX9_two_216
      · skip
        have f26 : p2.toInt ≠ 0 := qi_ne c_24 rfl zc_0
        refine lv_iconst (v := 1) hx hb dX9_two_211 (by decide) ?_
        refine lv_goto (tgt := 216) hx hb dX9_two_212 (by decide) ?_
        rw [hQ]
        exact W.iret (v := 1) hx hb hr (fun t ht hW => ⟨⟨1, 1, rfl, rfl, trivial⟩, hS.F ht⟩) hS.2.2 dX9_two_216
  · skip
    refine lv_tableIn (off := 202) (tgt := 203) hx hb dX9_two_1 (by rw [hs1]; decide) (by rw [hs1]; decide) (by rw [hs1]; decide) (by decide) ?_
    have f27 : p0.toInt = 40 := qi_eq hs1 rfl zc_40
    refine lv_iload_n hx hb dX9_two_203 rfl (lv_at hl 1 rfl) ?_
    refine lv_if_ne (tgt := 211) hx hb dX9_two_204 (by decide) (fun c_28 => ?_) (fun c_28 => ?_)
    · skip
      have f29 : p1.toInt ≠ 0 := qi_ne c_28 rfl zc_0
      refine lv_iconst (v := 1) hx hb dX9_two_211 (by decide) ?_
      refine lv_goto (tgt := 216) hx hb dX9_two_212 (by decide) ?_
      rw [hQ]
      exact W.iret (v := 1) hx hb hr (fun t ht hW => ⟨⟨1, 1, rfl, rfl, trivial⟩, hS.F ht⟩) hS.2.2 dX9_two_216
    · skip
      have f30 : p1.toInt = 0 := qi_eq c_28 rfl zc_0
      refine lv_iload_n hx hb dX9_two_207 rfl (lv_at hl 2 rfl) ?_
      refine lv_if_eq (tgt := 215) hx hb dX9_two_208 (by decide) (fun c_31 => ?_) (fun c_31 => ?_)
      · skip
        have f32 : p2.toInt = 0 := qi_eq c_31 rfl zc_0
        refine lv_iconst (v := 0) hx hb dX9_two_215 (by decide) ?_
        rw [hQ]
        exact W.iret (v := 0) hx hb hr (fun t ht hW => ⟨⟨0, 0, rfl, rfl, trivial⟩, hS.F ht⟩) hS.2.2 dX9_two_216
      · skip
        have f33 : p2.toInt ≠ 0 := qi_ne c_31 rfl zc_0
        refine lv_iconst (v := 1) hx hb dX9_two_211 (by decide) ?_
        refine lv_goto (tgt := 216) hx hb dX9_two_212 (by decide) ?_
        rw [hQ]
        exact W.iret (v := 1) hx hb hr (fun t ht hW => ⟨⟨1, 1, rfl, rfl, trivial⟩, hS.F ht⟩) hS.2.2 dX9_two_216
  · skip
    refine lv_tableIn (off := 202) (tgt := 203) hx hb dX9_two_1 (by rw [hs1]; decide) (by rw [hs1]; decide) (by rw [hs1]; decide) (by decide) ?_
    have f34 : p0.toInt = 41 := qi_eq hs1 rfl zc_41
    refine lv_iload_n hx hb dX9_two_203 rfl (lv_at hl 1 rfl) ?_
    refine lv_if_ne (tgt := 211) hx hb dX9_two_204 (by decide) (fun c_35 => ?_) (fun c_35 => ?_)
    · skip
      have f36 : p1.toInt ≠ 0 := qi_ne c_35 rfl zc_0
      refine lv_iconst (v := 1) hx hb dX9_two_211 (by decide) ?_
      refine lv_goto (tgt := 216) hx hb dX9_two_212 (by decide) ?_
      rw [hQ]
      exact W.iret (v := 1) hx hb hr (fun t ht hW => ⟨⟨1, 1, rfl, rfl, trivial⟩, hS.F ht⟩) hS.2.2 dX9_two_216
    · skip
      have f37 : p1.toInt = 0 := qi_eq c_35 rfl zc_0
      refine lv_iload_n hx hb dX9_two_207 rfl (lv_at hl 2 rfl) ?_
      refine lv_if_eq (tgt := 215) hx hb dX9_two_208 (by decide) (fun c_38 => ?_) (fun c_38 => ?_)
      · skip
        have f39 : p2.toInt = 0 := qi_eq c_38 rfl zc_0
        refine lv_iconst (v := 0) hx hb dX9_two_215 (by decide) ?_
        rw [hQ]
        exact W.iret (v := 0) hx hb hr (fun t ht hW => ⟨⟨0, 0, rfl, rfl, trivial⟩, hS.F ht⟩) hS.2.2 dX9_two_216
      · skip
        have f40 : p2.toInt ≠ 0 := qi_ne c_38 rfl zc_0
        refine lv_iconst (v := 1) hx hb dX9_two_211 (by decide) ?_
        refine lv_goto (tgt := 216) hx hb dX9_two_212 (by decide) ?_
        rw [hQ]
        exact W.iret (v := 1) hx hb hr (fun t ht hW => ⟨⟨1, 1, rfl, rfl, trivial⟩, hS.F ht⟩) hS.2.2 dX9_two_216
  · skip
    refine lv_tableIn (off := 127) (tgt := 128) hx hb dX9_two_1 (by rw [hs1]; decide) (by rw [hs1]; decide) (by rw [hs1]; decide) (by decide) ?_
    have f41 : p0.toInt = 42 := qi_eq hs1 rfl zc_42
    refine lv_iload_n hx hb dX9_two_128 rfl (lv_at hl 1 rfl) ?_
    refine lv_iload_n hx hb dX9_two_129 rfl (lv_at hl 2 rfl) ?_
    refine lv_imul hx hb dX9_two_130 ?_
    refine lv_topi (fun x42 ex42 => ?_)
    rw [hQ]
    exact W.iret (v := x42) hx hb hr (fun t ht hW => ⟨⟨x42, x42, rfl, rfl, trivial⟩, hS.F ht⟩) hS.2.2 dX9_two_131
  · skip
    refine lv_tableIn (off := 119) (tgt := 120) hx hb dX9_two_1 (by rw [hs1]; decide) (by rw [hs1]; decide) (by rw [hs1]; decide) (by decide) ?_
    have f43 : p0.toInt = 43 := qi_eq hs1 rfl zc_43
    refine lv_iload_n hx hb dX9_two_120 rfl (lv_at hl 1 rfl) ?_
    refine lv_iload_n hx hb dX9_two_121 rfl (lv_at hl 2 rfl) ?_
    refine lv_iadd hx hb dX9_two_122 ?_
    refine lv_topi (fun x44 ex44 => ?_)
    rw [hQ]
    exact W.iret (v := x44) hx hb hr (fun t ht hW => ⟨⟨x44, x44, rfl, rfl, trivial⟩, hS.F ht⟩) hS.2.2 dX9_two_123
  · skip
    refine lv_tableIn (off := 202) (tgt := 203) hx hb dX9_two_1 (by rw [hs1]; decide) (by rw [hs1]; decide) (by rw [hs1]; decide) (by decide) ?_
    have f45 : p0.toInt = 44 := qi_eq hs1 rfl zc_44
    refine lv_iload_n hx hb dX9_two_203 rfl (lv_at hl 1 rfl) ?_
    refine lv_if_ne (tgt := 211) hx hb dX9_two_204 (by decide) (fun c_46 => ?_) (fun c_46 => ?_)
    · skip
      have f47 : p1.toInt ≠ 0 := qi_ne c_46 rfl zc_0
      refine lv_iconst (v := 1) hx hb dX9_two_211 (by decide) ?_
      refine lv_goto (tgt := 216) hx hb dX9_two_212 (by decide) ?_
      rw [hQ]
      exact W.iret (v := 1) hx hb hr (fun t ht hW => ⟨⟨1, 1, rfl, rfl, trivial⟩, hS.F ht⟩) hS.2.2 dX9_two_216
    · skip
      have f48 : p1.toInt = 0 := qi_eq c_46 rfl zc_0
      refine lv_iload_n hx hb dX9_two_207 rfl (lv_at hl 2 rfl) ?_
      refine lv_if_eq (tgt := 215) hx hb dX9_two_208 (by decide) (fun c_49 => ?_) (fun c_49 => ?_)
      · skip
        have f50 : p2.toInt = 0 := qi_eq c_49 rfl zc_0
        refine lv_iconst (v := 0) hx hb dX9_two_215 (by decide) ?_
        rw [hQ]
        exact W.iret (v := 0) hx hb hr (fun t ht hW => ⟨⟨0, 0, rfl, rfl, trivial⟩, hS.F ht⟩) hS.2.2 dX9_two_216
      · skip
        have f51 : p2.toInt ≠ 0 := qi_ne c_49 rfl zc_0
        refine lv_iconst (v := 1) hx hb dX9_two_211 (by decide) ?_
        refine lv_goto (tgt := 216) hx hb dX9_two_212 (by decide) ?_
        rw [hQ]
        exact W.iret (v := 1) hx hb hr (fun t ht hW => ⟨⟨1, 1, rfl, rfl, trivial⟩, hS.F ht⟩) hS.2.2 dX9_two_216
  · skip
    refine lv_tableIn (off := 123) (tgt := 124) hx hb dX9_two_1 (by rw [hs1]; decide) (by rw [hs1]; decide) (by rw [hs1]; decide) (by decide) ?_
    have f52 : p0.toInt = 45 := qi_eq hs1 rfl zc_45
    refine lv_iload_n hx hb dX9_two_124 rfl (lv_at hl 1 rfl) ?_
    refine lv_iload_n hx hb dX9_two_125 rfl (lv_at hl 2 rfl) ?_
    refine lv_isub hx hb dX9_two_126 ?_
    refine lv_topi (fun x53 ex53 => ?_)
    rw [hQ]
    exact W.iret (v := x53) hx hb hr (fun t ht hW => ⟨⟨x53, x53, rfl, rfl, trivial⟩, hS.F ht⟩) hS.2.2 dX9_two_127
  · skip
    refine lv_tableIn (off := 202) (tgt := 203) hx hb dX9_two_1 (by rw [hs1]; decide) (by rw [hs1]; decide) (by rw [hs1]; decide) (by decide) ?_
    have f54 : p0.toInt = 46 := qi_eq hs1 rfl zc_46
    refine lv_iload_n hx hb dX9_two_203 rfl (lv_at hl 1 rfl) ?_
    refine lv_if_ne (tgt := 211) hx hb dX9_two_204 (by decide) (fun c_55 => ?_) (fun c_55 => ?_)
    · skip
      have f56 : p1.toInt ≠ 0 := qi_ne c_55 rfl zc_0
      refine lv_iconst (v := 1) hx hb dX9_two_211 (by decide) ?_
      refine lv_goto (tgt := 216) hx hb dX9_two_212 (by decide) ?_
      rw [hQ]
      exact W.iret (v := 1) hx hb hr (fun t ht hW => ⟨⟨1, 1, rfl, rfl, trivial⟩, hS.F ht⟩) hS.2.2 dX9_two_216
    · skip
      have f57 : p1.toInt = 0 := qi_eq c_55 rfl zc_0
      refine lv_iload_n hx hb dX9_two_207 rfl (lv_at hl 2 rfl) ?_
      refine lv_if_eq (tgt := 215) hx hb dX9_two_208 (by decide) (fun c_58 => ?_) (fun c_58 => ?_)
      · skip
        have f59 : p2.toInt = 0 := qi_eq c_58 rfl zc_0
        refine lv_iconst (v := 0) hx hb dX9_two_215 (by decide) ?_
        rw [hQ]
        exact W.iret (v := 0) hx hb hr (fun t ht hW => ⟨⟨0, 0, rfl, rfl, trivial⟩, hS.F ht⟩) hS.2.2 dX9_two_216
      · skip
        have f60 : p2.toInt ≠ 0 := qi_ne c_58 rfl zc_0
        refine lv_iconst (v := 1) hx hb dX9_two_211 (by decide) ?_
        refine lv_goto (tgt := 216) hx hb dX9_two_212 (by decide) ?_
        rw [hQ]
        exact W.iret (v := 1) hx hb hr (fun t ht hW => ⟨⟨1, 1, rfl, rfl, trivial⟩, hS.F ht⟩) hS.2.2 dX9_two_216
  · skip
    refine lv_tableIn (off := 131) (tgt := 132) hx hb dX9_two_1 (by rw [hs1]; decide) (by rw [hs1]; decide) (by rw [hs1]; decide) (by decide) ?_
    have f61 : p0.toInt = 47 := qi_eq hs1 rfl zc_47
    refine lv_iload_n hx hb dX9_two_132 rfl (lv_at hl 2 rfl) ?_
    refine lv_if_ne (tgt := 140) hx hb dX9_two_133 (by decide) (fun c_62 => ?_) (fun c_62 => ?_)
    · skip
      have f63 : p2.toInt ≠ 0 := qi_ne c_62 rfl zc_0
      refine lv_iload_n hx hb dX9_two_140 rfl (lv_at hl 1 rfl) ?_
      refine lv_iload_n hx hb dX9_two_141 rfl (lv_at hl 2 rfl) ?_
      refine lv_idiv hx hb dX9_two_142 (qi_nz0 (ob_847 f63)) ?_
      refine lv_topi (fun x64 ex64 => ?_)
      rw [hQ]
      exact W.iret (v := x64) hx hb hr (fun t ht hW => ⟨⟨x64, x64, rfl, rfl, trivial⟩, hS.F ht⟩) hS.2.2 dX9_two_143
    · skip
      have f65 : p2.toInt = 0 := qi_eq c_62 rfl zc_0
      refine lv_iconst (v := 0) hx hb dX9_two_136 (by decide) ?_
      refine lv_goto (tgt := 143) hx hb dX9_two_137 (by decide) ?_
      rw [hQ]
      exact W.iret (v := 0) hx hb hr (fun t ht hW => ⟨⟨0, 0, rfl, rfl, trivial⟩, hS.F ht⟩) hS.2.2 dX9_two_143
  · skip
    refine lv_tableIn (off := 202) (tgt := 203) hx hb dX9_two_1 (by rw [hs1]; decide) (by rw [hs1]; decide) (by rw [hs1]; decide) (by decide) ?_
    have f66 : p0.toInt = 48 := qi_eq hs1 rfl zc_48
    refine lv_iload_n hx hb dX9_two_203 rfl (lv_at hl 1 rfl) ?_
    refine lv_if_ne (tgt := 211) hx hb dX9_two_204 (by decide) (fun c_67 => ?_) (fun c_67 => ?_)
    · skip
      have f68 : p1.toInt ≠ 0 := qi_ne c_67 rfl zc_0
      refine lv_iconst (v := 1) hx hb dX9_two_211 (by decide) ?_
      refine lv_goto (tgt := 216) hx hb dX9_two_212 (by decide) ?_
      rw [hQ]
      exact W.iret (v := 1) hx hb hr (fun t ht hW => ⟨⟨1, 1, rfl, rfl, trivial⟩, hS.F ht⟩) hS.2.2 dX9_two_216
    · skip
      have f69 : p1.toInt = 0 := qi_eq c_67 rfl zc_0
      refine lv_iload_n hx hb dX9_two_207 rfl (lv_at hl 2 rfl) ?_
      refine lv_if_eq (tgt := 215) hx hb dX9_two_208 (by decide) (fun c_70 => ?_) (fun c_70 => ?_)
      · skip
        have f71 : p2.toInt = 0 := qi_eq c_70 rfl zc_0
        refine lv_iconst (v := 0) hx hb dX9_two_215 (by decide) ?_
        rw [hQ]
        exact W.iret (v := 0) hx hb hr (fun t ht hW => ⟨⟨0, 0, rfl, rfl, trivial⟩, hS.F ht⟩) hS.2.2 dX9_two_216
      · skip
        have f72 : p2.toInt ≠ 0 := qi_ne c_70 rfl zc_0
        refine lv_iconst (v := 1) hx hb dX9_two_211 (by decide) ?_
        refine lv_goto (tgt := 216) hx hb dX9_two_212 (by decide) ?_
        rw [hQ]
        exact W.iret (v := 1) hx hb hr (fun t ht hW => ⟨⟨1, 1, rfl, rfl, trivial⟩, hS.F ht⟩) hS.2.2 dX9_two_216
  · skip
    refine lv_tableIn (off := 202) (tgt := 203) hx hb dX9_two_1 (by rw [hs1]; decide) (by rw [hs1]; decide) (by rw [hs1]; decide) (by decide) ?_
    have f73 : p0.toInt = 49 := qi_eq hs1 rfl zc_49
    refine lv_iload_n hx hb dX9_two_203 rfl (lv_at hl 1 rfl) ?_
    refine lv_if_ne (tgt := 211) hx hb dX9_two_204 (by decide) (fun c_74 => ?_) (fun c_74 => ?_)
    · skip
      have f75 : p1.toInt ≠ 0 := qi_ne c_74 rfl zc_0
      refine lv_iconst (v := 1) hx hb dX9_two_211 (by decide) ?_
      refine lv_goto (tgt := 216) hx hb dX9_two_212 (by decide) ?_
      rw [hQ]
      exact W.iret (v := 1) hx hb hr (fun t ht hW => ⟨⟨1, 1, rfl, rfl, trivial⟩, hS.F ht⟩) hS.2.2 dX9_two_216
    · skip
      have f76 : p1.toInt = 0 := qi_eq c_74 rfl zc_0
      refine lv_iload_n hx hb dX9_two_207 rfl (lv_at hl 2 rfl) ?_
      refine lv_if_eq (tgt := 215) hx hb dX9_two_208 (by decide) (fun c_77 => ?_) (fun c_77 => ?_)
      · skip
        have f78 : p2.toInt = 0 := qi_eq c_77 rfl zc_0
        refine lv_iconst (v := 0) hx hb dX9_two_215 (by decide) ?_
        rw [hQ]
        exact W.iret (v := 0) hx hb hr (fun t ht hW => ⟨⟨0, 0, rfl, rfl, trivial⟩, hS.F ht⟩) hS.2.2 dX9_two_216
      · skip
        have f79 : p2.toInt ≠ 0 := qi_ne c_77 rfl zc_0
        refine lv_iconst (v := 1) hx hb dX9_two_211 (by decide) ?_
        refine lv_goto (tgt := 216) hx hb dX9_two_212 (by decide) ?_
        rw [hQ]
        exact W.iret (v := 1) hx hb hr (fun t ht hW => ⟨⟨1, 1, rfl, rfl, trivial⟩, hS.F ht⟩) hS.2.2 dX9_two_216
  · skip
    refine lv_tableIn (off := 202) (tgt := 203) hx hb dX9_two_1 (by rw [hs1]; decide) (by rw [hs1]; decide) (by rw [hs1]; decide) (by decide) ?_
    have f80 : p0.toInt = 50 := qi_eq hs1 rfl zc_50
    refine lv_iload_n hx hb dX9_two_203 rfl (lv_at hl 1 rfl) ?_
    refine lv_if_ne (tgt := 211) hx hb dX9_two_204 (by decide) (fun c_81 => ?_) (fun c_81 => ?_)
    · skip
      have f82 : p1.toInt ≠ 0 := qi_ne c_81 rfl zc_0
      refine lv_iconst (v := 1) hx hb dX9_two_211 (by decide) ?_
      refine lv_goto (tgt := 216) hx hb dX9_two_212 (by decide) ?_
      rw [hQ]
      exact W.iret (v := 1) hx hb hr (fun t ht hW => ⟨⟨1, 1, rfl, rfl, trivial⟩, hS.F ht⟩) hS.2.2 dX9_two_216
    · skip
      have f83 : p1.toInt = 0 := qi_eq c_81 rfl zc_0
      refine lv_iload_n hx hb dX9_two_207 rfl (lv_at hl 2 rfl) ?_
      refine lv_if_eq (tgt := 215) hx hb dX9_two_208 (by decide) (fun c_84 => ?_) (fun c_84 => ?_)
      · skip
        have f85 : p2.toInt = 0 := qi_eq c_84 rfl zc_0
        refine lv_iconst (v := 0) hx hb dX9_two_215 (by decide) ?_
        rw [hQ]
        exact W.iret (v := 0) hx hb hr (fun t ht hW => ⟨⟨0, 0, rfl, rfl, trivial⟩, hS.F ht⟩) hS.2.2 dX9_two_216
      · skip
        have f86 : p2.toInt ≠ 0 := qi_ne c_84 rfl zc_0
        refine lv_iconst (v := 1) hx hb dX9_two_211 (by decide) ?_
        refine lv_goto (tgt := 216) hx hb dX9_two_212 (by decide) ?_
        rw [hQ]
        exact W.iret (v := 1) hx hb hr (fun t ht hW => ⟨⟨1, 1, rfl, rfl, trivial⟩, hS.F ht⟩) hS.2.2 dX9_two_216
  · skip
    refine lv_tableIn (off := 202) (tgt := 203) hx hb dX9_two_1 (by rw [hs1]; decide) (by rw [hs1]; decide) (by rw [hs1]; decide) (by decide) ?_
    have f87 : p0.toInt = 51 := qi_eq hs1 rfl zc_51
    refine lv_iload_n hx hb dX9_two_203 rfl (lv_at hl 1 rfl) ?_
    refine lv_if_ne (tgt := 211) hx hb dX9_two_204 (by decide) (fun c_88 => ?_) (fun c_88 => ?_)
    · skip
      have f89 : p1.toInt ≠ 0 := qi_ne c_88 rfl zc_0
      refine lv_iconst (v := 1) hx hb dX9_two_211 (by decide) ?_
      refine lv_goto (tgt := 216) hx hb dX9_two_212 (by decide) ?_
      rw [hQ]
      exact W.iret (v := 1) hx hb hr (fun t ht hW => ⟨⟨1, 1, rfl, rfl, trivial⟩, hS.F ht⟩) hS.2.2 dX9_two_216
    · skip
      have f90 : p1.toInt = 0 := qi_eq c_88 rfl zc_0
      refine lv_iload_n hx hb dX9_two_207 rfl (lv_at hl 2 rfl) ?_
      refine lv_if_eq (tgt := 215) hx hb dX9_two_208 (by decide) (fun c_91 => ?_) (fun c_91 => ?_)
      · skip
        have f92 : p2.toInt = 0 := qi_eq c_91 rfl zc_0
        refine lv_iconst (v := 0) hx hb dX9_two_215 (by decide) ?_
        rw [hQ]
        exact W.iret (v := 0) hx hb hr (fun t ht hW => ⟨⟨0, 0, rfl, rfl, trivial⟩, hS.F ht⟩) hS.2.2 dX9_two_216
      · skip
        have f93 : p2.toInt ≠ 0 := qi_ne c_91 rfl zc_0
        refine lv_iconst (v := 1) hx hb dX9_two_211 (by decide) ?_
        refine lv_goto (tgt := 216) hx hb dX9_two_212 (by decide) ?_
        rw [hQ]
        exact W.iret (v := 1) hx hb hr (fun t ht hW => ⟨⟨1, 1, rfl, rfl, trivial⟩, hS.F ht⟩) hS.2.2 dX9_two_216
  · skip
    refine lv_tableIn (off := 202) (tgt := 203) hx hb dX9_two_1 (by rw [hs1]; decide) (by rw [hs1]; decide) (by rw [hs1]; decide) (by decide) ?_
    have f94 : p0.toInt = 52 := qi_eq hs1 rfl zc_52
    refine lv_iload_n hx hb dX9_two_203 rfl (lv_at hl 1 rfl) ?_
    refine lv_if_ne (tgt := 211) hx hb dX9_two_204 (by decide) (fun c_95 => ?_) (fun c_95 => ?_)
    · skip
      have f96 : p1.toInt ≠ 0 := qi_ne c_95 rfl zc_0
      refine lv_iconst (v := 1) hx hb dX9_two_211 (by decide) ?_
      refine lv_goto (tgt := 216) hx hb dX9_two_212 (by decide) ?_
      rw [hQ]
      exact W.iret (v := 1) hx hb hr (fun t ht hW => ⟨⟨1, 1, rfl, rfl, trivial⟩, hS.F ht⟩) hS.2.2 dX9_two_216
    · skip
      have f97 : p1.toInt = 0 := qi_eq c_95 rfl zc_0
      refine lv_iload_n hx hb dX9_two_207 rfl (lv_at hl 2 rfl) ?_
      refine lv_if_eq (tgt := 215) hx hb dX9_two_208 (by decide) (fun c_98 => ?_) (fun c_98 => ?_)
      · skip
        have f99 : p2.toInt = 0 := qi_eq c_98 rfl zc_0
        refine lv_iconst (v := 0) hx hb dX9_two_215 (by decide) ?_
        rw [hQ]
        exact W.iret (v := 0) hx hb hr (fun t ht hW => ⟨⟨0, 0, rfl, rfl, trivial⟩, hS.F ht⟩) hS.2.2 dX9_two_216
      · skip
        have f100 : p2.toInt ≠ 0 := qi_ne c_98 rfl zc_0
        refine lv_iconst (v := 1) hx hb dX9_two_211 (by decide) ?_
        refine lv_goto (tgt := 216) hx hb dX9_two_212 (by decide) ?_
        rw [hQ]
        exact W.iret (v := 1) hx hb hr (fun t ht hW => ⟨⟨1, 1, rfl, rfl, trivial⟩, hS.F ht⟩) hS.2.2 dX9_two_216
  · skip
    refine lv_tableIn (off := 202) (tgt := 203) hx hb dX9_two_1 (by rw [hs1]; decide) (by rw [hs1]; decide) (by rw [hs1]; decide) (by decide) ?_
    have f101 : p0.toInt = 53 := qi_eq hs1 rfl zc_53
    refine lv_iload_n hx hb dX9_two_203 rfl (lv_at hl 1 rfl) ?_
    refine lv_if_ne (tgt := 211) hx hb dX9_two_204 (by decide) (fun c_102 => ?_) (fun c_102 => ?_)
    · skip
      have f103 : p1.toInt ≠ 0 := qi_ne c_102 rfl zc_0
      refine lv_iconst (v := 1) hx hb dX9_two_211 (by decide) ?_
      refine lv_goto (tgt := 216) hx hb dX9_two_212 (by decide) ?_
      rw [hQ]
      exact W.iret (v := 1) hx hb hr (fun t ht hW => ⟨⟨1, 1, rfl, rfl, trivial⟩, hS.F ht⟩) hS.2.2 dX9_two_216
    · skip
      have f104 : p1.toInt = 0 := qi_eq c_102 rfl zc_0
      refine lv_iload_n hx hb dX9_two_207 rfl (lv_at hl 2 rfl) ?_
      refine lv_if_eq (tgt := 215) hx hb dX9_two_208 (by decide) (fun c_105 => ?_) (fun c_105 => ?_)
      · skip
        have f106 : p2.toInt = 0 := qi_eq c_105 rfl zc_0
        refine lv_iconst (v := 0) hx hb dX9_two_215 (by decide) ?_
        rw [hQ]
        exact W.iret (v := 0) hx hb hr (fun t ht hW => ⟨⟨0, 0, rfl, rfl, trivial⟩, hS.F ht⟩) hS.2.2 dX9_two_216
      · skip
        have f107 : p2.toInt ≠ 0 := qi_ne c_105 rfl zc_0
        refine lv_iconst (v := 1) hx hb dX9_two_211 (by decide) ?_
        refine lv_goto (tgt := 216) hx hb dX9_two_212 (by decide) ?_
        rw [hQ]
        exact W.iret (v := 1) hx hb hr (fun t ht hW => ⟨⟨1, 1, rfl, rfl, trivial⟩, hS.F ht⟩) hS.2.2 dX9_two_216
  · skip
    refine lv_tableIn (off := 202) (tgt := 203) hx hb dX9_two_1 (by rw [hs1]; decide) (by rw [hs1]; decide) (by rw [hs1]; decide) (by decide) ?_
    have f108 : p0.toInt = 54 := qi_eq hs1 rfl zc_54
    refine lv_iload_n hx hb dX9_two_203 rfl (lv_at hl 1 rfl) ?_
    refine lv_if_ne (tgt := 211) hx hb dX9_two_204 (by decide) (fun c_109 => ?_) (fun c_109 => ?_)
    · skip
      have f110 : p1.toInt ≠ 0 := qi_ne c_109 rfl zc_0
      refine lv_iconst (v := 1) hx hb dX9_two_211 (by decide) ?_
      refine lv_goto (tgt := 216) hx hb dX9_two_212 (by decide) ?_
      rw [hQ]
      exact W.iret (v := 1) hx hb hr (fun t ht hW => ⟨⟨1, 1, rfl, rfl, trivial⟩, hS.F ht⟩) hS.2.2 dX9_two_216
    · skip
      have f111 : p1.toInt = 0 := qi_eq c_109 rfl zc_0
      refine lv_iload_n hx hb dX9_two_207 rfl (lv_at hl 2 rfl) ?_
      refine lv_if_eq (tgt := 215) hx hb dX9_two_208 (by decide) (fun c_112 => ?_) (fun c_112 => ?_)
      · skip
        have f113 : p2.toInt = 0 := qi_eq c_112 rfl zc_0
        refine lv_iconst (v := 0) hx hb dX9_two_215 (by decide) ?_
        rw [hQ]
        exact W.iret (v := 0) hx hb hr (fun t ht hW => ⟨⟨0, 0, rfl, rfl, trivial⟩, hS.F ht⟩) hS.2.2 dX9_two_216
      · skip
        have f114 : p2.toInt ≠ 0 := qi_ne c_112 rfl zc_0
        refine lv_iconst (v := 1) hx hb dX9_two_211 (by decide) ?_
        refine lv_goto (tgt := 216) hx hb dX9_two_212 (by decide) ?_
        rw [hQ]
        exact W.iret (v := 1) hx hb hr (fun t ht hW => ⟨⟨1, 1, rfl, rfl, trivial⟩, hS.F ht⟩) hS.2.2 dX9_two_216
  · skip
    refine lv_tableIn (off := 202) (tgt := 203) hx hb dX9_two_1 (by rw [hs1]; decide) (by rw [hs1]; decide) (by rw [hs1]; decide) (by decide) ?_
    have f115 : p0.toInt = 55 := qi_eq hs1 rfl zc_55
    refine lv_iload_n hx hb dX9_two_203 rfl (lv_at hl 1 rfl) ?_
    refine lv_if_ne (tgt := 211) hx hb dX9_two_204 (by decide) (fun c_116 => ?_) (fun c_116 => ?_)
    · skip
      have f117 : p1.toInt ≠ 0 := qi_ne c_116 rfl zc_0
      refine lv_iconst (v := 1) hx hb dX9_two_211 (by decide) ?_
      refine lv_goto (tgt := 216) hx hb dX9_two_212 (by decide) ?_
      rw [hQ]
      exact W.iret (v := 1) hx hb hr (fun t ht hW => ⟨⟨1, 1, rfl, rfl, trivial⟩, hS.F ht⟩) hS.2.2 dX9_two_216
    · skip
      have f118 : p1.toInt = 0 := qi_eq c_116 rfl zc_0
      refine lv_iload_n hx hb dX9_two_207 rfl (lv_at hl 2 rfl) ?_
      refine lv_if_eq (tgt := 215) hx hb dX9_two_208 (by decide) (fun c_119 => ?_) (fun c_119 => ?_)
      · skip
        have f120 : p2.toInt = 0 := qi_eq c_119 rfl zc_0
        refine lv_iconst (v := 0) hx hb dX9_two_215 (by decide) ?_
        rw [hQ]
        exact W.iret (v := 0) hx hb hr (fun t ht hW => ⟨⟨0, 0, rfl, rfl, trivial⟩, hS.F ht⟩) hS.2.2 dX9_two_216
      · skip
        have f121 : p2.toInt ≠ 0 := qi_ne c_119 rfl zc_0
        refine lv_iconst (v := 1) hx hb dX9_two_211 (by decide) ?_
        refine lv_goto (tgt := 216) hx hb dX9_two_212 (by decide) ?_
        rw [hQ]
        exact W.iret (v := 1) hx hb hr (fun t ht hW => ⟨⟨1, 1, rfl, rfl, trivial⟩, hS.F ht⟩) hS.2.2 dX9_two_216
  · skip
    refine lv_tableIn (off := 202) (tgt := 203) hx hb dX9_two_1 (by rw [hs1]; decide) (by rw [hs1]; decide) (by rw [hs1]; decide) (by decide) ?_
    have f122 : p0.toInt = 56 := qi_eq hs1 rfl zc_56
    refine lv_iload_n hx hb dX9_two_203 rfl (lv_at hl 1 rfl) ?_
    refine lv_if_ne (tgt := 211) hx hb dX9_two_204 (by decide) (fun c_123 => ?_) (fun c_123 => ?_)
    · skip
      have f124 : p1.toInt ≠ 0 := qi_ne c_123 rfl zc_0
      refine lv_iconst (v := 1) hx hb dX9_two_211 (by decide) ?_
      refine lv_goto (tgt := 216) hx hb dX9_two_212 (by decide) ?_
      rw [hQ]
      exact W.iret (v := 1) hx hb hr (fun t ht hW => ⟨⟨1, 1, rfl, rfl, trivial⟩, hS.F ht⟩) hS.2.2 dX9_two_216
    · skip
      have f125 : p1.toInt = 0 := qi_eq c_123 rfl zc_0
      refine lv_iload_n hx hb dX9_two_207 rfl (lv_at hl 2 rfl) ?_
      refine lv_if_eq (tgt := 215) hx hb dX9_two_208 (by decide) (fun c_126 => ?_) (fun c_126 => ?_)
      · skip
        have f127 : p2.toInt = 0 := qi_eq c_126 rfl zc_0
        refine lv_iconst (v := 0) hx hb dX9_two_215 (by decide) ?_
        rw [hQ]
        exact W.iret (v := 0) hx hb hr (fun t ht hW => ⟨⟨0, 0, rfl, rfl, trivial⟩, hS.F ht⟩) hS.2.2 dX9_two_216
      · skip
        have f128 : p2.toInt ≠ 0 := qi_ne c_126 rfl zc_0
        refine lv_iconst (v := 1) hx hb dX9_two_211 (by decide) ?_
        refine lv_goto (tgt := 216) hx hb dX9_two_212 (by decide) ?_
        rw [hQ]
        exact W.iret (v := 1) hx hb hr (fun t ht hW => ⟨⟨1, 1, rfl, rfl, trivial⟩, hS.F ht⟩) hS.2.2 dX9_two_216
  · skip
    refine lv_tableIn (off := 202) (tgt := 203) hx hb dX9_two_1 (by rw [hs1]; decide) (by rw [hs1]; decide) (by rw [hs1]; decide) (by decide) ?_
    have f129 : p0.toInt = 57 := qi_eq hs1 rfl zc_57
    refine lv_iload_n hx hb dX9_two_203 rfl (lv_at hl 1 rfl) ?_
    refine lv_if_ne (tgt := 211) hx hb dX9_two_204 (by decide) (fun c_130 => ?_) (fun c_130 => ?_)
    · skip
      have f131 : p1.toInt ≠ 0 := qi_ne c_130 rfl zc_0
      refine lv_iconst (v := 1) hx hb dX9_two_211 (by decide) ?_
      refine lv_goto (tgt := 216) hx hb dX9_two_212 (by decide) ?_
      rw [hQ]
      exact W.iret (v := 1) hx hb hr (fun t ht hW => ⟨⟨1, 1, rfl, rfl, trivial⟩, hS.F ht⟩) hS.2.2 dX9_two_216
    · skip
      have f132 : p1.toInt = 0 := qi_eq c_130 rfl zc_0
      refine lv_iload_n hx hb dX9_two_207 rfl (lv_at hl 2 rfl) ?_
      refine lv_if_eq (tgt := 215) hx hb dX9_two_208 (by decide) (fun c_133 => ?_) (fun c_133 => ?_)
      · skip
        have f134 : p2.toInt = 0 := qi_eq c_133 rfl zc_0
        refine lv_iconst (v := 0) hx hb dX9_two_215 (by decide) ?_
        rw [hQ]
        exact W.iret (v := 0) hx hb hr (fun t ht hW => ⟨⟨0, 0, rfl, rfl, trivial⟩, hS.F ht⟩) hS.2.2 dX9_two_216
      · skip
        have f135 : p2.toInt ≠ 0 := qi_ne c_133 rfl zc_0
        refine lv_iconst (v := 1) hx hb dX9_two_211 (by decide) ?_
        refine lv_goto (tgt := 216) hx hb dX9_two_212 (by decide) ?_
        rw [hQ]
        exact W.iret (v := 1) hx hb hr (fun t ht hW => ⟨⟨1, 1, rfl, rfl, trivial⟩, hS.F ht⟩) hS.2.2 dX9_two_216
  · skip
    refine lv_tableIn (off := 202) (tgt := 203) hx hb dX9_two_1 (by rw [hs1]; decide) (by rw [hs1]; decide) (by rw [hs1]; decide) (by decide) ?_
    have f136 : p0.toInt = 58 := qi_eq hs1 rfl zc_58
    refine lv_iload_n hx hb dX9_two_203 rfl (lv_at hl 1 rfl) ?_
    refine lv_if_ne (tgt := 211) hx hb dX9_two_204 (by decide) (fun c_137 => ?_) (fun c_137 => ?_)
    · skip
      have f138 : p1.toInt ≠ 0 := qi_ne c_137 rfl zc_0
      refine lv_iconst (v := 1) hx hb dX9_two_211 (by decide) ?_
      refine lv_goto (tgt := 216) hx hb dX9_two_212 (by decide) ?_
      rw [hQ]
      exact W.iret (v := 1) hx hb hr (fun t ht hW => ⟨⟨1, 1, rfl, rfl, trivial⟩, hS.F ht⟩) hS.2.2 dX9_two_216
    · skip
      have f139 : p1.toInt = 0 := qi_eq c_137 rfl zc_0
      refine lv_iload_n hx hb dX9_two_207 rfl (lv_at hl 2 rfl) ?_
      refine lv_if_eq (tgt := 215) hx hb dX9_two_208 (by decide) (fun c_140 => ?_) (fun c_140 => ?_)
      · skip
        have f141 : p2.toInt = 0 := qi_eq c_140 rfl zc_0
        refine lv_iconst (v := 0) hx hb dX9_two_215 (by decide) ?_
        rw [hQ]
        exact W.iret (v := 0) hx hb hr (fun t ht hW => ⟨⟨0, 0, rfl, rfl, trivial⟩, hS.F ht⟩) hS.2.2 dX9_two_216
      · skip
        have f142 : p2.toInt ≠ 0 := qi_ne c_140 rfl zc_0
        refine lv_iconst (v := 1) hx hb dX9_two_211 (by decide) ?_
        refine lv_goto (tgt := 216) hx hb dX9_two_212 (by decide) ?_
        rw [hQ]
        exact W.iret (v := 1) hx hb hr (fun t ht hW => ⟨⟨1, 1, rfl, rfl, trivial⟩, hS.F ht⟩) hS.2.2 dX9_two_216
  · skip
    refine lv_tableIn (off := 202) (tgt := 203) hx hb dX9_two_1 (by rw [hs1]; decide) (by rw [hs1]; decide) (by rw [hs1]; decide) (by decide) ?_
    have f143 : p0.toInt = 59 := qi_eq hs1 rfl zc_59
    refine lv_iload_n hx hb dX9_two_203 rfl (lv_at hl 1 rfl) ?_
    refine lv_if_ne (tgt := 211) hx hb dX9_two_204 (by decide) (fun c_144 => ?_) (fun c_144 => ?_)
    · skip
      have f145 : p1.toInt ≠ 0 := qi_ne c_144 rfl zc_0
      refine lv_iconst (v := 1) hx hb dX9_two_211 (by decide) ?_
      refine lv_goto (tgt := 216) hx hb dX9_two_212 (by decide) ?_
      rw [hQ]
      exact W.iret (v := 1) hx hb hr (fun t ht hW => ⟨⟨1, 1, rfl, rfl, trivial⟩, hS.F ht⟩) hS.2.2 dX9_two_216
    · skip
      have f146 : p1.toInt = 0 := qi_eq c_144 rfl zc_0
      refine lv_iload_n hx hb dX9_two_207 rfl (lv_at hl 2 rfl) ?_
      refine lv_if_eq (tgt := 215) hx hb dX9_two_208 (by decide) (fun c_147 => ?_) (fun c_147 => ?_)
      · skip
        have f148 : p2.toInt = 0 := qi_eq c_147 rfl zc_0
        refine lv_iconst (v := 0) hx hb dX9_two_215 (by decide) ?_
        rw [hQ]
        exact W.iret (v := 0) hx hb hr (fun t ht hW => ⟨⟨0, 0, rfl, rfl, trivial⟩, hS.F ht⟩) hS.2.2 dX9_two_216
      · skip
        have f149 : p2.toInt ≠ 0 := qi_ne c_147 rfl zc_0
        refine lv_iconst (v := 1) hx hb dX9_two_211 (by decide) ?_
        refine lv_goto (tgt := 216) hx hb dX9_two_212 (by decide) ?_
        rw [hQ]
        exact W.iret (v := 1) hx hb hr (fun t ht hW => ⟨⟨1, 1, rfl, rfl, trivial⟩, hS.F ht⟩) hS.2.2 dX9_two_216
  · skip
    refine lv_tableIn (off := 155) (tgt := 156) hx hb dX9_two_1 (by rw [hs1]; decide) (by rw [hs1]; decide) (by rw [hs1]; decide) (by decide) ?_
    have f150 : p0.toInt = 60 := qi_eq hs1 rfl zc_60
    refine lv_iload_n hx hb dX9_two_156 rfl (lv_at hl 1 rfl) ?_
    refine lv_iload_n hx hb dX9_two_157 rfl (lv_at hl 2 rfl) ?_
    refine lv_icmp_ge (tgt := 165) hx hb dX9_two_158 (by decide) (fun c_151 => ?_) (fun c_151 => ?_)
    · skip
      have f152 : p2.toInt ≤ p1.toInt := qi_le c_151 rfl rfl
      refine lv_iconst (v := 0) hx hb dX9_two_165 (by decide) ?_
      rw [hQ]
      exact W.iret (v := 0) hx hb hr (fun t ht hW => ⟨⟨0, 0, rfl, rfl, trivial⟩, hS.F ht⟩) hS.2.2 dX9_two_166
    · skip
      have f153 : p1.toInt < p2.toInt := qi_nle c_151 rfl rfl
      refine lv_iconst (v := 1) hx hb dX9_two_161 (by decide) ?_
      refine lv_goto (tgt := 166) hx hb dX9_two_162 (by decide) ?_
      rw [hQ]
      exact W.iret (v := 1) hx hb hr (fun t ht hW => ⟨⟨1, 1, rfl, rfl, trivial⟩, hS.F ht⟩) hS.2.2 dX9_two_166
  · skip
    refine lv_tableIn (off := 177) (tgt := 178) hx hb dX9_two_1 (by rw [hs1]; decide) (by rw [hs1]; decide) (by rw [hs1]; decide) (by decide) ?_
    have f154 : p0.toInt = 61 := qi_eq hs1 rfl zc_61
    refine lv_iload_n hx hb dX9_two_178 rfl (lv_at hl 1 rfl) ?_
    refine lv_iload_n hx hb dX9_two_179 rfl (lv_at hl 2 rfl) ?_
    refine lv_icmp_ne (tgt := 187) hx hb dX9_two_180 (by decide) (fun c_155 => ?_) (fun c_155 => ?_)
    · skip
      have f156 : p1.toInt ≠ p2.toInt := qi_ne c_155 rfl rfl
      refine lv_iconst (v := 0) hx hb dX9_two_187 (by decide) ?_
      rw [hQ]
      exact W.iret (v := 0) hx hb hr (fun t ht hW => ⟨⟨0, 0, rfl, rfl, trivial⟩, hS.F ht⟩) hS.2.2 dX9_two_188
    · skip
      have f157 : p1.toInt = p2.toInt := qi_eq c_155 rfl rfl
      refine lv_iconst (v := 1) hx hb dX9_two_183 (by decide) ?_
      refine lv_goto (tgt := 188) hx hb dX9_two_184 (by decide) ?_
      rw [hQ]
      exact W.iret (v := 1) hx hb hr (fun t ht hW => ⟨⟨1, 1, rfl, rfl, trivial⟩, hS.F ht⟩) hS.2.2 dX9_two_188
  · skip
    refine lv_tableIn (off := 166) (tgt := 167) hx hb dX9_two_1 (by rw [hs1]; decide) (by rw [hs1]; decide) (by rw [hs1]; decide) (by decide) ?_
    have f158 : p0.toInt = 62 := qi_eq hs1 rfl zc_62
    refine lv_iload_n hx hb dX9_two_167 rfl (lv_at hl 1 rfl) ?_
    refine lv_iload_n hx hb dX9_two_168 rfl (lv_at hl 2 rfl) ?_
    refine lv_icmp_le (tgt := 176) hx hb dX9_two_169 (by decide) (fun c_159 => ?_) (fun c_159 => ?_)
    · skip
      have f160 : p1.toInt ≤ p2.toInt := qi_le c_159 rfl rfl
      refine lv_iconst (v := 0) hx hb dX9_two_176 (by decide) ?_
      rw [hQ]
      exact W.iret (v := 0) hx hb hr (fun t ht hW => ⟨⟨0, 0, rfl, rfl, trivial⟩, hS.F ht⟩) hS.2.2 dX9_two_177
    · skip
      have f161 : p2.toInt < p1.toInt := qi_nle c_159 rfl rfl
      refine lv_iconst (v := 1) hx hb dX9_two_172 (by decide) ?_
      refine lv_goto (tgt := 177) hx hb dX9_two_173 (by decide) ?_
      rw [hQ]
      exact W.iret (v := 1) hx hb hr (fun t ht hW => ⟨⟨1, 1, rfl, rfl, trivial⟩, hS.F ht⟩) hS.2.2 dX9_two_177
set_option maxHeartbeats 4000000 in
set_option maxRecDepth 100000 in
theorem kX9_held (l : Launch) (dC : Nat → ClassId) (dI : Nat → Nat → Nat) (p0 p1 p2 : Int32) (sz : Nat) : Met l yX9_held (.code yX9_held cX9_held 3 (some .int) :: GW) { frames := 2, cells := 0, slots := 0, locals := 100 } (va_Pc [.int p0, .int p1, .int p2] (pR (dC, dI) [] [] sz)) (va_Qi (fun (r0 : Int32) (u : Int32) => r0 = u) (fun (u : Int32) (t : State) => (((p1.toInt ≤ p0.toInt) ∧ (p0.toInt ≤ p2.toInt) ∧ (u.toInt = p0.toInt)) ∨ ((p1.toInt ≤ p0.toInt) ∧ (p2.toInt + 1 ≤ p0.toInt) ∧ (u.toInt = p2.toInt)) ∨ ((p0.toInt + 1 ≤ p1.toInt) ∧ (u.toInt = p1.toInt)))) (fun q => sz ≤ q)) 0 0 (fun q => sz ≤ q) := by
  refine Met.ofW (cc := cX9_held) (maxL := 3) (ret := (some .int)) (by decide) rfl ?_
  intro p e s m args below meth c0 s₁ B hml hv
  obtain ⟨rfl, hsz, hP, hK⟩ := hv
  have hx := B.exec
  have hb := B.bytes
  have hr := B.returns
  have hts := atoms_spec (ws := .code yX9_held cX9_held 3 (some .int) :: GW) B.pre
  have hG : ∀ w ∈ GW, w.before _ s = true := fun w h => hts w (List.mem_cons_of_mem _ h)
  have hown : s.vm.findClass RX9 = some m.cls := findClass_of_methodNamed B.named
  subst hsz
  have hS : va_S (fun q => s.heap.size ≤ q) s.heap s.heap [] := va_S.rf
  have hP : va_P (dC, dI) vwCl [] s.heap := hP
  have hl := lv_entry ([.int p0, .int p1, .int p2]) (n := 3) (Nat.le_of_ble_eq_true rfl)
  rw [lg_entry_eq]
  generalize (lg_sl ([.int p0, .int p1, .int p2]) ++ List.replicate (3 - (lg_sl ([.int p0, .int p1, .int p2])).length) Slot.unset).toArray = ls at hl ⊢
  have hl : lv_has ls 3 [(0, .int p0), (1, .int p1), (2, .int p2)] := hl
  refine nameQ (fun Q hQ => ?_)
  refine lv_iload_n hx hb dX9_held_0 rfl (lv_at hl 0 rfl) ?_
  refine lv_iload_n hx hb dX9_held_1 rfl (lv_at hl 1 rfl) ?_
  refine lv_icmp_ge (tgt := 9) hx hb dX9_held_2 (by decide) (fun c_1 => ?_) (fun c_1 => ?_)
  · skip
    have f2 : p1.toInt ≤ p0.toInt := qi_le c_1 rfl rfl
    refine lv_iload_n hx hb dX9_held_9 rfl (lv_at hl 0 rfl) ?_
    refine lv_iload_n hx hb dX9_held_10 rfl (lv_at hl 2 rfl) ?_
    refine lv_icmp_le (tgt := 18) hx hb dX9_held_11 (by decide) (fun c_3 => ?_) (fun c_3 => ?_)
    · skip
      have f4 : p0.toInt ≤ p2.toInt := qi_le c_3 rfl rfl
      refine lv_iload_n hx hb dX9_held_18 rfl (lv_at hl 0 rfl) ?_
      rw [hQ]
      exact W.iret (v := p0) hx hb hr (fun t ht hW => ⟨⟨p0, p0, rfl, rfl, (ob_848 f2 f4)⟩, hS.F ht⟩) hS.2.2 dX9_held_19
    · skip
      have f5 : p2.toInt < p0.toInt := qi_nle c_3 rfl rfl
      refine lv_iload_n hx hb dX9_held_14 rfl (lv_at hl 2 rfl) ?_
      refine lv_goto (tgt := 19) hx hb dX9_held_15 (by decide) ?_
      rw [hQ]
      exact W.iret (v := p2) hx hb hr (fun t ht hW => ⟨⟨p2, p2, rfl, rfl, (ob_849 f2 f5)⟩, hS.F ht⟩) hS.2.2 dX9_held_19
  · skip
    have f6 : p0.toInt < p1.toInt := qi_nle c_1 rfl rfl
    refine lv_iload_n hx hb dX9_held_5 rfl (lv_at hl 1 rfl) ?_
    refine lv_goto (tgt := 19) hx hb dX9_held_6 (by decide) ?_
    rw [hQ]
    exact W.iret (v := p1) hx hb hr (fun t ht hW => ⟨⟨p1, p1, rfl, rfl, (ob_850 f6)⟩, hS.F ht⟩) hS.2.2 dX9_held_19
set_option maxHeartbeats 4000000 in
set_option maxRecDepth 100000 in
theorem kX9_leftOf (l : Launch) (dC : Nat → ClassId) (dI : Nat → Nat → Nat) (r : Nat → Nat) (ct : Nat → ClassId) (i_taped i_size i_faultKind i_at i_end i_token i_number i_bank i_rb i_codes i_within i_piled i_unitsInRule i_askHouse i_askTune i_acts i_undone i_laid i_knowns i_time : Int32) (f_text f_tunes f_houses f_hums f_told f_many f_ruleFrom f_ruleTo f_code f_eWhat f_eSign f_all f_kept f_was f_sTune f_boxAll : Nat → Int32) (J : Nat → Nat → Int32) (L : Nat → Nat → Int64) (p0 : Int32) (sz : Nat) (hI : (IM i_taped i_size i_faultKind i_at i_end i_bank i_rb i_acts i_undone i_laid i_knowns i_time f_tunes f_houses f_hums f_told f_many f_ruleFrom f_ruleTo f_code f_all f_kept f_was f_sTune f_boxAll)) (hp0 : (0 : Int) ≤ p0.toInt) (hp1 : p0.toInt + 1 ≤ (f_tunes (i_bank.toInt).toNat).toInt) : Met l yX9_leftOf (.code yX9_leftOf cX9_leftOf 2 (some .int) :: GW) { frames := 4, cells := 0, slots := 0, locals := 162 } (va_Pc [.ref (r 0), .int p0] (pR (dC, dI) (WM r ct i_taped i_size i_faultKind i_at i_end i_token i_number i_bank i_rb i_codes i_within i_piled i_unitsInRule i_askHouse i_askTune i_acts i_undone i_laid i_knowns i_time f_text f_tunes f_houses f_hums f_told f_many f_ruleFrom f_ruleTo f_code f_eWhat f_eSign f_all f_kept f_was f_sTune f_boxAll J L) (TM ct) sz)) (va_Qi (fun (r0 : Int32) (u : Int32) => r0 = u) (fun (u : Int32) (t : State) => ((3 : Int) ≤ (f_many (p0.toInt + 5 * i_bank.toInt).toNat).toInt) ∧ ((f_many (p0.toInt + 5 * i_bank.toInt).toNat).toInt ≤ (8 : Int)) ∧ ((0 : Int) ≤ (f_all (p0.toInt + 10).toNat).toInt) ∧ ((f_all (p0.toInt + 10).toNat).toInt ≤ (99 : Int)) ∧ ((3 : Int) ≤ u.toInt) ∧ (u.toInt ≤ (8 : Int)) ∧ (((u.toInt = (3 : Int)) ∧ ((f_many (p0.toInt + 5 * i_bank.toInt).toNat).toInt ≤ (f_all (p0.toInt + 10).toNat).toInt + 3)) ∨ (u.toInt + (f_all (p0.toInt + 10).toNat).toInt = (f_many (p0.toInt + 5 * i_bank.toInt).toNat).toInt))) (fun q => sz ≤ q)) 0 0 (fun q => sz ≤ q) := by
  refine Met.ofW (cc := cX9_leftOf) (maxL := 2) (ret := (some .int)) (by decide) rfl ?_
  intro p e s m args below meth c0 s₁ B hml hv
  obtain ⟨rfl, hsz, hP, hK⟩ := hv
  have hx := B.exec
  have hb := B.bytes
  have hr := B.returns
  have hts := atoms_spec (ws := .code yX9_leftOf cX9_leftOf 2 (some .int) :: GW) B.pre
  have hG : ∀ w ∈ GW, w.before _ s = true := fun w h => hts w (List.mem_cons_of_mem _ h)
  have hown : s.vm.findClass RX9 = some m.cls := findClass_of_methodNamed B.named
  subst hsz
  have hS : va_S (fun q => s.heap.size ≤ q) s.heap s.heap [] := va_S.rf
  have hP : va_P (dC, dI) vwCl (WM r ct i_taped i_size i_faultKind i_at i_end i_token i_number i_bank i_rb i_codes i_within i_piled i_unitsInRule i_askHouse i_askTune i_acts i_undone i_laid i_knowns i_time f_text f_tunes f_houses f_hums f_told f_many f_ruleFrom f_ruleTo f_code f_eWhat f_eSign f_all f_kept f_was f_sTune f_boxAll J L) s.heap := hP
  have hl := lv_entry ([.ref (r 0), .int p0]) (n := 2) (Nat.le_of_ble_eq_true rfl)
  rw [lg_entry_eq]
  generalize (lg_sl ([.ref (r 0), .int p0]) ++ List.replicate (2 - (lg_sl ([.ref (r 0), .int p0])).length) Slot.unset).toArray = ls at hl ⊢
  have hl : lv_has ls 2 [(0, .ref (r 0)), (1, .int p0)] := hl
  refine nameQ (fun Q hQ => ?_)
  obtain ⟨ie0, ie1, ie2, ie3, ie4, ie5, ie6, ie7, ie8, ie9, ie10, ie11, ie12, ie13, ie14, ie15, ie16, ie17, ie18, ie19, ie20, ie21, ie22, ie23, ie24, ie25, ie26, ie27, ie28, ie29, ie30, ie31, ie32⟩ := id hI
  have f1 : 0 ≤ (f_tunes (i_bank.toInt).toNat).toInt ∧ (f_tunes (i_bank.toInt).toNat).toInt ≤ 5 := ie21 (i_bank.toInt)
  have f2 : 0 ≤ (f_houses (i_bank.toInt).toNat).toInt ∧ (f_houses (i_bank.toInt).toNat).toInt ≤ 4 := ie22 (i_bank.toInt)
  refine lv_aload_n hx hb dX9_leftOf_0 rfl (lv_at hl 0 rfl) ?_
  refine gM_X9_45_0 hx hb hG hown hK hP dX9_leftOf_1 ?_
  refine lv_iconst (v := 5) hx hb dX9_leftOf_4 (by decide) ?_
  refine lv_aload_n hx hb dX9_leftOf_5 rfl (lv_at hl 0 rfl) ?_
  refine gM_X9_249_0 hx hb hG hown hK hP dX9_leftOf_6 ?_
  refine lv_imul hx hb dX9_leftOf_9 ?_
  refine lv_topi (fun x3 ex3 => ?_)
  have f4 : x3.toInt = 5 * i_bank.toInt := (ob_694 (qi_mul ex3 zc_5 rfl (ob_851 ie4 ie5) (ob_852 ie4 ie5)))
  refine lv_iload_n hx hb dX9_leftOf_10 rfl (lv_at hl 1 rfl) ?_
  refine lv_iadd hx hb dX9_leftOf_11 ?_
  refine lv_topi (fun x5 ex5 => ?_)
  have f6 : x5.toInt = p0.toInt + 5 * i_bank.toInt := (ob_697 (qi_add ex5 rfl rfl (ob_853 ie4 hp0 f4) (ob_854 ie5 f1 hp1 f4)) f4)
  refine ldM_11 (mm := p0.toInt + 5 * i_bank.toInt) hx hb hK hP f6 (ob_855 ie4 hp0) (ob_856 ie5 f1 hp1) dX9_leftOf_12 ?_
  have f7 : 0 ≤ (f_many (p0.toInt + 5 * i_bank.toInt).toNat).toInt ∧ (f_many (p0.toInt + 5 * i_bank.toInt).toNat).toInt ≤ 8 := ie23 (p0.toInt + 5 * i_bank.toInt)
  have f8 : 5 * i_bank.toInt ≤ p0.toInt + 5 * i_bank.toInt → p0.toInt + 5 * i_bank.toInt < 5 * i_bank.toInt + (f_tunes (i_bank.toInt).toNat).toInt → 3 ≤ (f_many (p0.toInt + 5 * i_bank.toInt).toNat).toInt := ie31 (p0.toInt + 5 * i_bank.toInt)
  have f9 : (p0.toInt + 1 ≤ (f_tunes (i_bank.toInt).toNat).toInt) → ((3 : Int) ≤ (f_many (p0.toInt + 5 * i_bank.toInt).toNat).toInt) := (ob_857 hp0 f8)
  have f10 : (3 : Int) ≤ (f_many (p0.toInt + 5 * i_bank.toInt).toNat).toInt := (ob_858 hp0 hp1 f8)
  refine lv_aload_n hx hb dX9_leftOf_13 rfl (lv_at hl 0 rfl) ?_
  refine gM_X9_88_0 hx hb hG hown hK hP dX9_leftOf_14 ?_
  refine lv_bipush (v := 10) hx hb dX9_leftOf_17 (by decide) ?_
  refine lv_iload_n hx hb dX9_leftOf_19 rfl (lv_at hl 1 rfl) ?_
  refine lv_iadd hx hb dX9_leftOf_20 ?_
  refine lv_topi (fun x11 ex11 => ?_)
  have f12 : x11.toInt = p0.toInt + 10 := (ob_861 (qi_add ex11 zc_10 rfl (ob_859 hp0 hp1) (ob_860 f1 hp1)))
  refine ldM_25 (mm := p0.toInt + 10) hx hb hK hP f12 (ob_862 hp0 hp1) (ob_863 f1 hp1) dX9_leftOf_21 ?_
  have f13 : 0 ≤ (f_all (p0.toInt + 10).toNat).toInt ∧ (f_all (p0.toInt + 10).toNat).toInt ≤ 99 := ie27 (p0.toInt + 10) (ob_862 hp0 hp1) (ob_864 f1 hp0 hp1 f7 f10) (ob_865 f1 hp0 hp1 f7 f10)
  refine lv_isub hx hb dX9_leftOf_22 ?_
  refine lv_topi (fun x14 ex14 => ?_)
  have f15 : x14.toInt = -1 * (f_all (p0.toInt + 10).toNat).toInt + (f_many (p0.toInt + 5 * i_bank.toInt).toNat).toInt := (ob_868 (qi_sub ex14 rfl rfl (ob_866 f7 f10 f13) (ob_867 f7 f10 f13)))
  refine lv_iconst (v := 3) hx hb dX9_leftOf_23 (by decide) ?_
  refine lv_bipush (v := 8) hx hb dX9_leftOf_24 (by decide) ?_
  refine va_calli (va_runS (As := [.int x14, .int 3, .int 8]) (rest := []) ⟨hx, hb, hml, hown, hG⟩ (kX9_held l dC dI x14 3 8 s.heap.size) (va_cwS 3 hG (goodS gw1527 gw1528 gw138 gw1529) rfl rfl rfl hd_X9_held ⟨(Nat.le_of_ble_eq_true rfl), (Nat.le_of_ble_eq_true rfl)⟩) ⟨fbR, pR_in emptyP (emptyK hK)⟩ rfl rfl hl.1 rfl (lv_room (Nat.le_of_ble_eq_true rfl)) dX9_leftOf_26 ⟨(Nat.le_of_ble_eq_true rfl), (Nat.le_of_ble_eq_true rfl)⟩) hS (fun q hq h => absurd hq (Nat.not_lt.mpr h)) (fun q h => Nat.le_trans hS.1 h) (fun r_17 u_ t_ H16 locs ht hvm hw hB hz1 hk1 hS => ?_)
  subst hw
  have hP := wk hP hk1
  have f18 := hB
  rw [hQ]
  exact W.iret (v := r_17) hx hb hr (fun t ht hW => ⟨⟨r_17, r_17, rfl, rfl, ⟨(ob_869 f7 f10), (ob_870 f7 f10), (ob_871 f13), (ob_872 f13), (ob_873 f18 zc_8 f15 zc_3), (ob_874 f18 zc_8 f15 zc_3), (ob_875 f7 f13 f18 zc_8 f15 zc_3)⟩⟩, hS.F ht⟩) hS.2.2 dX9_leftOf_29
set_option maxHeartbeats 4000000 in
set_option maxRecDepth 100000 in
theorem kX9_priceOf (l : Launch) (dC : Nat → ClassId) (dI : Nat → Nat → Nat) (r : Nat → Nat) (ct : Nat → ClassId) (i_taped i_size i_faultKind i_at i_end i_token i_number i_bank i_rb i_codes i_within i_piled i_unitsInRule i_askHouse i_askTune i_acts i_undone i_laid i_knowns i_time : Int32) (f_text f_tunes f_houses f_hums f_told f_many f_ruleFrom f_ruleTo f_code f_eWhat f_eSign f_all f_kept f_was f_sTune f_boxAll : Nat → Int32) (J : Nat → Nat → Int32) (L : Nat → Nat → Int64) (p0 : Int32) (sz : Nat) (hI : (IM i_taped i_size i_faultKind i_at i_end i_bank i_rb i_acts i_undone i_laid i_knowns i_time f_tunes f_houses f_hums f_told f_many f_ruleFrom f_ruleTo f_code f_all f_kept f_was f_sTune f_boxAll)) (hp0 : (0 : Int) ≤ p0.toInt) (hp1 : p0.toInt + 1 ≤ (f_tunes (i_bank.toInt).toNat).toInt) : Met l yX9_priceOf (.code yX9_priceOf cX9_priceOf 2 (some .int) :: GW) { frames := 2, cells := 0, slots := 0, locals := 100 } (va_Pc [.ref (r 0), .int p0] (pR (dC, dI) (WM r ct i_taped i_size i_faultKind i_at i_end i_token i_number i_bank i_rb i_codes i_within i_piled i_unitsInRule i_askHouse i_askTune i_acts i_undone i_laid i_knowns i_time f_text f_tunes f_houses f_hums f_told f_many f_ruleFrom f_ruleTo f_code f_eWhat f_eSign f_all f_kept f_was f_sTune f_boxAll J L) (TM ct) sz)) (va_Qi (fun (r0 : Int32) (u : Int32) => r0 = u) (fun (u : Int32) (t : State) => True) (fun q => sz ≤ q)) 0 0 (fun q => sz ≤ q) := by
  refine Met.ofW (cc := cX9_priceOf) (maxL := 2) (ret := (some .int)) (by decide) rfl ?_
  intro p e s m args below meth c0 s₁ B hml hv
  obtain ⟨rfl, hsz, hP, hK⟩ := hv
  have hx := B.exec
  have hb := B.bytes
  have hr := B.returns
  have hts := atoms_spec (ws := .code yX9_priceOf cX9_priceOf 2 (some .int) :: GW) B.pre
  have hG : ∀ w ∈ GW, w.before _ s = true := fun w h => hts w (List.mem_cons_of_mem _ h)
  have hown : s.vm.findClass RX9 = some m.cls := findClass_of_methodNamed B.named
  subst hsz
  have hS : va_S (fun q => s.heap.size ≤ q) s.heap s.heap [] := va_S.rf
  have hP : va_P (dC, dI) vwCl (WM r ct i_taped i_size i_faultKind i_at i_end i_token i_number i_bank i_rb i_codes i_within i_piled i_unitsInRule i_askHouse i_askTune i_acts i_undone i_laid i_knowns i_time f_text f_tunes f_houses f_hums f_told f_many f_ruleFrom f_ruleTo f_code f_eWhat f_eSign f_all f_kept f_was f_sTune f_boxAll J L) s.heap := hP
  have hl := lv_entry ([.ref (r 0), .int p0]) (n := 2) (Nat.le_of_ble_eq_true rfl)
  rw [lg_entry_eq]
  generalize (lg_sl ([.ref (r 0), .int p0]) ++ List.replicate (2 - (lg_sl ([.ref (r 0), .int p0])).length) Slot.unset).toArray = ls at hl ⊢
  have hl : lv_has ls 2 [(0, .ref (r 0)), (1, .int p0)] := hl
  refine nameQ (fun Q hQ => ?_)
  obtain ⟨ie0, ie1, ie2, ie3, ie4, ie5, ie6, ie7, ie8, ie9, ie10, ie11, ie12, ie13, ie14, ie15, ie16, ie17, ie18, ie19, ie20, ie21, ie22, ie23, ie24, ie25, ie26, ie27, ie28, ie29, ie30, ie31, ie32⟩ := id hI
  have f1 : 0 ≤ (f_tunes (i_bank.toInt).toNat).toInt ∧ (f_tunes (i_bank.toInt).toNat).toInt ≤ 5 := ie21 (i_bank.toInt)
  have f2 : 0 ≤ (f_houses (i_bank.toInt).toNat).toInt ∧ (f_houses (i_bank.toInt).toNat).toInt ≤ 4 := ie22 (i_bank.toInt)
  refine lv_aload_n hx hb dX9_priceOf_0 rfl (lv_at hl 0 rfl) ?_
  refine gM_X9_42_0 hx hb hG hown hK hP dX9_priceOf_1 ?_
  refine lv_iconst (v := 5) hx hb dX9_priceOf_4 (by decide) ?_
  refine lv_aload_n hx hb dX9_priceOf_5 rfl (lv_at hl 0 rfl) ?_
  refine gM_X9_249_0 hx hb hG hown hK hP dX9_priceOf_6 ?_
  refine lv_imul hx hb dX9_priceOf_9 ?_
  refine lv_topi (fun x3 ex3 => ?_)
  have f4 : x3.toInt = 5 * i_bank.toInt := (ob_694 (qi_mul ex3 zc_5 rfl (ob_851 ie4 ie5) (ob_852 ie4 ie5)))
  refine lv_iload_n hx hb dX9_priceOf_10 rfl (lv_at hl 1 rfl) ?_
  refine lv_iadd hx hb dX9_priceOf_11 ?_
  refine lv_topi (fun x5 ex5 => ?_)
  have f6 : x5.toInt = p0.toInt + 5 * i_bank.toInt := (ob_697 (qi_add ex5 rfl rfl (ob_853 ie4 hp0 f4) (ob_854 ie5 f1 hp1 f4)) f4)
  refine ldM_10 (mm := p0.toInt + 5 * i_bank.toInt) hx hb hK hP f6 (ob_855 ie4 hp0) (ob_856 ie5 f1 hp1) dX9_priceOf_12 (fun x7 => ?_)
  rw [hQ]
  exact W.iret (v := x7) hx hb hr (fun t ht hW => ⟨⟨x7, x7, rfl, rfl, trivial⟩, hS.F ht⟩) hS.2.2 dX9_priceOf_13
set_option maxHeartbeats 4000000 in
set_option maxRecDepth 100000 in
theorem kX9_noteOf (l : Launch) (dC : Nat → ClassId) (dI : Nat → Nat → Nat) (r : Nat → Nat) (ct : Nat → ClassId) (i_taped i_size i_faultKind i_at i_end i_token i_number i_bank i_rb i_codes i_within i_piled i_unitsInRule i_askHouse i_askTune i_acts i_undone i_laid i_knowns i_time : Int32) (f_text f_tunes f_houses f_hums f_told f_many f_ruleFrom f_ruleTo f_code f_eWhat f_eSign f_all f_kept f_was f_sTune f_boxAll : Nat → Int32) (J : Nat → Nat → Int32) (L : Nat → Nat → Int64) (p0 p1 : Int32) (sz : Nat) (hI : (IM i_taped i_size i_faultKind i_at i_end i_bank i_rb i_acts i_undone i_laid i_knowns i_time f_tunes f_houses f_hums f_told f_many f_ruleFrom f_ruleTo f_code f_all f_kept f_was f_sTune f_boxAll)) (hp0 : (0 : Int) ≤ p0.toInt) (hp1 : p0.toInt + 1 ≤ (f_tunes (i_bank.toInt).toNat).toInt) (hp2 : (0 : Int) ≤ p1.toInt) (hp3 : (p1.toInt ≤ (2 : Int)) ∨ (p1.toInt + (f_all (p0.toInt + 10).toNat).toInt + 1 ≤ (f_many (p0.toInt + 5 * i_bank.toInt).toNat).toInt)) : Met l yX9_noteOf (.code yX9_noteOf cX9_noteOf 4 (some .int) :: GW) { frames := 6, cells := 0, slots := 0, locals := 223 } (va_Pc [.ref (r 0), .int p0, .int p1] (pR (dC, dI) (WM r ct i_taped i_size i_faultKind i_at i_end i_token i_number i_bank i_rb i_codes i_within i_piled i_unitsInRule i_askHouse i_askTune i_acts i_undone i_laid i_knowns i_time f_text f_tunes f_houses f_hums f_told f_many f_ruleFrom f_ruleTo f_code f_eWhat f_eSign f_all f_kept f_was f_sTune f_boxAll J L) (TM ct) sz)) (va_Qi (fun (r0 : Int32) (u : Int32) => r0 = u) (fun (u : Int32) (t : State) => True) (fun q => sz ≤ q)) 0 0 (fun q => sz ≤ q) := by
  refine Met.ofW (cc := cX9_noteOf) (maxL := 4) (ret := (some .int)) (by decide) rfl ?_
  intro p e s m args below meth c0 s₁ B hml hv
  obtain ⟨rfl, hsz, hP, hK⟩ := hv
  have hx := B.exec
  have hb := B.bytes
  have hr := B.returns
  have hts := atoms_spec (ws := .code yX9_noteOf cX9_noteOf 4 (some .int) :: GW) B.pre
  have hG : ∀ w ∈ GW, w.before _ s = true := fun w h => hts w (List.mem_cons_of_mem _ h)
  have hown : s.vm.findClass RX9 = some m.cls := findClass_of_methodNamed B.named
  subst hsz
  have hS : va_S (fun q => s.heap.size ≤ q) s.heap s.heap [] := va_S.rf
  have hP : va_P (dC, dI) vwCl (WM r ct i_taped i_size i_faultKind i_at i_end i_token i_number i_bank i_rb i_codes i_within i_piled i_unitsInRule i_askHouse i_askTune i_acts i_undone i_laid i_knowns i_time f_text f_tunes f_houses f_hums f_told f_many f_ruleFrom f_ruleTo f_code f_eWhat f_eSign f_all f_kept f_was f_sTune f_boxAll J L) s.heap := hP
  have hl := lv_entry ([.ref (r 0), .int p0, .int p1]) (n := 4) (Nat.le_of_ble_eq_true rfl)
  rw [lg_entry_eq]
  generalize (lg_sl ([.ref (r 0), .int p0, .int p1]) ++ List.replicate (4 - (lg_sl ([.ref (r 0), .int p0, .int p1])).length) Slot.unset).toArray = ls at hl ⊢
  have hl : lv_has ls 4 [(0, .ref (r 0)), (1, .int p0), (2, .int p1)] := hl
  refine nameQ (fun Q hQ => ?_)
  obtain ⟨ie0, ie1, ie2, ie3, ie4, ie5, ie6, ie7, ie8, ie9, ie10, ie11, ie12, ie13, ie14, ie15, ie16, ie17, ie18, ie19, ie20, ie21, ie22, ie23, ie24, ie25, ie26, ie27, ie28, ie29, ie30, ie31, ie32⟩ := id hI
  have f1 : 0 ≤ (f_tunes (i_bank.toInt).toNat).toInt ∧ (f_tunes (i_bank.toInt).toNat).toInt ≤ 5 := ie21 (i_bank.toInt)
  have f2 : 0 ≤ (f_houses (i_bank.toInt).toNat).toInt ∧ (f_houses (i_bank.toInt).toNat).toInt ≤ 4 := ie22 (i_bank.toInt)
  have f3 : 0 ≤ (f_many (p0.toInt + 5 * i_bank.toInt).toNat).toInt ∧ (f_many (p0.toInt + 5 * i_bank.toInt).toNat).toInt ≤ 8 := ie23 (p0.toInt + 5 * i_bank.toInt)
  have f4 : 5 * i_bank.toInt ≤ p0.toInt + 5 * i_bank.toInt → p0.toInt + 5 * i_bank.toInt < 5 * i_bank.toInt + (f_tunes (i_bank.toInt).toNat).toInt → 3 ≤ (f_many (p0.toInt + 5 * i_bank.toInt).toNat).toInt := ie31 (p0.toInt + 5 * i_bank.toInt)
  have f5 : (p0.toInt + 1 ≤ (f_tunes (i_bank.toInt).toNat).toInt) → ((3 : Int) ≤ (f_many (p0.toInt + 5 * i_bank.toInt).toNat).toInt) := (ob_857 hp0 f4)
  have f6 : (3 : Int) ≤ (f_many (p0.toInt + 5 * i_bank.toInt).toNat).toInt := (ob_858 hp0 hp1 f4)
  have f7 : 0 ≤ (f_all (p0.toInt + 10).toNat).toInt ∧ (f_all (p0.toInt + 10).toNat).toInt ≤ 99 := ie27 (p0.toInt + 10) (ob_862 hp0 hp1) (ob_864 f1 hp0 hp1 f3 f6) (ob_865 f1 hp0 hp1 f3 f6)
  refine lv_iconst (v := 5) hx hb dX9_noteOf_0 (by decide) ?_
  refine lv_aload_n hx hb dX9_noteOf_1 rfl (lv_at hl 0 rfl) ?_
  refine gM_X9_249_0 hx hb hG hown hK hP dX9_noteOf_2 ?_
  refine lv_imul hx hb dX9_noteOf_5 ?_
  refine lv_topi (fun x8 ex8 => ?_)
  have f9 : x8.toInt = 5 * i_bank.toInt := (ob_694 (qi_mul ex8 zc_5 rfl (ob_851 ie4 ie5) (ob_852 ie4 ie5)))
  refine lv_iload_n hx hb dX9_noteOf_6 rfl (lv_at hl 1 rfl) ?_
  refine lv_iadd hx hb dX9_noteOf_7 ?_
  refine lv_topi (fun x10 ex10 => ?_)
  have f11 : x10.toInt = p0.toInt + 5 * i_bank.toInt := (ob_697 (qi_add ex10 rfl rfl (ob_853 ie4 hp0 f9) (ob_854 ie5 f1 hp1 f9)) f9)
  refine lv_istore_n (lv' := [(3, .int x10), (0, .ref (r 0)), (1, .int p0), (2, .int p1)]) hx hb dX9_noteOf_8 rfl hl (by decide) rfl (fun ls hl => ?_)
  refine lv_aload_n hx hb dX9_noteOf_9 rfl (lv_at hl 1 rfl) ?_
  refine gM_X9_48_0 hx hb hG hown hK hP dX9_noteOf_10 ?_
  refine lv_bipush (v := 8) hx hb dX9_noteOf_13 (by decide) ?_
  refine lv_iload_n hx hb dX9_noteOf_15 rfl (lv_at hl 0 rfl) ?_
  refine lv_imul hx hb dX9_noteOf_16 ?_
  refine lv_topi (fun x12 ex12 => ?_)
  have f13 : x12.toInt = 8 * p0.toInt + 40 * i_bank.toInt := (ob_717 (qi_mul ex12 zc_8 rfl (ob_876 ie4 hp0 f11) (ob_877 ie5 f1 hp1 f11)) f11)
  refine lv_aload_n hx hb dX9_noteOf_17 rfl (lv_at hl 1 rfl) ?_
  refine gM_X9_45_0 hx hb hG hown hK hP dX9_noteOf_18 ?_
  refine lv_iload_n hx hb dX9_noteOf_21 rfl (lv_at hl 0 rfl) ?_
  refine ldM_11 (mm := p0.toInt + 5 * i_bank.toInt) hx hb hK hP f11 (ob_855 ie4 hp0) (ob_856 ie5 f1 hp1) dX9_noteOf_22 ?_
  refine lv_iadd hx hb dX9_noteOf_23 ?_
  refine lv_topi (fun x14 ex14 => ?_)
  have f15 : x14.toInt = (f_many (p0.toInt + 5 * i_bank.toInt).toNat).toInt + 8 * p0.toInt + 40 * i_bank.toInt := (ob_720 (qi_add ex14 rfl rfl (ob_878 ie4 hp0 f3 f13) (ob_879 ie5 f1 hp1 f3 f13)) f13)
  refine lv_aload_n hx hb dX9_noteOf_24 rfl (lv_at hl 1 rfl) ?_
  refine lv_iload_n hx hb dX9_noteOf_25 rfl (lv_at hl 2 rfl) ?_
  refine va_calli (va_runV (As := [.int p0]) (rest := [.int x14, .ref (r 12)]) ⟨hx, hb, hml, hown, hG⟩ (kX9_leftOf l dC dI r ct i_taped i_size i_faultKind i_at i_end i_token i_number i_bank i_rb i_codes i_within i_piled i_unitsInRule i_askHouse i_askTune i_acts i_undone i_laid i_knowns i_time f_text f_tunes f_houses f_hums f_told f_many f_ruleFrom f_ruleTo f_code f_eWhat f_eSign f_all f_kept f_was f_sTune f_boxAll J L p0 s.heap.size hI (ob_880 hp0 hp1) (ob_881 f1 hp0 hp1)) (cwV 1 hG (goodV gw1523 gw1525 gw88 gw138 gw1526) rfl rfl rfl hd_X9_leftOf ⟨(Nat.le_of_ble_eq_true rfl), (Nat.le_of_ble_eq_true rfl)⟩) ⟨fbR, va_recv hK hP (ci := 8) (q0 := 0) rfl rfl, pR_in hP hK⟩ rfl rfl hl.1 rfl (lv_room (Nat.le_of_ble_eq_true rfl)) dX9_noteOf_26 ⟨(Nat.le_of_ble_eq_true rfl), (Nat.le_of_ble_eq_true rfl)⟩) hS (fun q hq h => absurd hq (Nat.not_lt.mpr h)) (fun q h => Nat.le_trans hS.1 h) (fun r_17 u_ t_ H16 locs ht hvm hw hB hz1 hk1 hS => ?_)
  subst hw
  have hP := wk hP hk1
  obtain ⟨f18, f19, f20, f21, f22, f23, f24⟩ := hB
  refine lv_isub hx hb dX9_noteOf_29 ?_
  refine lv_topi (fun x25 ex25 => ?_)
  have f26 : x25.toInt = (f_many (p0.toInt + 5 * i_bank.toInt).toNat).toInt + -1 * r_17.toInt + 8 * p0.toInt + 40 * i_bank.toInt := (ob_884 (qi_sub ex25 rfl rfl (ob_882 ie4 hp0 f3 f23 f15) (ob_883 ie5 f1 hp1 f3 f22 f15)) f15)
  refine lv_iload_n hx hb dX9_noteOf_30 rfl (lv_at hl 3 rfl) ?_
  refine lv_iadd hx hb dX9_noteOf_31 ?_
  refine lv_topi (fun x27 ex27 => ?_)
  have f28 : x27.toInt = (f_many (p0.toInt + 5 * i_bank.toInt).toNat).toInt + p1.toInt + -1 * r_17.toInt + 8 * p0.toInt + 40 * i_bank.toInt := (ob_887 (qi_add ex27 rfl rfl (ob_885 ie4 hp0 hp2 f3 f23 f26) (ob_886 ie5 f1 hp1 hp3 f3 f7 f22 f26)) f26)
  refine ldM_12 (mm := (f_many (p0.toInt + 5 * i_bank.toInt).toNat).toInt + p1.toInt + -1 * r_17.toInt + 8 * p0.toInt + 40 * i_bank.toInt) hx hb hK hP f28 (ob_888 ie4 hp0 hp1 hp2 f4 f7 f24) (ob_889 ie5 f1 hp1 hp3 f3 f22 f24) dX9_noteOf_32 (fun x29 => ?_)
  rw [hQ]
  exact W.iret (v := x29) hx hb hr (fun t ht hW => ⟨⟨x29, x29, rfl, rfl, trivial⟩, hS.F ht⟩) hS.2.2 dX9_noteOf_33
set_option maxHeartbeats 4000000 in
set_option maxRecDepth 100000 in
theorem kX9_likesOf (l : Launch) (dC : Nat → ClassId) (dI : Nat → Nat → Nat) (r : Nat → Nat) (ct : Nat → ClassId) (i_taped i_size i_faultKind i_at i_end i_token i_number i_bank i_rb i_codes i_within i_piled i_unitsInRule i_askHouse i_askTune i_acts i_undone i_laid i_knowns i_time : Int32) (f_text f_tunes f_houses f_hums f_told f_many f_ruleFrom f_ruleTo f_code f_eWhat f_eSign f_all f_kept f_was f_sTune f_boxAll : Nat → Int32) (J : Nat → Nat → Int32) (L : Nat → Nat → Int64) (p0 p1 : Int32) (sz : Nat) (hI : (IM i_taped i_size i_faultKind i_at i_end i_bank i_rb i_acts i_undone i_laid i_knowns i_time f_tunes f_houses f_hums f_told f_many f_ruleFrom f_ruleTo f_code f_all f_kept f_was f_sTune f_boxAll)) (hp0 : (0 : Int) ≤ p0.toInt) (hp1 : p0.toInt + 1 ≤ (f_houses (i_bank.toInt).toNat).toInt) (hp2 : (0 : Int) ≤ p1.toInt) (hp3 : p1.toInt ≤ (2 : Int)) : Met l yX9_likesOf (.code yX9_likesOf cX9_likesOf 3 (some .int) :: GW) { frames := 2, cells := 0, slots := 0, locals := 100 } (va_Pc [.ref (r 0), .int p0, .int p1] (pR (dC, dI) (WM r ct i_taped i_size i_faultKind i_at i_end i_token i_number i_bank i_rb i_codes i_within i_piled i_unitsInRule i_askHouse i_askTune i_acts i_undone i_laid i_knowns i_time f_text f_tunes f_houses f_hums f_told f_many f_ruleFrom f_ruleTo f_code f_eWhat f_eSign f_all f_kept f_was f_sTune f_boxAll J L) (TM ct) sz)) (va_Qi (fun (r0 : Int32) (u : Int32) => r0 = u) (fun (u : Int32) (t : State) => True) (fun q => sz ≤ q)) 0 0 (fun q => sz ≤ q) := by
  refine Met.ofW (cc := cX9_likesOf) (maxL := 3) (ret := (some .int)) (by decide) rfl ?_
  intro p e s m args below meth c0 s₁ B hml hv
  obtain ⟨rfl, hsz, hP, hK⟩ := hv
  have hx := B.exec
  have hb := B.bytes
  have hr := B.returns
  have hts := atoms_spec (ws := .code yX9_likesOf cX9_likesOf 3 (some .int) :: GW) B.pre
  have hG : ∀ w ∈ GW, w.before _ s = true := fun w h => hts w (List.mem_cons_of_mem _ h)
  have hown : s.vm.findClass RX9 = some m.cls := findClass_of_methodNamed B.named
  subst hsz
  have hS : va_S (fun q => s.heap.size ≤ q) s.heap s.heap [] := va_S.rf
  have hP : va_P (dC, dI) vwCl (WM r ct i_taped i_size i_faultKind i_at i_end i_token i_number i_bank i_rb i_codes i_within i_piled i_unitsInRule i_askHouse i_askTune i_acts i_undone i_laid i_knowns i_time f_text f_tunes f_houses f_hums f_told f_many f_ruleFrom f_ruleTo f_code f_eWhat f_eSign f_all f_kept f_was f_sTune f_boxAll J L) s.heap := hP
  have hl := lv_entry ([.ref (r 0), .int p0, .int p1]) (n := 3) (Nat.le_of_ble_eq_true rfl)
  rw [lg_entry_eq]
  generalize (lg_sl ([.ref (r 0), .int p0, .int p1]) ++ List.replicate (3 - (lg_sl ([.ref (r 0), .int p0, .int p1])).length) Slot.unset).toArray = ls at hl ⊢
  have hl : lv_has ls 3 [(0, .ref (r 0)), (1, .int p0), (2, .int p1)] := hl
  refine nameQ (fun Q hQ => ?_)
  obtain ⟨ie0, ie1, ie2, ie3, ie4, ie5, ie6, ie7, ie8, ie9, ie10, ie11, ie12, ie13, ie14, ie15, ie16, ie17, ie18, ie19, ie20, ie21, ie22, ie23, ie24, ie25, ie26, ie27, ie28, ie29, ie30, ie31, ie32⟩ := id hI
  have f1 : 0 ≤ (f_tunes (i_bank.toInt).toNat).toInt ∧ (f_tunes (i_bank.toInt).toNat).toInt ≤ 5 := ie21 (i_bank.toInt)
  have f2 : 0 ≤ (f_houses (i_bank.toInt).toNat).toInt ∧ (f_houses (i_bank.toInt).toNat).toInt ≤ 4 := ie22 (i_bank.toInt)
  refine lv_aload_n hx hb dX9_likesOf_0 rfl (lv_at hl 0 rfl) ?_
  refine gM_X9_57_0 hx hb hG hown hK hP dX9_likesOf_1 ?_
  refine lv_iconst (v := 3) hx hb dX9_likesOf_4 (by decide) ?_
  refine lv_iconst (v := 4) hx hb dX9_likesOf_5 (by decide) ?_
  refine lv_aload_n hx hb dX9_likesOf_6 rfl (lv_at hl 0 rfl) ?_
  refine gM_X9_249_0 hx hb hG hown hK hP dX9_likesOf_7 ?_
  refine lv_imul hx hb dX9_likesOf_10 ?_
  refine lv_topi (fun x3 ex3 => ?_)
  have f4 : x3.toInt = 4 * i_bank.toInt := (ob_655 (qi_mul ex3 zc_4 rfl (ob_785 ie4 ie5) (ob_786 ie4 ie5)))
  refine lv_iload_n hx hb dX9_likesOf_11 rfl (lv_at hl 1 rfl) ?_
  refine lv_iadd hx hb dX9_likesOf_12 ?_
  refine lv_topi (fun x5 ex5 => ?_)
  have f6 : x5.toInt = p0.toInt + 4 * i_bank.toInt := (ob_658 (qi_add ex5 rfl rfl (ob_787 ie4 hp0 f4) (ob_890 ie5 f2 hp1 f4)) f4)
  refine lv_imul hx hb dX9_likesOf_13 ?_
  refine lv_topi (fun x7 ex7 => ?_)
  have f8 : x7.toInt = 3 * p0.toInt + 12 * i_bank.toInt := (ob_671 (qi_mul ex7 zc_3 rfl (ob_891 ie4 hp0 f6) (ob_892 ie5 f2 hp1 f6)) f6)
  refine lv_iload_n hx hb dX9_likesOf_14 rfl (lv_at hl 2 rfl) ?_
  refine lv_iadd hx hb dX9_likesOf_15 ?_
  refine lv_topi (fun x9 ex9 => ?_)
  have f10 : x9.toInt = p1.toInt + 3 * p0.toInt + 12 * i_bank.toInt := (ob_674 (qi_add ex9 rfl rfl (ob_893 ie4 hp0 hp2 f8) (ob_894 ie5 f2 hp1 hp3 f8)) f8)
  refine ldM_15 (mm := p1.toInt + 3 * p0.toInt + 12 * i_bank.toInt) hx hb hK hP f10 (ob_895 ie4 hp0 hp2) (ob_896 ie5 f2 hp1 hp3) dX9_likesOf_16 (fun x11 => ?_)
  rw [hQ]
  exact W.iret (v := x11) hx hb hr (fun t ht hW => ⟨⟨x11, x11, rfl, rfl, trivial⟩, hS.F ht⟩) hS.2.2 dX9_likesOf_17
set_option maxHeartbeats 4000000 in
set_option maxRecDepth 100000 in
theorem kX9_sameOf (l : Launch) (dC : Nat → ClassId) (dI : Nat → Nat → Nat) (r : Nat → Nat) (ct : Nat → ClassId) (i_taped i_size i_faultKind i_at i_end i_token i_number i_bank i_rb i_codes i_within i_piled i_unitsInRule i_askHouse i_askTune i_acts i_undone i_laid i_knowns i_time : Int32) (f_text f_tunes f_houses f_hums f_told f_many f_ruleFrom f_ruleTo f_code f_eWhat f_eSign f_all f_kept f_was f_sTune f_boxAll : Nat → Int32) (J : Nat → Nat → Int32) (L : Nat → Nat → Int64) (p0 p1 : Int32) (sz : Nat) (hI : (IM i_taped i_size i_faultKind i_at i_end i_bank i_rb i_acts i_undone i_laid i_knowns i_time f_tunes f_houses f_hums f_told f_many f_ruleFrom f_ruleTo f_code f_all f_kept f_was f_sTune f_boxAll)) (hp0 : (0 : Int) ≤ p0.toInt) (hp1 : p0.toInt + 1 ≤ (f_houses (i_bank.toInt).toNat).toInt) (hp2 : (0 : Int) ≤ p1.toInt) (hp3 : p1.toInt + 1 ≤ (f_tunes (i_bank.toInt).toNat).toInt) : Met l yX9_sameOf (.code yX9_sameOf cX9_sameOf 6 (some .int) :: GW) { frames := 8, cells := 0, slots := 0, locals := 286 } (va_Pc [.ref (r 0), .int p0, .int p1] (pR (dC, dI) (WM r ct i_taped i_size i_faultKind i_at i_end i_token i_number i_bank i_rb i_codes i_within i_piled i_unitsInRule i_askHouse i_askTune i_acts i_undone i_laid i_knowns i_time f_text f_tunes f_houses f_hums f_told f_many f_ruleFrom f_ruleTo f_code f_eWhat f_eSign f_all f_kept f_was f_sTune f_boxAll J L) (TM ct) sz)) (va_Qi (fun (r0 : Int32) (u : Int32) => r0 = u) (fun (u : Int32) (t : State) => True) (fun q => sz ≤ q)) 0 0 (fun q => sz ≤ q) := by
  refine Met.ofW (cc := cX9_sameOf) (maxL := 6) (ret := (some .int)) (by decide) rfl ?_
  intro p e s m args below meth c0 s₁ B hml hv
  obtain ⟨rfl, hsz, hP, hK⟩ := hv
  have hx := B.exec
  have hb := B.bytes
  have hr := B.returns
  have hts := atoms_spec (ws := .code yX9_sameOf cX9_sameOf 6 (some .int) :: GW) B.pre
  have hG : ∀ w ∈ GW, w.before _ s = true := fun w h => hts w (List.mem_cons_of_mem _ h)
  have hown : s.vm.findClass RX9 = some m.cls := findClass_of_methodNamed B.named
  subst hsz
  have hS : va_S (fun q => s.heap.size ≤ q) s.heap s.heap [] := va_S.rf
  have hP : va_P (dC, dI) vwCl (WM r ct i_taped i_size i_faultKind i_at i_end i_token i_number i_bank i_rb i_codes i_within i_piled i_unitsInRule i_askHouse i_askTune i_acts i_undone i_laid i_knowns i_time f_text f_tunes f_houses f_hums f_told f_many f_ruleFrom f_ruleTo f_code f_eWhat f_eSign f_all f_kept f_was f_sTune f_boxAll J L) s.heap := hP
  have hl := lv_entry ([.ref (r 0), .int p0, .int p1]) (n := 6) (Nat.le_of_ble_eq_true rfl)
  rw [lg_entry_eq]
  generalize (lg_sl ([.ref (r 0), .int p0, .int p1]) ++ List.replicate (6 - (lg_sl ([.ref (r 0), .int p0, .int p1])).length) Slot.unset).toArray = ls at hl ⊢
  have hl : lv_has ls 6 [(0, .ref (r 0)), (1, .int p0), (2, .int p1)] := hl
  refine nameQ (fun Q hQ => ?_)
  obtain ⟨ie0, ie1, ie2, ie3, ie4, ie5, ie6, ie7, ie8, ie9, ie10, ie11, ie12, ie13, ie14, ie15, ie16, ie17, ie18, ie19, ie20, ie21, ie22, ie23, ie24, ie25, ie26, ie27, ie28, ie29, ie30, ie31, ie32⟩ := id hI
  have f1 : 0 ≤ (f_tunes (i_bank.toInt).toNat).toInt ∧ (f_tunes (i_bank.toInt).toNat).toInt ≤ 5 := ie21 (i_bank.toInt)
  have f2 : 0 ≤ (f_houses (i_bank.toInt).toNat).toInt ∧ (f_houses (i_bank.toInt).toNat).toInt ≤ 4 := ie22 (i_bank.toInt)
  refine lv_iconst (v := 0) hx hb dX9_sameOf_0 (by decide) ?_
  refine lv_istore_n (lv' := [(3, .int 0), (0, .ref (r 0)), (1, .int p0), (2, .int p1)]) hx hb dX9_sameOf_1 rfl hl (by decide) rfl (fun ls hl => ?_)
  refine lv_iconst (v := 0) hx hb dX9_sameOf_2 (by decide) ?_
  refine lv_istore (lv' := [(4, .int 0), (3, .int 0), (0, .ref (r 0)), (1, .int p0), (2, .int p1)]) hx hb dX9_sameOf_3 hl (by decide) rfl (fun ls hl => ?_)
  have L5 : ∀ (N5 : Nat) (y5_3 y5_4 : Int32) (H5 : Heap) (locs : List Loc) (ls : Array Slot) (g5_0 : (0 : Int) ≤ y5_4.toInt) (g5_1 : y5_4.toInt ≤ (8 : Int)) (hP : va_P (dC, dI) vwCl (WM r ct i_taped i_size i_faultKind i_at i_end i_token i_number i_bank i_rb i_codes i_within i_piled i_unitsInRule i_askHouse i_askTune i_acts i_undone i_laid i_knowns i_time f_text f_tunes f_houses f_hums f_told f_many f_ruleFrom f_ruleTo f_code f_eWhat f_eSign f_all f_kept f_was f_sTune f_boxAll J L) H5) (hS : va_S (fun q => s.heap.size ≤ q) s.heap H5 locs) (hl : lv_has ls 6 [(0, .ref (r 0)), (1, .int p0), (2, .int p1), (3, .int y5_3), (4, .int y5_4)]) (hM : -1 * y5_4.toInt + 8 < (N5 : Int)), W p l e { frames := 8, cells := 0, slots := 0, locals := 286 } s m ([.ref (r 0), .int p0, .int p1] : List Value).toArray below meth c0 H5 locs 0 0 Q (F0 m 5 ls []) := by
    intro N5
    induction N5 with
    | zero =>
      intro y5_3 y5_4 H5 locs ls g5_0 g5_1 hP hS hl hM
      exact ((ob_641 hM g5_0 g5_1)).elim
    | succ N5 ih5 =>
      intro y5_3 y5_4 H5 locs ls g5_0 g5_1 hP hS hl hM
      have hM5 := msucc hM
      refine lv_iload hx hb dX9_sameOf_5 (lv_at hl 4 rfl) ?_
      refine lv_aload_n hx hb dX9_sameOf_7 rfl (lv_at hl 0 rfl) ?_
      refine lv_iload_n hx hb dX9_sameOf_8 rfl (lv_at hl 2 rfl) ?_
      refine va_calli (va_runV (As := [.int p1]) (rest := [.int y5_4]) ⟨hx, hb, hml, hown, hG⟩ (kX9_leftOf l dC dI r ct i_taped i_size i_faultKind i_at i_end i_token i_number i_bank i_rb i_codes i_within i_piled i_unitsInRule i_askHouse i_askTune i_acts i_undone i_laid i_knowns i_time f_text f_tunes f_houses f_hums f_told f_many f_ruleFrom f_ruleTo f_code f_eWhat f_eSign f_all f_kept f_was f_sTune f_boxAll J L p1 H5.size hI (ob_880 hp2 hp3) (ob_881 f1 hp2 hp3)) (cwV 1 hG (goodV gw1523 gw1525 gw88 gw138 gw1526) rfl rfl rfl hd_X9_leftOf ⟨(Nat.le_of_ble_eq_true rfl), (Nat.le_of_ble_eq_true rfl)⟩) ⟨fbR, va_recv hK hP (ci := 8) (q0 := 0) rfl rfl, pR_in hP hK⟩ rfl rfl hl.1 rfl (lv_room (Nat.le_of_ble_eq_true rfl)) dX9_sameOf_9 ⟨(Nat.le_of_ble_eq_true rfl), (Nat.le_of_ble_eq_true rfl)⟩) hS (fun q hq h => absurd hq (Nat.not_lt.mpr h)) (fun q h => Nat.le_trans hS.1 h) (fun r_4 u_ t_ H3 locs ht hvm hw hB hz1 hk1 hS => ?_)
      subst hw
      have hP := wk hP hk1
      obtain ⟨f5, f6, f7, f8, f9, f10, f11⟩ := hB
      refine lv_icmp_ge (tgt := 71) hx hb dX9_sameOf_12 (by decide) (fun c_12 => ?_) (fun c_12 => ?_)
      · skip
        have f13 : r_4.toInt ≤ y5_4.toInt := qi_le c_12 rfl rfl
        refine lv_iload_n hx hb dX9_sameOf_71 rfl (lv_at hl 3 rfl) ?_
        rw [hQ]
        exact W.iret (v := y5_3) hx hb hr (fun t ht hW => ⟨⟨y5_3, y5_3, rfl, rfl, trivial⟩, hS.F ht⟩) hS.2.2 dX9_sameOf_72
      · skip
        have f14 : y5_4.toInt < r_4.toInt := qi_nle c_12 rfl rfl
        refine lv_aload_n hx hb dX9_sameOf_15 rfl (lv_at hl 0 rfl) ?_
        refine lv_iload_n hx hb dX9_sameOf_16 rfl (lv_at hl 2 rfl) ?_
        refine lv_iload hx hb dX9_sameOf_17 (lv_at hl 4 rfl) ?_
        refine va_calli (va_runV (As := [.int p1, .int y5_4]) (rest := []) ⟨hx, hb, hml, hown, hG⟩ (kX9_noteOf l dC dI r ct i_taped i_size i_faultKind i_at i_end i_token i_number i_bank i_rb i_codes i_within i_piled i_unitsInRule i_askHouse i_askTune i_acts i_undone i_laid i_knowns i_time f_text f_tunes f_houses f_hums f_told f_many f_ruleFrom f_ruleTo f_code f_eWhat f_eSign f_all f_kept f_was f_sTune f_boxAll J L p1 y5_4 H3.size hI (ob_880 hp2 hp3) (ob_881 f1 hp2 hp3) (ob_139 g5_0) (ob_897 f11 f14)) (cwV 2 hG (goodV gw1534 gw1536 gw89 gw138 gw1537) rfl rfl rfl hd_X9_noteOf ⟨(Nat.le_of_ble_eq_true rfl), (Nat.le_of_ble_eq_true rfl)⟩) ⟨fbR, va_recv hK hP (ci := 8) (q0 := 0) rfl rfl, pR_in hP hK⟩ rfl rfl hl.1 rfl (lv_room (Nat.le_of_ble_eq_true rfl)) dX9_sameOf_19 ⟨(Nat.le_of_ble_eq_true rfl), (Nat.le_of_ble_eq_true rfl)⟩) hS (fun q hq h => absurd hq (Nat.not_lt.mpr h)) (fun q h => Nat.le_trans hS.1 h) (fun r_16 u_ t_ H15 locs ht hvm hw hB hz1 hk1 hS => ?_)
        subst hw
        have hP := wk hP hk1
        refine lv_istore (lv' := [(5, .int r_16), (0, .ref (r 0)), (1, .int p0), (2, .int p1), (3, .int y5_3), (4, .int y5_4)]) hx hb dX9_sameOf_22 hl (by decide) rfl (fun ls hl => ?_)
        refine lv_iload_n hx hb dX9_sameOf_24 rfl (lv_at hl 4 rfl) ?_
        refine lv_iload hx hb dX9_sameOf_25 (lv_at hl 0 rfl) ?_
        refine lv_aload_n hx hb dX9_sameOf_27 rfl (lv_at hl 1 rfl) ?_
        refine lv_iload_n hx hb dX9_sameOf_28 rfl (lv_at hl 2 rfl) ?_
        refine lv_iconst (v := 0) hx hb dX9_sameOf_29 (by decide) ?_
        refine va_calli (va_runV (As := [.int p0, .int 0]) (rest := [.int r_16, .int y5_3]) ⟨hx, hb, hml, hown, hG⟩ (kX9_likesOf l dC dI r ct i_taped i_size i_faultKind i_at i_end i_token i_number i_bank i_rb i_codes i_within i_piled i_unitsInRule i_askHouse i_askTune i_acts i_undone i_laid i_knowns i_time f_text f_tunes f_houses f_hums f_told f_many f_ruleFrom f_ruleTo f_code f_eWhat f_eSign f_all f_kept f_was f_sTune f_boxAll J L p0 0 H15.size hI (ob_880 hp0 hp1) (ob_898 f2 hp0 hp1) (ob_1 zc_0) (ob_899 zc_0)) (cwV 2 hG (goodV gw1582 gw1584 gw99 gw138 gw1585) rfl rfl rfl hd_X9_likesOf ⟨(Nat.le_of_ble_eq_true rfl), (Nat.le_of_ble_eq_true rfl)⟩) ⟨fbR, va_recv hK hP (ci := 8) (q0 := 0) rfl rfl, pR_in hP hK⟩ rfl rfl hl.1 rfl (lv_room (Nat.le_of_ble_eq_true rfl)) dX9_sameOf_30 ⟨(Nat.le_of_ble_eq_true rfl), (Nat.le_of_ble_eq_true rfl)⟩) hS (fun q hq h => absurd hq (Nat.not_lt.mpr h)) (fun q h => Nat.le_trans hS.1 h) (fun r_18 u_ t_ H17 locs ht hvm hw hB hz1 hk1 hS => ?_)
        subst hw
        have hP := wk hP hk1
        refine lv_icmp_eq (tgt := 58) hx hb dX9_sameOf_33 (by decide) (fun c_19 => ?_) (fun c_19 => ?_)
        · skip
          have f20 : r_16.toInt = r_18.toInt := qi_eq c_19 rfl rfl
          refine lv_iconst (v := 1) hx hb dX9_sameOf_58 (by decide) ?_
          refine lv_goto (tgt := 63) hx hb dX9_sameOf_59 (by decide) ?_
          refine lv_iadd hx hb dX9_sameOf_63 ?_
          refine lv_topi (fun x21 ex21 => ?_)
          refine lv_istore_n (lv' := [(3, .int x21), (5, .int r_16), (0, .ref (r 0)), (1, .int p0), (2, .int p1), (4, .int y5_4)]) hx hb dX9_sameOf_64 rfl hl (by decide) rfl (fun ls hl => ?_)
          obtain ⟨x22, ex22⟩ : ∃ y : Int32, y = y5_4 + Int32.ofInt 1 := ⟨_, rfl⟩
          have f23 : x22.toInt = y5_4.toInt + 1 := (ob_142 (qi_add ex22 rfl (by decide) (ob_140 g5_0) (ob_642 g5_1)))
          refine lv_iinc (v := x22) (lv' := [(4, .int x22), (3, .int x21), (5, .int r_16), (0, .ref (r 0)), (1, .int p0), (2, .int p1)]) hx hb dX9_sameOf_65 hl (k := 5) rfl ex22.symm (by decide) rfl (fun ls hl => ?_)
          refine lv_goto (tgt := 5) hx hb dX9_sameOf_68 (by decide) ?_
          exact ih5 x21 x22 H17 _ _ (ob_149 g5_0 f23) (ob_900 f10 f14 f23) hP hS (lv_sub hl [3, 4, 5, 1, 0] rfl) (ob_644 hM5 f23)
        · skip
          have f24 : r_16.toInt ≠ r_18.toInt := qi_ne c_19 rfl rfl
          refine lv_iload hx hb dX9_sameOf_36 (lv_at hl 0 rfl) ?_
          refine lv_aload_n hx hb dX9_sameOf_38 rfl (lv_at hl 1 rfl) ?_
          refine lv_iload_n hx hb dX9_sameOf_39 rfl (lv_at hl 2 rfl) ?_
          refine lv_iconst (v := 1) hx hb dX9_sameOf_40 (by decide) ?_
          refine va_calli (va_runV (As := [.int p0, .int 1]) (rest := [.int r_16, .int y5_3]) ⟨hx, hb, hml, hown, hG⟩ (kX9_likesOf l dC dI r ct i_taped i_size i_faultKind i_at i_end i_token i_number i_bank i_rb i_codes i_within i_piled i_unitsInRule i_askHouse i_askTune i_acts i_undone i_laid i_knowns i_time f_text f_tunes f_houses f_hums f_told f_many f_ruleFrom f_ruleTo f_code f_eWhat f_eSign f_all f_kept f_was f_sTune f_boxAll J L p0 1 H17.size hI (ob_880 hp0 hp1) (ob_898 f2 hp0 hp1) (ob_14 zc_1) (ob_535 zc_1)) (cwV 2 hG (goodV gw1582 gw1584 gw99 gw138 gw1585) rfl rfl rfl hd_X9_likesOf ⟨(Nat.le_of_ble_eq_true rfl), (Nat.le_of_ble_eq_true rfl)⟩) ⟨fbR, va_recv hK hP (ci := 8) (q0 := 0) rfl rfl, pR_in hP hK⟩ rfl rfl hl.1 rfl (lv_room (Nat.le_of_ble_eq_true rfl)) dX9_sameOf_41 ⟨(Nat.le_of_ble_eq_true rfl), (Nat.le_of_ble_eq_true rfl)⟩) hS (fun q hq h => absurd hq (Nat.not_lt.mpr h)) (fun q h => Nat.le_trans hS.1 h) (fun r_26 u_ t_ H25 locs ht hvm hw hB hz1 hk1 hS => ?_)
          subst hw
          have hP := wk hP hk1
          refine lv_icmp_eq (tgt := 58) hx hb dX9_sameOf_44 (by decide) (fun c_27 => ?_) (fun c_27 => ?_)
          · skip
            have f28 : r_16.toInt = r_26.toInt := qi_eq c_27 rfl rfl
            refine lv_iconst (v := 1) hx hb dX9_sameOf_58 (by decide) ?_
            refine lv_goto (tgt := 63) hx hb dX9_sameOf_59 (by decide) ?_
            refine lv_iadd hx hb dX9_sameOf_63 ?_
            refine lv_topi (fun x29 ex29 => ?_)
            refine lv_istore_n (lv' := [(3, .int x29), (5, .int r_16), (0, .ref (r 0)), (1, .int p0), (2, .int p1), (4, .int y5_4)]) hx hb dX9_sameOf_64 rfl hl (by decide) rfl (fun ls hl => ?_)
            obtain ⟨x30, ex30⟩ : ∃ y : Int32, y = y5_4 + Int32.ofInt 1 := ⟨_, rfl⟩
            have f31 : x30.toInt = y5_4.toInt + 1 := (ob_142 (qi_add ex30 rfl (by decide) (ob_140 g5_0) (ob_642 g5_1)))
            refine lv_iinc (v := x30) (lv' := [(4, .int x30), (3, .int x29), (5, .int r_16), (0, .ref (r 0)), (1, .int p0), (2, .int p1)]) hx hb dX9_sameOf_65 hl (k := 5) rfl ex30.symm (by decide) rfl (fun ls hl => ?_)
            refine lv_goto (tgt := 5) hx hb dX9_sameOf_68 (by decide) ?_
            exact ih5 x29 x30 H25 _ _ (ob_149 g5_0 f31) (ob_900 f10 f14 f31) hP hS (lv_sub hl [3, 4, 5, 1, 0] rfl) (ob_644 hM5 f31)
          · skip
            have f32 : r_16.toInt ≠ r_26.toInt := qi_ne c_27 rfl rfl
            refine lv_iload hx hb dX9_sameOf_47 (lv_at hl 0 rfl) ?_
            refine lv_aload_n hx hb dX9_sameOf_49 rfl (lv_at hl 1 rfl) ?_
            refine lv_iload_n hx hb dX9_sameOf_50 rfl (lv_at hl 2 rfl) ?_
            refine lv_iconst (v := 2) hx hb dX9_sameOf_51 (by decide) ?_
            refine va_calli (va_runV (As := [.int p0, .int 2]) (rest := [.int r_16, .int y5_3]) ⟨hx, hb, hml, hown, hG⟩ (kX9_likesOf l dC dI r ct i_taped i_size i_faultKind i_at i_end i_token i_number i_bank i_rb i_codes i_within i_piled i_unitsInRule i_askHouse i_askTune i_acts i_undone i_laid i_knowns i_time f_text f_tunes f_houses f_hums f_told f_many f_ruleFrom f_ruleTo f_code f_eWhat f_eSign f_all f_kept f_was f_sTune f_boxAll J L p0 2 H25.size hI (ob_880 hp0 hp1) (ob_898 f2 hp0 hp1) (ob_471 zc_2) (ob_540 zc_2)) (cwV 2 hG (goodV gw1582 gw1584 gw99 gw138 gw1585) rfl rfl rfl hd_X9_likesOf ⟨(Nat.le_of_ble_eq_true rfl), (Nat.le_of_ble_eq_true rfl)⟩) ⟨fbR, va_recv hK hP (ci := 8) (q0 := 0) rfl rfl, pR_in hP hK⟩ rfl rfl hl.1 rfl (lv_room (Nat.le_of_ble_eq_true rfl)) dX9_sameOf_52 ⟨(Nat.le_of_ble_eq_true rfl), (Nat.le_of_ble_eq_true rfl)⟩) hS (fun q hq h => absurd hq (Nat.not_lt.mpr h)) (fun q h => Nat.le_trans hS.1 h) (fun r_34 u_ t_ H33 locs ht hvm hw hB hz1 hk1 hS => ?_)
            subst hw
            have hP := wk hP hk1
            refine lv_icmp_ne (tgt := 62) hx hb dX9_sameOf_55 (by decide) (fun c_35 => ?_) (fun c_35 => ?_)
            · skip
              have f36 : r_16.toInt ≠ r_34.toInt := qi_ne c_35 rfl rfl
              refine lv_iconst (v := 0) hx hb dX9_sameOf_62 (by decide) ?_
              refine lv_iadd hx hb dX9_sameOf_63 ?_
              refine lv_topi (fun x37 ex37 => ?_)
              refine lv_istore_n (lv' := [(3, .int x37), (5, .int r_16), (0, .ref (r 0)), (1, .int p0), (2, .int p1), (4, .int y5_4)]) hx hb dX9_sameOf_64 rfl hl (by decide) rfl (fun ls hl => ?_)
              obtain ⟨x38, ex38⟩ : ∃ y : Int32, y = y5_4 + Int32.ofInt 1 := ⟨_, rfl⟩
              have f39 : x38.toInt = y5_4.toInt + 1 := (ob_142 (qi_add ex38 rfl (by decide) (ob_140 g5_0) (ob_642 g5_1)))
              refine lv_iinc (v := x38) (lv' := [(4, .int x38), (3, .int x37), (5, .int r_16), (0, .ref (r 0)), (1, .int p0), (2, .int p1)]) hx hb dX9_sameOf_65 hl (k := 5) rfl ex38.symm (by decide) rfl (fun ls hl => ?_)
              refine lv_goto (tgt := 5) hx hb dX9_sameOf_68 (by decide) ?_
              exact ih5 x37 x38 H33 _ _ (ob_149 g5_0 f39) (ob_900 f10 f14 f39) hP hS (lv_sub hl [3, 4, 5, 1, 0] rfl) (ob_644 hM5 f39)
            · skip
              have f40 : r_16.toInt = r_34.toInt := qi_eq c_35 rfl rfl
              refine lv_iconst (v := 1) hx hb dX9_sameOf_58 (by decide) ?_
              refine lv_goto (tgt := 63) hx hb dX9_sameOf_59 (by decide) ?_
              refine lv_iadd hx hb dX9_sameOf_63 ?_
              refine lv_topi (fun x41 ex41 => ?_)
              refine lv_istore_n (lv' := [(3, .int x41), (5, .int r_16), (0, .ref (r 0)), (1, .int p0), (2, .int p1), (4, .int y5_4)]) hx hb dX9_sameOf_64 rfl hl (by decide) rfl (fun ls hl => ?_)
              obtain ⟨x42, ex42⟩ : ∃ y : Int32, y = y5_4 + Int32.ofInt 1 := ⟨_, rfl⟩
              have f43 : x42.toInt = y5_4.toInt + 1 := (ob_142 (qi_add ex42 rfl (by decide) (ob_140 g5_0) (ob_642 g5_1)))
              refine lv_iinc (v := x42) (lv' := [(4, .int x42), (3, .int x41), (5, .int r_16), (0, .ref (r 0)), (1, .int p0), (2, .int p1)]) hx hb dX9_sameOf_65 hl (k := 5) rfl ex42.symm (by decide) rfl (fun ls hl => ?_)
              refine lv_goto (tgt := 5) hx hb dX9_sameOf_68 (by decide) ?_
              exact ih5 x41 x42 H33 _ _ (ob_149 g5_0 f43) (ob_900 f10 f14 f43) hP hS (lv_sub hl [3, 4, 5, 1, 0] rfl) (ob_644 hM5 f43)
  exact L5 (-1 * (0 : Int32).toInt + 8 + 1).toNat 0 0 s.heap _ _ (ob_1 zc_0) (ob_650 zc_0) hP hS (lv_sub hl [2, 3, 4, 1, 0] rfl) (mlt (ob_651 zc_0))
set_option maxHeartbeats 4000000 in
set_option maxRecDepth 100000 in
theorem kX9_isFrom (l : Launch) (dC : Nat → ClassId) (dI : Nat → Nat → Nat) (r : Nat → Nat) (ct : Nat → ClassId) (i_taped i_size i_faultKind i_at i_end i_token i_number i_bank i_rb i_codes i_within i_piled i_unitsInRule i_askHouse i_askTune i_acts i_undone i_laid i_knowns i_time : Int32) (f_text f_tunes f_houses f_hums f_told f_many f_ruleFrom f_ruleTo f_code f_eWhat f_eSign f_all f_kept f_was f_sTune f_boxAll : Nat → Int32) (J : Nat → Nat → Int32) (L : Nat → Nat → Int64) (p0 p1 p2 p3 p4 : Int32) (sz : Nat) (hI : (IM i_taped i_size i_faultKind i_at i_end i_bank i_rb i_acts i_undone i_laid i_knowns i_time f_tunes f_houses f_hums f_told f_many f_ruleFrom f_ruleTo f_code f_all f_kept f_was f_sTune f_boxAll)) (hp0 : (0 : Int) ≤ p0.toInt) (hp1 : p0.toInt + 1 ≤ (f_tunes (i_bank.toInt).toNat).toInt) (hp2 : (0 : Int) ≤ p1.toInt) (hp3 : (p1.toInt ≤ (0 : Int)) ∨ (p1.toInt + (f_all (p0.toInt + 10).toNat).toInt + 3 ≤ (f_many (p0.toInt + 5 * i_bank.toInt).toNat).toInt)) : Met l yX9_isFrom (.code yX9_isFrom cX9_isFrom 6 (some .boolean) :: GW) { frames := 8, cells := 0, slots := 0, locals := 286 } (va_Pc [.ref (r 0), .int p0, .int p1, .int p2, .int p3, .int p4] (pR (dC, dI) (WM r ct i_taped i_size i_faultKind i_at i_end i_token i_number i_bank i_rb i_codes i_within i_piled i_unitsInRule i_askHouse i_askTune i_acts i_undone i_laid i_knowns i_time f_text f_tunes f_houses f_hums f_told f_many f_ruleFrom f_ruleTo f_code f_eWhat f_eSign f_all f_kept f_was f_sTune f_boxAll J L) (TM ct) sz)) (va_Qi (fun (r0 : Int32) (u : Int32) => r0 = u) (fun (u : Int32) (t : State) => (((u.toInt = (0 : Int))) ∨ ((u.toInt = (1 : Int)))) ∧ ((0 : Int) ≤ u.toInt) ∧ (u.toInt ≤ (1 : Int))) (fun q => sz ≤ q)) 0 0 (fun q => sz ≤ q) := by
  refine Met.ofW (cc := cX9_isFrom) (maxL := 6) (ret := (some .boolean)) (by decide) rfl ?_
  intro p e s m args below meth c0 s₁ B hml hv
  obtain ⟨rfl, hsz, hP, hK⟩ := hv
  have hx := B.exec
  have hb := B.bytes
  have hr := B.returns
  have hts := atoms_spec (ws := .code yX9_isFrom cX9_isFrom 6 (some .boolean) :: GW) B.pre
  have hG : ∀ w ∈ GW, w.before _ s = true := fun w h => hts w (List.mem_cons_of_mem _ h)
  have hown : s.vm.findClass RX9 = some m.cls := findClass_of_methodNamed B.named
  subst hsz
  have hS : va_S (fun q => s.heap.size ≤ q) s.heap s.heap [] := va_S.rf
  have hP : va_P (dC, dI) vwCl (WM r ct i_taped i_size i_faultKind i_at i_end i_token i_number i_bank i_rb i_codes i_within i_piled i_unitsInRule i_askHouse i_askTune i_acts i_undone i_laid i_knowns i_time f_text f_tunes f_houses f_hums f_told f_many f_ruleFrom f_ruleTo f_code f_eWhat f_eSign f_all f_kept f_was f_sTune f_boxAll J L) s.heap := hP
  have hl := lv_entry ([.ref (r 0), .int p0, .int p1, .int p2, .int p3, .int p4]) (n := 6) (Nat.le_of_ble_eq_true rfl)
  rw [lg_entry_eq]
  generalize (lg_sl ([.ref (r 0), .int p0, .int p1, .int p2, .int p3, .int p4]) ++ List.replicate (6 - (lg_sl ([.ref (r 0), .int p0, .int p1, .int p2, .int p3, .int p4])).length) Slot.unset).toArray = ls at hl ⊢
  have hl : lv_has ls 6 [(0, .ref (r 0)), (1, .int p0), (2, .int p1), (3, .int p2), (4, .int p3), (5, .int p4)] := hl
  refine nameQ (fun Q hQ => ?_)
  obtain ⟨ie0, ie1, ie2, ie3, ie4, ie5, ie6, ie7, ie8, ie9, ie10, ie11, ie12, ie13, ie14, ie15, ie16, ie17, ie18, ie19, ie20, ie21, ie22, ie23, ie24, ie25, ie26, ie27, ie28, ie29, ie30, ie31, ie32⟩ := id hI
  have f1 : 0 ≤ (f_tunes (i_bank.toInt).toNat).toInt ∧ (f_tunes (i_bank.toInt).toNat).toInt ≤ 5 := ie21 (i_bank.toInt)
  have f2 : 0 ≤ (f_houses (i_bank.toInt).toNat).toInt ∧ (f_houses (i_bank.toInt).toNat).toInt ≤ 4 := ie22 (i_bank.toInt)
  have f3 : 0 ≤ (f_many (p0.toInt + 5 * i_bank.toInt).toNat).toInt ∧ (f_many (p0.toInt + 5 * i_bank.toInt).toNat).toInt ≤ 8 := ie23 (p0.toInt + 5 * i_bank.toInt)
  have f4 : 5 * i_bank.toInt ≤ p0.toInt + 5 * i_bank.toInt → p0.toInt + 5 * i_bank.toInt < 5 * i_bank.toInt + (f_tunes (i_bank.toInt).toNat).toInt → 3 ≤ (f_many (p0.toInt + 5 * i_bank.toInt).toNat).toInt := ie31 (p0.toInt + 5 * i_bank.toInt)
  have f5 : (p0.toInt + 1 ≤ (f_tunes (i_bank.toInt).toNat).toInt) → ((3 : Int) ≤ (f_many (p0.toInt + 5 * i_bank.toInt).toNat).toInt) := (ob_857 hp0 f4)
  have f6 : (3 : Int) ≤ (f_many (p0.toInt + 5 * i_bank.toInt).toNat).toInt := (ob_858 hp0 hp1 f4)
  have f7 : 0 ≤ (f_all (p0.toInt + 10).toNat).toInt ∧ (f_all (p0.toInt + 10).toNat).toInt ≤ 99 := ie27 (p0.toInt + 10) (ob_862 hp0 hp1) (ob_864 f1 hp0 hp1 f3 f6) (ob_865 f1 hp0 hp1 f3 f6)
  refine lv_aload_n hx hb dX9_isFrom_0 rfl (lv_at hl 0 rfl) ?_
  refine lv_iload_n hx hb dX9_isFrom_1 rfl (lv_at hl 1 rfl) ?_
  refine lv_iload_n hx hb dX9_isFrom_2 rfl (lv_at hl 2 rfl) ?_
  refine va_calli (va_runV (As := [.int p0, .int p1]) (rest := []) ⟨hx, hb, hml, hown, hG⟩ (kX9_noteOf l dC dI r ct i_taped i_size i_faultKind i_at i_end i_token i_number i_bank i_rb i_codes i_within i_piled i_unitsInRule i_askHouse i_askTune i_acts i_undone i_laid i_knowns i_time f_text f_tunes f_houses f_hums f_told f_many f_ruleFrom f_ruleTo f_code f_eWhat f_eSign f_all f_kept f_was f_sTune f_boxAll J L p0 p1 s.heap.size hI (ob_880 hp0 hp1) (ob_881 f1 hp0 hp1) (ob_139 hp2) (ob_901 hp3)) (cwV 2 hG (goodV gw1534 gw1536 gw89 gw138 gw1537) rfl rfl rfl hd_X9_noteOf ⟨(Nat.le_of_ble_eq_true rfl), (Nat.le_of_ble_eq_true rfl)⟩) ⟨fbR, va_recv hK hP (ci := 8) (q0 := 0) rfl rfl, pR_in hP hK⟩ rfl rfl hl.1 rfl (lv_room (Nat.le_of_ble_eq_true rfl)) dX9_isFrom_3 ⟨(Nat.le_of_ble_eq_true rfl), (Nat.le_of_ble_eq_true rfl)⟩) hS (fun q hq h => absurd hq (Nat.not_lt.mpr h)) (fun q h => Nat.le_trans hS.1 h) (fun r_9 u_ t_ H8 locs ht hvm hw hB hz1 hk1 hS => ?_)
  subst hw
  have hP := wk hP hk1
  refine lv_iload_n hx hb dX9_isFrom_6 rfl (lv_at hl 3 rfl) ?_
  refine lv_icmp_ne (tgt := 40) hx hb dX9_isFrom_7 (by decide) (fun c_10 => ?_) (fun c_10 => ?_)
  · skip
    have f11 : r_9.toInt ≠ p2.toInt := qi_ne c_10 rfl rfl
    refine lv_iconst (v := 0) hx hb dX9_isFrom_40 (by decide) ?_
    rw [hQ]
    exact W.zret (v := 0) hx hb hr (by decide) (fun t ht hW => ⟨⟨0, 0, rfl, rfl, ⟨(ob_488 zc_0), (ob_1 zc_0), (ob_11 zc_0)⟩⟩, hS.F ht⟩) hS.2.2 dX9_isFrom_41
  · skip
    have f12 : r_9.toInt = p2.toInt := qi_eq c_10 rfl rfl
    refine lv_aload_n hx hb dX9_isFrom_10 rfl (lv_at hl 0 rfl) ?_
    refine lv_iload_n hx hb dX9_isFrom_11 rfl (lv_at hl 1 rfl) ?_
    refine lv_iload_n hx hb dX9_isFrom_12 rfl (lv_at hl 2 rfl) ?_
    refine lv_iconst (v := 1) hx hb dX9_isFrom_13 (by decide) ?_
    refine lv_iadd hx hb dX9_isFrom_14 ?_
    refine lv_topi (fun x13 ex13 => ?_)
    have f14 : x13.toInt = p1.toInt + 1 := (ob_142 (qi_add ex13 rfl zc_1 (ob_140 hp2) (ob_902 hp3 f3 f7)))
    refine va_calli (va_runV (As := [.int p0, .int x13]) (rest := []) ⟨hx, hb, hml, hown, hG⟩ (kX9_noteOf l dC dI r ct i_taped i_size i_faultKind i_at i_end i_token i_number i_bank i_rb i_codes i_within i_piled i_unitsInRule i_askHouse i_askTune i_acts i_undone i_laid i_knowns i_time f_text f_tunes f_houses f_hums f_told f_many f_ruleFrom f_ruleTo f_code f_eWhat f_eSign f_all f_kept f_was f_sTune f_boxAll J L p0 x13 H8.size hI (ob_880 hp0 hp1) (ob_881 f1 hp0 hp1) (ob_149 hp2 f14) (ob_903 hp3 f14)) (cwV 2 hG (goodV gw1534 gw1536 gw89 gw138 gw1537) rfl rfl rfl hd_X9_noteOf ⟨(Nat.le_of_ble_eq_true rfl), (Nat.le_of_ble_eq_true rfl)⟩) ⟨fbR, va_recv hK hP (ci := 8) (q0 := 0) rfl rfl, pR_in hP hK⟩ rfl rfl hl.1 rfl (lv_room (Nat.le_of_ble_eq_true rfl)) dX9_isFrom_15 ⟨(Nat.le_of_ble_eq_true rfl), (Nat.le_of_ble_eq_true rfl)⟩) hS (fun q hq h => absurd hq (Nat.not_lt.mpr h)) (fun q h => Nat.le_trans hS.1 h) (fun r_16 u_ t_ H15 locs ht hvm hw hB hz1 hk1 hS => ?_)
    subst hw
    have hP := wk hP hk1
    refine lv_iload hx hb dX9_isFrom_18 (lv_at hl 4 rfl) ?_
    refine lv_icmp_ne (tgt := 40) hx hb dX9_isFrom_20 (by decide) (fun c_17 => ?_) (fun c_17 => ?_)
    · skip
      have f18 : r_16.toInt ≠ p3.toInt := qi_ne c_17 rfl rfl
      refine lv_iconst (v := 0) hx hb dX9_isFrom_40 (by decide) ?_
      rw [hQ]
      exact W.zret (v := 0) hx hb hr (by decide) (fun t ht hW => ⟨⟨0, 0, rfl, rfl, ⟨(ob_488 zc_0), (ob_1 zc_0), (ob_11 zc_0)⟩⟩, hS.F ht⟩) hS.2.2 dX9_isFrom_41
    · skip
      have f19 : r_16.toInt = p3.toInt := qi_eq c_17 rfl rfl
      refine lv_aload_n hx hb dX9_isFrom_23 rfl (lv_at hl 0 rfl) ?_
      refine lv_iload_n hx hb dX9_isFrom_24 rfl (lv_at hl 1 rfl) ?_
      refine lv_iload_n hx hb dX9_isFrom_25 rfl (lv_at hl 2 rfl) ?_
      refine lv_iconst (v := 2) hx hb dX9_isFrom_26 (by decide) ?_
      refine lv_iadd hx hb dX9_isFrom_27 ?_
      refine lv_topi (fun x20 ex20 => ?_)
      have f21 : x20.toInt = p1.toInt + 2 := (ob_906 (qi_add ex20 rfl zc_2 (ob_904 hp2) (ob_905 hp3 f3 f7)))
      refine va_calli (va_runV (As := [.int p0, .int x20]) (rest := []) ⟨hx, hb, hml, hown, hG⟩ (kX9_noteOf l dC dI r ct i_taped i_size i_faultKind i_at i_end i_token i_number i_bank i_rb i_codes i_within i_piled i_unitsInRule i_askHouse i_askTune i_acts i_undone i_laid i_knowns i_time f_text f_tunes f_houses f_hums f_told f_many f_ruleFrom f_ruleTo f_code f_eWhat f_eSign f_all f_kept f_was f_sTune f_boxAll J L p0 x20 H15.size hI (ob_880 hp0 hp1) (ob_881 f1 hp0 hp1) (ob_907 hp2 f21) (ob_908 hp3 f21)) (cwV 2 hG (goodV gw1534 gw1536 gw89 gw138 gw1537) rfl rfl rfl hd_X9_noteOf ⟨(Nat.le_of_ble_eq_true rfl), (Nat.le_of_ble_eq_true rfl)⟩) ⟨fbR, va_recv hK hP (ci := 8) (q0 := 0) rfl rfl, pR_in hP hK⟩ rfl rfl hl.1 rfl (lv_room (Nat.le_of_ble_eq_true rfl)) dX9_isFrom_28 ⟨(Nat.le_of_ble_eq_true rfl), (Nat.le_of_ble_eq_true rfl)⟩) hS (fun q hq h => absurd hq (Nat.not_lt.mpr h)) (fun q h => Nat.le_trans hS.1 h) (fun r_23 u_ t_ H22 locs ht hvm hw hB hz1 hk1 hS => ?_)
      subst hw
      have hP := wk hP hk1
      refine lv_iload hx hb dX9_isFrom_31 (lv_at hl 5 rfl) ?_
      refine lv_icmp_ne (tgt := 40) hx hb dX9_isFrom_33 (by decide) (fun c_24 => ?_) (fun c_24 => ?_)
      · skip
        have f25 : r_23.toInt ≠ p4.toInt := qi_ne c_24 rfl rfl
        refine lv_iconst (v := 0) hx hb dX9_isFrom_40 (by decide) ?_
        rw [hQ]
        exact W.zret (v := 0) hx hb hr (by decide) (fun t ht hW => ⟨⟨0, 0, rfl, rfl, ⟨(ob_488 zc_0), (ob_1 zc_0), (ob_11 zc_0)⟩⟩, hS.F ht⟩) hS.2.2 dX9_isFrom_41
      · skip
        have f26 : r_23.toInt = p4.toInt := qi_eq c_24 rfl rfl
        refine lv_iconst (v := 1) hx hb dX9_isFrom_36 (by decide) ?_
        refine lv_goto (tgt := 41) hx hb dX9_isFrom_37 (by decide) ?_
        rw [hQ]
        exact W.zret (v := 1) hx hb hr (by decide) (fun t ht hW => ⟨⟨1, 1, rfl, rfl, ⟨(ob_491 zc_1), (ob_14 zc_1), (ob_15 zc_1)⟩⟩, hS.F ht⟩) hS.2.2 dX9_isFrom_41
set_option maxHeartbeats 4000000 in
set_option maxRecDepth 100000 in
theorem kX9_isInIt (l : Launch) (dC : Nat → ClassId) (dI : Nat → Nat → Nat) (r : Nat → Nat) (ct : Nat → ClassId) (i_taped i_size i_faultKind i_at i_end i_token i_number i_bank i_rb i_codes i_within i_piled i_unitsInRule i_askHouse i_askTune i_acts i_undone i_laid i_knowns i_time : Int32) (f_text f_tunes f_houses f_hums f_told f_many f_ruleFrom f_ruleTo f_code f_eWhat f_eSign f_all f_kept f_was f_sTune f_boxAll : Nat → Int32) (J : Nat → Nat → Int32) (L : Nat → Nat → Int64) (p0 p1 p2 p3 : Int32) (sz : Nat) (hI : (IM i_taped i_size i_faultKind i_at i_end i_bank i_rb i_acts i_undone i_laid i_knowns i_time f_tunes f_houses f_hums f_told f_many f_ruleFrom f_ruleTo f_code f_all f_kept f_was f_sTune f_boxAll)) (hp0 : (0 : Int) ≤ p0.toInt) (hp1 : p0.toInt + 1 ≤ (f_tunes (i_bank.toInt).toNat).toInt) : Met l yX9_isInIt (.code yX9_isInIt cX9_isInIt 6 (some .boolean) :: GW) { frames := 10, cells := 0, slots := 0, locals := 351 } (va_Pc [.ref (r 0), .int p0, .int p1, .int p2, .int p3] (pR (dC, dI) (WM r ct i_taped i_size i_faultKind i_at i_end i_token i_number i_bank i_rb i_codes i_within i_piled i_unitsInRule i_askHouse i_askTune i_acts i_undone i_laid i_knowns i_time f_text f_tunes f_houses f_hums f_told f_many f_ruleFrom f_ruleTo f_code f_eWhat f_eSign f_all f_kept f_was f_sTune f_boxAll J L) (TM ct) sz)) (va_Qi (fun (r0 : Int32) (u : Int32) => r0 = u) (fun (u : Int32) (t : State) => (((u.toInt = (0 : Int))) ∨ ((u.toInt = (1 : Int)))) ∧ ((0 : Int) ≤ u.toInt) ∧ (u.toInt ≤ (1 : Int))) (fun q => sz ≤ q)) 0 0 (fun q => sz ≤ q) := by
  refine Met.ofW (cc := cX9_isInIt) (maxL := 6) (ret := (some .boolean)) (by decide) rfl ?_
  intro p e s m args below meth c0 s₁ B hml hv
  obtain ⟨rfl, hsz, hP, hK⟩ := hv
  have hx := B.exec
  have hb := B.bytes
  have hr := B.returns
  have hts := atoms_spec (ws := .code yX9_isInIt cX9_isInIt 6 (some .boolean) :: GW) B.pre
  have hG : ∀ w ∈ GW, w.before _ s = true := fun w h => hts w (List.mem_cons_of_mem _ h)
  have hown : s.vm.findClass RX9 = some m.cls := findClass_of_methodNamed B.named
  subst hsz
  have hS : va_S (fun q => s.heap.size ≤ q) s.heap s.heap [] := va_S.rf
  have hP : va_P (dC, dI) vwCl (WM r ct i_taped i_size i_faultKind i_at i_end i_token i_number i_bank i_rb i_codes i_within i_piled i_unitsInRule i_askHouse i_askTune i_acts i_undone i_laid i_knowns i_time f_text f_tunes f_houses f_hums f_told f_many f_ruleFrom f_ruleTo f_code f_eWhat f_eSign f_all f_kept f_was f_sTune f_boxAll J L) s.heap := hP
  have hl := lv_entry ([.ref (r 0), .int p0, .int p1, .int p2, .int p3]) (n := 6) (Nat.le_of_ble_eq_true rfl)
  rw [lg_entry_eq]
  generalize (lg_sl ([.ref (r 0), .int p0, .int p1, .int p2, .int p3]) ++ List.replicate (6 - (lg_sl ([.ref (r 0), .int p0, .int p1, .int p2, .int p3])).length) Slot.unset).toArray = ls at hl ⊢
  have hl : lv_has ls 6 [(0, .ref (r 0)), (1, .int p0), (2, .int p1), (3, .int p2), (4, .int p3)] := hl
  refine nameQ (fun Q hQ => ?_)
  obtain ⟨ie0, ie1, ie2, ie3, ie4, ie5, ie6, ie7, ie8, ie9, ie10, ie11, ie12, ie13, ie14, ie15, ie16, ie17, ie18, ie19, ie20, ie21, ie22, ie23, ie24, ie25, ie26, ie27, ie28, ie29, ie30, ie31, ie32⟩ := id hI
  have f1 : 0 ≤ (f_tunes (i_bank.toInt).toNat).toInt ∧ (f_tunes (i_bank.toInt).toNat).toInt ≤ 5 := ie21 (i_bank.toInt)
  have f2 : 0 ≤ (f_houses (i_bank.toInt).toNat).toInt ∧ (f_houses (i_bank.toInt).toNat).toInt ≤ 4 := ie22 (i_bank.toInt)
  refine lv_iconst (v := 0) hx hb dX9_isInIt_0 (by decide) ?_
  refine lv_istore (lv' := [(5, .int 0), (0, .ref (r 0)), (1, .int p0), (2, .int p1), (3, .int p2), (4, .int p3)]) hx hb dX9_isInIt_1 hl (by decide) rfl (fun ls hl => ?_)
  have L3 : ∀ (N3 : Nat) (y3_5 : Int32) (H3 : Heap) (locs : List Loc) (ls : Array Slot) (g3_0 : (0 : Int) ≤ y3_5.toInt) (g3_1 : y3_5.toInt ≤ (6 : Int)) (hP : va_P (dC, dI) vwCl (WM r ct i_taped i_size i_faultKind i_at i_end i_token i_number i_bank i_rb i_codes i_within i_piled i_unitsInRule i_askHouse i_askTune i_acts i_undone i_laid i_knowns i_time f_text f_tunes f_houses f_hums f_told f_many f_ruleFrom f_ruleTo f_code f_eWhat f_eSign f_all f_kept f_was f_sTune f_boxAll J L) H3) (hS : va_S (fun q => s.heap.size ≤ q) s.heap H3 locs) (hl : lv_has ls 6 [(0, .ref (r 0)), (1, .int p0), (2, .int p1), (3, .int p2), (4, .int p3), (5, .int y3_5)]) (hM : -1 * y3_5.toInt + 6 < (N3 : Int)), W p l e { frames := 10, cells := 0, slots := 0, locals := 351 } s m ([.ref (r 0), .int p0, .int p1, .int p2, .int p3] : List Value).toArray below meth c0 H3 locs 0 0 Q (F0 m 3 ls []) := by
    intro N3
    induction N3 with
    | zero =>
      intro y3_5 H3 locs ls g3_0 g3_1 hP hS hl hM
      exact ((ob_909 hM g3_0 g3_1)).elim
    | succ N3 ih3 =>
      intro y3_5 H3 locs ls g3_0 g3_1 hP hS hl hM
      have hM3 := msucc hM
      refine lv_iload hx hb dX9_isInIt_3 (lv_at hl 5 rfl) ?_
      refine lv_iconst (v := 2) hx hb dX9_isInIt_5 (by decide) ?_
      refine lv_iadd hx hb dX9_isInIt_6 ?_
      refine lv_topi (fun x3 ex3 => ?_)
      have f4 : x3.toInt = y3_5.toInt + 2 := (ob_906 (qi_add ex3 rfl zc_2 (ob_910 g3_0 g3_1 hM3) (ob_911 g3_0 g3_1 hM3)))
      refine lv_aload_n hx hb dX9_isInIt_7 rfl (lv_at hl 0 rfl) ?_
      refine lv_iload_n hx hb dX9_isInIt_8 rfl (lv_at hl 1 rfl) ?_
      refine va_calli (va_runV (As := [.int p0]) (rest := [.int x3]) ⟨hx, hb, hml, hown, hG⟩ (kX9_leftOf l dC dI r ct i_taped i_size i_faultKind i_at i_end i_token i_number i_bank i_rb i_codes i_within i_piled i_unitsInRule i_askHouse i_askTune i_acts i_undone i_laid i_knowns i_time f_text f_tunes f_houses f_hums f_told f_many f_ruleFrom f_ruleTo f_code f_eWhat f_eSign f_all f_kept f_was f_sTune f_boxAll J L p0 H3.size hI (ob_880 hp0 hp1) (ob_881 f1 hp0 hp1)) (cwV 1 hG (goodV gw1523 gw1525 gw88 gw138 gw1526) rfl rfl rfl hd_X9_leftOf ⟨(Nat.le_of_ble_eq_true rfl), (Nat.le_of_ble_eq_true rfl)⟩) ⟨fbR, va_recv hK hP (ci := 8) (q0 := 0) rfl rfl, pR_in hP hK⟩ rfl rfl hl.1 rfl (lv_room (Nat.le_of_ble_eq_true rfl)) dX9_isInIt_9 ⟨(Nat.le_of_ble_eq_true rfl), (Nat.le_of_ble_eq_true rfl)⟩) hS (fun q hq h => absurd hq (Nat.not_lt.mpr h)) (fun q h => Nat.le_trans hS.1 h) (fun r_6 u_ t_ H5 locs ht hvm hw hB hz1 hk1 hS => ?_)
      subst hw
      have hP := wk hP hk1
      obtain ⟨f7, f8, f9, f10, f11, f12, f13⟩ := hB
      refine lv_icmp_ge (tgt := 37) hx hb dX9_isInIt_12 (by decide) (fun c_14 => ?_) (fun c_14 => ?_)
      · skip
        have f15 : r_6.toInt ≤ x3.toInt := qi_le c_14 rfl rfl
        refine lv_iconst (v := 0) hx hb dX9_isInIt_37 (by decide) ?_
        rw [hQ]
        exact W.zret (v := 0) hx hb hr (by decide) (fun t ht hW => ⟨⟨0, 0, rfl, rfl, ⟨(ob_488 zc_0), (ob_1 zc_0), (ob_11 zc_0)⟩⟩, hS.F ht⟩) hS.2.2 dX9_isInIt_38
      · skip
        have f16 : x3.toInt < r_6.toInt := qi_nle c_14 rfl rfl
        refine lv_aload_n hx hb dX9_isInIt_15 rfl (lv_at hl 0 rfl) ?_
        refine lv_iload_n hx hb dX9_isInIt_16 rfl (lv_at hl 1 rfl) ?_
        refine lv_iload hx hb dX9_isInIt_17 (lv_at hl 5 rfl) ?_
        refine lv_iload_n hx hb dX9_isInIt_19 rfl (lv_at hl 2 rfl) ?_
        refine lv_iload_n hx hb dX9_isInIt_20 rfl (lv_at hl 3 rfl) ?_
        refine lv_iload hx hb dX9_isInIt_21 (lv_at hl 4 rfl) ?_
        refine va_calli (va_runV (As := [.int p0, .int y3_5, .int p1, .int p2, .int p3]) (rest := []) ⟨hx, hb, hml, hown, hG⟩ (kX9_isFrom l dC dI r ct i_taped i_size i_faultKind i_at i_end i_token i_number i_bank i_rb i_codes i_within i_piled i_unitsInRule i_askHouse i_askTune i_acts i_undone i_laid i_knowns i_time f_text f_tunes f_houses f_hums f_told f_many f_ruleFrom f_ruleTo f_code f_eWhat f_eSign f_all f_kept f_was f_sTune f_boxAll J L p0 y3_5 p1 p2 p3 H5.size hI (ob_880 hp0 hp1) (ob_881 f1 hp0 hp1) (ob_139 g3_0) (ob_912 f13 f16 f4)) (cwV 5 hG (goodV gw1594 gw1596 gw102 gw138 gw1597) rfl rfl rfl hd_X9_isFrom ⟨(Nat.le_of_ble_eq_true rfl), (Nat.le_of_ble_eq_true rfl)⟩) ⟨fbR, va_recv hK hP (ci := 8) (q0 := 0) rfl rfl, pR_in hP hK⟩ rfl rfl hl.1 rfl (lv_room (Nat.le_of_ble_eq_true rfl)) dX9_isInIt_23 ⟨(Nat.le_of_ble_eq_true rfl), (Nat.le_of_ble_eq_true rfl)⟩) hS (fun q hq h => absurd hq (Nat.not_lt.mpr h)) (fun q h => Nat.le_trans hS.1 h) (fun r_18 u_ t_ H17 locs ht hvm hw hB hz1 hk1 hS => ?_)
        subst hw
        have hP := wk hP hk1
        obtain ⟨f19, f20, f21⟩ := hB
        refine lv_if_eq (tgt := 31) hx hb dX9_isInIt_26 (by decide) (fun c_22 => ?_) (fun c_22 => ?_)
        · skip
          have f23 : r_18.toInt = 0 := qi_eq c_22 rfl zc_0
          have f24 : r_18.toInt = (0 : Int) := (ob_226 f20 f21 f23)
          obtain ⟨x25, ex25⟩ : ∃ y : Int32, y = y3_5 + Int32.ofInt 1 := ⟨_, rfl⟩
          have f26 : x25.toInt = y3_5.toInt + 1 := (ob_142 (qi_add ex25 rfl (by decide) (ob_140 g3_0) (ob_913 g3_1)))
          refine lv_iinc (v := x25) (lv' := [(5, .int x25), (0, .ref (r 0)), (1, .int p0), (2, .int p1), (3, .int p2), (4, .int p3)]) hx hb dX9_isInIt_31 hl (k := 5) rfl ex25.symm (by decide) rfl (fun ls hl => ?_)
          refine lv_goto (tgt := 3) hx hb dX9_isInIt_34 (by decide) ?_
          exact ih3 x25 H17 _ _ (ob_149 g3_0 f26) (ob_914 f12 f16 f4 f26) hP hS (lv_sub hl [1, 2, 3, 4, 5, 0] rfl) (ob_915 hM3 f26)
        · skip
          have f27 : r_18.toInt ≠ 0 := qi_ne c_22 rfl zc_0
          have f28 : r_18.toInt = (1 : Int) := (ob_592 f19 f27)
          have f29 : (1 : Int) ≤ r_18.toInt := (ob_162 f20 f21 f28)
          refine lv_iconst (v := 1) hx hb dX9_isInIt_29 (by decide) ?_
          rw [hQ]
          exact W.zret (v := 1) hx hb hr (by decide) (fun t ht hW => ⟨⟨1, 1, rfl, rfl, ⟨(ob_491 zc_1), (ob_14 zc_1), (ob_15 zc_1)⟩⟩, hS.F ht⟩) hS.2.2 dX9_isInIt_30
  exact L3 (-1 * (0 : Int32).toInt + 6 + 1).toNat 0 s.heap _ _ (ob_1 zc_0) (ob_445 zc_0) hP hS (lv_sub hl [1, 2, 3, 4, 5, 0] rfl) (mlt (ob_916 zc_0))
set_option maxHeartbeats 4000000 in
set_option maxRecDepth 100000 in
theorem kX9_turnOf (l : Launch) (dC : Nat → ClassId) (dI : Nat → Nat → Nat) (r : Nat → Nat) (ct : Nat → ClassId) (i_taped i_size i_faultKind i_at i_end i_token i_number i_bank i_rb i_codes i_within i_piled i_unitsInRule i_askHouse i_askTune i_acts i_undone i_laid i_knowns i_time : Int32) (f_text f_tunes f_houses f_hums f_told f_many f_ruleFrom f_ruleTo f_code f_eWhat f_eSign f_all f_kept f_was f_sTune f_boxAll : Nat → Int32) (J : Nat → Nat → Int32) (L : Nat → Nat → Int64) (p0 p1 : Int32) (sz : Nat) (hI : (IM i_taped i_size i_faultKind i_at i_end i_bank i_rb i_acts i_undone i_laid i_knowns i_time f_tunes f_houses f_hums f_told f_many f_ruleFrom f_ruleTo f_code f_all f_kept f_was f_sTune f_boxAll)) (hp0 : (0 : Int) ≤ p0.toInt) (hp1 : p0.toInt + 1 ≤ (f_houses (i_bank.toInt).toNat).toInt) (hp2 : (0 : Int) ≤ p1.toInt) (hp3 : p1.toInt + 1 ≤ (f_tunes (i_bank.toInt).toNat).toInt) : Met l yX9_turnOf (.code yX9_turnOf cX9_turnOf 3 (some .int) :: GW) { frames := 12, cells := 0, slots := 0, locals := 416 } (va_Pc [.ref (r 0), .int p0, .int p1] (pR (dC, dI) (WM r ct i_taped i_size i_faultKind i_at i_end i_token i_number i_bank i_rb i_codes i_within i_piled i_unitsInRule i_askHouse i_askTune i_acts i_undone i_laid i_knowns i_time f_text f_tunes f_houses f_hums f_told f_many f_ruleFrom f_ruleTo f_code f_eWhat f_eSign f_all f_kept f_was f_sTune f_boxAll J L) (TM ct) sz)) (va_Qi (fun (r0 : Int32) (u : Int32) => r0 = u) (fun (u : Int32) (t : State) => (((u.toInt = (0 : Int))) ∨ ((u.toInt = (1 : Int)))) ∧ ((0 : Int) ≤ u.toInt) ∧ (u.toInt ≤ (1 : Int))) (fun q => sz ≤ q)) 0 0 (fun q => sz ≤ q) := by
  refine Met.ofW (cc := cX9_turnOf) (maxL := 3) (ret := (some .int)) (by decide) rfl ?_
  intro p e s m args below meth c0 s₁ B hml hv
  obtain ⟨rfl, hsz, hP, hK⟩ := hv
  have hx := B.exec
  have hb := B.bytes
  have hr := B.returns
  have hts := atoms_spec (ws := .code yX9_turnOf cX9_turnOf 3 (some .int) :: GW) B.pre
  have hG : ∀ w ∈ GW, w.before _ s = true := fun w h => hts w (List.mem_cons_of_mem _ h)
  have hown : s.vm.findClass RX9 = some m.cls := findClass_of_methodNamed B.named
  subst hsz
  have hS : va_S (fun q => s.heap.size ≤ q) s.heap s.heap [] := va_S.rf
  have hP : va_P (dC, dI) vwCl (WM r ct i_taped i_size i_faultKind i_at i_end i_token i_number i_bank i_rb i_codes i_within i_piled i_unitsInRule i_askHouse i_askTune i_acts i_undone i_laid i_knowns i_time f_text f_tunes f_houses f_hums f_told f_many f_ruleFrom f_ruleTo f_code f_eWhat f_eSign f_all f_kept f_was f_sTune f_boxAll J L) s.heap := hP
  have hl := lv_entry ([.ref (r 0), .int p0, .int p1]) (n := 3) (Nat.le_of_ble_eq_true rfl)
  rw [lg_entry_eq]
  generalize (lg_sl ([.ref (r 0), .int p0, .int p1]) ++ List.replicate (3 - (lg_sl ([.ref (r 0), .int p0, .int p1])).length) Slot.unset).toArray = ls at hl ⊢
  have hl : lv_has ls 3 [(0, .ref (r 0)), (1, .int p0), (2, .int p1)] := hl
  refine nameQ (fun Q hQ => ?_)
  obtain ⟨ie0, ie1, ie2, ie3, ie4, ie5, ie6, ie7, ie8, ie9, ie10, ie11, ie12, ie13, ie14, ie15, ie16, ie17, ie18, ie19, ie20, ie21, ie22, ie23, ie24, ie25, ie26, ie27, ie28, ie29, ie30, ie31, ie32⟩ := id hI
  have f1 : 0 ≤ (f_tunes (i_bank.toInt).toNat).toInt ∧ (f_tunes (i_bank.toInt).toNat).toInt ≤ 5 := ie21 (i_bank.toInt)
  have f2 : 0 ≤ (f_houses (i_bank.toInt).toNat).toInt ∧ (f_houses (i_bank.toInt).toNat).toInt ≤ 4 := ie22 (i_bank.toInt)
  refine lv_aload_n hx hb dX9_turnOf_0 rfl (lv_at hl 0 rfl) ?_
  refine lv_iload_n hx hb dX9_turnOf_1 rfl (lv_at hl 2 rfl) ?_
  refine lv_aload_n hx hb dX9_turnOf_2 rfl (lv_at hl 0 rfl) ?_
  refine lv_iload_n hx hb dX9_turnOf_3 rfl (lv_at hl 1 rfl) ?_
  refine lv_iconst (v := 0) hx hb dX9_turnOf_4 (by decide) ?_
  refine va_calli (va_runV (As := [.int p0, .int 0]) (rest := [.int p1, .ref (r 0)]) ⟨hx, hb, hml, hown, hG⟩ (kX9_likesOf l dC dI r ct i_taped i_size i_faultKind i_at i_end i_token i_number i_bank i_rb i_codes i_within i_piled i_unitsInRule i_askHouse i_askTune i_acts i_undone i_laid i_knowns i_time f_text f_tunes f_houses f_hums f_told f_many f_ruleFrom f_ruleTo f_code f_eWhat f_eSign f_all f_kept f_was f_sTune f_boxAll J L p0 0 s.heap.size hI (ob_880 hp0 hp1) (ob_898 f2 hp0 hp1) (ob_1 zc_0) (ob_899 zc_0)) (cwV 2 hG (goodV gw1582 gw1584 gw99 gw138 gw1585) rfl rfl rfl hd_X9_likesOf ⟨(Nat.le_of_ble_eq_true rfl), (Nat.le_of_ble_eq_true rfl)⟩) ⟨fbR, va_recv hK hP (ci := 8) (q0 := 0) rfl rfl, pR_in hP hK⟩ rfl rfl hl.1 rfl (lv_room (Nat.le_of_ble_eq_true rfl)) dX9_turnOf_5 ⟨(Nat.le_of_ble_eq_true rfl), (Nat.le_of_ble_eq_true rfl)⟩) hS (fun q hq h => absurd hq (Nat.not_lt.mpr h)) (fun q h => Nat.le_trans hS.1 h) (fun r_4 u_ t_ H3 locs ht hvm hw hB hz1 hk1 hS => ?_)
  subst hw
  have hP := wk hP hk1
  refine lv_aload_n hx hb dX9_turnOf_8 rfl (lv_at hl 0 rfl) ?_
  refine lv_iload_n hx hb dX9_turnOf_9 rfl (lv_at hl 1 rfl) ?_
  refine lv_iconst (v := 1) hx hb dX9_turnOf_10 (by decide) ?_
  refine va_calli (va_runV (As := [.int p0, .int 1]) (rest := [.int r_4, .int p1, .ref (r 0)]) ⟨hx, hb, hml, hown, hG⟩ (kX9_likesOf l dC dI r ct i_taped i_size i_faultKind i_at i_end i_token i_number i_bank i_rb i_codes i_within i_piled i_unitsInRule i_askHouse i_askTune i_acts i_undone i_laid i_knowns i_time f_text f_tunes f_houses f_hums f_told f_many f_ruleFrom f_ruleTo f_code f_eWhat f_eSign f_all f_kept f_was f_sTune f_boxAll J L p0 1 H3.size hI (ob_880 hp0 hp1) (ob_898 f2 hp0 hp1) (ob_14 zc_1) (ob_535 zc_1)) (cwV 2 hG (goodV gw1582 gw1584 gw99 gw138 gw1585) rfl rfl rfl hd_X9_likesOf ⟨(Nat.le_of_ble_eq_true rfl), (Nat.le_of_ble_eq_true rfl)⟩) ⟨fbR, va_recv hK hP (ci := 8) (q0 := 0) rfl rfl, pR_in hP hK⟩ rfl rfl hl.1 rfl (lv_room (Nat.le_of_ble_eq_true rfl)) dX9_turnOf_11 ⟨(Nat.le_of_ble_eq_true rfl), (Nat.le_of_ble_eq_true rfl)⟩) hS (fun q hq h => absurd hq (Nat.not_lt.mpr h)) (fun q h => Nat.le_trans hS.1 h) (fun r_6 u_ t_ H5 locs ht hvm hw hB hz1 hk1 hS => ?_)
  subst hw
  have hP := wk hP hk1
  refine lv_aload_n hx hb dX9_turnOf_14 rfl (lv_at hl 0 rfl) ?_
  refine lv_iload_n hx hb dX9_turnOf_15 rfl (lv_at hl 1 rfl) ?_
  refine lv_iconst (v := 2) hx hb dX9_turnOf_16 (by decide) ?_
  refine va_calli (va_runV (As := [.int p0, .int 2]) (rest := [.int r_6, .int r_4, .int p1, .ref (r 0)]) ⟨hx, hb, hml, hown, hG⟩ (kX9_likesOf l dC dI r ct i_taped i_size i_faultKind i_at i_end i_token i_number i_bank i_rb i_codes i_within i_piled i_unitsInRule i_askHouse i_askTune i_acts i_undone i_laid i_knowns i_time f_text f_tunes f_houses f_hums f_told f_many f_ruleFrom f_ruleTo f_code f_eWhat f_eSign f_all f_kept f_was f_sTune f_boxAll J L p0 2 H5.size hI (ob_880 hp0 hp1) (ob_898 f2 hp0 hp1) (ob_471 zc_2) (ob_540 zc_2)) (cwV 2 hG (goodV gw1582 gw1584 gw99 gw138 gw1585) rfl rfl rfl hd_X9_likesOf ⟨(Nat.le_of_ble_eq_true rfl), (Nat.le_of_ble_eq_true rfl)⟩) ⟨fbR, va_recv hK hP (ci := 8) (q0 := 0) rfl rfl, pR_in hP hK⟩ rfl rfl hl.1 rfl (lv_room (Nat.le_of_ble_eq_true rfl)) dX9_turnOf_17 ⟨(Nat.le_of_ble_eq_true rfl), (Nat.le_of_ble_eq_true rfl)⟩) hS (fun q hq h => absurd hq (Nat.not_lt.mpr h)) (fun q h => Nat.le_trans hS.1 h) (fun r_8 u_ t_ H7 locs ht hvm hw hB hz1 hk1 hS => ?_)
  subst hw
  have hP := wk hP hk1
  refine va_calli (va_runV (As := [.int p1, .int r_4, .int r_6, .int r_8]) (rest := []) ⟨hx, hb, hml, hown, hG⟩ (kX9_isInIt l dC dI r ct i_taped i_size i_faultKind i_at i_end i_token i_number i_bank i_rb i_codes i_within i_piled i_unitsInRule i_askHouse i_askTune i_acts i_undone i_laid i_knowns i_time f_text f_tunes f_houses f_hums f_told f_many f_ruleFrom f_ruleTo f_code f_eWhat f_eSign f_all f_kept f_was f_sTune f_boxAll J L p1 r_4 r_6 r_8 H7.size hI (ob_880 hp2 hp3) (ob_881 f1 hp2 hp3)) (cwV 4 hG (goodV gw1590 gw1592 gw101 gw138 gw1593) rfl rfl rfl hd_X9_isInIt ⟨(Nat.le_of_ble_eq_true rfl), (Nat.le_of_ble_eq_true rfl)⟩) ⟨fbR, va_recv hK hP (ci := 8) (q0 := 0) rfl rfl, pR_in hP hK⟩ rfl rfl hl.1 rfl (lv_room (Nat.le_of_ble_eq_true rfl)) dX9_turnOf_20 ⟨(Nat.le_of_ble_eq_true rfl), (Nat.le_of_ble_eq_true rfl)⟩) hS (fun q hq h => absurd hq (Nat.not_lt.mpr h)) (fun q h => Nat.le_trans hS.1 h) (fun r_10 u_ t_ H9 locs ht hvm hw hB hz1 hk1 hS => ?_)
  subst hw
  have hP := wk hP hk1
  obtain ⟨f11, f12, f13⟩ := hB
  refine lv_if_eq (tgt := 30) hx hb dX9_turnOf_23 (by decide) (fun c_14 => ?_) (fun c_14 => ?_)
  · skip
    have f15 : r_10.toInt = 0 := qi_eq c_14 rfl zc_0
    have f16 : r_10.toInt = (0 : Int) := (ob_226 f12 f13 f15)
    refine lv_iconst (v := 0) hx hb dX9_turnOf_30 (by decide) ?_
    rw [hQ]
    exact W.iret (v := 0) hx hb hr (fun t ht hW => ⟨⟨0, 0, rfl, rfl, ⟨(ob_488 zc_0), (ob_1 zc_0), (ob_11 zc_0)⟩⟩, hS.F ht⟩) hS.2.2 dX9_turnOf_31
  · skip
    have f17 : r_10.toInt ≠ 0 := qi_ne c_14 rfl zc_0
    have f18 : r_10.toInt = (1 : Int) := (ob_592 f11 f17)
    have f19 : (1 : Int) ≤ r_10.toInt := (ob_162 f12 f13 f18)
    refine lv_iconst (v := 1) hx hb dX9_turnOf_26 (by decide) ?_
    refine lv_goto (tgt := 31) hx hb dX9_turnOf_27 (by decide) ?_
    rw [hQ]
    exact W.iret (v := 1) hx hb hr (fun t ht hW => ⟨⟨1, 1, rfl, rfl, ⟨(ob_491 zc_1), (ob_14 zc_1), (ob_15 zc_1)⟩⟩, hS.F ht⟩) hS.2.2 dX9_turnOf_31
set_option maxHeartbeats 4000000 in
set_option maxRecDepth 100000 in
theorem kX9_asked (l : Launch) (dC : Nat → ClassId) (dI : Nat → Nat → Nat) (r : Nat → Nat) (ct : Nat → ClassId) (i_taped i_size i_faultKind i_at i_end i_token i_number i_bank i_rb i_codes i_within i_piled i_unitsInRule i_askHouse i_askTune i_acts i_undone i_laid i_knowns i_time : Int32) (f_text f_tunes f_houses f_hums f_told f_many f_ruleFrom f_ruleTo f_code f_eWhat f_eSign f_all f_kept f_was f_sTune f_boxAll : Nat → Int32) (J : Nat → Nat → Int32) (L : Nat → Nat → Int64) (p0 p1 : Int32) (sz : Nat) (hI : (IM i_taped i_size i_faultKind i_at i_end i_bank i_rb i_acts i_undone i_laid i_knowns i_time f_tunes f_houses f_hums f_told f_many f_ruleFrom f_ruleTo f_code f_all f_kept f_was f_sTune f_boxAll)) (hp0 : (0 : Int) ≤ i_askHouse.toInt) (hp1 : i_askHouse.toInt + 1 ≤ (f_houses (i_bank.toInt).toNat).toInt) (hp2 : (0 : Int) ≤ i_askTune.toInt) (hp3 : i_askTune.toInt + 1 ≤ (f_tunes (i_bank.toInt).toNat).toInt) : Met l yX9_asked (.code yX9_asked cX9_asked 3 (some .int) :: GW) { frames := 14, cells := 0, slots := 0, locals := 478 } (va_Pc [.ref (r 0), .int p0, .int p1] (pR (dC, dI) (WM r ct i_taped i_size i_faultKind i_at i_end i_token i_number i_bank i_rb i_codes i_within i_piled i_unitsInRule i_askHouse i_askTune i_acts i_undone i_laid i_knowns i_time f_text f_tunes f_houses f_hums f_told f_many f_ruleFrom f_ruleTo f_code f_eWhat f_eSign f_all f_kept f_was f_sTune f_boxAll J L) (TM ct) sz)) (va_Qi (fun (r0 : Int32) (u : Int32) => r0 = u) (fun (u : Int32) (t : State) => True) (fun q => sz ≤ q)) 0 0 (fun q => sz ≤ q) := by
  refine Met.ofW (cc := cX9_asked) (maxL := 3) (ret := (some .int)) (by decide) rfl ?_
  intro p e s m args below meth c0 s₁ B hml hv
  obtain ⟨rfl, hsz, hP, hK⟩ := hv
  have hx := B.exec
  have hb := B.bytes
  have hr := B.returns
  have hts := atoms_spec (ws := .code yX9_asked cX9_asked 3 (some .int) :: GW) B.pre
  have hG : ∀ w ∈ GW, w.before _ s = true := fun w h => hts w (List.mem_cons_of_mem _ h)
  have hown : s.vm.findClass RX9 = some m.cls := findClass_of_methodNamed B.named
  subst hsz
  have hS : va_S (fun q => s.heap.size ≤ q) s.heap s.heap [] := va_S.rf
  have hP : va_P (dC, dI) vwCl (WM r ct i_taped i_size i_faultKind i_at i_end i_token i_number i_bank i_rb i_codes i_within i_piled i_unitsInRule i_askHouse i_askTune i_acts i_undone i_laid i_knowns i_time f_text f_tunes f_houses f_hums f_told f_many f_ruleFrom f_ruleTo f_code f_eWhat f_eSign f_all f_kept f_was f_sTune f_boxAll J L) s.heap := hP
  have hl := lv_entry ([.ref (r 0), .int p0, .int p1]) (n := 3) (Nat.le_of_ble_eq_true rfl)
  rw [lg_entry_eq]
  generalize (lg_sl ([.ref (r 0), .int p0, .int p1]) ++ List.replicate (3 - (lg_sl ([.ref (r 0), .int p0, .int p1])).length) Slot.unset).toArray = ls at hl ⊢
  have hl : lv_has ls 3 [(0, .ref (r 0)), (1, .int p0), (2, .int p1)] := hl
  refine nameQ (fun Q hQ => ?_)
  obtain ⟨ie0, ie1, ie2, ie3, ie4, ie5, ie6, ie7, ie8, ie9, ie10, ie11, ie12, ie13, ie14, ie15, ie16, ie17, ie18, ie19, ie20, ie21, ie22, ie23, ie24, ie25, ie26, ie27, ie28, ie29, ie30, ie31, ie32⟩ := id hI
  have f1 : 0 ≤ (f_tunes (i_bank.toInt).toNat).toInt ∧ (f_tunes (i_bank.toInt).toNat).toInt ≤ 5 := ie21 (i_bank.toInt)
  have f2 : 0 ≤ (f_houses (i_bank.toInt).toNat).toInt ∧ (f_houses (i_bank.toInt).toNat).toInt ≤ 4 := ie22 (i_bank.toInt)
  refine lv_iload_n hx hb dX9_asked_0 rfl (lv_at hl 1 rfl) ?_
  rcases ts_108_119 p0 with hs3 | hs3 | hs3 | hs3 | hs3 | hs3 | hs3 | hs3 | hs3 | hs3 | hs3 | hs3 | hs3
  · skip
    refine lv_tableOut (tgt := 139) hx hb dX9_asked_1 hs3 (by decide) ?_
    refine lv_iload_n hx hb dX9_asked_139 rfl (lv_at hl 2 rfl) ?_
    rw [hQ]
    exact W.iret (v := p1) hx hb hr (fun t ht hW => ⟨⟨p1, p1, rfl, rfl, trivial⟩, hS.F ht⟩) hS.2.2 dX9_asked_140
  · skip
    refine lv_tableIn (off := 89) (tgt := 90) hx hb dX9_asked_1 (by rw [hs3]; decide) (by rw [hs3]; decide) (by rw [hs3]; decide) (by decide) ?_
    have f4 : p0.toInt = 108 := qi_eq hs3 rfl zc_108
    refine lv_aload_n hx hb dX9_asked_90 rfl (lv_at hl 0 rfl) ?_
    refine lv_aload_n hx hb dX9_asked_91 rfl (lv_at hl 0 rfl) ?_
    refine gM_X9_327_0 hx hb hG hown hK hP dX9_asked_92 ?_
    refine va_calli (va_runV (As := [.int i_askTune]) (rest := []) ⟨hx, hb, hml, hown, hG⟩ (kX9_leftOf l dC dI r ct i_taped i_size i_faultKind i_at i_end i_token i_number i_bank i_rb i_codes i_within i_piled i_unitsInRule i_askHouse i_askTune i_acts i_undone i_laid i_knowns i_time f_text f_tunes f_houses f_hums f_told f_many f_ruleFrom f_ruleTo f_code f_eWhat f_eSign f_all f_kept f_was f_sTune f_boxAll J L i_askTune s.heap.size hI (ob_880 hp2 hp3) (ob_881 f1 hp2 hp3)) (cwV 1 hG (goodV gw1523 gw1525 gw88 gw138 gw1526) rfl rfl rfl hd_X9_leftOf ⟨(Nat.le_of_ble_eq_true rfl), (Nat.le_of_ble_eq_true rfl)⟩) ⟨fbR, va_recv hK hP (ci := 8) (q0 := 0) rfl rfl, pR_in hP hK⟩ rfl rfl hl.1 rfl (lv_room (Nat.le_of_ble_eq_true rfl)) dX9_asked_95 ⟨(Nat.le_of_ble_eq_true rfl), (Nat.le_of_ble_eq_true rfl)⟩) hS (fun q hq h => absurd hq (Nat.not_lt.mpr h)) (fun q h => Nat.le_trans hS.1 h) (fun r_6 u_ t_ H5 locs ht hvm hw hB hz1 hk1 hS => ?_)
    subst hw
    have hP := wk hP hk1
    obtain ⟨f7, f8, f9, f10, f11, f12, f13⟩ := hB
    rw [hQ]
    exact W.iret (v := r_6) hx hb hr (fun t ht hW => ⟨⟨r_6, r_6, rfl, rfl, trivial⟩, hS.F ht⟩) hS.2.2 dX9_asked_98
  · skip
    refine lv_tableIn (off := 138) (tgt := 139) hx hb dX9_asked_1 (by rw [hs3]; decide) (by rw [hs3]; decide) (by rw [hs3]; decide) (by decide) ?_
    have f14 : p0.toInt = 109 := qi_eq hs3 rfl zc_109
    refine lv_iload_n hx hb dX9_asked_139 rfl (lv_at hl 2 rfl) ?_
    rw [hQ]
    exact W.iret (v := p1) hx hb hr (fun t ht hW => ⟨⟨p1, p1, rfl, rfl, trivial⟩, hS.F ht⟩) hS.2.2 dX9_asked_140
  · skip
    refine lv_tableIn (off := 138) (tgt := 139) hx hb dX9_asked_1 (by rw [hs3]; decide) (by rw [hs3]; decide) (by rw [hs3]; decide) (by decide) ?_
    have f15 : p0.toInt = 110 := qi_eq hs3 rfl zc_110
    refine lv_iload_n hx hb dX9_asked_139 rfl (lv_at hl 2 rfl) ?_
    rw [hQ]
    exact W.iret (v := p1) hx hb hr (fun t ht hW => ⟨⟨p1, p1, rfl, rfl, trivial⟩, hS.F ht⟩) hS.2.2 dX9_asked_140
  · skip
    refine lv_tableIn (off := 98) (tgt := 99) hx hb dX9_asked_1 (by rw [hs3]; decide) (by rw [hs3]; decide) (by rw [hs3]; decide) (by decide) ?_
    have f16 : p0.toInt = 111 := qi_eq hs3 rfl zc_111
    refine lv_aload_n hx hb dX9_asked_99 rfl (lv_at hl 0 rfl) ?_
    refine gM_X9_88_0 hx hb hG hown hK hP dX9_asked_100 ?_
    refine lv_bipush (v := 10) hx hb dX9_asked_103 (by decide) ?_
    refine lv_aload_n hx hb dX9_asked_105 rfl (lv_at hl 0 rfl) ?_
    refine gM_X9_327_0 hx hb hG hown hK hP dX9_asked_106 ?_
    refine lv_iadd hx hb dX9_asked_109 ?_
    refine lv_topi (fun x17 ex17 => ?_)
    have f18 : x17.toInt = i_askTune.toInt + 10 := (ob_861 (qi_add ex17 zc_10 rfl (ob_859 hp2 hp3) (ob_917 f1 hp2 hp3)))
    refine ldM_25 (mm := i_askTune.toInt + 10) hx hb hK hP f18 (ob_862 hp2 hp3) (ob_918 f1 hp2 hp3) dX9_asked_110 ?_
    have f19 : 0 ≤ (f_all (i_askTune.toInt + 10).toNat).toInt ∧ (f_all (i_askTune.toInt + 10).toNat).toInt ≤ 99 := ie27 (i_askTune.toInt + 10) (ob_862 hp2 hp3) (ob_919 f1 hp2 hp3) (ob_920 f1 hp2 hp3)
    rw [hQ]
    exact W.iret (v := (f_all (i_askTune.toInt + 10).toNat)) hx hb hr (fun t ht hW => ⟨⟨(f_all (i_askTune.toInt + 10).toNat), (f_all (i_askTune.toInt + 10).toNat), rfl, rfl, trivial⟩, hS.F ht⟩) hS.2.2 dX9_asked_111
  · skip
    refine lv_tableIn (off := 116) (tgt := 117) hx hb dX9_asked_1 (by rw [hs3]; decide) (by rw [hs3]; decide) (by rw [hs3]; decide) (by decide) ?_
    have f20 : p0.toInt = 112 := qi_eq hs3 rfl zc_112
    refine lv_aload_n hx hb dX9_asked_117 rfl (lv_at hl 0 rfl) ?_
    refine lv_aload_n hx hb dX9_asked_118 rfl (lv_at hl 0 rfl) ?_
    refine gM_X9_327_0 hx hb hG hown hK hP dX9_asked_119 ?_
    refine va_calli (va_runV (As := [.int i_askTune]) (rest := []) ⟨hx, hb, hml, hown, hG⟩ (kX9_priceOf l dC dI r ct i_taped i_size i_faultKind i_at i_end i_token i_number i_bank i_rb i_codes i_within i_piled i_unitsInRule i_askHouse i_askTune i_acts i_undone i_laid i_knowns i_time f_text f_tunes f_houses f_hums f_told f_many f_ruleFrom f_ruleTo f_code f_eWhat f_eSign f_all f_kept f_was f_sTune f_boxAll J L i_askTune s.heap.size hI (ob_880 hp2 hp3) (ob_881 f1 hp2 hp3)) (cwV 1 hG (goodV gw1519 gw1521 gw87 gw138 gw1522) rfl rfl rfl hd_X9_priceOf ⟨(Nat.le_of_ble_eq_true rfl), (Nat.le_of_ble_eq_true rfl)⟩) ⟨fbR, va_recv hK hP (ci := 8) (q0 := 0) rfl rfl, pR_in hP hK⟩ rfl rfl hl.1 rfl (lv_room (Nat.le_of_ble_eq_true rfl)) dX9_asked_122 ⟨(Nat.le_of_ble_eq_true rfl), (Nat.le_of_ble_eq_true rfl)⟩) hS (fun q hq h => absurd hq (Nat.not_lt.mpr h)) (fun q h => Nat.le_trans hS.1 h) (fun r_22 u_ t_ H21 locs ht hvm hw hB hz1 hk1 hS => ?_)
    subst hw
    have hP := wk hP hk1
    rw [hQ]
    exact W.iret (v := r_22) hx hb hr (fun t ht hW => ⟨⟨r_22, r_22, rfl, rfl, trivial⟩, hS.F ht⟩) hS.2.2 dX9_asked_125
  · skip
    refine lv_tableIn (off := 138) (tgt := 139) hx hb dX9_asked_1 (by rw [hs3]; decide) (by rw [hs3]; decide) (by rw [hs3]; decide) (by decide) ?_
    have f23 : p0.toInt = 113 := qi_eq hs3 rfl zc_113
    refine lv_iload_n hx hb dX9_asked_139 rfl (lv_at hl 2 rfl) ?_
    rw [hQ]
    exact W.iret (v := p1) hx hb hr (fun t ht hW => ⟨⟨p1, p1, rfl, rfl, trivial⟩, hS.F ht⟩) hS.2.2 dX9_asked_140
  · skip
    refine lv_tableIn (off := 138) (tgt := 139) hx hb dX9_asked_1 (by rw [hs3]; decide) (by rw [hs3]; decide) (by rw [hs3]; decide) (by decide) ?_
    have f24 : p0.toInt = 114 := qi_eq hs3 rfl zc_114
    refine lv_iload_n hx hb dX9_asked_139 rfl (lv_at hl 2 rfl) ?_
    rw [hQ]
    exact W.iret (v := p1) hx hb hr (fun t ht hW => ⟨⟨p1, p1, rfl, rfl, trivial⟩, hS.F ht⟩) hS.2.2 dX9_asked_140
  · skip
    refine lv_tableIn (off := 63) (tgt := 64) hx hb dX9_asked_1 (by rw [hs3]; decide) (by rw [hs3]; decide) (by rw [hs3]; decide) (by decide) ?_
    have f25 : p0.toInt = 115 := qi_eq hs3 rfl zc_115
    refine lv_aload_n hx hb dX9_asked_64 rfl (lv_at hl 0 rfl) ?_
    refine lv_aload_n hx hb dX9_asked_65 rfl (lv_at hl 0 rfl) ?_
    refine gM_X9_324_0 hx hb hG hown hK hP dX9_asked_66 ?_
    refine lv_aload_n hx hb dX9_asked_69 rfl (lv_at hl 0 rfl) ?_
    refine gM_X9_327_0 hx hb hG hown hK hP dX9_asked_70 ?_
    refine va_calli (va_runV (As := [.int i_askHouse, .int i_askTune]) (rest := []) ⟨hx, hb, hml, hown, hG⟩ (kX9_sameOf l dC dI r ct i_taped i_size i_faultKind i_at i_end i_token i_number i_bank i_rb i_codes i_within i_piled i_unitsInRule i_askHouse i_askTune i_acts i_undone i_laid i_knowns i_time f_text f_tunes f_houses f_hums f_told f_many f_ruleFrom f_ruleTo f_code f_eWhat f_eSign f_all f_kept f_was f_sTune f_boxAll J L i_askHouse i_askTune s.heap.size hI (ob_880 hp0 hp1) (ob_898 f2 hp0 hp1) (ob_880 hp2 hp3) (ob_881 f1 hp2 hp3)) (cwV 2 hG (goodV gw1578 gw1580 gw98 gw138 gw1581) rfl rfl rfl hd_X9_sameOf ⟨(Nat.le_of_ble_eq_true rfl), (Nat.le_of_ble_eq_true rfl)⟩) ⟨fbR, va_recv hK hP (ci := 8) (q0 := 0) rfl rfl, pR_in hP hK⟩ rfl rfl hl.1 rfl (lv_room (Nat.le_of_ble_eq_true rfl)) dX9_asked_73 ⟨(Nat.le_of_ble_eq_true rfl), (Nat.le_of_ble_eq_true rfl)⟩) hS (fun q hq h => absurd hq (Nat.not_lt.mpr h)) (fun q h => Nat.le_trans hS.1 h) (fun r_27 u_ t_ H26 locs ht hvm hw hB hz1 hk1 hS => ?_)
    subst hw
    have hP := wk hP hk1
    rw [hQ]
    exact W.iret (v := r_27) hx hb hr (fun t ht hW => ⟨⟨r_27, r_27, rfl, rfl, trivial⟩, hS.F ht⟩) hS.2.2 dX9_asked_76
  · skip
    refine lv_tableIn (off := 76) (tgt := 77) hx hb dX9_asked_1 (by rw [hs3]; decide) (by rw [hs3]; decide) (by rw [hs3]; decide) (by decide) ?_
    have f28 : p0.toInt = 116 := qi_eq hs3 rfl zc_116
    refine lv_aload_n hx hb dX9_asked_77 rfl (lv_at hl 0 rfl) ?_
    refine lv_aload_n hx hb dX9_asked_78 rfl (lv_at hl 0 rfl) ?_
    refine gM_X9_324_0 hx hb hG hown hK hP dX9_asked_79 ?_
    refine lv_aload_n hx hb dX9_asked_82 rfl (lv_at hl 0 rfl) ?_
    refine gM_X9_327_0 hx hb hG hown hK hP dX9_asked_83 ?_
    refine va_calli (va_runV (As := [.int i_askHouse, .int i_askTune]) (rest := []) ⟨hx, hb, hml, hown, hG⟩ (kX9_turnOf l dC dI r ct i_taped i_size i_faultKind i_at i_end i_token i_number i_bank i_rb i_codes i_within i_piled i_unitsInRule i_askHouse i_askTune i_acts i_undone i_laid i_knowns i_time f_text f_tunes f_houses f_hums f_told f_many f_ruleFrom f_ruleTo f_code f_eWhat f_eSign f_all f_kept f_was f_sTune f_boxAll J L i_askHouse i_askTune s.heap.size hI (ob_880 hp0 hp1) (ob_898 f2 hp0 hp1) (ob_880 hp2 hp3) (ob_881 f1 hp2 hp3)) (cwV 2 hG (goodV gw1586 gw1588 gw100 gw138 gw1589) rfl rfl rfl hd_X9_turnOf ⟨(Nat.le_of_ble_eq_true rfl), (Nat.le_of_ble_eq_true rfl)⟩) ⟨fbR, va_recv hK hP (ci := 8) (q0 := 0) rfl rfl, pR_in hP hK⟩ rfl rfl hl.1 rfl (lv_room (Nat.le_of_ble_eq_true rfl)) dX9_asked_86 ⟨(Nat.le_of_ble_eq_true rfl), (Nat.le_of_ble_eq_true rfl)⟩) hS (fun q hq h => absurd hq (Nat.not_lt.mpr h)) (fun q h => Nat.le_trans hS.1 h) (fun r_30 u_ t_ H29 locs ht hvm hw hB hz1 hk1 hS => ?_)
    subst hw
    have hP := wk hP hk1
    obtain ⟨f31, f32, f33⟩ := hB
    rw [hQ]
    exact W.iret (v := r_30) hx hb hr (fun t ht hW => ⟨⟨r_30, r_30, rfl, rfl, trivial⟩, hS.F ht⟩) hS.2.2 dX9_asked_89
  · skip
    refine lv_tableIn (off := 125) (tgt := 126) hx hb dX9_asked_1 (by rw [hs3]; decide) (by rw [hs3]; decide) (by rw [hs3]; decide) (by decide) ?_
    have f34 : p0.toInt = 117 := qi_eq hs3 rfl zc_117
    refine lv_aload_n hx hb dX9_asked_126 rfl (lv_at hl 0 rfl) ?_
    refine gM_X9_88_0 hx hb hG hown hK hP dX9_asked_127 ?_
    refine lv_bipush (v := 20) hx hb dX9_asked_130 (by decide) ?_
    refine lv_aload_n hx hb dX9_asked_132 rfl (lv_at hl 0 rfl) ?_
    refine gM_X9_324_0 hx hb hG hown hK hP dX9_asked_133 ?_
    refine lv_iadd hx hb dX9_asked_136 ?_
    refine lv_topi (fun x35 ex35 => ?_)
    have f36 : x35.toInt = i_askHouse.toInt + 20 := (ob_784 (qi_add ex35 zc_20 rfl (ob_921 hp0 hp1) (ob_922 f2 hp0 hp1)))
    refine ldM_25 (mm := i_askHouse.toInt + 20) hx hb hK hP f36 (ob_923 hp0 hp1) (ob_924 f2 hp0 hp1) dX9_asked_137 ?_
    rw [hQ]
    exact W.iret (v := (f_all (i_askHouse.toInt + 20).toNat)) hx hb hr (fun t ht hW => ⟨⟨(f_all (i_askHouse.toInt + 20).toNat), (f_all (i_askHouse.toInt + 20).toNat), rfl, rfl, trivial⟩, hS.F ht⟩) hS.2.2 dX9_asked_138
  · skip
    refine lv_tableIn (off := 138) (tgt := 139) hx hb dX9_asked_1 (by rw [hs3]; decide) (by rw [hs3]; decide) (by rw [hs3]; decide) (by decide) ?_
    have f37 : p0.toInt = 118 := qi_eq hs3 rfl zc_118
    refine lv_iload_n hx hb dX9_asked_139 rfl (lv_at hl 2 rfl) ?_
    rw [hQ]
    exact W.iret (v := p1) hx hb hr (fun t ht hW => ⟨⟨p1, p1, rfl, rfl, trivial⟩, hS.F ht⟩) hS.2.2 dX9_asked_140
  · skip
    refine lv_tableIn (off := 111) (tgt := 112) hx hb dX9_asked_1 (by rw [hs3]; decide) (by rw [hs3]; decide) (by rw [hs3]; decide) (by decide) ?_
    have f38 : p0.toInt = 119 := qi_eq hs3 rfl zc_119
    refine lv_aload_n hx hb dX9_asked_112 rfl (lv_at hl 0 rfl) ?_
    refine gM_X9_339_0 hx hb hG hown hK hP dX9_asked_113 (fun x39 => ?_)
    rw [hQ]
    exact W.iret (v := x39) hx hb hr (fun t ht hW => ⟨⟨x39, x39, rfl, rfl, trivial⟩, hS.F ht⟩) hS.2.2 dX9_asked_116
