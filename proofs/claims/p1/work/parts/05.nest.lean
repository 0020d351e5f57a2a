def cNW (U : State) : Prop := va_Nw (.methodLinkNest RX8 15 yX5_init "TuneApproval") U ∧ va_Nw (.methodLinkNest RX8 29 yX7_init "TuneApproval") U ∧ va_Nw (.methodLinkNest RX8 39 yX0_init "TuneApproval") U ∧ va_Nw (.methodLinkNest RX8 54 yX3_init "TuneApproval") U ∧ va_Nw (.methodLinkNest RX4 36 yX1_init "TuneApproval") U ∧ va_Nw (.methodLinkNest RX5 17 yX6_init "TuneApproval") U
def pN (D : va_G) (ws : va_W) (tys : List (ClassId × FieldType)) (sz : Nat) (U : State) : Prop := U.heap.size = sz ∧ va_P D vwCl ws U.heap ∧ va_K D vwCl tys U ∧ va_D (fun _ => True) ws ∧ cNW U
theorem cNW_same {u U : State} (h : u.vm = U.vm) (q : cNW u) : cNW U := by
  obtain ⟨h0, h1, h2, h3, h4, h5⟩ := q
  exact ⟨va_Nw.same rfl h h0, va_Nw.same rfl h h1, va_Nw.same rfl h h2, va_Nw.same rfl h h3, va_Nw.same rfl h h4, va_Nw.same rfl h h5⟩
theorem cNW_warm {s U : State} (hW : s.WarmedH U.vm) (q : cNW s) : cNW U := by
  obtain ⟨h0, h1, h2, h3, h4, h5⟩ := q
  exact ⟨va_Nw.warmM hW h0, va_Nw.warmM hW h1, va_Nw.warmM hW h2, va_Nw.warmM hW h3, va_Nw.warmM hW h4, va_Nw.warmM hW h5⟩
theorem fbN {av : List Value} {D : va_G} {ws : va_W} {tys : List (ClassId × FieldType)} {sz : Nat} : FrameBlind (va_Pc av (pN D ws tys sz)) := fun a U g mk q => by
  obtain ⟨q0, q1, qP, qK, qD, qN⟩ := q
  exact ⟨q0, q1, qP, va_K.moved (u := U) (U := U.calling g mk a) (Vm.Alike.refl U.vm) qK, qD, cNW_same (u := U) (U := U.calling g mk a) rfl qN⟩
theorem pN_in {s : State} {H : Heap} {av : List Value} {D : va_G} {ws : va_W} {tys : List (ClassId × FieldType)} {A : Nat → Prop} (hP : va_P D vwCl ws H) (hK : va_K D vwCl tys s) (hD : va_D A ws) (hN : cNW s) : ∀ U : State, U.heap = H → s.WarmedH U.vm → va_Pc av (pN D ws tys H.size) av.toArray U := fun U hU hW => ⟨rfl, by rw [hU], by rw [hU]; exact hP, va_K.moved hW.alike hK, hD.weaken (fun _ _ _ _ => trivial), cNW_warm hW hN⟩
theorem cnw_X8_15 {U : State} (q : cNW U) : va_Nw (.methodLinkNest RX8 15 yX5_init "TuneApproval") U := q.1
theorem cnw_X8_29 {U : State} (q : cNW U) : va_Nw (.methodLinkNest RX8 29 yX7_init "TuneApproval") U := q.2.1
theorem cnw_X8_39 {U : State} (q : cNW U) : va_Nw (.methodLinkNest RX8 39 yX0_init "TuneApproval") U := q.2.2.1
theorem cnw_X8_54 {U : State} (q : cNW U) : va_Nw (.methodLinkNest RX8 54 yX3_init "TuneApproval") U := q.2.2.2.1
theorem cnw_X4_36 {U : State} (q : cNW U) : va_Nw (.methodLinkNest RX4 36 yX1_init "TuneApproval") U := q.2.2.2.2.1
theorem cnw_X5_17 {U : State} (q : cNW U) : va_Nw (.methodLinkNest RX5 17 yX6_init "TuneApproval") U := q.2.2.2.2.2
