set_option maxHeartbeats 4000000 in
set_option maxRecDepth 100000 in
theorem lw_known {p : Program} {e : Env} {s : State} {m : MethodId} {below : List Frame} {meth : Method} {c : Code} (l : Launch) {b L : Nat} {xs : Nat → Int32} (hL : L ≤ 3072) (C0 : lw_At p s m meth c b L xs) : ∃ (dC : Nat → ClassId) (dI : Nat → Nat → Nat), ∀ (k : Nat) (q : vw_C), vwCl[k]? = some q → u_Kn s q.1 q.2.1 q.2.2 (dC k) (dI k) := by
  obtain ⟨hx, hb, hr, hml, hown, hts, hX, hbl, hlocks, hgv⟩ := id C0
  have hown : s.vm.findClass RL = some m.cls := hown
  have hG : ∀ w ∈ GW, w.before _ s = true := fun w h => hts w (List.mem_filter.mp h).1
  obtain ⟨k0, iS0, hKn0⟩ := u_known (C := RX0) (T := TX0) (N := 3) (n := 3) hG inX0 (hG _ gw381)
  obtain ⟨k1, iS1, hKn1⟩ := u_known (C := RX1) (T := TX1) (N := 3) (n := 3) hG inX1 (hG _ gw195)
  obtain ⟨k2, iS2, hKn2⟩ := u_known (C := RX3) (T := TX3) (N := 14) (n := 14) hG inX3 (hG _ gw399)
  obtain ⟨k3, iS3, hKn3⟩ := u_known (C := RX4) (T := TX4) (N := 14) (n := 14) hG inX4 (hG _ gw189)
  obtain ⟨k4, iS4, hKn4⟩ := u_known (C := RX5) (T := TX5) (N := 12) (n := 12) hG inX5 (hG _ gw155)
  obtain ⟨k5, iS5, hKn5⟩ := u_known (C := RX6) (T := TX6) (N := 5) (n := 5) hG inX6 (hG _ gw161)
  obtain ⟨k6, iS6, hKn6⟩ := u_known (C := RX7) (T := TX7) (N := 7) (n := 7) hG inX7 (hG _ gw346)
  obtain ⟨k7, iS7, hKn7⟩ := u_known (C := RX8) (T := TX8) (N := 16) (n := 16) hG inX8 (hG _ gw147)
  obtain ⟨k8, iS8, hKn8⟩ := u_known (C := RX9) (T := TX9) (N := 62) (n := 62) hG inX9 (hG _ gw1150)
  refine ⟨fun k => [k0, k1, k2, k3, k4, k5, k6, k7, k8].getD k k0, fun k => [iS0, iS1, iS2, iS3, iS4, iS5, iS6, iS7, iS8].getD k iS0, ?_⟩
  intro k q hq
  match k, hq with
  | 0, hq => exact Option.some.inj hq ▸ hKn0
  | 1, hq => exact Option.some.inj hq ▸ hKn1
  | 2, hq => exact Option.some.inj hq ▸ hKn2
  | 3, hq => exact Option.some.inj hq ▸ hKn3
  | 4, hq => exact Option.some.inj hq ▸ hKn4
  | 5, hq => exact Option.some.inj hq ▸ hKn5
  | 6, hq => exact Option.some.inj hq ▸ hKn6
  | 7, hq => exact Option.some.inj hq ▸ hKn7
  | 8, hq => exact Option.some.inj hq ▸ hKn8
  | k + 9, hq => exact absurd (List.getElem?_eq_some_iff.mp hq).1 (Nat.not_lt.mpr (Nat.le_add_left 9 k))
set_option maxHeartbeats 4000000 in
set_option maxRecDepth 100000 in
theorem lw_nest {p : Program} {e : Env} {s : State} {m : MethodId} {below : List Frame} {meth : Method} {c : Code} (l : Launch) {b L : Nat} {xs : Nat → Int32} (hL : L ≤ 3072) (C0 : lw_At p s m meth c b L xs) : cNW s := by
  obtain ⟨hx, hb, hr, hml, hown, hts, hX, hbl, hlocks, hgv⟩ := id C0
  exact ⟨va_Nw.of rfl (hts (.methodLinkNest RX8 15 yX5_init "TuneApproval") (List.mem_of_getElem? (i := 156) (by decide +kernel))), va_Nw.of rfl (hts (.methodLinkNest RX8 29 yX7_init "TuneApproval") (List.mem_of_getElem? (i := 347) (by decide +kernel))), va_Nw.of rfl (hts (.methodLinkNest RX8 39 yX0_init "TuneApproval") (List.mem_of_getElem? (i := 382) (by decide +kernel))), va_Nw.of rfl (hts (.methodLinkNest RX8 54 yX3_init "TuneApproval") (List.mem_of_getElem? (i := 400) (by decide +kernel))), va_Nw.of rfl (hts (.methodLinkNest RX4 36 yX1_init "TuneApproval") (List.mem_of_getElem? (i := 196) (by decide +kernel))), va_Nw.of rfl (hts (.methodLinkNest RX5 17 yX6_init "TuneApproval") (List.mem_of_getElem? (i := 162) (by decide +kernel)))⟩
