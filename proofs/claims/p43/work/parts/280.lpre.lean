def R_law : String := "TuneApprovalLaw"
def lw_P (b : Addr) (xs : List Int32) (args : Array Value) (s : State) : Prop := args = #[.ref b] ∧ s.IntsAt b xs ∧ xs.length ≤ 3072 ∧ (Jvm.Cond.and given_1 narrow_1).before args s = true
def lw_Q (_ : Array Value) (s : State) (o : Outcome) (t : State) : Prop := o = .returned (some (.int 1)) ∧ Framed s o t [] 600000 7302249
def lw_Z (below : List Frame) (a : Array Value) (s : State) : State → Prop := fun t => ∃ o, t.status = .running ∧ Ended t below o ∧ lw_Q a s o t
/-- the law's own end, with 1 on the stack, nothing written that was there before, its room as the claim has it -/
theorem lw_ret {p : Program} {l : Launch} {e : Env} {s : State} {m : MethodId} {below : List Frame} {meth : Method} {c : Code} {b : Nat} (hx : p.tables.exec = Jvm.exec) (hb : c.code = code) (hr : meth.sig.returnType = ret) (hlocks : meth.locks = false) {pc : Nat} {H : Heap} {ls : Array Slot} (hdg : decode code pc = .ok (.ireturn, 1)) : W p l e room_1 s m #[Value.ref b] below meth c H [] 600000 7302249 (lw_Z below #[Value.ref b] s) (F0 m pc ls [.int 1]) := by
  intro T hT X
  obtain ⟨fs, hret, hrun, hended, hW, hframe⟩ := X.leave (v := some (.int 1)) (hlocks := hlocks) (fun h => by rw [hr] at h; cases h)
  have hmeth' : T.vm.method? m = some meth := X.method'
  refine ⟨T.setFrames fs, ?_, .returned (some (.int 1)), hrun, hended, rfl, ⟨_, rfl⟩, hW, hframe⟩
  jvm_step X.here [X.here.top, hx, hb, hdg, hmeth', hr, ret, narrow_b1]
  (try refine ⟨rfl, ?_⟩); (try refine ⟨rfl, ?_⟩)
  first | (intro acts; rw [hret _ acts rfl rfl rfl]) | rw [hret _ _ rfl rfl rfl]
  exact Steps.refl _
/-- what holds at the law's entry: the machine, the code, the tables' words (any of lw_tbl by 'hts w (by decide +kernel)'), the script of L ints xs at the cell b, what the Statement gives of the start (any of its parts by flat_of_before) -/
def lw_At (p : Program) (s : State) (m : MethodId) (meth : Method) (c : Code) (b L : Nat) (xs : Nat → Int32) : Prop :=
  p.tables.exec = Jvm.exec ∧ c.code = code ∧ meth.sig.returnType = ret ∧ c.maxLocals = 4 ∧ s.vm.findClass R_law = some m.cls ∧ (∀ w ∈ lw_tbl, w.before #[Value.ref b] s = true) ∧ va_X b L xs s s.heap ∧ b < s.heap.size ∧ meth.locks = false ∧ (Jvm.Cond.and given_1 narrow_1).before #[Value.ref b] s = true
def dj (a b : va_W) : Prop := ∀ (i j : Nat) (p q : Nat × va_E), a[i]? = some p → b[j]? = some q → p.1 ≠ q.1
theorem P_l {D : va_G} {cl : List vw_C} {a b : va_W} {H : Heap} (h : va_P D cl (a ++ b) H) : va_P D cl a H := fun k q hk => h k q (by rw [List.getElem?_append_left (List.getElem?_eq_some_iff.mp hk).1]; exact hk)
theorem P_r {D : va_G} {cl : List vw_C} {a b : va_W} {H : Heap} (h : va_P D cl (a ++ b) H) : va_P D cl b H := fun k q hk => h (a.length + k) q (by rw [List.getElem?_append_right (by omega)]; simpa using hk)
theorem D_l {A : Nat → Prop} {a b : va_W} (h : va_D A (a ++ b)) : va_D A a := by
  have e : ∀ (k : Nat) (q : Nat × va_E), a[k]? = some q → (a ++ b)[k]? = some q := fun k q hk => by rw [List.getElem?_append_left (List.getElem?_eq_some_iff.mp hk).1]; exact hk
  exact ⟨fun i j p q hi hj => h.1 i j p q (e i p hi) (e j q hj), fun k q hk => h.2 k q (e k q hk)⟩
theorem D_r {A : Nat → Prop} {a b : va_W} (h : va_D A (a ++ b)) : va_D A b := by
  have e : ∀ (k : Nat) (q : Nat × va_E), b[k]? = some q → (a ++ b)[a.length + k]? = some q := fun k q hk => by rw [List.getElem?_append_right (by omega)]; simpa using hk
  refine ⟨fun i j p q hi hj he => ?_, fun k q hk => h.2 _ q (e k q hk)⟩
  have := h.1 _ _ p q (e i p hi) (e j q hj) he
  omega
theorem dj_of {A : Nat → Prop} {a b : va_W} (h : va_D A (a ++ b)) : dj a b := fun i j p q hi hj he => by
  have hl := (List.getElem?_eq_some_iff.mp hi).1
  have := h.1 i (a.length + j) p q (by rw [List.getElem?_append_left hl]; exact hi) (by rw [List.getElem?_append_right (by omega)]; simpa using hj) he
  omega
theorem dj_sym {a b : va_W} (h : dj a b) : dj b a := fun i j p q hi hj he => h j i q p hj hi he.symm
theorem mvO {D : va_G} {cl : List vw_C} {a b a1 : va_W} {H H1 : Heap} (hb : va_P D cl b H) (hd : dj a b) (h1 : ∀ (k : Nat) (q : Nat × va_E), a1[k]? = some q → va_A a H.size q.1) (hk : ∀ q : Nat, q < H.size → ¬ va_A a H.size q → H1[q]? = H[q]?) : va_P D cl b H1 ∧ dj a1 b := by
  have nt : ∀ (j : Nat) (q : Nat × va_E), b[j]? = some q → q.1 < H.size ∧ ¬ va_A a H.size q.1 := fun j q hq => by
    have hlt := (hb j q hq).lt
    refine ⟨hlt, fun hA => ?_⟩
    rcases hA with ⟨k, e, hk2⟩ | h2
    · exact hd k j _ q hk2 hq rfl
    · omega
  refine ⟨hb.kept (fun k q hq => hk q.1 (nt k q hq).1 (nt k q hq).2), fun i j p q hi hj he => ?_⟩
  have := h1 i p hi
  rw [he] at this
  exact (nt j q hj).2 this
theorem sidx {i x n : Int32} {L : Nat} (e : x = i + n) (h0 : 0 ≤ i.toInt) (h1 : i.toInt + 6 ≤ (L : Int)) (hL : L ≤ 3072) (n0 : 0 ≤ n.toInt) (n1 : n.toInt < 6) : vp_in x L := by
  have hx : x.toInt = i.toInt + n.toInt := qi_add e rfl rfl (by omega) (by omega)
  exact vin3 (by omega) (by omega)
theorem ofNatL {L : Nat} (h : L ≤ 3072) : (Int32.ofNat L).toInt = (L : Int) := by
  exact Int32.toInt_ofNat_of_lt (by omega)
theorem later_eq {t t2 p u n u2 n2 : Int32} (e : t = t2) (h : ((((0 : Int) ≤ p.toInt) ∧ (p.toInt ≤ (1000 : Int)) ∧ (t.toInt + p.toInt ≤ (100000 : Int)) ∧ (u.toInt = t.toInt + p.toInt) ∧ (n.toInt = t.toInt + p.toInt)) ∨ (((p.toInt + 1 ≤ (0 : Int)) ∨ ((1001 : Int) ≤ p.toInt) ∨ ((100001 : Int) ≤ t.toInt + p.toInt)) ∧ (u.toInt + 1 = (0 : Int)) ∧ (n.toInt = t.toInt)))) (h2 : ((((0 : Int) ≤ p.toInt) ∧ (p.toInt ≤ (1000 : Int)) ∧ (t2.toInt + p.toInt ≤ (100000 : Int)) ∧ (u2.toInt = t2.toInt + p.toInt) ∧ (n2.toInt = t2.toInt + p.toInt)) ∨ (((p.toInt + 1 ≤ (0 : Int)) ∨ ((1001 : Int) ≤ p.toInt) ∨ ((100001 : Int) ≤ t2.toInt + p.toInt)) ∧ (u2.toInt + 1 = (0 : Int)) ∧ (n2.toInt = t2.toInt)))) : u = u2 ∧ n = n2 := by
  subst e
  exact ⟨Int32.toInt_inj.mp (by omega), Int32.toInt_inj.mp (by omega)⟩
def LI (dC : Nat → ClassId) (dI : Nat → Nat → Nat) (s : State) (aX aM : Nat) (H : Heap) (locs : List Loc) : Prop := ∃ (xr : Nat → Nat) (xt : Nat → ClassId) (xi : Nat → Int32) (xa : Nat → Nat → Int32) (xJ : Nat → Nat → Int32) (xL : Nat → Nat → Int64) (mr : Nat → Nat) (mt : Nat → ClassId) (mi : Nat → Int32) (ma : Nat → Nat → Int32) (mJ : Nat → Nat → Int32) (mL : Nat → Nat → Int64), xr 0 = aX ∧ mr 0 = aM ∧ va_K (dC, dI) vwCl (TX xt) s ∧ va_K (dC, dI) vwCl (TM mt) s ∧ va_P (dC, dI) vwCl (WX xr xt (xi 0) (xi 1) (xi 2) (xi 3) (xi 4) (xi 5) (xi 6) (xi 7) (xi 8) (xi 9) (xi 10) (xi 11) (xi 12) (xi 13) (xi 14) (xi 15) (xi 16) (xa 0) (xa 1) (xa 2) (xa 3) (xa 4) (xa 5) (xa 6) (xa 7) (xa 8) (xa 9) (xa 10) (xa 11) (xa 12) (xa 13) (xa 14) xJ xL) H ∧ va_P (dC, dI) vwCl (WM mr mt (mi 0) (mi 1) (mi 2) (mi 3) (mi 4) (mi 5) (mi 6) (mi 7) (mi 8) (mi 9) (mi 10) (mi 11) (mi 12) (mi 13) (mi 14) (mi 15) (mi 16) (mi 17) (mi 18) (mi 19) (ma 0) (ma 1) (ma 2) (ma 3) (ma 4) (ma 5) (ma 6) (ma 7) (ma 8) (ma 9) (ma 10) (ma 11) (ma 12) (ma 13) (ma 14) (ma 15) mJ mL) H ∧ va_D (fun q : Nat => s.heap.size ≤ q) (WX xr xt (xi 0) (xi 1) (xi 2) (xi 3) (xi 4) (xi 5) (xi 6) (xi 7) (xi 8) (xi 9) (xi 10) (xi 11) (xi 12) (xi 13) (xi 14) (xi 15) (xi 16) (xa 0) (xa 1) (xa 2) (xa 3) (xa 4) (xa 5) (xa 6) (xa 7) (xa 8) (xa 9) (xa 10) (xa 11) (xa 12) (xa 13) (xa 14) xJ xL) ∧ va_D (fun q : Nat => s.heap.size ≤ q) (WM mr mt (mi 0) (mi 1) (mi 2) (mi 3) (mi 4) (mi 5) (mi 6) (mi 7) (mi 8) (mi 9) (mi 10) (mi 11) (mi 12) (mi 13) (mi 14) (mi 15) (mi 16) (mi 17) (mi 18) (mi 19) (ma 0) (ma 1) (ma 2) (ma 3) (ma 4) (ma 5) (ma 6) (ma 7) (ma 8) (ma 9) (ma 10) (ma 11) (ma 12) (ma 13) (ma 14) (ma 15) mJ mL) ∧ dj (WX xr xt (xi 0) (xi 1) (xi 2) (xi 3) (xi 4) (xi 5) (xi 6) (xi 7) (xi 8) (xi 9) (xi 10) (xi 11) (xi 12) (xi 13) (xi 14) (xi 15) (xi 16) (xa 0) (xa 1) (xa 2) (xa 3) (xa 4) (xa 5) (xa 6) (xa 7) (xa 8) (xa 9) (xa 10) (xa 11) (xa 12) (xa 13) (xa 14) xJ xL) (WM mr mt (mi 0) (mi 1) (mi 2) (mi 3) (mi 4) (mi 5) (mi 6) (mi 7) (mi 8) (mi 9) (mi 10) (mi 11) (mi 12) (mi 13) (mi 14) (mi 15) (mi 16) (mi 17) (mi 18) (mi 19) (ma 0) (ma 1) (ma 2) (ma 3) (ma 4) (ma 5) (ma 6) (ma 7) (ma 8) (ma 9) (ma 10) (ma 11) (ma 12) (ma 13) (ma 14) (ma 15) mJ mL) ∧ va_S (fun q : Nat => s.heap.size ≤ q) s.heap H locs ∧ (IX (xi 0) (xi 1) (xi 2) (xi 4) (xi 6) (xi 7) (xi 8) (xi 9) (xi 10) (xi 11) (xi 12) (xi 13) (xi 14) (xi 15) (xi 16) (xa 0) (xa 4) (xa 5) (xa 6) (xa 7) (xa 9) (xa 11) (xa 12) (xa 13)) ∧ WB (xi 8) (xa 8) ∧ RB (xi 8) (xi 14) (xi 15) (xa 12) ∧ BB (xi 8) (xa 1) (xa 0) ∧ (IM (mi 0) (mi 1) (mi 2) (mi 3) (mi 4) (mi 7) (mi 8) (mi 15) (mi 16) (mi 17) (mi 18) (mi 19) (ma 1) (ma 2) (ma 3) (ma 4) (ma 5) (ma 6) (ma 7) (ma 8) (ma 11) (ma 12) (ma 13) (ma 14) (ma 15)) ∧ (xi 1) = (mi 19)
