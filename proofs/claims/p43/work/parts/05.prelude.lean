theorem nameQ {p : Program} {l : Launch} {e : Env} {R : Room} {s : State} {m : MethodId} {args : Array Value} {below : List Frame} {meth : Method} {c : Code} {H : Heap} {locs : List Loc} {cells slots : Nat} {Q : State → Prop} {g : JFrame} (k : ∀ Q' : State → Prop, Q' = Q → W p l e R s m args below meth c H locs cells slots Q' g) : W p l e R s m args below meth c H locs cells slots Q g := k Q rfl
theorem emptyP {D : va_G} {cl : List vw_C} {H : Heap} : va_P D cl [] H := fun k q h => by simp at h
theorem emptyK {D : va_G} {cl : List vw_C} {tys : List (ClassId × FieldType)} {s : State} (h : va_K D cl tys s) : va_K D cl [] s := ⟨h.1, fun k q h => by simp at h⟩
theorem frA {A0 : Nat → Prop} {ws : va_W} {H0 H : Heap} {locs : List Loc} (hD : va_D A0 ws) (hS : va_S A0 H0 H locs) (hA : ∀ q, H0.size ≤ q → A0 q) : ∀ q, va_A ws H.size q → A0 q := by
  intro q h
  rcases h with ⟨k, e, h⟩ | h
  · exact hD.2 k _ h
  · exact hA q (Nat.le_trans hS.1 h)
theorem dW {A A1 : Nat → Prop} {ws : va_W} (hF : ∀ q, A1 q → A q) (hD : va_D A1 ws) : va_D A ws := ⟨hD.1, fun k q h => hF _ (hD.2 k q h)⟩
def updJ (J : Nat → Nat → Int32) (k : Nat) (F : Nat → Int32) : Nat → Nat → Int32 := fun a => if a = k then F else J a
def updL (J : Nat → Nat → Int64) (k : Nat) (F : Nat → Int64) : Nat → Nat → Int64 := fun a => if a = k then F else J a
theorem vin3 {i : Int32} {n : Nat} (h0 : 0 ≤ i.toInt) (h1 : i.toInt < n) : vp_in i n := by
  intro h
  rcases h with h | h
  · have := Int32.lt_iff_toInt_lt.mp h
    have z : (0 : Int32).toInt = 0 := by decide
    omega
  · have e : i.toNatClampNeg = i.toInt.toNat := rfl
    omega
theorem qi_lt {a b : Int32} {m n : Int} (h : a < b) (ea : a.toInt = m) (eb : b.toInt = n) : m < n := by
  subst ea; subst eb; exact Int32.lt_iff_toInt_lt.mp h
theorem qi_le {a b : Int32} {m n : Int} (h : a ≤ b) (ea : a.toInt = m) (eb : b.toInt = n) : m ≤ n := by
  subst ea; subst eb; exact Int32.le_iff_toInt_le.mp h
theorem qi_nlt {a b : Int32} {m n : Int} (h : ¬ a < b) (ea : a.toInt = m) (eb : b.toInt = n) : n ≤ m := by
  subst ea; subst eb; exact Int.not_lt.mp (fun q => h (Int32.lt_iff_toInt_lt.mpr q))
theorem qi_nle {a b : Int32} {m n : Int} (h : ¬ a ≤ b) (ea : a.toInt = m) (eb : b.toInt = n) : n < m := by
  subst ea; subst eb; exact Int.not_le.mp (fun q => h (Int32.le_iff_toInt_le.mpr q))
theorem qi_eq {a b : Int32} {m n : Int} (h : a = b) (ea : a.toInt = m) (eb : b.toInt = n) : m = n := by
  subst ea; subst eb; rw [h]
theorem qi_ne {a b : Int32} {m n : Int} (h : ¬ a = b) (ea : a.toInt = m) (eb : b.toInt = n) : m ≠ n := by
  subst ea; subst eb; exact fun q => h (Int32.toInt_inj.mp q)
theorem bmod_id {x : Int} (h1 : (-2147483648) ≤ x) (h2 : x ≤ 2147483647) : x.bmod (2 ^ 32) = x := by
  rw [Int.bmod_def]
  have : ((2 ^ 32 : Nat) : Int) = 4294967296 := by decide
  rw [this]
  split <;> omega
theorem qi_add {a b x : Int32} {m n : Int} (e : x = a + b) (ea : a.toInt = m) (eb : b.toInt = n) (h1 : (-2147483648) ≤ m + n) (h2 : m + n ≤ 2147483647) : x.toInt = m + n := by
  rw [e, Int32.toInt_add, ea, eb]; exact bmod_id h1 h2
theorem qi_sub {a b x : Int32} {m n : Int} (e : x = a - b) (ea : a.toInt = m) (eb : b.toInt = n) (h1 : (-2147483648) ≤ m - n) (h2 : m - n ≤ 2147483647) : x.toInt = m - n := by
  rw [e, Int32.toInt_sub, ea, eb]; exact bmod_id h1 h2
theorem qi_mul {a b x : Int32} {m n : Int} (e : x = a * b) (ea : a.toInt = m) (eb : b.toInt = n) (h1 : (-2147483648) ≤ m * n) (h2 : m * n ≤ 2147483647) : x.toInt = m * n := by
  rw [e, Int32.toInt_mul, ea, eb]; exact bmod_id h1 h2
theorem qi_mulb {a b x : Int32} {l1 u1 l2 u2 : Int} (e : x = a * b) (h1 : l1 ≤ a.toInt) (h2 : a.toInt ≤ u1) (h3 : l2 ≤ b.toInt) (h4 : b.toInt ≤ u2) (z1 : 0 ≤ l1) (z2 : 0 ≤ l2) (z3 : u1 * u2 ≤ 2147483647) : l1 * l2 ≤ x.toInt ∧ x.toInt ≤ u1 * u2 := by
  have k1 : l1 * l2 ≤ a.toInt * b.toInt := Int.mul_le_mul h1 h3 z2 (Int.le_trans z1 h1)
  have k2 : a.toInt * b.toInt ≤ u1 * u2 := Int.mul_le_mul h2 h4 (Int.le_trans z2 h3) (Int.le_trans z1 (Int.le_trans h1 h2))
  have k3 : 0 ≤ l1 * l2 := Int.mul_nonneg z1 z2
  have : x.toInt = a.toInt * b.toInt := qi_mul e rfl rfl (by omega) (by omega)
  omega
theorem qi_mulx {a b x : Int32} {m n l1 u1 l2 u2 : Int} (e : x = a * b) (ea : a.toInt = m) (eb : b.toInt = n) (h1 : l1 ≤ a.toInt) (h2 : a.toInt ≤ u1) (h3 : l2 ≤ b.toInt) (h4 : b.toInt ≤ u2) (z1 : 0 ≤ l1) (z2 : 0 ≤ l2) (z3 : u1 * u2 ≤ 2147483647) : x.toInt = m * n := by
  subst ea; subst eb
  have k1 : l1 * l2 ≤ a.toInt * b.toInt := Int.mul_le_mul h1 h3 z2 (Int.le_trans z1 h1)
  have k2 : a.toInt * b.toInt ≤ u1 * u2 := Int.mul_le_mul h2 h4 (Int.le_trans z2 h3) (Int.le_trans z1 (Int.le_trans h1 h2))
  have k3 : 0 ≤ l1 * l2 := Int.mul_nonneg z1 z2
  exact qi_mul e rfl rfl (by omega) (by omega)
theorem qi_nz {b : Int32} (h : 1 ≤ b.toInt) : ¬ b = 0 := fun q => by
  have z : (0 : Int32).toInt = 0 := by decide
  rw [q, z] at h; omega
theorem qi_nz0 {b : Int32} (h : b.toInt ≠ 0) : ¬ b = 0 := fun q => by
  have z : (0 : Int32).toInt = 0 := by decide
  rw [q, z] at h; exact h rfl
theorem divnn {a b x : Int32} {m n : Int} (e : x = a / b) (ea : a.toInt = m) (eb : b.toInt = n) (h0 : 0 ≤ m) (h1 : 1 ≤ n) : x.toInt = m / n := by
  subst ea; subst eb
  have hb := b.toInt_lt
  have ha := a.toInt_lt
  have : x.toInt = (a.toInt.tdiv b.toInt).bmod (2 ^ 32) := by rw [e]; exact Int32.toInt_div a b
  rw [this, Int.tdiv_eq_ediv_of_nonneg h0]
  have k1 : 0 ≤ a.toInt / b.toInt := Int.ediv_nonneg h0 (by omega)
  have k2 : a.toInt / b.toInt ≤ a.toInt := Int.ediv_le_self _ h0
  exact bmod_id (by omega) (by omega)
theorem qi_div {a b x : Int32} {m n : Int} (e : x = a / b) (ea : a.toInt = m) (eb : b.toInt = n) (h0 : 0 ≤ m) (h1 : 1 ≤ n) : 0 ≤ x.toInt ∧ x.toInt ≤ m := by
  rw [divnn e ea eb h0 h1]
  exact ⟨Int.ediv_nonneg h0 (by omega), Int.ediv_le_self _ h0⟩
theorem qi_divc {a b x : Int32} {m n : Int} (e : x = a / b) (ea : a.toInt = m) (eb : b.toInt = n) (h0 : 0 ≤ m) (h1 : 1 ≤ n) : n * x.toInt ≤ m ∧ m < n * x.toInt + n := by
  rw [divnn e ea eb h0 h1]
  have k1 := Int.emod_add_mul_ediv m n
  have k2 := Int.emod_nonneg m (show n ≠ 0 by omega)
  have k3 := Int.emod_lt_of_pos m (show 0 < n by omega)
  constructor <;> omega
theorem remnn {a b x : Int32} {m n : Int} (e : x = a - a / b * b) (ea : a.toInt = m) (eb : b.toInt = n) (h0 : 0 ≤ m) (h1 : 1 ≤ n) : x.toInt = m % n := by
  obtain ⟨d, ed⟩ : ∃ d : Int32, d = a / b := ⟨_, rfl⟩
  have hd := divnn ed ea eb h0 h1
  obtain ⟨f, ef⟩ : ∃ f : Int32, f = d * b := ⟨_, rfl⟩
  have k1 := Int.emod_add_mul_ediv m n
  have k2 := Int.emod_nonneg m (show n ≠ 0 by omega)
  have k3 := Int.emod_lt_of_pos m (show 0 < n by omega)
  have ha := a.toInt_lt
  have k4 : m / n * n = n * (m / n) := Int.mul_comm _ _
  have k5 : 0 ≤ m / n := Int.ediv_nonneg h0 (by omega)
  have k6 : 0 ≤ n * (m / n) := Int.mul_nonneg (by omega) k5
  have hf : f.toInt = m / n * n := qi_mul ef hd eb (by omega) (by omega)
  have hx : x.toInt = m - m / n * n := qi_sub (by rw [e, ef, ed]) ea hf (by omega) (by omega)
  omega
theorem qi_rem {a b x : Int32} {m n : Int} (e : x = a - a / b * b) (ea : a.toInt = m) (eb : b.toInt = n) (h0 : 0 ≤ m) (h1 : 1 ≤ n) : 0 ≤ x.toInt ∧ x.toInt < n ∧ x.toInt ≤ m := by
  rw [remnn e ea eb h0 h1]
  have k1 := Int.emod_add_mul_ediv m n
  have k6 : 0 ≤ n * (m / n) := Int.mul_nonneg (by omega) (Int.ediv_nonneg h0 (by omega))
  exact ⟨Int.emod_nonneg m (by omega), Int.emod_lt_of_pos m (by omega), by omega⟩
theorem qi_remq {a b x : Int32} {m n : Int} (e : x = a - a / b * b) (ea : a.toInt = m) (eb : b.toInt = n) (h0 : 0 ≤ m) (h1 : 1 ≤ n) : m = n * (m / n) + x.toInt := by
  rw [remnn e ea eb h0 h1]
  have k1 := Int.emod_add_mul_ediv m n
  omega
theorem i32_rg (x : Int32) : (-2147483648) ≤ x.toInt ∧ x.toInt ≤ 2147483647 := by
  have h1 := x.toInt_lt
  have h2 := x.le_toInt
  omega
theorem zn {v : Int32} (h0 : 0 ≤ v.toInt) (h1 : v.toInt ≤ 1) : narrow .boolean (.int v) = .int v := by
  have : v = 0 ∨ v = 1 := by
    have z0 : (0 : Int32).toInt = 0 := by decide
    have z1 : (1 : Int32).toInt = 1 := by decide
    rcases (show v.toInt = 0 ∨ v.toInt = 1 by omega) with h | h
    · exact Or.inl (Int32.toInt_inj.mp (h.trans z0.symm))
    · exact Or.inr (Int32.toInt_inj.mp (h.trans z1.symm))
  rcases this with rfl | rfl <;> decide
theorem msucc {m : Int} {N : Nat} (h : m < ((N + 1 : Nat) : Int)) : m < (N : Int) + 1 := by omega
theorem mlt {m : Int} (h : 0 ≤ m) : m < ((m + 1).toNat : Int) := by omega
def EB (lo hi : Int) (f : Nat → Int32) : Prop := ∀ k : Int, lo ≤ (f k.toNat).toInt ∧ (f k.toNat).toInt ≤ hi
theorem EB_upd {lo hi m : Int} {f : Nat → Int32} {x : Int32} (h : EB lo hi f) (h0 : lo ≤ x.toInt) (h1 : x.toInt ≤ hi) : EB lo hi (upd f m.toNat x) := fun k => by
  show lo ≤ (if k.toNat = m.toNat then x else f k.toNat).toInt ∧ _
  by_cases e : k.toNat = m.toNat
  · have : upd f m.toNat x k.toNat = x := by simp [upd, e]
    rw [this, if_pos e]; exact ⟨h0, h1⟩
  · have : upd f m.toNat x k.toNat = f k.toNat := by simp [upd, e]
    rw [this, if_neg e]; exact h k
def EW (f : Nat → Int32) : Prop := ∀ k : Int, 0 ≤ k → 10 ≤ k % 26 → k % 26 < 15 → 0 ≤ (f k.toNat).toInt ∧ (f k.toNat).toInt ≤ 99
theorem EW.gen {m : Int} {f : Nat → Int32} {x : Int32} (h : EW f) (h0 : 0 ≤ m) (h1 : 10 ≤ m % 26 → m % 26 < 15 → 0 ≤ x.toInt ∧ x.toInt ≤ 99) : EW (upd f m.toNat x) := fun k k0 k1 k2 => by
  by_cases e : k.toNat = m.toNat
  · have : upd f m.toNat x k.toNat = x := by simp [upd, e]
    rw [this]
    have : k = m := by omega
    subst this; exact h1 k1 k2
  · have : upd f m.toNat x k.toNat = f k.toNat := by simp [upd, e]
    rw [this]; exact h k k0 k1 k2
theorem EW.updo {m : Int} {f : Nat → Int32} {x : Int32} (h : EW f) (h0 : 0 ≤ m) (h1 : m % 26 < 10 ∨ 15 ≤ m % 26) : EW (upd f m.toNat x) := h.gen h0 (fun a b => by omega)
theorem EW.updi {m : Int} {f : Nat → Int32} {x : Int32} (h : EW f) (h0 : 0 ≤ x.toInt) (h1 : x.toInt ≤ 99) : EW (upd f m.toNat x) := fun k k0 k1 k2 => by
  by_cases e : k.toNat = m.toNat
  · have : upd f m.toNat x k.toNat = x := by simp [upd, e]
    rw [this]; exact ⟨h0, h1⟩
  · have : upd f m.toNat x k.toNat = f k.toNat := by simp [upd, e]
    rw [this]; exact h k k0 k1 k2
theorem EW.updc {m m2 : Int} {f g : Nat → Int32} (h : EW f) (hg : EW g) (h0 : 0 ≤ m) (h1 : 0 ≤ m2) (h2 : m % 26 = m2 % 26) : EW (upd f m.toNat (g m2.toNat)) := h.gen h0 (fun a b => hg m2 h1 (by omega) (by omega))
theorem lcmp_or {x y : Int64} {v : Int32} (e : v = lg_cmp x y) : (v.toInt = 0 ∧ x.toInt = y.toInt) ∨ (v.toInt ≠ 0 ∧ x.toInt ≠ y.toInt) := by
  subst e
  by_cases h : x = y
  · left; subst h; exact ⟨by simp [lg_cmp], rfl⟩
  · right
    refine ⟨?_, fun q => h (Int64.toInt_inj.mp q)⟩
    unfold lg_cmp
    split <;> simp_all <;> split <;> decide
theorem toI1 {a : Int32} (h : a.toInt = 1) : a = 1 := Int32.toInt_inj.mp (h.trans (by decide))
def M7 (b : Int32) (tu ma : Nat → Int32) : Prop := ∀ k : Int, 5 * b.toInt ≤ k → k < 5 * b.toInt + (tu (b.toInt).toNat).toInt → 3 ≤ (ma k.toNat).toInt
def dl (c : Int32) : Int := if c.toInt = 126 then 0 else if 97 ≤ c.toInt ∧ c.toInt ≤ 122 then 1 else -1
def dp (f : Nat → Int32) (a : Int) : Nat → Int
  | 0 => 0
  | n + 1 => dp f a n + dl (f (a + n).toNat)
def okc (f : Nat → Int32) (a k : Int) : Prop := ((f k.toNat).toInt = 126 → 1 ≤ dp f a (k - a).toNat) ∧ (97 ≤ (f k.toNat).toInt → (f k.toNat).toInt ≤ 122 → dp f a (k - a).toNat ≤ 59) ∧ (0 ≤ dp f a (k - a).toNat) ∧ (dp f a (k - a).toNat ≤ 60) ∧ (¬ (f k.toNat).toInt = 126 → ¬ (97 ≤ (f k.toNat).toInt ∧ (f k.toNat).toInt ≤ 122) → 2 ≤ dp f a (k - a).toNat)
def RUW (a b : Int) (f : Nat → Int32) : Prop := 0 ≤ a ∧ a ≤ 1120 ∧ b ≤ 1120 ∧ ∀ k : Int, a ≤ k → k < b → okc f a k
def BT (a k : Int32) : Prop := (a >>> (k &&& 31)) &&& 1 = 1
theorem dp_or {f : Nat → Int32} {a k : Int} (h : a ≤ k) : ((f k.toNat).toInt = 126 ∧ dp f a (k + 1 - a).toNat = dp f a (k - a).toNat) ∨ (97 ≤ (f k.toNat).toInt ∧ (f k.toNat).toInt ≤ 122 ∧ dp f a (k + 1 - a).toNat = dp f a (k - a).toNat + 1) ∨ ((f k.toNat).toInt ≠ 126 ∧ ((f k.toNat).toInt < 97 ∨ 122 < (f k.toNat).toInt) ∧ dp f a (k + 1 - a).toNat = dp f a (k - a).toNat + -1) := by
  have e : (k + 1 - a).toNat = (k - a).toNat + 1 := by omega
  have e2 : (a + ((k - a).toNat : Int)) = k := by omega
  have e3 : dp f a (k + 1 - a).toNat = dp f a (k - a).toNat + dl (f k.toNat) := by rw [e, dp, e2]
  rw [e3]
  by_cases h1 : (f k.toNat).toInt = 126
  · left; exact ⟨h1, by simp [dl, h1]⟩
  · by_cases h2 : 97 ≤ (f k.toNat).toInt ∧ (f k.toNat).toInt ≤ 122
    · right; left; exact ⟨h2.1, h2.2, by simp [dl, h1, h2]⟩
    · right; right; exact ⟨h1, by omega, by simp [dl, h1, h2]⟩
theorem ruw_at {a b k : Int} {f : Nat → Int32} (h : RUW a b f) (h1 : a ≤ k) (h2 : k < b) : ((f k.toNat).toInt = 126 → 1 ≤ dp f a (k - a).toNat) ∧ (97 ≤ (f k.toNat).toInt → (f k.toNat).toInt ≤ 122 → dp f a (k - a).toNat ≤ 59) ∧ (0 ≤ dp f a (k - a).toNat) ∧ (dp f a (k - a).toNat ≤ 60) ∧ ((f k.toNat).toInt ≠ 126 → ((f k.toNat).toInt < 97 ∨ 122 < (f k.toNat).toInt) → 2 ≤ dp f a (k - a).toNat) := by
  obtain ⟨q1, q2, q3, q4, q5⟩ := h.2.2.2 k h1 h2
  exact ⟨q1, q2, q3, q4, fun z1 z2 => q5 z1 (fun z3 => by omega)⟩
theorem dp_zero {f : Nat → Int32} {a : Int} : dp f a (a - a).toNat = 0 := by
  have : (a - a).toNat = 0 := by omega
  rw [this]; rfl
def RU (b : Int32) (to fr tt co : Nat → Int32) : Prop := BT (to (b.toInt).toNat) 1 → 560 * b.toInt ≤ (fr (b.toInt).toNat).toInt ∧ (tt (b.toInt).toNat).toInt ≤ 560 * b.toInt + 560 ∧ RUW (fr (b.toInt).toNat).toInt (tt (b.toInt).toNat).toInt co
def trb (f : Nat → Int32) (h T : Int) : Nat → Int → Int
  | 0, _ => -1
  | n + 1, k => if k < T then (if (f k.toNat).toInt = h ∧ (f (k + 5).toNat).toInt = 0 then k else trb f h T n (k + 1)) else -1
theorem trb_end {f : Nat → Int32} {h T k : Int} {n : Nat} (h1 : T ≤ k) : trb f h T n k = -1 := by
  cases n with
  | zero => rfl
  | succ n => simp only [trb]; rw [if_neg (by omega)]
theorem trb_st {f : Nat → Int32} {h T k : Int} (h0 : 0 ≤ k) (h1 : k ≤ 5) (h2 : k < T) : trb f h T (6 - k).toNat k = if (f k.toNat).toInt = h ∧ (f (k + 5).toNat).toInt = 0 then k else trb f h T (6 - (k + 1)).toNat (k + 1) := by
  have e : (6 - k).toNat = (6 - (k + 1)).toNat + 1 := by omega
  rw [e]; simp only [trb]; rw [if_pos h2]
theorem trb_m1 {f : Nat → Int32} {h T k : Int} (h0 : 0 ≤ k) (h1 : k ≤ 5) (h2 : k < T) (h3 : (f k.toNat).toInt ≠ h) : trb f h T (6 - k).toNat k = trb f h T (6 - (k + 1)).toNat (k + 1) := by
  rw [trb_st h0 h1 h2, if_neg (fun q => h3 q.1)]
theorem trb_m2 {f : Nat → Int32} {h T k : Int} (h0 : 0 ≤ k) (h1 : k ≤ 5) (h2 : k < T) (h3 : (f (k + 5).toNat).toInt ≠ 0) : trb f h T (6 - k).toNat k = trb f h T (6 - (k + 1)).toNat (k + 1) := by
  rw [trb_st h0 h1 h2, if_neg (fun q => h3 q.2)]
theorem trb_hit {f : Nat → Int32} {h T k : Int} (h0 : 0 ≤ k) (h1 : k ≤ 5) (h2 : k < T) (h3 : (f k.toNat).toInt = h) (h4 : (f (k + 5).toNat).toInt = 0) : trb f h T (6 - k).toNat k = k := by
  rw [trb_st h0 h1 h2, if_pos ⟨h3, h4⟩]
theorem nn_nat (n : Nat) : (0 : Int) ≤ n := by omega
theorem and_dec {k x y : Int32} (e : x = k &&& y) (ey : y = k - 1) (h : k.toInt ≠ 0) : (x.toUInt32.toNat : Int) < (k.toUInt32.toNat : Int) := by
  have z : k.toUInt32.toNat ≠ 0 := fun q => h (by
    have e1 : k.toInt = k.toBitVec.toInt := rfl
    have e2 : k.toBitVec.toNat = k.toUInt32.toNat := rfl
    rw [e1, BitVec.toInt_eq_toNat_of_lt (by omega)]
    omega)
  have h1 : x.toUInt32 = k.toUInt32 &&& (k.toUInt32 - 1) := by rw [e, ey]; rfl
  have h2 : (k.toUInt32 - 1).toNat < k.toUInt32.toNat := by
    have := k.toUInt32.toNat_lt
    rw [UInt32.toNat_sub]
    have o : (1 : UInt32).toNat = 1 := rfl
    rw [o]; omega
  have h3 : x.toUInt32.toNat ≤ (k.toUInt32 - 1).toNat := by rw [h1, UInt32.toNat_and]; exact Nat.and_le_right
  omega
theorem rv_pos {v q a b : Int32} {T : Int} (e : q = a * b) (ha : a.toInt = T) (hb : b.toInt = T) (h0 : 0 ≤ T) (h1 : T ≤ 5) (h2 : 0 ≤ v.toInt) (h3 : v.toInt < q.toInt) : 1 ≤ T := by
  have hq : q.toInt = T * T := qi_mul e ha hb (by have := Int.mul_nonneg h0 h0; omega) (by have := Int.mul_le_mul h1 h1 h0 (by omega : (0 : Int) ≤ 5); omega)
  rcases (show T = 0 ∨ 1 ≤ T by omega) with h | h
  · rw [h] at hq; omega
  · exact h
theorem rv_div {v q a b d x : Int32} {T : Int} (e : q = a * b) (ha : a.toInt = T) (hb : b.toInt = T) (h0 : 0 ≤ T) (h1 : T ≤ 5) (h2 : 0 ≤ v.toInt) (h3 : v.toInt < q.toInt) (ex : x = v / d) (hd : d.toInt = T) : x.toInt < T := by
  have hT := rv_pos e ha hb h0 h1 h2 h3
  have hq : q.toInt = T * T := qi_mul e ha hb (by have := Int.mul_nonneg h0 h0; omega) (by have := Int.mul_le_mul h1 h1 h0 (by omega : (0 : Int) ≤ 5); omega)
  have hx := divnn ex rfl hd h2 hT
  rw [hx]
  exact Int.ediv_lt_of_lt_mul (by omega) (by rw [← hq]; exact h3)
def pw (a : Int) : Nat → Int
  | 0 => 1
  | 1 => a
  | 2 => a * a
  | 3 => a * a * a
  | _ => a * a * a * a
theorem pw_0 {a n : Int} (h : n = 0) : pw a n.toNat = 1 := by subst h; rfl
theorem pw_1 {a n : Int} (h : n = 1) : pw a n.toNat = a := by subst h; rfl
theorem pw_2 {a n : Int} (h : n = 2) : pw a n.toNat = a * a := by subst h; rfl
theorem pw_3 {a n : Int} (h : n = 3) : pw a n.toNat = a * a * a := by subst h; rfl
theorem pw_4 {a n : Int} (h : n = 4) : pw a n.toNat = a * a * a * a := by subst h; rfl
def sgz (t : Nat → Int32) (n k : Int) : Int := if k < n then ((t k.toNat) &&& 255).toInt else 0
theorem sgz_lt {t : Nat → Int32} {n k : Int} (h : k < n) : ((t k.toNat) &&& 255).toInt = sgz t n k := by unfold sgz; rw [if_pos h]
theorem sgz_ge {t : Nat → Int32} {n k : Int} (h : n ≤ k) : sgz t n k = 0 := by unfold sgz; rw [if_neg (by omega)]
theorem and255 (x : Int32) : 0 ≤ (x &&& 255).toInt ∧ (x &&& 255).toInt ≤ 255 := by
  have h : (x &&& 255).toUInt32.toNat ≤ 255 := by
    have e : (x &&& 255).toUInt32 = x.toUInt32 &&& 255 := rfl
    rw [e, UInt32.toNat_and]; exact Nat.and_le_right
  have e2 : (x &&& 255).toInt = ((x &&& 255).toUInt32.toNat : Int) := by
    have : (x &&& 255).toInt = (x &&& 255).toBitVec.toInt := rfl
    rw [this, BitVec.toInt_eq_toNat_of_lt]
    · rfl
    · show 2 * (x &&& 255).toUInt32.toNat < 2 ^ 32
      omega
  omega
theorem sgz_rg (t : Nat → Int32) (n k : Int) : 0 ≤ sgz t n k ∧ sgz t n k ≤ 255 := by
  unfold sgz
  split
  · exact and255 _
  · omega
def WM (r : Nat → Nat) (ct : Nat → ClassId) (i_taped i_size i_faultKind i_at i_end i_token i_number i_bank i_rb i_codes i_within i_piled i_unitsInRule i_askHouse i_askTune i_acts i_undone i_laid i_knowns i_time : Int32) (f_text f_tunes f_houses f_hums f_told f_many f_ruleFrom f_ruleTo f_code f_eWhat f_eSign f_all f_kept f_was f_sTune f_boxAll : Nat → Int32) (J : Nat → Nat → Int32) (L : Nat → Nat → Int64) : va_W := [(r 0, .inr (8, [.ref (r 1), .ref (r 2), .int i_taped, .int i_size, .int i_faultKind, .int (J 0 0), .int i_at, .int i_end, .int i_token, .int i_number, .long (L 0 0), .ref (r 3), .ref (r 4), .ref (r 5), .ref (r 6), .ref (r 7), .ref (r 8), .ref (r 9), .ref (r 10), .ref (r 11), .ref (r 12), .ref (r 13), .ref (r 14), .ref (r 15), .ref (r 16), .ref (r 17), .ref (r 18), .ref (r 19), .ref (r 20), .ref (r 21), .ref (r 22), .ref (r 23), .ref (r 24), .int i_bank, .int i_rb, .int i_codes, .int i_within, .int i_piled, .int i_unitsInRule, .int i_askHouse, .int i_askTune, .int (J 1 0), .ref (r 25), .ref (r 26), .ref (r 27), .int i_acts, .int i_undone, .ref (r 28), .int i_laid, .ref (r 29), .ref (r 30), .ref (r 31), .ref (r 32), .ref (r 33), .ref (r 34), .ref (r 35), .ref (r 36), .int i_knowns, .int i_time, .int (J 2 0), .ref (r 37), .ref (r 38)])), (r 1, .inl (ct 1, 1620, .inl (J 3))), (r 2, .inl (ct 2, 1600, .inl f_text)), (r 3, .inl (ct 3, 2, .inl (J 4))), (r 4, .inl (ct 4, 2, .inl f_tunes)), (r 5, .inl (ct 5, 2, .inl f_houses)), (r 6, .inl (ct 6, 2, .inl (J 5))), (r 7, .inl (ct 7, 2, .inl f_hums)), (r 8, .inl (ct 8, 2, .inl (J 6))), (r 9, .inl (ct 9, 2, .inl f_told)), (r 10, .inl (ct 10, 10, .inl (J 7))), (r 11, .inl (ct 11, 10, .inl f_many)), (r 12, .inl (ct 12, 80, .inl (J 8))), (r 13, .inl (ct 13, 8, .inl (J 9))), (r 14, .inl (ct 14, 8, .inl (J 10))), (r 15, .inl (ct 15, 24, .inl (J 11))), (r 16, .inl (ct 16, 2, .inl f_ruleFrom)), (r 17, .inl (ct 17, 2, .inl f_ruleTo)), (r 18, .inl (ct 18, 10, .inr (.inl (L 1)))), (r 19, .inl (ct 19, 8, .inr (.inl (L 2)))), (r 20, .inl (ct 20, 1120, .inl f_code)), (r 21, .inl (ct 21, 1120, .inl (J 12))), (r 22, .inl (ct 22, 90, .inl f_eWhat)), (r 23, .inl (ct 23, 90, .inl f_eSign)), (r 24, .inl (ct 24, 60, .inl (J 13))), (r 25, .inl (ct 25, 26, .inl f_all)), (r 26, .inl (ct 26, 26, .inl f_kept)), (r 27, .inl (ct 27, 1066, .inl f_was)), (r 28, .inl (ct 28, 4, .inl (J 14))), (r 29, .inl (ct 29, 1715, .inl (J 15))), (r 30, .inl (ct 30, 30, .inl f_sTune)), (r 31, .inl (ct 31, 30, .inl (J 16))), (r 32, .inl (ct 32, 30, .inl (J 17))), (r 33, .inl (ct 33, 30, .inl (J 18))), (r 34, .inl (ct 34, 30, .inl (J 19))), (r 35, .inl (ct 35, 21, .inl (J 20))), (r 36, .inl (ct 36, 343, .inl (J 21))), (r 37, .inl (ct 37, 78, .inl f_boxAll)), (r 38, .inl (ct 38, 3, .inl (J 22)))]
def TM (ct : Nat → ClassId) : List (ClassId × FieldType) := [(ct 1, .byte), (ct 2, .byte), (ct 3, .int), (ct 4, .int), (ct 5, .int), (ct 6, .int), (ct 7, .int), (ct 8, .int), (ct 9, .int), (ct 10, .int), (ct 11, .int), (ct 12, .int), (ct 13, .int), (ct 14, .int), (ct 15, .int), (ct 16, .int), (ct 17, .int), (ct 18, .long), (ct 19, .long), (ct 20, .int), (ct 21, .int), (ct 22, .int), (ct 23, .int), (ct 24, .int), (ct 25, .int), (ct 26, .int), (ct 27, .int), (ct 28, .int), (ct 29, .int), (ct 30, .int), (ct 31, .int), (ct 32, .int), (ct 33, .int), (ct 34, .int), (ct 35, .int), (ct 36, .boolean), (ct 37, .int), (ct 38, .boolean)]
def IM (i_taped i_size i_faultKind i_at i_end i_bank i_rb i_acts i_undone i_laid i_knowns i_time : Int32) (f_tunes f_houses f_hums f_told f_many f_ruleFrom f_ruleTo f_code f_all f_kept f_was f_sTune f_boxAll : Nat → Int32) : Prop := ((0 : Int) ≤ i_taped.toInt) ∧ (i_taped.toInt ≤ (1600 : Int)) ∧ ((0 : Int) ≤ i_size.toInt) ∧ (i_size.toInt ≤ (1600 : Int)) ∧ ((0 : Int) ≤ i_bank.toInt) ∧ (i_bank.toInt ≤ (1 : Int)) ∧ ((0 : Int) ≤ i_rb.toInt) ∧ (i_rb.toInt ≤ (1 : Int)) ∧ ((0 : Int) ≤ i_laid.toInt) ∧ (i_laid.toInt ≤ (4 : Int)) ∧ ((0 : Int) ≤ i_knowns.toInt) ∧ (i_knowns.toInt ≤ (30 : Int)) ∧ ((0 : Int) ≤ i_time.toInt) ∧ (i_time.toInt ≤ (100000 : Int)) ∧ ((0 : Int) ≤ i_end.toInt) ∧ (i_end.toInt ≤ i_size.toInt) ∧ ((0 : Int) ≤ i_at.toInt) ∧ ((0 : Int) ≤ i_faultKind.toInt) ∧ ((0 : Int) ≤ i_acts.toInt) ∧ ((0 : Int) ≤ i_undone.toInt) ∧ (i_acts.toInt + i_undone.toInt ≤ (40 : Int)) ∧ (EB 0 5 f_tunes) ∧ (EB 0 4 f_houses) ∧ (EB 0 8 f_many) ∧ (EB 0 100 f_hums) ∧ (EB 0 15 f_told) ∧ (EB 0 4 f_sTune) ∧ (EW f_all) ∧ (EW f_kept) ∧ (EW f_was) ∧ (EW f_boxAll) ∧ (M7 i_bank f_tunes f_many) ∧ (RU i_bank f_told f_ruleFrom f_ruleTo f_code)
