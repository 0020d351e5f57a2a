def N3 (t : Int32) (f : Nat → Int32) : Prop := ∀ k : Int, 0 ≤ k → k < t.toInt → 3 ≤ (f k.toNat).toInt
theorem nneg {a : Int32} (h : 0 ≤ a.toInt) : ¬ a < 0 := fun q => by
  have := Int32.lt_iff_toInt_lt.mp q
  have z : (0 : Int32).toInt = 0 := by decide
  omega
theorem clamp {a b : Int32} {n : Nat} (h1 : 0 ≤ a.toInt) (h2 : 0 ≤ b.toInt) (h : a.toInt + b.toInt ≤ n) : a.toNatClampNeg + b.toNatClampNeg ≤ n := by
  have e : a.toNatClampNeg = a.toInt.toNat := rfl
  have e2 : b.toNatClampNeg = b.toInt.toNat := rfl
  omega
theorem EW_cpy {f g z : Nat → Int32} {a b d : Int} (e : z = va_cpy f g a.toNat b.toNat d.toNat) (h : EW g) (h1 : 0 ≤ a) (h2 : 0 ≤ b) (h3 : 0 ≤ d) (hc : ∀ k : Int, 0 ≤ k → k < d → 10 ≤ (b + k) % 26 → (b + k) % 26 < 15 → 0 ≤ (f (a + k).toNat).toInt ∧ (f (a + k).toNat).toInt ≤ 99) : EW z := fun k k0 k1 k2 => by
  subst e
  by_cases q : b.toNat ≤ k.toNat ∧ k.toNat < b.toNat + d.toNat
  · have e1 : va_cpy f g a.toNat b.toNat d.toNat k.toNat = f (a.toNat + (k.toNat - b.toNat)) := by unfold va_cpy; rw [if_pos q]
    have e2 : a.toNat + (k.toNat - b.toNat) = (a + (k - b)).toNat := by omega
    rw [e1, e2]
    have e3 : b + (k - b) = k := by omega
    exact hc (k - b) (by omega) (by omega) (by rw [e3]; exact k1) (by rw [e3]; exact k2)
  · have e1 : va_cpy f g a.toNat b.toNat d.toNat k.toNat = g k.toNat := by unfold va_cpy; rw [if_neg q]
    rw [e1]; exact h k k0 k1 k2
theorem EB_cpy {lo hi : Int} {f g z : Nat → Int32} {a b d : Int} (e : z = va_cpy f g a.toNat b.toNat d.toNat) (h : EB lo hi g) (h1 : 0 ≤ a) (h2 : 0 ≤ b) (h3 : 0 ≤ d) (hc : ∀ k : Int, 0 ≤ k → k < d → lo ≤ (f (a + k).toNat).toInt ∧ (f (a + k).toNat).toInt ≤ hi) : EB lo hi z := fun k => by
  subst e
  by_cases q : b.toNat ≤ k.toNat ∧ k.toNat < b.toNat + d.toNat
  · have e1 : va_cpy f g a.toNat b.toNat d.toNat k.toNat = f (a.toNat + (k.toNat - b.toNat)) := by unfold va_cpy; rw [if_pos q]
    have e2 : a.toNat + (k.toNat - b.toNat) = (a + ((k.toNat : Int) - b)).toNat := by omega
    rw [e1, e2]; exact hc ((k.toNat : Int) - b) (by omega) (by omega)
  · have e1 : va_cpy f g a.toNat b.toNat d.toNat k.toNat = g k.toNat := by unfold va_cpy; rw [if_neg q]
    rw [e1]; exact h k
def WB (t : Int32) (f : Nat → Int32) : Prop := ∀ k : Int, t.toInt ≤ k → k < 5 → (f k.toNat).toInt = -1
def RR (t : Int32) (row : Int) (f : Nat → Int32) : Prop := ∀ k : Int, t.toInt ≤ k → k < 5 → (f (26 * row + k).toNat).toInt = -1
def RB (t d u : Int32) (f : Nat → Int32) : Prop := ∀ r : Int, 0 ≤ r → r ≤ d.toInt + u.toInt → RR t r f
def BB (t : Int32) (kp f : Nat → Int32) : Prop := ∀ r : Int, 0 ≤ r → r ≤ 2 → (kp r.toNat).toInt ≠ 0 → RR t r f
def WR (t : Int32) (row : Int) (f g : Nat → Int32) : Prop := ∀ r k : Int, 0 ≤ r → t.toInt ≤ k → k < 5 → (r = row ∨ (f (26 * r + k).toNat).toInt = -1) → (g (26 * r + k).toNat).toInt = -1
def RGP (a b lo hi : Int) (f : Nat → Int32) : Prop := ∀ k : Int, a ≤ k → k < b → lo ≤ (f k.toNat).toInt ∧ (f k.toNat).toInt ≤ hi
theorem cpy_in {f g : Nat → Int32} {a b d k : Nat} (h1 : b ≤ k) (h2 : k < b + d) : va_cpy f g a b d k = f (a + (k - b)) := by unfold va_cpy; rw [if_pos ⟨h1, h2⟩]
theorem cpy_out {f g : Nat → Int32} {a b d k : Nat} (h : k < b ∨ b + d ≤ k) : va_cpy f g a b d k = g k := by unfold va_cpy; rw [if_neg (by omega)]
theorem WB_m1 {t x : Int32} {f z : Nat → Int32} {i : Int} (h : WB t f) (e : z = upd f i.toNat x) (hx : x.toInt = -1) : WB t z := fun k k1 k2 => by
  subst e
  by_cases q : k.toNat = i.toNat
  · rw [q, upd_at]; exact hx
  · rw [upd_off q]; exact h k k1 k2
theorem WB_lt {t x : Int32} {f z : Nat → Int32} {i : Int} (h : WB t f) (e : z = upd f i.toNat x) (h0 : 0 ≤ i) (h1 : i < t.toInt) : WB t z := fun k k1 k2 => by
  subst e
  rw [upd_off (show k.toNat ≠ i.toNat by omega)]; exact h k k1 k2
theorem WB_cpy {t : Int32} {f g z : Nat → Int32} (h : WB t f) (ht : 0 ≤ t.toInt) (e : z = va_cpy f g (0 : Int).toNat (0 : Int).toNat (5 : Int).toNat) : WB t z := fun k k1 k2 => by
  subst e
  rw [cpy_in (show (0 : Int).toNat ≤ k.toNat by omega) (show k.toNat < (0 : Int).toNat + (5 : Int).toNat by omega)]
  have : (0 : Int).toNat + (k.toNat - (0 : Int).toNat) = k.toNat := by omega
  rw [this]; exact h k k1 k2
theorem WB_rr {t : Int32} {f g z : Nat → Int32} {row a : Int} (h : RR t row f) (ht : 0 ≤ t.toInt) (h0 : 0 ≤ row) (ha : a = 26 * row) (e : z = va_cpy f g a.toNat (0 : Int).toNat (5 : Int).toNat) : WB t z := fun k k1 k2 => by
  subst e
  rw [cpy_in (show (0 : Int).toNat ≤ k.toNat by omega) (show k.toNat < (0 : Int).toNat + (5 : Int).toNat by omega)]
  have : a.toNat + (k.toNat - (0 : Int).toNat) = (26 * row + k).toNat := by omega
  rw [this]; exact h k k1 k2
theorem WB_all {t : Int32} {f : Nat → Int32} (h : RGP 0 5 (-1) (-1) f) (ht : 0 ≤ t.toInt) : WB t f := fun k k1 k2 => by
  have := h k (by omega) k2
  omega
theorem WR_1 {t : Int32} {w f z : Nat → Int32} {row b : Int} (h : WB t w) (ht : 0 ≤ t.toInt) (h0 : 0 ≤ row) (hb : b = 26 * row) (e : z = va_cpy w f (0 : Int).toNat b.toNat (5 : Int).toNat) : WR t row f z := fun r k r0 k1 k2 hr => by
  subst e
  by_cases q : r = row
  · subst q
    rw [cpy_in (show b.toNat ≤ (26 * r + k).toNat by omega) (show (26 * r + k).toNat < b.toNat + (5 : Int).toNat by omega)]
    have : (0 : Int).toNat + ((26 * r + k).toNat - b.toNat) = k.toNat := by omega
    rw [this]; exact h k k1 k2
  · rw [cpy_out (by omega)]
    rcases hr with hr | hr
    · exact absurd hr q
    · exact hr
theorem WR_c {t : Int32} {w f g z : Nat → Int32} {row a b d : Int} (h : WR t row f g) (ht : 0 ≤ t.toInt) (h0 : 0 ≤ row) (hb : 26 * row + 5 ≤ b ∧ b + d ≤ 26 * row + 26 ∧ 0 ≤ d) (e : z = va_cpy w g a.toNat b.toNat d.toNat) : WR t row f z := fun r k r0 k1 k2 hr => by
  subst e
  rw [cpy_out (by omega)]; exact h r k r0 k1 k2 hr
theorem WR_u {t x : Int32} {f g z : Nat → Int32} {row b : Int} (h : WR t row f g) (ht : 0 ≤ t.toInt) (h0 : 0 ≤ row) (hb : 26 * row + 5 ≤ b ∧ b < 26 * row + 26) (e : z = upd g b.toNat x) : WR t row f z := fun r k r0 k1 k2 hr => by
  subst e
  rw [upd_off (show (26 * r + k).toNat ≠ b.toNat by omega)]; exact h r k r0 k1 k2 hr
theorem RB_begin {t d u : Int32} {f g : Nat → Int32} {row : Int} (hw : WR t row f g) (hr : row = 0) (hd : d.toInt = 0) (hu : u.toInt = 0) : RB t d u g := fun r r0 r1 k k1 k2 => hw r k r0 k1 k2 (Or.inl (by omega))
theorem RB_keep1 {t d u d1 u1 : Int32} {f g : Nat → Int32} {row : Int} (h : RB t d u f) (hw : WR t row f g) (hr : row = d.toInt + 1) (hd : d1.toInt = d.toInt + 1) (hu : u1.toInt = 0) (hu0 : 0 ≤ u.toInt) : RB t d1 u1 g := fun r r0 r1 k k1 k2 => by
  by_cases q : r = row
  · exact hw r k r0 k1 k2 (Or.inl q)
  · exact hw r k r0 k1 k2 (Or.inr (h r r0 (by omega) k k1 k2))
theorem RB_keep2 {t d u u1 : Int32} {f z g : Nat → Int32} {row : Int} (h : RB t d u f) (e : z = va_cpy f f (26 : Int).toNat (0 : Int).toNat (1040 : Int).toNat) (hw : WR t row z g) (hr : row = d.toInt) (ht : 0 ≤ t.toInt) (h40 : d.toInt = 40) (hu : u1.toInt = 0) (hu0 : 0 ≤ u.toInt) : RB t d u1 g := fun r r0 r1 k k1 k2 => by
  by_cases q : r = row
  · exact hw r k r0 k1 k2 (Or.inl q)
  · refine hw r k r0 k1 k2 (Or.inr ?_)
    subst e
    rw [cpy_in (show (0 : Int).toNat ≤ (26 * r + k).toNat by omega) (show (26 * r + k).toNat < (0 : Int).toNat + (1040 : Int).toNat by omega)]
    have : (26 : Int).toNat + ((26 * r + k).toNat - (0 : Int).toNat) = (26 * (r + 1) + k).toNat := by omega
    rw [this]; exact h (r + 1) (by omega) (by omega) k k1 k2
theorem RB_sh {t d u d1 u1 : Int32} {f : Nat → Int32} (h : RB t d u f) (e : d1.toInt + u1.toInt = d.toInt + u.toInt) : RB t d1 u1 f := fun r r0 r1 => h r r0 (by omega)
theorem BB_im {t x : Int32} {kp kz f g : Nat → Int32} {b : Int} (h : BB t kp f) (hw : WR t b f g) (h0 : 0 ≤ b) (e : kz = upd kp b.toNat x) : BB t kz g := fun r r0 r1 hk k k1 k2 => by
  by_cases q : r = b
  · exact hw r k r0 k1 k2 (Or.inl q)
  · refine hw r k r0 k1 k2 (Or.inr (h r r0 r1 ?_ k k1 k2))
    intro hz; apply hk; rw [e, upd_off (show r.toNat ≠ b.toNat by omega)]; exact hz
theorem BB_all {t : Int32} {kp f : Nat → Int32} (h : RGP 0 3 0 0 kp) : BB t kp f := fun r r0 r1 hk => by
  have := h r r0 (by omega)
  omega
theorem RGP_nil {a b lo hi : Int} {f : Nat → Int32} (h : b ≤ a) : RGP a b lo hi f := fun k k1 k2 => by omega
theorem RGP_up {a b c i lo hi : Int} {f z : Nat → Int32} {x : Int32} (h : RGP a b lo hi f) (e : z = upd f i.toNat x) (ha : 0 ≤ a) (hab : a ≤ b) (hib : i = b) (hc : c = b + 1) (h0 : lo ≤ x.toInt) (h1 : x.toInt ≤ hi) : RGP a c lo hi z := fun k k1 k2 => by
  subst e
  by_cases q : k = b
  · subst q; subst hib; rw [upd_at]; exact ⟨h0, h1⟩
  · rw [upd_off (show k.toNat ≠ i.toNat by omega)]; exact h k k1 (by omega)
theorem RGP_dn {a b c i lo hi : Int} {f z : Nat → Int32} {x : Int32} (h : RGP a b lo hi f) (e : z = upd f i.toNat x) (hi0 : 0 ≤ i) (ha : a = i + 1) (hc : c = i) (h0 : lo ≤ x.toInt) (h1 : x.toInt ≤ hi) : RGP c b lo hi z := fun k k1 k2 => by
  subst e
  by_cases q : k = i
  · subst q; rw [upd_at]; exact ⟨h0, h1⟩
  · rw [upd_off (show k.toNat ≠ i.toNat by omega)]; exact h k (by omega) k2
theorem RGP_off {a b c lo hi i : Int} {f z : Nat → Int32} {x : Int32} (h : RGP a b lo hi f) (e : z = upd f i.toNat x) (h0 : 0 ≤ i) (hc : a ≤ c) (hi1 : i < c) : RGP c b lo hi z := fun k k1 k2 => by
  subst e
  rw [upd_off (show k.toNat ≠ i.toNat by omega)]; exact h k (by omega) k2
theorem RGP_sub {a b c d lo hi : Int} {f : Nat → Int32} (h : RGP a b lo hi f) (h0 : a ≤ c) (h1 : d ≤ b) : RGP c d lo hi f := fun k k1 k2 => h k (by omega) (by omega)
def sum7 (f : Nat → Int32) : Int := (f 0).toInt + (f 1).toInt + (f 2).toInt + (f 3).toInt + (f 4).toInt + (f 5).toInt + (f 6).toInt
def SM (f : Nat → Int32) (n : Int) : Prop := (∀ k : Int, 0 ≤ k → k < 7 → 0 ≤ (f k.toNat).toInt) ∧ sum7 f = n
theorem SM_zero {f : Nat → Int32} {b n : Int} (h : RGP 0 b 0 0 f) (hb : 7 ≤ b) (hn : n = 0) : SM f n := by
  refine ⟨fun k k1 k2 => (h k k1 (by omega)).1, ?_⟩
  have e : ∀ k : Int, 0 ≤ k → k < 7 → (f k.toNat).toInt = 0 := fun k k1 k2 => by have := h k k1 (by omega); omega
  have e0 := e 0 (by omega) (by omega)
  have e1 := e 1 (by omega) (by omega)
  have e2 := e 2 (by omega) (by omega)
  have e3 := e 3 (by omega) (by omega)
  have e4 := e 4 (by omega) (by omega)
  have e5 := e 5 (by omega) (by omega)
  have e6 := e 6 (by omega) (by omega)
  show (f 0).toInt + (f 1).toInt + (f 2).toInt + (f 3).toInt + (f 4).toInt + (f 5).toInt + (f 6).toInt = n
  have q0 : (0 : Int).toNat = 0 := rfl
  have q1 : (1 : Int).toNat = 1 := rfl
  have q2 : (2 : Int).toNat = 2 := rfl
  have q3 : (3 : Int).toNat = 3 := rfl
  have q4 : (4 : Int).toNat = 4 := rfl
  have q5 : (5 : Int).toNat = 5 := rfl
  have q6 : (6 : Int).toNat = 6 := rfl
  rw [q0] at e0; rw [q1] at e1; rw [q2] at e2; rw [q3] at e3; rw [q4] at e4; rw [q5] at e5; rw [q6] at e6
  omega
theorem sum7_upd {f : Nat → Int32} {i : Int} {x : Int32} (h0 : 0 ≤ i) (h1 : i < 7) : sum7 (upd f i.toNat x) = sum7 f - (f i.toNat).toInt + x.toInt := by
  unfold sum7
  rcases (show i = 0 ∨ i = 1 ∨ i = 2 ∨ i = 3 ∨ i = 4 ∨ i = 5 ∨ i = 6 by omega) with q | q | q | q | q | q | q <;> subst q
  · rw [show (0 : Int).toNat = 0 from rfl, upd_at, upd_off (show 1 ≠ 0 by decide), upd_off (show 2 ≠ 0 by decide), upd_off (show 3 ≠ 0 by decide), upd_off (show 4 ≠ 0 by decide), upd_off (show 5 ≠ 0 by decide), upd_off (show 6 ≠ 0 by decide)]; omega
  · rw [show (1 : Int).toNat = 1 from rfl, upd_at, upd_off (show 0 ≠ 1 by decide), upd_off (show 2 ≠ 1 by decide), upd_off (show 3 ≠ 1 by decide), upd_off (show 4 ≠ 1 by decide), upd_off (show 5 ≠ 1 by decide), upd_off (show 6 ≠ 1 by decide)]; omega
  · rw [show (2 : Int).toNat = 2 from rfl, upd_at, upd_off (show 0 ≠ 2 by decide), upd_off (show 1 ≠ 2 by decide), upd_off (show 3 ≠ 2 by decide), upd_off (show 4 ≠ 2 by decide), upd_off (show 5 ≠ 2 by decide), upd_off (show 6 ≠ 2 by decide)]; omega
  · rw [show (3 : Int).toNat = 3 from rfl, upd_at, upd_off (show 0 ≠ 3 by decide), upd_off (show 1 ≠ 3 by decide), upd_off (show 2 ≠ 3 by decide), upd_off (show 4 ≠ 3 by decide), upd_off (show 5 ≠ 3 by decide), upd_off (show 6 ≠ 3 by decide)]; omega
  · rw [show (4 : Int).toNat = 4 from rfl, upd_at, upd_off (show 0 ≠ 4 by decide), upd_off (show 1 ≠ 4 by decide), upd_off (show 2 ≠ 4 by decide), upd_off (show 3 ≠ 4 by decide), upd_off (show 5 ≠ 4 by decide), upd_off (show 6 ≠ 4 by decide)]; omega
  · rw [show (5 : Int).toNat = 5 from rfl, upd_at, upd_off (show 0 ≠ 5 by decide), upd_off (show 1 ≠ 5 by decide), upd_off (show 2 ≠ 5 by decide), upd_off (show 3 ≠ 5 by decide), upd_off (show 4 ≠ 5 by decide), upd_off (show 6 ≠ 5 by decide)]; omega
  · rw [show (6 : Int).toNat = 6 from rfl, upd_at, upd_off (show 0 ≠ 6 by decide), upd_off (show 1 ≠ 6 by decide), upd_off (show 2 ≠ 6 by decide), upd_off (show 3 ≠ 6 by decide), upd_off (show 4 ≠ 6 by decide), upd_off (show 5 ≠ 6 by decide)]; omega
theorem SM_inc {f z : Nat → Int32} {n m i : Int} {x : Int32} (h : SM f n) (e : z = upd f i.toNat x) (h0 : 0 ≤ i) (h1 : i < 7) (hx : x.toInt = (f i.toNat).toInt + 1) (hm : m = n + 1) : SM z m := by
  obtain ⟨q1, q2⟩ := h
  refine ⟨fun k k1 k2 => ?_, ?_⟩
  · rw [e]
    by_cases q : k.toNat = i.toNat
    · rw [q, upd_at, hx]; have := q1 i h0 h1; omega
    · rw [upd_off q]; exact q1 k k1 k2
  · rw [e, sum7_upd h0 h1]; omega
def NT (f : Nat → Int32) : Prop := (∀ k : Int, 0 ≤ k → k < 7 → 0 ≤ (f k.toNat).toInt) ∧ sum7 f ≤ 8
theorem NT_of {f : Nat → Int32} {n : Int} (h : SM f n) (hn : n ≤ 8) : NT f := ⟨h.1, by rw [h.2]; exact hn⟩
theorem nn_upd {f : Nat → Int32} {i : Int} (h : ∀ k : Int, 0 ≤ k → k < 7 → 0 ≤ (f k.toNat).toInt) : ∀ k : Int, 0 ≤ k → k < 7 → 0 ≤ (upd f i.toNat 0 k.toNat).toInt := fun k k1 k2 => by
  by_cases q : k.toNat = i.toNat
  · rw [q, upd_at]; decide
  · rw [upd_off q]; exact h k k1 k2
theorem nn_sum {f : Nat → Int32} (h : ∀ k : Int, 0 ≤ k → k < 7 → 0 ≤ (f k.toNat).toInt) : 0 ≤ sum7 f := by
  have e0 : 0 ≤ (f 0).toInt := h 0 (by omega) (by omega)
  have e1 : 0 ≤ (f 1).toInt := h 1 (by omega) (by omega)
  have e2 : 0 ≤ (f 2).toInt := h 2 (by omega) (by omega)
  have e3 : 0 ≤ (f 3).toInt := h 3 (by omega) (by omega)
  have e4 : 0 ≤ (f 4).toInt := h 4 (by omega) (by omega)
  have e5 : 0 ≤ (f 5).toInt := h 5 (by omega) (by omega)
  have e6 : 0 ≤ (f 6).toInt := h 6 (by omega) (by omega)
  unfold sum7; omega
theorem nn_1 {f : Nat → Int32} {a : Int} (h : ∀ k : Int, 0 ≤ k → k < 7 → 0 ≤ (f k.toNat).toInt) (a0 : 0 ≤ a) (a1 : a < 7) : (f a.toNat).toInt ≤ sum7 f := by
  have q := nn_sum (nn_upd (i := a) h)
  rw [sum7_upd a0 a1] at q
  have z : (0 : Int32).toInt = 0 := by decide
  omega
theorem nn_2 {f : Nat → Int32} {a b : Int} (h : ∀ k : Int, 0 ≤ k → k < 7 → 0 ≤ (f k.toNat).toInt) (a0 : 0 ≤ a) (a1 : a < 7) (b0 : 0 ≤ b) (b1 : b < 7) (hab : a ≠ b) : (f a.toNat).toInt + (f b.toNat).toInt ≤ sum7 f := by
  have q := nn_1 (nn_upd (i := a) h) b0 b1
  rw [sum7_upd a0 a1, upd_off (show b.toNat ≠ a.toNat by omega)] at q
  have z : (0 : Int32).toInt = 0 := by decide
  omega
theorem nn_3 {f : Nat → Int32} {a b c : Int} (h : ∀ k : Int, 0 ≤ k → k < 7 → 0 ≤ (f k.toNat).toInt) (a0 : 0 ≤ a) (a1 : a < 7) (b0 : 0 ≤ b) (b1 : b < 7) (c0 : 0 ≤ c) (c1 : c < 7) (hab : a ≠ b) (hac : a ≠ c) (hbc : b ≠ c) : (f a.toNat).toInt + (f b.toNat).toInt + (f c.toNat).toInt ≤ sum7 f := by
  have q := nn_2 (nn_upd (i := a) h) b0 b1 c0 c1 hbc
  rw [sum7_upd a0 a1, upd_off (show b.toNat ≠ a.toNat by omega), upd_off (show c.toNat ≠ a.toNat by omega)] at q
  have z : (0 : Int32).toInt = 0 := by decide
  omega
theorem NT_3 {f : Nat → Int32} {a b c : Int} (h : NT f) (a0 : 0 ≤ a) (a1 : a < 7) (b0 : 0 ≤ b) (b1 : b < 7) (c0 : 0 ≤ c) (c1 : c < 7) : 0 ≤ (f a.toNat).toInt ∧ 0 ≤ (f b.toNat).toInt ∧ 0 ≤ (f c.toNat).toInt ∧ (f a.toNat).toInt ≤ 8 ∧ (f b.toNat).toInt ≤ 8 ∧ (f c.toNat).toInt ≤ 8 ∧ (a ≠ b → (f a.toNat).toInt + (f b.toNat).toInt ≤ 8) ∧ (a ≠ c → (f a.toNat).toInt + (f c.toNat).toInt ≤ 8) ∧ (a ≠ b → a ≠ c → b ≠ c → (f a.toNat).toInt + (f b.toNat).toInt + (f c.toNat).toInt ≤ 8) :=
  ⟨h.1 a a0 a1, h.1 b b0 b1, h.1 c c0 c1, Int.le_trans (nn_1 h.1 a0 a1) h.2, Int.le_trans (nn_1 h.1 b0 b1) h.2, Int.le_trans (nn_1 h.1 c0 c1) h.2, fun q => Int.le_trans (nn_2 h.1 a0 a1 b0 b1 q) h.2, fun q => Int.le_trans (nn_2 h.1 a0 a1 c0 c1 q) h.2, fun q1 q2 q3 => Int.le_trans (nn_3 h.1 a0 a1 b0 b1 c0 c1 q1 q2 q3) h.2⟩
theorem N3_upd {t x : Int32} {f z : Nat → Int32} {i : Int} (h : N3 t f) (e : z = upd f i.toNat x) (hx : 3 ≤ x.toInt) : N3 t z := fun k k0 k1 => by
  subst e
  by_cases q : k.toNat = i.toNat
  · rw [q, upd_at]; exact hx
  · rw [upd_off q]; exact h k k0 k1
theorem N3_add {t x v : Int32} {f z : Nat → Int32} {i : Int} (h : N3 t f) (e : z = upd f i.toNat v) (hi : i = t.toInt) (h0 : 0 ≤ t.toInt) (hx : x.toInt = t.toInt + 1) (hv : 3 ≤ v.toInt) : N3 x z := fun k k0 k1 => by
  subst e
  by_cases q : k.toNat = i.toNat
  · rw [q, upd_at]; exact hv
  · rw [upd_off q]; exact h k k0 (by omega)
theorem N3_zero {t : Int32} {f : Nat → Int32} (h : t.toInt = 0) : N3 t f := fun k k0 k1 => by omega
theorem SM_le {f : Nat → Int32} {n a : Int} (h : SM f n) (a0 : 0 ≤ a) (a1 : a < 7) : (f a.toNat).toInt ≤ n := by
  have := nn_1 h.1 a0 a1
  rw [h.2] at this; exact this
theorem mmin_or {a b v : Int32} {m n : Int} (e : v = if a ≤ b then a else b) (ea : a.toInt = m) (eb : b.toInt = n) : (m ≤ n ∧ v.toInt = m) ∨ (n ≤ m ∧ v.toInt = n) := by
  subst ea; subst eb
  by_cases h : a ≤ b
  · rw [if_pos h] at e; left; rw [e]; exact ⟨Int32.le_iff_toInt_le.mp h, rfl⟩
  · rw [if_neg h] at e; right; rw [e]; exact ⟨Int.le_of_lt (Int.not_le.mp (fun q => h (Int32.le_iff_toInt_le.mpr q))), rfl⟩
theorem mmax_or {a b v : Int32} {m n : Int} (e : v = if a ≥ b then a else b) (ea : a.toInt = m) (eb : b.toInt = n) : (n ≤ m ∧ v.toInt = m) ∨ (m ≤ n ∧ v.toInt = n) := by
  subst ea; subst eb
  by_cases h : a ≥ b
  · rw [if_pos h] at e; left; rw [e]; exact ⟨Int32.le_iff_toInt_le.mp h, rfl⟩
  · rw [if_neg h] at e; right; rw [e]; exact ⟨Int.le_of_lt (Int.not_le.mp (fun q => h (Int32.le_iff_toInt_le.mpr q))), rfl⟩
def WX (r : Nat → Nat) (ct : Nat → ClassId) (i_tapeLength i_time i_lyingCount i_rd_fault i_rd_token i_rd_kind i_sc_count i_sc_at i_A_tunes i_A_houses i_fA_length i_B_tunes i_B_houses i_fB_length i_acts_done i_acts_undone i_kn_count : Int32) (f_boxes f_boxKept f_trial f_offers f_A_noteCounts f_A_notes f_B_noteCounts f_B_notes f_now_where f_now_worn f_ahead_where f_ahead_worn f_acts_rows f_kn_tunes f_kn_noteTimes : Nat → Int32) (J : Nat → Nat → Int32) (L : Nat → Nat → Int64) : va_W := [(r 0, .inr (7, [.ref (r 11), .int i_tapeLength, .ref (r 1), .ref (r 3), .ref (r 7), .ref (r 8), .ref (r 9), .ref (r 12), .ref (r 13), .ref (r 10), .int i_time, .ref (r 14), .int i_lyingCount, .ref (r 15), .ref (r 16), .ref (r 17)])), (r 1, .inr (4, [.int i_rd_fault, .int (J 0 0), .ref (r 2), .ref (r 5), .int i_rd_token, .int i_rd_kind, .ref (r 18), .ref (r 19), .int (J 1 0), .int (J 2 0), .int (J 3 0), .int (J 4 0)])), (r 2, .inr (5, [.ref (r 20), .ref (r 21), .ref (r 22), .int i_sc_count, .int i_sc_at])), (r 3, .inr (3, [.int (J 5 0), .int (J 6 0), .int (J 7 0), .int i_A_tunes, .ref (r 23), .ref (r 24), .ref (r 25), .int i_A_houses, .ref (r 26), .ref (r 27), .ref (r 28), .int (J 8 0), .ref (r 4), .ref (r 29)])), (r 4, .inr (1, [.ref (r 30), .int i_fA_length, .ref (r 31)])), (r 5, .inr (3, [.int (J 9 0), .int (J 10 0), .int (J 11 0), .int i_B_tunes, .ref (r 32), .ref (r 33), .ref (r 34), .int i_B_houses, .ref (r 35), .ref (r 36), .ref (r 37), .int (J 12 0), .ref (r 6), .ref (r 38)])), (r 6, .inr (1, [.ref (r 39), .int i_fB_length, .ref (r 40)])), (r 7, .inr (6, [.ref (r 41), .ref (r 42), .ref (r 43), .ref (r 44), .ref (r 45), .int (J 13 0), .int (J 14 0)])), (r 8, .inr (6, [.ref (r 46), .ref (r 47), .ref (r 48), .ref (r 49), .ref (r 50), .int (J 15 0), .int (J 16 0)])), (r 9, .inr (0, [.ref (r 51), .int i_acts_done, .int i_acts_undone])), (r 10, .inr (2, [.int i_kn_count, .ref (r 52), .ref (r 53), .ref (r 54), .ref (r 55), .ref (r 56), .ref (r 57), .int (J 17 0), .ref (r 58), .ref (r 59), .ref (r 60), .ref (r 61), .ref (r 62), .ref (r 63)])), (r 11, .inl (ct 11, 1600, .inl (J 18))), (r 12, .inl (ct 12, 78, .inl f_boxes)), (r 13, .inl (ct 13, 3, .inl f_boxKept)), (r 14, .inl (ct 14, 4, .inl (J 19))), (r 15, .inl (ct 15, 4, .inl f_trial)), (r 16, .inl (ct 16, 4, .inl f_offers)), (r 17, .inl (ct 17, 20, .inl (J 20))), (r 18, .inl (ct 18, 5, .inr (.inl (L 0)))), (r 19, .inl (ct 19, 4, .inr (.inl (L 1)))), (r 20, .inl (ct 20, 1601, .inl (J 21))), (r 21, .inl (ct 21, 1601, .inl (J 22))), (r 22, .inl (ct 22, 1601, .inr (.inl (L 2)))), (r 23, .inl (ct 23, 5, .inl (J 23))), (r 24, .inl (ct 24, 5, .inl f_A_noteCounts)), (r 25, .inl (ct 25, 40, .inl f_A_notes)), (r 26, .inl (ct 26, 4, .inl (J 24))), (r 27, .inl (ct 27, 4, .inl (J 25))), (r 28, .inl (ct 28, 12, .inl (J 26))), (r 29, .inl (ct 29, 7, .inl (J 27))), (r 30, .inl (ct 30, 300, .inl (J 28))), (r 31, .inl (ct 31, 30, .inl (J 29))), (r 32, .inl (ct 32, 5, .inl (J 30))), (r 33, .inl (ct 33, 5, .inl f_B_noteCounts)), (r 34, .inl (ct 34, 40, .inl f_B_notes)), (r 35, .inl (ct 35, 4, .inl (J 31))), (r 36, .inl (ct 36, 4, .inl (J 32))), (r 37, .inl (ct 37, 12, .inl (J 33))), (r 38, .inl (ct 38, 7, .inl (J 34))), (r 39, .inl (ct 39, 300, .inl (J 35))), (r 40, .inl (ct 40, 30, .inl (J 36))), (r 41, .inl (ct 41, 5, .inl f_now_where)), (r 42, .inl (ct 42, 5, .inl (J 37))), (r 43, .inl (ct 43, 5, .inl f_now_worn)), (r 44, .inl (ct 44, 5, .inl (J 38))), (r 45, .inl (ct 45, 4, .inl (J 39))), (r 46, .inl (ct 46, 5, .inl f_ahead_where)), (r 47, .inl (ct 47, 5, .inl (J 40))), (r 48, .inl (ct 48, 5, .inl f_ahead_worn)), (r 49, .inl (ct 49, 5, .inl (J 41))), (r 50, .inl (ct 50, 4, .inl (J 42))), (r 51, .inl (ct 51, 1066, .inl f_acts_rows)), (r 52, .inl (ct 52, 30, .inl f_kn_tunes)), (r 53, .inl (ct 53, 30, .inl (J 43))), (r 54, .inl (ct 54, 30, .inl (J 44))), (r 55, .inl (ct 55, 30, .inl (J 45))), (r 56, .inl (ct 56, 30, .inl (J 46))), (r 57, .inl (ct 57, 1715, .inl (J 47))), (r 58, .inl (ct 58, 343, .inl (J 48))), (r 59, .inl (ct 59, 7, .inl f_kn_noteTimes)), (r 60, .inl (ct 60, 9, .inl (J 49))), (r 61, .inl (ct 61, 9, .inl (J 50))), (r 62, .inl (ct 62, 18, .inl (J 51))), (r 63, .inl (ct 63, 18, .inl (J 52)))]
def TX (ct : Nat → ClassId) : List (ClassId × FieldType) := [(ct 11, .byte), (ct 12, .int), (ct 13, .boolean), (ct 14, .int), (ct 15, .int), (ct 16, .int), (ct 17, .int), (ct 18, .long), (ct 19, .long), (ct 20, .int), (ct 21, .int), (ct 22, .long), (ct 23, .int), (ct 24, .int), (ct 25, .int), (ct 26, .int), (ct 27, .int), (ct 28, .int), (ct 29, .int), (ct 30, .int), (ct 31, .int), (ct 32, .int), (ct 33, .int), (ct 34, .int), (ct 35, .int), (ct 36, .int), (ct 37, .int), (ct 38, .int), (ct 39, .int), (ct 40, .int), (ct 41, .int), (ct 42, .int), (ct 43, .int), (ct 44, .int), (ct 45, .int), (ct 46, .int), (ct 47, .int), (ct 48, .int), (ct 49, .int), (ct 50, .int), (ct 51, .int), (ct 52, .int), (ct 53, .int), (ct 54, .boolean), (ct 55, .int), (ct 56, .int), (ct 57, .int), (ct 58, .boolean), (ct 59, .int), (ct 60, .int), (ct 61, .int), (ct 62, .int), (ct 63, .int)]
def IX (i_tapeLength i_time i_lyingCount i_rd_token i_sc_count i_sc_at i_A_tunes i_A_houses i_fA_length i_B_tunes i_B_houses i_fB_length i_acts_done i_acts_undone i_kn_count : Int32) (f_boxes f_A_noteCounts f_A_notes f_B_noteCounts f_B_notes f_now_worn f_ahead_worn f_acts_rows f_kn_tunes : Nat → Int32) : Prop := ((0 : Int) ≤ i_tapeLength.toInt) ∧ (i_tapeLength.toInt ≤ (1600 : Int)) ∧ ((0 : Int) ≤ i_time.toInt) ∧ (i_time.toInt ≤ (100000 : Int)) ∧ ((0 : Int) ≤ i_lyingCount.toInt) ∧ (i_lyingCount.toInt ≤ (4 : Int)) ∧ ((0 : Int) ≤ i_rd_token.toInt) ∧ (i_rd_token.toInt ≤ (1600 : Int)) ∧ ((0 : Int) ≤ i_sc_count.toInt) ∧ (i_sc_count.toInt ≤ (1601 : Int)) ∧ ((0 : Int) ≤ i_sc_at.toInt) ∧ (i_sc_at.toInt ≤ (1600 : Int)) ∧ ((0 : Int) ≤ i_A_tunes.toInt) ∧ (i_A_tunes.toInt ≤ (5 : Int)) ∧ ((0 : Int) ≤ i_A_houses.toInt) ∧ (i_A_houses.toInt ≤ (4 : Int)) ∧ ((0 : Int) ≤ i_B_tunes.toInt) ∧ (i_B_tunes.toInt ≤ (5 : Int)) ∧ ((0 : Int) ≤ i_B_houses.toInt) ∧ (i_B_houses.toInt ≤ (4 : Int)) ∧ ((0 : Int) ≤ i_fA_length.toInt) ∧ (i_fA_length.toInt ≤ (300 : Int)) ∧ ((0 : Int) ≤ i_fB_length.toInt) ∧ (i_fB_length.toInt ≤ (300 : Int)) ∧ ((0 : Int) ≤ i_kn_count.toInt) ∧ (i_kn_count.toInt ≤ (30 : Int)) ∧ ((0 : Int) ≤ i_acts_done.toInt) ∧ ((0 : Int) ≤ i_acts_undone.toInt) ∧ (i_acts_done.toInt + i_acts_undone.toInt ≤ (40 : Int)) ∧ (EW f_boxes) ∧ (EW f_acts_rows) ∧ (EB 0 4 f_kn_tunes) ∧ (EB 0 8 f_A_noteCounts) ∧ (EB 0 6 f_A_notes) ∧ (EB 0 8 f_B_noteCounts) ∧ (EB 0 6 f_B_notes) ∧ (EB 0 99 f_now_worn) ∧ (EB 0 99 f_ahead_worn) ∧ (N3 i_A_tunes f_A_noteCounts) ∧ (N3 i_B_tunes f_B_noteCounts)
