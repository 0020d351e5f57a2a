theorem upd_at {f : Nat → Int32} {k : Nat} {x : Int32} : upd f k x k = x := by simp [upd]
theorem upd_off {f : Nat → Int32} {k j : Nat} {x : Int32} (h : j ≠ k) : upd f k x j = f j := by simp [upd, h]
def nb (f : Nat → Int32) : Nat → Int
  | 0 => 0
  | n + 1 => nb f n + (if (f n).toInt = 3 ∨ (f n).toInt = 7 then 1 else 0)
theorem nb_nn (f : Nat → Int32) : ∀ n : Nat, 0 ≤ nb f n
  | 0 => Int.le_refl 0
  | n + 1 => by
    have h := nb_nn f n
    show 0 ≤ nb f n + _
    split <;> omega
theorem nb_le {f : Nat → Int32} (h0 : (f 0).toInt = 8) : ∀ n : Nat, nb f (n + 1) ≤ n
  | 0 => by
    have hn : ¬ ((f 0).toInt = 3 ∨ (f 0).toInt = 7) := by omega
    show nb f 0 + (if (f 0).toInt = 3 ∨ (f 0).toInt = 7 then 1 else 0) ≤ _
    rw [if_neg hn]
    show (0 : Int) + 0 ≤ 0
    omega
  | n + 1 => by
    have h := nb_le h0 n
    show nb f (n + 1) + _ ≤ _
    split <;> omega
theorem nb_upd {f : Nat → Int32} {k : Nat} {x : Int32} : ∀ n : Nat, n ≤ k → nb (upd f k x) n = nb f n
  | 0, _ => rfl
  | n + 1, h => by
    show nb (upd f k x) n + (if (upd f k x n).toInt = 3 ∨ (upd f k x n).toInt = 7 then 1 else 0) = nb f n + (if (f n).toInt = 3 ∨ (f n).toInt = 7 then 1 else 0)
    rw [nb_upd n (by omega), upd_off (show n ≠ k by omega)]
theorem dp_upd {f : Nat → Int32} {a c : Int} {x : Int32} (ha : 0 ≤ a) : ∀ n : Nat, a + n ≤ c → dp (upd f c.toNat x) a n = dp f a n
  | 0, _ => rfl
  | n + 1, h => by
    have ih := dp_upd (f := f) (c := c) (x := x) ha n (by omega)
    show dp (upd f c.toNat x) a n + dl (upd f c.toNat x (a + n).toNat) = dp f a n + dl (f (a + n).toNat)
    rw [ih, upd_off (show (a + (n : Int)).toNat ≠ c.toNat by omega)]
theorem okc_upd {f : Nat → Int32} {a k c : Int} {x : Int32} (ha : 0 ≤ a) (h1 : a ≤ k) (h2 : k < c) (h : okc f a k) : okc (upd f c.toNat x) a k := by
  unfold okc
  rw [dp_upd ha _ (by omega), upd_off (show k.toNat ≠ c.toNat by omega)]
  exact h
theorem dp_next {f : Nat → Int32} {a c : Int} {x : Int32} (ha : 0 ≤ a) (h : a ≤ c) : dp (upd f c.toNat x) a (c + 1 - a).toNat = dp f a (c - a).toNat + dl x := by
  have e : (c + 1 - a).toNat = (c - a).toNat + 1 := by omega
  have e2 : a + ((c - a).toNat : Int) = c := by omega
  rw [e]
  show dp (upd f c.toNat x) a (c - a).toNat + dl (upd f c.toNat x (a + ((c - a).toNat : Int)).toNat) = _
  rw [e2, upd_at, dp_upd ha _ (by omega)]
theorem okc_new {f : Nat → Int32} {a c : Int} {x : Int32} (ha : 0 ≤ a) (h : a ≤ c) (h1 : x.toInt = 126 → 1 ≤ dp f a (c - a).toNat) (h2 : 97 ≤ x.toInt → x.toInt ≤ 122 → dp f a (c - a).toNat ≤ 59) (h3 : 0 ≤ dp f a (c - a).toNat) (h4 : dp f a (c - a).toNat ≤ 60) (h5 : ¬ x.toInt = 126 → ¬ (97 ≤ x.toInt ∧ x.toInt ≤ 122) → 2 ≤ dp f a (c - a).toNat) : okc (upd f c.toNat x) a c := by
  unfold okc
  rw [dp_upd ha _ (by omega), upd_at]
  exact ⟨h1, h2, h3, h4, h5⟩
def cls (a : Int) (b : Int32) : Prop := (a = 3 ∧ b.toInt = 126) ∨ a = 7 ∨ ((a = 1 ∨ a = 2 ∨ a = 4 ∨ a = 5 ∨ a = 6) ∧ dl b = -1)
def SP (ew es co : Nat → Int32) (pi wi fr cs w : Int) : Prop := (ew 0).toInt = 8 ∧ wi = nb ew pi.toNat ∧ (∀ k : Int, 1 ≤ k → k < pi → cls (ew k.toNat).toInt (es k.toNat)) ∧ dp co fr (cs - fr).toNat = pi - wi - w ∧ (∀ k : Int, fr ≤ k → k < cs → okc co fr k)
theorem SP.nn {ew es co : Nat → Int32} {pi wi fr cs w : Int} (h : SP ew es co pi wi fr cs w) (hp : 1 ≤ pi) : 0 ≤ wi ∧ wi ≤ pi - 1 := by
  obtain ⟨h1, h2, -⟩ := h
  have e : pi.toNat = (pi.toNat - 1) + 1 := by omega
  have a := nb_nn ew pi.toNat
  have b := nb_le h1 (pi.toNat - 1)
  rw [← e] at b
  omega
theorem SP.zero {ew es co : Nat → Int32} {fr : Int} (h : (ew 0).toInt = 8) : SP ew es co 1 0 fr fr 1 := by
  refine ⟨h, ?_, fun k h1 h2 => by omega, ?_, fun k h1 h2 => by omega⟩
  · have h8 : nb ew 1 ≤ 0 := nb_le h 0
    have h9 := nb_nn ew 1
    show (0 : Int) = nb ew 1
    omega
  · have : (fr - fr).toNat = 0 := by omega
    rw [this]; show (0 : Int) = _; omega
theorem SP.push {ew es co : Nat → Int32} {pi wi fr cs w wi' w' : Int} {x z : Int32} (h : SP ew es co pi wi fr cs w) (hp : 1 ≤ pi) (hx : (((x.toInt = 3 ∧ z.toInt = 126) ∨ x.toInt = 7) ∧ wi' = wi + 1 ∧ w' = w) ∨ ((x.toInt = 1 ∨ x.toInt = 2 ∨ x.toInt = 4 ∨ x.toInt = 5 ∨ x.toInt = 6) ∧ dl z = -1 ∧ wi' = wi ∧ w' = w + 1)) : SP (upd ew pi.toNat x) (upd es pi.toNat z) co (pi + 1) wi' fr cs w' := by
  obtain ⟨h1, h2, h3, h4, h5⟩ := h
  have e : (pi + 1).toNat = pi.toNat + 1 := by omega
  refine ⟨?_, ?_, ?_, ?_, h5⟩
  · rw [upd_off (show 0 ≠ pi.toNat by omega)]; exact h1
  · rw [e]
    show wi' = nb (upd ew pi.toNat x) pi.toNat + (if (upd ew pi.toNat x pi.toNat).toInt = 3 ∨ (upd ew pi.toNat x pi.toNat).toInt = 7 then 1 else 0)
    rw [nb_upd _ (Nat.le_refl _), upd_at, ← h2]
    rcases hx with ⟨q, q1, -⟩ | ⟨q, -, q1, -⟩
    · rw [if_pos (by omega)]; exact q1
    · rw [if_neg (by omega)]; omega
  · intro k k1 k2
    by_cases hk : k = pi
    · subst hk; rw [upd_at, upd_at]
      rcases hx with ⟨q, -⟩ | ⟨q, q2, -⟩
      · rcases q with q | q
        · exact Or.inl q
        · exact Or.inr (Or.inl q)
      · exact Or.inr (Or.inr ⟨q, q2⟩)
    · rw [upd_off (show k.toNat ≠ pi.toNat by omega), upd_off (show k.toNat ≠ pi.toNat by omega)]
      exact h3 k k1 (by omega)
  · rw [h4]; rcases hx with ⟨-, q1, q2⟩ | ⟨-, -, q1, q2⟩ <;> omega
theorem SP.leaf {ew es co : Nat → Int32} {pi wi fr cs : Int} {x : Int32} (h : SP ew es co pi wi fr cs 1) (hp : 1 ≤ pi) (hq : pi ≤ 59) (ha : 0 ≤ fr) (hb : fr ≤ cs) (hx : 97 ≤ x.toInt) (hy : x.toInt ≤ 122) : SP ew es (upd co cs.toNat x) pi wi fr (cs + 1) 0 := by
  have hn := h.nn hp
  obtain ⟨h1, h2, h3, h4, h5⟩ := h
  refine ⟨h1, h2, h3, ?_, ?_⟩
  · rw [dp_next ha hb, h4]
    have : dl x = 1 := by unfold dl; rw [if_neg (by omega), if_pos ⟨hx, hy⟩]
    omega
  · intro k k1 k2
    by_cases hk : k = cs
    · subst hk
      exact okc_new ha hb (fun _ => by omega) (fun _ _ => by omega) (by omega) (by omega) (fun _ q => absurd ⟨hx, hy⟩ q)
    · exact okc_upd ha k1 (by omega) (h5 k k1 (by omega))
theorem SP.pop {ew es co : Nat → Int32} {pi wi fr cs wi' : Int} (h : SP ew es co pi wi fr cs 0) (hp : 2 ≤ pi) (hq : pi ≤ 59) (ha : 0 ≤ fr) (hb : fr ≤ cs) (h7 : (ew (pi - 1).toNat).toInt ≤ 6) (hw : ((ew (pi - 1).toNat).toInt = 3 ∧ wi' = wi - 1) ∨ ((ew (pi - 1).toNat).toInt ≠ 3 ∧ wi' = wi)) : SP ew es (upd co cs.toNat (es (pi - 1).toNat)) (pi - 1) wi' fr (cs + 1) 0 := by
  have hn := h.nn (by omega)
  obtain ⟨h1, h2, h3, h4, h5⟩ := h
  have e : pi.toNat = (pi - 1).toNat + 1 := by omega
  have h2' : wi = nb ew (pi - 1).toNat + (if (ew (pi - 1).toNat).toInt = 3 ∨ (ew (pi - 1).toNat).toInt = 7 then 1 else 0) := by
    rw [h2, e]; rfl
  have e2 : (pi - 1).toNat = ((pi - 1).toNat - 1) + 1 := by omega
  have hb2 := nb_le h1 ((pi - 1).toNat - 1)
  rw [← e2] at hb2
  have hc := h3 (pi - 1) (by omega) (by omega)
  have hkey : (wi' = nb ew (pi - 1).toNat) ∧ (((es (pi - 1).toNat).toInt = 126 ∧ wi' = wi - 1) ∨ (dl (es (pi - 1).toNat) = -1 ∧ wi' = wi)) := by
    rcases hc with ⟨c1, c2⟩ | c1 | ⟨c1, c2⟩
    · rw [if_pos (Or.inl c1)] at h2'
      rcases hw with ⟨_, w2⟩ | ⟨w1, _⟩
      · exact ⟨by omega, Or.inl ⟨c2, w2⟩⟩
      · exact absurd c1 w1
    · omega
    · rw [if_neg (by omega)] at h2'
      rcases hw with ⟨w1, _⟩ | ⟨_, w2⟩
      · omega
      · exact ⟨by omega, Or.inr ⟨c2, w2⟩⟩
  obtain ⟨k1, k2⟩ := hkey
  have hz0 := nb_nn ew (pi - 1).toNat
  refine ⟨h1, k1, fun k a b => h3 k a (by omega), ?_, ?_⟩
  · rw [dp_next ha hb, h4]
    rcases k2 with ⟨c, d⟩ | ⟨c, d⟩
    · have : dl (es (pi - 1).toNat) = 0 := by unfold dl; rw [if_pos c]
      omega
    · omega
  · intro k a b
    by_cases hk : k = cs
    · subst hk
      rcases k2 with ⟨c, d⟩ | ⟨c, d⟩
      · exact okc_new ha hb (fun _ => by omega) (fun _ _ => by omega) (by omega) (by omega) (fun q _ => absurd c q)
      · have hd : ¬ (es (pi - 1).toNat).toInt = 126 ∧ ¬ (97 ≤ (es (pi - 1).toNat).toInt ∧ (es (pi - 1).toNat).toInt ≤ 122) := by
          constructor
          · intro q; unfold dl at c; rw [if_pos q] at c; omega
          · intro q; unfold dl at c; rw [if_neg (by omega), if_pos q] at c; omega
        exact okc_new ha hb (fun q => absurd q hd.1) (fun q1 q2 => absurd ⟨q1, q2⟩ hd.2) (by omega) (by omega) (fun _ _ => by omega)
    · exact okc_upd ha a (by omega) (h5 k a (by omega))
theorem SP.br {ew es co : Nat → Int32} {pi wi fr cs : Int} (h : SP ew es co pi wi fr cs 0) (hp : 2 ≤ pi) (h7 : (ew (pi - 1).toNat).toInt = 7) : SP ew es co (pi - 1) (wi - 1) fr cs 0 := by
  obtain ⟨h1, h2, h3, h4, h5⟩ := h
  have e : pi.toNat = (pi - 1).toNat + 1 := by omega
  have h2' : wi = nb ew (pi - 1).toNat + (if (ew (pi - 1).toNat).toInt = 3 ∨ (ew (pi - 1).toNat).toInt = 7 then 1 else 0) := by
    rw [h2, e]; rfl
  rw [if_pos (Or.inr h7)] at h2'
  exact ⟨h1, by omega, fun k a b => h3 k a (by omega), by omega, h5⟩
theorem SPpush {ew es co ew' es' : Nat → Int32} {pi wi fr cs w wi' w' pi' : Int} {x z : Int32} (h : SP ew es co pi wi fr cs w) (e1 : ew' = upd ew pi.toNat x) (e2 : es' = upd es pi.toNat z) (hp : 1 ≤ pi) (q : pi' = pi + 1) (hx : (((x.toInt = 3 ∧ z.toInt = 126) ∨ x.toInt = 7) ∧ wi' = wi + 1 ∧ w' = w) ∨ ((x.toInt = 1 ∨ x.toInt = 2 ∨ x.toInt = 4 ∨ x.toInt = 5 ∨ x.toInt = 6) ∧ dl z = -1 ∧ wi' = wi ∧ w' = w + 1)) : SP ew' es' co pi' wi' fr cs w' := by
  subst e1; subst e2; subst q; exact h.push hp hx
theorem SPleaf {ew es co co' : Nat → Int32} {pi wi fr cs cs' w w' : Int} {x : Int32} (h : SP ew es co pi wi fr cs w) (hw : w = 1) (hw' : w' = 0) (e : co' = upd co cs.toNat x) (q : cs' = cs + 1) (hp : 1 ≤ pi) (hq : pi ≤ 59) (ha : 0 ≤ fr) (hb : fr ≤ cs) (hx : 97 ≤ x.toInt) (hy : x.toInt ≤ 122) : SP ew es co' pi wi fr cs' w' := by
  subst e; subst q; subst hw; subst hw'; exact h.leaf hp hq ha hb hx hy
theorem SPpop {ew es co co' : Nat → Int32} {pi wi fr cs wi' pi' cs' w w' : Int} {x : Int32} (h : SP ew es co pi wi fr cs w) (hw0 : w = 0) (hw' : w' = 0) (e : co' = upd co cs.toNat x) (hx : x = es pi'.toNat) (q : cs' = cs + 1) (q2 : pi' = pi - 1) (hp : 2 ≤ pi) (hq : pi ≤ 59) (ha : 0 ≤ fr) (hb : fr ≤ cs) (h7 : (ew pi'.toNat).toInt ≤ 6) (hw : ((ew pi'.toNat).toInt = 3 ∧ wi' = wi - 1) ∨ ((ew pi'.toNat).toInt ≠ 3 ∧ wi' = wi)) : SP ew es co' pi' wi' fr cs' w' := by
  subst q2; subst hx; subst e; subst q; subst hw0; subst hw'; exact h.pop hp hq ha hb h7 hw
theorem SPbr {ew es co : Nat → Int32} {pi wi fr cs pi' wi' w w' : Int} (h : SP ew es co pi wi fr cs w) (hw : w = 0) (hw' : w' = 0) (q : pi' = pi - 1) (q2 : wi' = wi - 1) (hp : 2 ≤ pi) (h7 : (ew pi'.toNat).toInt = 7) : SP ew es co pi' wi' fr cs w' := by
  subst q; subst q2; subst hw; subst hw'; exact h.br hp h7
theorem SPstart {ew es co ew0 : Nat → Int32} {pi wi fr cs w p0 : Int} {x : Int32} (e : ew = upd ew0 p0.toNat x) (h0 : p0 = 0) (hx : x.toInt = 8) (h1 : pi = 1) (h2 : wi = 0) (h3 : cs = fr) (h4 : w = 1) : SP ew es co pi wi fr cs w := by
  subst h0; subst h1; subst h2; subst h3; subst h4
  exact SP.zero (by rw [e]; show (upd ew0 0 x 0).toInt = 8; rw [upd_at]; exact hx)
theorem dl_op {x : Int32} (h : x.toInt < 97 ∨ (122 < x.toInt ∧ x.toInt ≠ 126)) : dl x = -1 := by
  unfold dl; rw [if_neg (by omega), if_neg (by omega)]
theorem M7_many {b : Int32} {tu ma z : Nat → Int32} {k : Int} {x : Int32} (h : M7 b tu ma) (e : z = upd ma k.toNat x) (h0 : 0 ≤ k) (hb : 0 ≤ b.toInt) (hT : (tu (b.toInt).toNat).toInt ≤ 5) (hc : k < 5 * b.toInt ∨ 5 * b.toInt + 5 ≤ k) : M7 b tu z := fun j j1 j2 => by
  subst e; rw [upd_off (show j.toNat ≠ k.toNat by omega)]; exact h j j1 j2
theorem M7_tunes {b : Int32} {tu ma z : Nat → Int32} {k : Int} {x : Int32} (h : M7 b tu ma) (e : z = upd tu k.toNat x) (h0 : 0 ≤ k) (hb : 0 ≤ b.toInt) (hk : k ≠ b.toInt) : M7 b z ma := fun j j1 j2 => by
  subst e; rw [upd_off (show (b.toInt).toNat ≠ k.toNat by omega)] at j2; exact h j j1 j2
theorem M7_add {b : Int32} {tu ma z y : Nat → Int32} {k : Int} {x v : Int32} (h : M7 b tu ma) (e : z = upd ma k.toNat x) (e2 : y = upd tu (b.toInt).toNat v) (hb : 0 ≤ b.toInt) (hT0 : 0 ≤ (tu (b.toInt).toNat).toInt) (hk : k = 5 * b.toInt + (tu (b.toInt).toNat).toInt) (hv : v.toInt = (tu (b.toInt).toNat).toInt + 1) (hx : 3 ≤ x.toInt) : M7 b y z := fun j j1 j2 => by
  subst e; subst e2
  rw [upd_at] at j2
  by_cases hj : j = k
  · subst hj; rw [upd_at]; exact hx
  · rw [upd_off (show j.toNat ≠ k.toNat by omega)]; exact h j j1 (by omega)
theorem M7_zero {b : Int32} {tu ma tu0 : Nat → Int32} {x : Int32} (e : tu = upd tu0 (b.toInt).toNat x) (hx : x.toInt = 0) : M7 b tu ma := fun j j1 j2 => by
  subst e; rw [upd_at] at j2; omega
theorem RU_told {b : Int32} {to fr tt co z : Nat → Int32} {k : Int} {x : Int32} (h : RU b to fr tt co) (e : z = upd to k.toNat x) (h0 : 0 ≤ k) (hb : 0 ≤ b.toInt) (hk : k ≠ b.toInt) : RU b z fr tt co := by
  subst e; unfold RU; rw [upd_off (show (b.toInt).toNat ≠ k.toNat by omega)]; exact h
theorem RU_from {b : Int32} {to fr tt co z : Nat → Int32} {k : Int} {x : Int32} (h : RU b to fr tt co) (e : z = upd fr k.toNat x) (h0 : 0 ≤ k) (hb : 0 ≤ b.toInt) (hk : k ≠ b.toInt) : RU b to z tt co := by
  subst e; unfold RU; rw [upd_off (show (b.toInt).toNat ≠ k.toNat by omega)]; exact h
theorem RU_to {b : Int32} {to fr tt co z : Nat → Int32} {k : Int} {x : Int32} (h : RU b to fr tt co) (e : z = upd tt k.toNat x) (h0 : 0 ≤ k) (hb : 0 ≤ b.toInt) (hk : k ≠ b.toInt) : RU b to fr z co := by
  subst e; unfold RU; rw [upd_off (show (b.toInt).toNat ≠ k.toNat by omega)]; exact h
theorem dp_off {f : Nat → Int32} {a c : Int} {x : Int32} (ha : 0 ≤ a) (hc : 0 ≤ c) : ∀ n : Nat, (c < a ∨ a + n ≤ c) → dp (upd f c.toNat x) a n = dp f a n
  | 0, _ => rfl
  | n + 1, h => by
    have ih := dp_off (f := f) (c := c) (x := x) ha hc n (by omega)
    show dp (upd f c.toNat x) a n + dl (upd f c.toNat x (a + n).toNat) = dp f a n + dl (f (a + n).toNat)
    rw [ih, upd_off (show (a + (n : Int)).toNat ≠ c.toNat by omega)]
theorem RU_code {b : Int32} {to fr tt co z : Nat → Int32} {k : Int} {x : Int32} (h : RU b to fr tt co) (e : z = upd co k.toNat x) (h0 : 0 ≤ k) (hb : 0 ≤ b.toInt) (hc : k < 560 * b.toInt ∨ 560 * b.toInt + 560 ≤ k) : RU b to fr tt z := fun hB => by
  obtain ⟨h1, h2, h3, h4, h5, h6⟩ := h hB
  refine ⟨h1, h2, h3, h4, h5, fun j j1 j2 => ?_⟩
  have q := h6 j j1 j2
  subst e; unfold okc
  rw [dp_off h3 h0 _ (by omega), upd_off (show j.toNat ≠ k.toNat by omega)]
  exact q
theorem RU_new {b : Int32} {to fr tt co zf zt : Nat → Int32} {c0 c1 : Int32} (ef : zf = upd fr (b.toInt).toNat c0) (et : zt = upd tt (b.toInt).toNat c1) (h1 : 560 * b.toInt ≤ c0.toInt) (h2 : c1.toInt ≤ 560 * b.toInt + 560) (h : RUW c0.toInt c1.toInt co) : RU b to zf zt co := fun _ => by
  subst ef; subst et; rw [upd_at, upd_at]; exact ⟨h1, h2, h⟩
theorem RU_or {b : Int32} {to fr tt co z : Nat → Int32} {x : Int32} (h : RU b to fr tt co) (e : z = upd to (b.toInt).toNat x) (hb : BT x 1 → BT (to (b.toInt).toNat) 1) : RU b z fr tt co := fun q => by
  subst e; rw [upd_at] at q; exact h (hb q)
theorem RC_or {b : Int32} {to z : Nat → Int32} {x : Int32} {c : Prop} (h : ¬ BT (to (b.toInt).toNat) 1 → c) (e : z = upd to (b.toInt).toNat x) (hb : BT (to (b.toInt).toNat) 1 → BT x 1) : ¬ BT (z (b.toInt).toNat) 1 → c := fun q => h (fun r => q (by subst e; rw [upd_at]; exact hb r))
theorem BT_here {b : Int32} {to z : Nat → Int32} {x : Int32} {c : Prop} (e : z = upd to (b.toInt).toNat x) (hb : BT x 1) : ¬ BT (z (b.toInt).toNat) 1 → c := fun q => absurd (by subst e; rw [upd_at]; exact hb) q
theorem i16 {x : Int32} (h0 : 0 ≤ x.toInt) (h1 : x.toInt ≤ 15) : x = 0 ∨ x = 1 ∨ x = 2 ∨ x = 3 ∨ x = 4 ∨ x = 5 ∨ x = 6 ∨ x = 7 ∨ x = 8 ∨ x = 9 ∨ x = 10 ∨ x = 11 ∨ x = 12 ∨ x = 13 ∨ x = 14 ∨ x = 15 := by
  have t : ∀ k : Int32, x.toInt = k.toInt → x = k := fun k h => Int32.toInt_inj.mp h
  have hz : x.toInt = 0 ∨ x.toInt = 1 ∨ x.toInt = 2 ∨ x.toInt = 3 ∨ x.toInt = 4 ∨ x.toInt = 5 ∨ x.toInt = 6 ∨ x.toInt = 7 ∨ x.toInt = 8 ∨ x.toInt = 9 ∨ x.toInt = 10 ∨ x.toInt = 11 ∨ x.toInt = 12 ∨ x.toInt = 13 ∨ x.toInt = 14 ∨ x.toInt = 15 := by omega
  rcases hz with h | h | h | h | h | h | h | h | h | h | h | h | h | h | h | h
  · exact Or.inl (t 0 h)
  · exact Or.inr (Or.inl (t 1 h))
  · exact Or.inr (Or.inr (Or.inl (t 2 h)))
  · exact Or.inr (Or.inr (Or.inr (Or.inl (t 3 h))))
  · exact Or.inr (Or.inr (Or.inr (Or.inr (Or.inl (t 4 h)))))
  · exact Or.inr (Or.inr (Or.inr (Or.inr (Or.inr (Or.inl (t 5 h))))))
  · exact Or.inr (Or.inr (Or.inr (Or.inr (Or.inr (Or.inr (Or.inl (t 6 h)))))))
  · exact Or.inr (Or.inr (Or.inr (Or.inr (Or.inr (Or.inr (Or.inr (Or.inl (t 7 h))))))))
  · exact Or.inr (Or.inr (Or.inr (Or.inr (Or.inr (Or.inr (Or.inr (Or.inr (Or.inl (t 8 h)))))))))
  · exact Or.inr (Or.inr (Or.inr (Or.inr (Or.inr (Or.inr (Or.inr (Or.inr (Or.inr (Or.inl (t 9 h))))))))))
  · exact Or.inr (Or.inr (Or.inr (Or.inr (Or.inr (Or.inr (Or.inr (Or.inr (Or.inr (Or.inr (Or.inl (t 10 h)))))))))))
  · exact Or.inr (Or.inr (Or.inr (Or.inr (Or.inr (Or.inr (Or.inr (Or.inr (Or.inr (Or.inr (Or.inr (Or.inl (t 11 h))))))))))))
  · exact Or.inr (Or.inr (Or.inr (Or.inr (Or.inr (Or.inr (Or.inr (Or.inr (Or.inr (Or.inr (Or.inr (Or.inr (Or.inl (t 12 h)))))))))))))
  · exact Or.inr (Or.inr (Or.inr (Or.inr (Or.inr (Or.inr (Or.inr (Or.inr (Or.inr (Or.inr (Or.inr (Or.inr (Or.inr (Or.inl (t 13 h))))))))))))))
  · exact Or.inr (Or.inr (Or.inr (Or.inr (Or.inr (Or.inr (Or.inr (Or.inr (Or.inr (Or.inr (Or.inr (Or.inr (Or.inr (Or.inr (Or.inl (t 14 h)))))))))))))))
  · exact Or.inr (Or.inr (Or.inr (Or.inr (Or.inr (Or.inr (Or.inr (Or.inr (Or.inr (Or.inr (Or.inr (Or.inr (Or.inr (Or.inr (Or.inr (t 15 h)))))))))))))))
theorem or1 {x y : Int32} (e : y = x ||| 1) (h0 : 0 ≤ x.toInt) (h1 : x.toInt ≤ 15) : (0 ≤ y.toInt ∧ y.toInt ≤ 15) ∧ (BT y 1 → BT x 1) ∧ (BT x 1 → BT y 1) := by
  subst e; unfold BT
  rcases i16 h0 h1 with rfl | rfl | rfl | rfl | rfl | rfl | rfl | rfl | rfl | rfl | rfl | rfl | rfl | rfl | rfl | rfl <;> decide
theorem or4 {x y : Int32} (e : y = x ||| 4) (h0 : 0 ≤ x.toInt) (h1 : x.toInt ≤ 15) : (0 ≤ y.toInt ∧ y.toInt ≤ 15) ∧ (BT y 1 → BT x 1) ∧ (BT x 1 → BT y 1) := by
  subst e; unfold BT
  rcases i16 h0 h1 with rfl | rfl | rfl | rfl | rfl | rfl | rfl | rfl | rfl | rfl | rfl | rfl | rfl | rfl | rfl | rfl <;> decide
theorem or8 {x y : Int32} (e : y = x ||| 8) (h0 : 0 ≤ x.toInt) (h1 : x.toInt ≤ 15) : (0 ≤ y.toInt ∧ y.toInt ≤ 15) ∧ (BT y 1 → BT x 1) ∧ (BT x 1 → BT y 1) := by
  subst e; unfold BT
  rcases i16 h0 h1 with rfl | rfl | rfl | rfl | rfl | rfl | rfl | rfl | rfl | rfl | rfl | rfl | rfl | rfl | rfl | rfl <;> decide
theorem or2 {x y : Int32} (e : y = x ||| 2) (h0 : 0 ≤ x.toInt) (h1 : x.toInt ≤ 15) : (0 ≤ y.toInt ∧ y.toInt ≤ 15) ∧ BT y 1 := by
  subst e; unfold BT
  rcases i16 h0 h1 with rfl | rfl | rfl | rfl | rfl | rfl | rfl | rfl | rfl | rfl | rfl | rfl | rfl | rfl | rfl | rfl <;> decide
def tk (x : Int) : Int := if x = 0 then 0 else 1
theorem tk_or (x : Int) : (x = 0 ∧ tk x = 0) ∨ (x ≠ 0 ∧ tk x = 1) := by
  unfold tk; by_cases h : x = 0
  · left; exact ⟨h, if_pos h⟩
  · right; exact ⟨h, if_neg h⟩
theorem ne0 {k : Int} (h : 1 ≤ k) : ((0 : Int)).toNat ≠ k.toNat := by omega
theorem SP.rg {ew es co : Nat → Int32} {pi wi fr cs w k : Int} (h : SP ew es co pi wi fr cs w) (k2 : k < pi) (k1 : 1 ≤ k) : 1 ≤ (ew k.toNat).toInt ∧ (ew k.toNat).toInt ≤ 7 := by
  rcases h.2.2.1 k k1 k2 with ⟨c1, _⟩ | c1 | ⟨c1, _⟩ <;> omega
theorem SP.ge1 {ew es co : Nat → Int32} {pi wi fr cs w k : Int} (h : SP ew es co pi wi fr cs w) (hk : k = pi - 1) (k0 : 0 ≤ k) (h3 : (ew k.toNat).toInt = 3 ∨ (ew k.toNat).toInt = 7) : 1 ≤ wi := by
  have e : pi.toNat = k.toNat + 1 := by omega
  have h2 : wi = nb ew k.toNat + (if (ew k.toNat).toInt = 3 ∨ (ew k.toNat).toInt = 7 then 1 else 0) := by rw [h.2.1, e]; rfl
  rw [if_pos h3] at h2
  have := nb_nn ew k.toNat
  omega
theorem SPw {ew es co : Nat → Int32} {pi wi fr cs w w' : Int} (h : SP ew es co pi wi fr cs w) (e : w = w') : SP ew es co pi wi fr cs w' := by subst e; exact h
theorem ew8 {ew ew0 : Nat → Int32} {p0 : Int} {x : Int32} (e : ew = upd ew0 p0.toNat x) (h0 : p0 = 0) (hx : x.toInt = 8) : (ew ((0 : Int)).toNat).toInt = 8 := by
  subst h0; rw [e, upd_at]; exact hx
theorem RU_new2 {b : Int32} {to fr tt co zf zt : Nat → Int32} {c0 c1 : Int32} (ef : zf = upd fr (b.toInt).toNat c0) (et : zt = upd tt (b.toInt).toNat c1) (h1 : c0.toInt = 560 * b.toInt) (h2 : c1.toInt ≤ 560 * b.toInt + 560 ∧ RUW (560 * b.toInt) c1.toInt co) : RU b to zf zt co := RU_new ef et (by omega) h2.1 (by rw [h1]; exact h2.2)
theorem RU_zero {b : Int32} {to fr tt co z : Nat → Int32} (e : z = upd to (b.toInt).toNat 0) : RU b z fr tt co := fun q => by
  subst e; rw [upd_at] at q; exact absurd q (by unfold BT; decide)
theorem toN1 {a : Int32} (h : a.toInt ≠ 1) : ¬ a = 1 := fun q => h (by rw [q]; decide)
