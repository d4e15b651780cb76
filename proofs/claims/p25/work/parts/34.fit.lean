/-! FITS: the line goes through the middle of all points. -/
def sumZ (g : Nat → Int) : Nat → Nat → Int
  | 0, _ => 0
  | k + 1, i => g i + sumZ g k (i + 1)
theorem smR_Z {f : Nat → Int64} {g : Nat → Int} {B : Int} (hB : 0 ≤ B) : ∀ (k i : Nat) (s : Int64), (∀ j, i ≤ j → j < i + k → (f j).toInt = g j ∧ -B ≤ g j ∧ g j ≤ B) → -4000000000000000000 ≤ s.toInt - (k : Int) * B → s.toInt + (k : Int) * B ≤ 4000000000000000000 → (smR f k i s).toInt = s.toInt + sumZ g k i
  | 0, i, s, _, _, _ => by show s.toInt = s.toInt + 0; omega
  | k + 1, i, s, h, h1, h2 => by
    have e : ((k + 1 : Nat) : Int) = (k : Int) + 1 := by omega
    rw [e, Int.add_mul, Int.one_mul] at h1 h2
    have hk : 0 ≤ (k : Int) * B := Int.mul_nonneg (by omega) hB
    have hg := h i (Nat.le_refl i) (by omega)
    have ea : (s + f i).toInt = s.toInt + g i := by rw [fb_addL (by rw [hg.1]; omega) (by rw [hg.1]; omega), hg.1]
    show (smR f k (i + 1) (s + f i)).toInt = s.toInt + (g i + sumZ g k (i + 1))
    rw [smR_Z hB k (i + 1) (s + f i) (fun j h3 h4 => h j (by omega) (by omega)) (by rw [ea]; omega) (by rw [ea]; omega), ea]
    omega
theorem sumZ_b {g : Nat → Int} {B : Int} : ∀ (k i : Nat), (∀ j, i ≤ j → j < i + k → -B ≤ g j ∧ g j ≤ B) → -((k : Int) * B) ≤ sumZ g k i ∧ sumZ g k i ≤ (k : Int) * B
  | 0, i, _ => by
    show -(((0 : Nat) : Int) * B) ≤ 0 ∧ 0 ≤ ((0 : Nat) : Int) * B
    rw [show ((0 : Nat) : Int) = 0 from rfl, Int.zero_mul]; exact ⟨by decide, by decide⟩
  | k + 1, i, h => by
    have e : ((k + 1 : Nat) : Int) = (k : Int) + 1 := by omega
    have ih := sumZ_b k (i + 1) (fun j h3 h4 => h j (by omega) (by omega))
    have hg := h i (Nat.le_refl i) (by omega)
    rw [e, Int.add_mul, Int.one_mul]
    show -((k : Int) * B + B) ≤ g i + sumZ g k (i + 1) ∧ g i + sumZ g k (i + 1) ≤ (k : Int) * B + B
    omega
theorem sum_Z {f : Nat → Int64} {g : Nat → Int} {B : Int} (hB : 0 ≤ B) (hB2 : B ≤ 63000000) {k i : Nat} (hk : k ≤ 60) (h : ∀ j, i ≤ j → j < i + k → (f j).toInt = g j ∧ -B ≤ g j ∧ g j ≤ B) : (smR f k i 0).toInt = sumZ g k i ∧ -(60 * B) ≤ sumZ g k i ∧ sumZ g k i ≤ 60 * B := by
  have h0 : (0 : Int64).toInt = 0 := rfl
  have hm : (k : Int) * B ≤ 60 * B := Int.mul_le_mul_of_nonneg_right (by omega) hB
  have hb := sumZ_b (g := g) (B := B) k i (fun j h1 h2 => (h j h1 h2).2)
  have e := smR_Z hB k i 0 h (by rw [h0]; omega) (by rw [h0]; omega)
  rw [h0] at e
  exact ⟨by rw [e]; omega, by omega, by omega⟩
/-- the five numbers of a fit, as whole numbers -/
def zX (z : zS) (a n : Nat) : Int := sumZ (fun i => (z 3 i).toInt) n a
def zY (z : zS) (a n : Nat) : Int := sumZ (fun i => (z 4 i).toInt) n a
def zP (z : zS) (a n : Nat) : Int := sumZ (fun i => (z 3 i).toInt * (z 4 i).toInt) n a
def zQ (z : zS) (a n : Nat) : Int := sumZ (fun i => (z 3 i).toInt * (z 3 i).toInt) n a
theorem fit_Z {z : zS} (hR : qRd z) {a n : Nat} (hn : n ≤ 60) (han : a + n ≤ ix (z 0 3)) :
    (fX z a n).toInt = zX z a n ∧ (fY z a n).toInt = zY z a n ∧ (fD z a n).toInt = n * zQ z a n - zX z a n * zX z a n ∧ (fS z a n).toInt = n * zP z a n - zX z a n * zY z a n ∧ (fB z a n).toInt = zY z a n * zQ z a n - zX z a n * zP z a n
    ∧ (-64800000000 ≤ (fD z a n).toInt ∧ (fD z a n).toInt ≤ 64800000000) ∧ (-453600000000 ≤ (fS z a n).toInt ∧ (fS z a n).toInt ≤ 453600000000) ∧ (-1360800000000000 ≤ (fB z a n).toInt ∧ (fB z a n).toInt ≤ 1360800000000000) := by
  obtain ⟨eX, x1, x2⟩ := sum_Z (f := fun i => (z 3 i).toInt64) (g := fun i => (z 3 i).toInt) (B := 3000) (by decide) (by decide) hn (i := a) (fun j h1 h2 => by
    have := hR j (by omega)
    exact ⟨toL _, this.1, this.2.1⟩)
  obtain ⟨eY, y1, y2⟩ := sum_Z (f := fun i => (z 4 i).toInt64) (g := fun i => (z 4 i).toInt) (B := 21000) (by decide) (by decide) hn (i := a) (fun j h1 h2 => by
    have := hR j (by omega)
    exact ⟨toL _, this.2.2.1, this.2.2.2⟩)
  obtain ⟨eP, p1, p2⟩ := sum_Z (f := fun i => (z 3 i).toInt64 * (z 4 i).toInt64) (g := fun i => (z 3 i).toInt * (z 4 i).toInt) (B := 63000000) (by decide) (by decide) hn (i := a) (fun j h1 h2 => by
    have := hR j (by omega)
    have hb := mulB2 (A := 3000) (B := 21000) this.1 this.2.1 this.2.2.1 this.2.2.2
    exact ⟨by rw [fb_mulL (by rw [toL, toL]; omega) (by rw [toL, toL]; omega), toL, toL], by omega, by omega⟩)
  obtain ⟨eQ, q1, q2⟩ := sum_Z (f := fun i => (z 3 i).toInt64 * (z 3 i).toInt64) (g := fun i => (z 3 i).toInt * (z 3 i).toInt) (B := 9000000) (by decide) (by decide) hn (i := a) (fun j h1 h2 => by
    have := hR j (by omega)
    have hb := mulB2 (A := 3000) (B := 3000) this.1 this.2.1 this.1 this.2.1
    exact ⟨by rw [fb_mulL (by rw [toL]; omega) (by rw [toL]; omega), toL], by omega, by omega⟩)
  have eX : (fX z a n).toInt = zX z a n := eX
  have eY : (fY z a n).toInt = zY z a n := eY
  have eP : (fP z a n).toInt = zP z a n := eP
  have eQ : (fQ z a n).toInt = zQ z a n := eQ
  have x1 : -(60 * 3000) ≤ zX z a n := x1
  have x2 : zX z a n ≤ 60 * 3000 := x2
  have y1 : -(60 * 21000) ≤ zY z a n := y1
  have y2 : zY z a n ≤ 60 * 21000 := y2
  have p1 : -(60 * 63000000) ≤ zP z a n := p1
  have p2 : zP z a n ≤ 60 * 63000000 := p2
  have q1 : -(60 * 9000000) ≤ zQ z a n := q1
  have q2 : zQ z a n ≤ 60 * 9000000 := q2
  have en : (lN n).toInt = (n : Int) := lN_toInt (by omega)
  have nQ := mulB2 (a := (n : Int)) (b := zQ z a n) (A := 60) (B := 60 * 9000000) (by omega) (by omega) q1 q2
  have nP := mulB2 (a := (n : Int)) (b := zP z a n) (A := 60) (B := 60 * 63000000) (by omega) (by omega) p1 p2
  have XX := mulB2 (a := zX z a n) (b := zX z a n) (A := 60 * 3000) (B := 60 * 3000) x1 x2 x1 x2
  have XY := mulB2 (a := zX z a n) (b := zY z a n) (A := 60 * 3000) (B := 60 * 21000) x1 x2 y1 y2
  have YQ := mulB2 (a := zY z a n) (b := zQ z a n) (A := 60 * 21000) (B := 60 * 9000000) y1 y2 q1 q2
  have XP := mulB2 (a := zX z a n) (b := zP z a n) (A := 60 * 3000) (B := 60 * 63000000) x1 x2 p1 p2
  have m1 : (lN n * fQ z a n).toInt = n * zQ z a n := by rw [fb_mulL (by rw [en, eQ]; omega) (by rw [en, eQ]; omega), en, eQ]
  have m2 : (fX z a n * fX z a n).toInt = zX z a n * zX z a n := by rw [fb_mulL (by rw [eX]; omega) (by rw [eX]; omega), eX]
  have m3 : (lN n * fP z a n).toInt = n * zP z a n := by rw [fb_mulL (by rw [en, eP]; omega) (by rw [en, eP]; omega), en, eP]
  have m4 : (fX z a n * fY z a n).toInt = zX z a n * zY z a n := by rw [fb_mulL (by rw [eX, eY]; omega) (by rw [eX, eY]; omega), eX, eY]
  have m5 : (fY z a n * fQ z a n).toInt = zY z a n * zQ z a n := by rw [fb_mulL (by rw [eY, eQ]; omega) (by rw [eY, eQ]; omega), eY, eQ]
  have m6 : (fX z a n * fP z a n).toInt = zX z a n * zP z a n := by rw [fb_mulL (by rw [eX, eP]; omega) (by rw [eX, eP]; omega), eX, eP]
  have d1 : (fD z a n).toInt = n * zQ z a n - zX z a n * zX z a n := by unfold fD; rw [fb_subL (by rw [m1, m2]; omega) (by rw [m1, m2]; omega), m1, m2]
  have d2 : (fS z a n).toInt = n * zP z a n - zX z a n * zY z a n := by unfold fS; rw [fb_subL (by rw [m3, m4]; omega) (by rw [m3, m4]; omega), m3, m4]
  have d3 : (fB z a n).toInt = zY z a n * zQ z a n - zX z a n * zP z a n := by unfold fB; rw [fb_subL (by rw [m5, m6]; omega) (by rw [m5, m6]; omega), m5, m6]
  exact ⟨eX, eY, d1, d2, d3, by omega, by omega, by omega⟩
-- the greatest common divisor
theorem gdR_Z : ∀ (k : Nat) (x y : Int64) (m q : Nat), x.toInt = (m : Int) → y.toInt = (q : Int) → gdz k x y = true → (gdR k x y).toInt = (Nat.gcd m q : Int)
  | 0, x, y, m, q, hx, hy, h => by
    have h : y = 0 := by simpa [gdz] using h
    have h2 : (q : Int) = 0 := by rw [← hy, h]; rfl
    have h3 : q = 0 := by omega
    show x.toInt = _
    rw [hx, h3, Nat.gcd_zero_right]
  | k + 1, x, y, m, q, hx, hy, h => by
    unfold gdz at h
    unfold gdR
    by_cases c : y = 0
    · rw [if_pos c]
      have h2 : (q : Int) = 0 := by rw [← hy, c]; rfl
      have h3 : q = 0 := by omega
      rw [hx, h3, Nat.gcd_zero_right]
    · rw [if_neg c] at h ⊢
      have e : (x - x / y * y).toInt = ((m % q : Nat) : Int) := by rw [rem_Z c, hx, hy]; rfl
      rw [gdR_Z k y (x - x / y * y) q (m % q) hy e h, Nat.gcd_comm m q, Nat.gcd_rec q m, Nat.gcd_comm (m % q) q]
theorem gdF_Z {u d : Int64} (hu : u.toInt ≠ -9223372036854775808) (hd : d.toInt ≠ -9223372036854775808) : (gdF (absL u) (absL d)).toInt = (Nat.gcd u.toInt.natAbs d.toInt.natAbs : Int) :=
  gdR_Z 1000 (absL u) (absL d) _ _ (absL_Z hu) (absL_Z hd) (gdz_all _ _)
theorem divL_x {u d : Int64} {s t : Int} (hs : d.toInt = s) (hs0 : s ≠ 0) (hu : u.toInt = s * t) (hb1 : -4000000000000000000 ≤ u.toInt) (hb2 : u.toInt ≤ 4000000000000000000) : (u / d).toInt = t := by
  have e : u.toInt.tdiv d.toInt = t := by rw [hs, hu]; exact Int.mul_tdiv_cancel_left t hs0
  have hn : t.natAbs ≤ u.toInt.natAbs := by rw [← e, Int.natAbs_tdiv]; exact Nat.div_le_self _ _
  rw [Int64.toInt_div, e, fb_bmodL (by omega) (by omega)]
/-- a fraction in least terms -/
theorem fr_Z {u d : Int64} (hu1 : -4000000000000000000 ≤ u.toInt) (hu2 : u.toInt ≤ 4000000000000000000) (hd1 : -4000000000000000000 ≤ d.toInt) (hd2 : d.toInt ≤ 4000000000000000000) (h0 : ¬ d = 0) :
    ∃ s : Int, s ≠ 0 ∧ u.toInt = s * (frF u d true).toInt ∧ d.toInt = s * (frF u d false).toInt ∧ 0 < (frF u d false).toInt ∧ Nat.gcd (frF u d true).toInt.natAbs (frF u d false).toInt.natAbs = 1 := by
  have hg := gdF_Z (u := u) (d := d) (by omega) (by omega)
  have hd0 : d.toInt ≠ 0 := fun q => h0 (Int64.toInt_inj.mp q)
  have gpos : 0 < Nat.gcd u.toInt.natAbs d.toInt.natAbs := Nat.gcd_pos_of_pos_right _ (by omega)
  obtain ⟨cu, hcu⟩ := Nat.gcd_dvd_left u.toInt.natAbs d.toInt.natAbs
  obtain ⟨cd, hcd⟩ := Nat.gcd_dvd_right u.toInt.natAbs d.toInt.natAbs
  have hco : Nat.gcd cu cd = 1 := by
    have h1 := Nat.gcd_mul_left (Nat.gcd u.toInt.natAbs d.toInt.natAbs) cu cd
    rw [← hcu, ← hcd] at h1
    exact Nat.eq_of_mul_eq_mul_left gpos (by rw [Nat.mul_one]; exact h1.symm)
  generalize hG : Nat.gcd u.toInt.natAbs d.toInt.natAbs = G at *
  have hgl : G ≤ d.toInt.natAbs := by rw [← hG]; exact Nat.gcd_le_right _ (by omega)
  have hne : ¬ (d = 0 ∨ gdF (absL u) (absL d) = 0) := fun q => q.elim h0 (fun q => by rw [q] at hg; have : (0 : Int64).toInt = 0 := rfl; omega)
  have ed0 : ∀ (s : Int64), (if d < 0 then -(gdF (absL u) (absL d)) else gdF (absL u) (absL d)) = s → frF u d true = u / s ∧ frF u d false = d / s := fun s e => by
    unfold frF
    rw [if_neg hne, if_neg hne, e]
    exact ⟨if_pos rfl, if_neg (by decide)⟩
  by_cases c : d < 0
  · have c2 : d.toInt < 0 := Int64.lt_iff_toInt_lt.mp c
    obtain ⟨e1, e2⟩ := ed0 _ (if_pos c)
    have es : (-(gdF (absL u) (absL d))).toInt = -(G : Int) := by rw [fb_negL (by omega), hg]
    have f2 : d.toInt = -(G : Int) * (cd : Int) := by
      rw [Int.neg_mul, ← Int.natCast_mul, ← hcd]; omega
    have k2 := divL_x es (by omega) f2 hd1 hd2
    have cdp : 0 < cd := Nat.pos_of_ne_zero (fun q => by rw [q, Nat.mul_zero] at hcd; omega)
    by_cases cu0 : 0 ≤ u.toInt
    · have f1 : u.toInt = -(G : Int) * (-(cu : Int)) := by
        rw [Int.neg_mul_neg, ← Int.natCast_mul, ← hcu]; omega
      have k1 := divL_x es (by omega) f1 hu1 hu2
      refine ⟨-(G : Int), by omega, ?_, ?_, ?_, ?_⟩
      · rw [e1, k1]; exact f1
      · rw [e2, k2]; exact f2
      · rw [e2, k2]; omega
      · rw [e1, e2, k1, k2, Int.natAbs_neg, Int.natAbs_natCast, Int.natAbs_natCast]; exact hco
    · have f1 : u.toInt = -(G : Int) * (cu : Int) := by
        rw [Int.neg_mul, ← Int.natCast_mul, ← hcu]; omega
      have k1 := divL_x es (by omega) f1 hu1 hu2
      refine ⟨-(G : Int), by omega, ?_, ?_, ?_, ?_⟩
      · rw [e1, k1]; exact f1
      · rw [e2, k2]; exact f2
      · rw [e2, k2]; omega
      · rw [e1, e2, k1, k2, Int.natAbs_natCast, Int.natAbs_natCast]; exact hco
  · have c2 : ¬ d.toInt < 0 := fun q => c (Int64.lt_iff_toInt_lt.mpr q)
    obtain ⟨e1, e2⟩ := ed0 _ (if_neg c)
    have f2 : d.toInt = (G : Int) * (cd : Int) := by
      rw [← Int.natCast_mul, ← hcd]; omega
    have k2 := divL_x hg (by omega) f2 hd1 hd2
    have cdp : 0 < cd := Nat.pos_of_ne_zero (fun q => by rw [q, Nat.mul_zero] at hcd; omega)
    by_cases cu0 : 0 ≤ u.toInt
    · have f1 : u.toInt = (G : Int) * (cu : Int) := by
        rw [← Int.natCast_mul, ← hcu]; omega
      have k1 := divL_x hg (by omega) f1 hu1 hu2
      refine ⟨(G : Int), by omega, ?_, ?_, ?_, ?_⟩
      · rw [e1, k1]; exact f1
      · rw [e2, k2]; exact f2
      · rw [e2, k2]; omega
      · rw [e1, e2, k1, k2, Int.natAbs_natCast, Int.natAbs_natCast]; exact hco
    · have f1 : u.toInt = (G : Int) * (-(cu : Int)) := by
        rw [Int.mul_neg, ← Int.natCast_mul, ← hcu]; omega
      have k1 := divL_x hg (by omega) f1 hu1 hu2
      refine ⟨(G : Int), by omega, ?_, ?_, ?_, ?_⟩
      · rw [e1, k1]; exact f1
      · rw [e2, k2]; exact f2
      · rw [e2, k2]; omega
      · rw [e1, e2, k1, k2, Int.natAbs_neg, Int.natAbs_natCast, Int.natAbs_natCast]; exact hco
