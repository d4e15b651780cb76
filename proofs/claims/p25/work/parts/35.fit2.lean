/-! WHAT THE LAW ASKS OF A FIT. -/
def ptF (a b : Int64) : Int64 := Int64.ofInt ((Nat.gcd a.toInt.natAbs b.toInt.natAbs : Nat) : Int)
theorem ptF_Z {a b : Int64} (ha : a.toInt ≠ -9223372036854775808) (hb : b.toInt ≠ -9223372036854775808) : (ptF a b).toInt = ((Nat.gcd a.toInt.natAbs b.toInt.natAbs : Nat) : Int) := by
  have h1 := fb_rngL a
  have h2 := fb_rngL b
  have hl : Nat.gcd a.toInt.natAbs b.toInt.natAbs < 9223372036854775808 := by
    by_cases c : b.toInt.natAbs = 0
    · rw [c, Nat.gcd_zero_right]; omega
    · have := Nat.gcd_le_right a.toInt.natAbs (Nat.pos_of_ne_zero c); omega
  unfold ptF
  rw [Int64.toInt_ofInt, fb_bmodL (by omega) (by omega)]
theorem ring64 {u p x n b q y w : Int64} (h : u.toInt * p.toInt * x.toInt + n.toInt * b.toInt * q.toInt = y.toInt * w.toInt) : u * p * x + n * b * q = y * w := by
  have e := congrArg Int64.ofInt h
  simp only [Int64.ofInt_add, Int64.ofInt_mul, Int64.ofInt_toInt] at e
  exact e
theorem mid_Z {S D B X Y n U1 D1 B2 D2 s1 s2 R al be : Int} (hS : S = s1 * U1) (hD1 : D = s1 * D1) (hB : B = s2 * B2) (hD2 : D = s2 * D2) (e1 : D1 = R * be) (e2 : D2 = R * al) (hR : R ≠ 0) (h1 : s1 ≠ 0) (h2 : s2 ≠ 0) (hid : S * X + n * B = Y * D) : U1 * al * X + n * B2 * be = Y * (be * D2) := by
  have hk : s1 * be = s2 * al := by
    have : R * (s1 * be) = R * (s2 * al) := by
      have e3 : s1 * D1 = s2 * D2 := hD1.symm.trans hD2
      rw [e1, e2] at e3
      have a1 : R * (s1 * be) = s1 * (R * be) := by ac_rfl
      have a2 : R * (s2 * al) = s2 * (R * al) := by ac_rfl
      rw [a1, a2, e3]
    exact Int.eq_of_mul_eq_mul_left hR this
  refine Int.eq_of_mul_eq_mul_left (Int.mul_ne_zero h1 h2) ?_
  have b1 : s1 * s2 * (U1 * al * X + n * B2 * be) = (s2 * al) * (s1 * U1) * X + n * (s2 * B2) * (s1 * be) := by
    rw [Int.mul_add]
    have c1 : s1 * s2 * (U1 * al * X) = (s2 * al) * (s1 * U1) * X := by ac_rfl
    have c2 : s1 * s2 * (n * B2 * be) = n * (s2 * B2) * (s1 * be) := by ac_rfl
    rw [c1, c2]
  have b2 : (s2 * al) * (s1 * U1) * X + n * (s2 * B2) * (s1 * be) = (s2 * al) * (S * X + n * B) := by
    rw [hk, ← hS, ← hB, Int.mul_add]
    have c1 : s2 * al * S * X = s2 * al * (S * X) := by ac_rfl
    have c2 : n * B * (s2 * al) = s2 * al * (n * B) := by ac_rfl
    rw [c1, c2]
  have b3 : s1 * s2 * (Y * (be * D2)) = (s1 * be) * (Y * (s2 * D2)) := by ac_rfl
  rw [b1, b2, hid, b3, ← hD2, hk]
theorem pos_l {s b : Int} (h : 0 < s) : (0 < s * b ↔ 0 < b) ∧ (s * b < 0 ↔ b < 0) := by
  rcases Int.lt_trichotomy b 0 with q | q | q
  · have := Int.mul_neg_of_pos_of_neg h q; omega
  · rw [q, Int.mul_zero]; omega
  · have := Int.mul_pos h q; omega
theorem neg_l {s b : Int} (h : s < 0) : (0 < s * b ↔ b < 0) ∧ (s * b < 0 ↔ 0 < b) := by
  rcases Int.lt_trichotomy b 0 with q | q | q
  · have := Int.mul_pos_of_neg_of_neg h q; omega
  · rw [q, Int.mul_zero]; omega
  · have := Int.mul_neg_of_neg_of_pos h q; omega
theorem sgn_Z {S D B U1 D1 B2 D2 On Of s1 s2 s3 : Int} (h1 : s1 ≠ 0) (h2 : s2 ≠ 0) (h3 : s3 ≠ 0) (hS : S = s1 * U1) (hD1 : D = s1 * D1) (hB : B = s2 * B2) (hD2 : D = s2 * D2) (hBn : -B = s3 * On) (hSn : S = s3 * Of) (p1 : 0 < D1) (p2 : 0 < D2) (p3 : 0 < Of) : On < 0 ↔ (0 < B2 ∧ 0 < U1) ∨ (B2 < 0 ∧ U1 < 0) := by
  have key : ∀ {s b : Int}, s ≠ 0 → (0 < s ∧ (0 < s * b ↔ 0 < b) ∧ (s * b < 0 ↔ b < 0)) ∨ (s < 0 ∧ (0 < s * b ↔ b < 0) ∧ (s * b < 0 ↔ 0 < b)) := fun {s b} h => by
    rcases Int.lt_trichotomy s 0 with q | q | q
    · exact Or.inr ⟨q, neg_l q⟩
    · exact absurd q h
    · exact Or.inl ⟨q, pos_l q⟩
  have k1 := key (b := U1) h1
  have k2 := key (b := D1) h1
  have k3 := key (b := B2) h2
  have k4 := key (b := D2) h2
  have k5 := key (b := On) h3
  have k6 := key (b := Of) h3
  rw [← hS] at k1
  rw [← hD1] at k2
  rw [← hB] at k3
  rw [← hD2] at k4
  rw [← hBn] at k5
  rw [← hSn] at k6
  omega
theorem id_Z (n X Y P Q : Int) : (n * P - X * Y) * X + n * (Y * Q - X * P) = Y * (n * Q - X * X) := by
  rw [Int.sub_mul, Int.mul_sub, Int.mul_sub]
  have c1 : n * (X * P) = n * P * X := by ac_rfl
  have c2 : n * (Y * Q) = Y * (n * Q) := by ac_rfl
  have c3 : X * Y * X = Y * (X * X) := by ac_rfl
  rw [c1, c2, c3]; omega
/-- all that the law asks of a fit that is there -/
theorem fit_pack {z : zS} (hR : qRd z) {a n : Nat} (hn : n ≤ 60) (han : a + n ≤ ix (z 0 3)) (hD : ¬ fD z a n = 0) :
    0 < (frF (fS z a n) (fD z a n) false).toInt ∧ 0 < (frF (fB z a n) (fD z a n) false).toInt
    ∧ ¬ ptF (frF (fS z a n) (fD z a n) false) (frF (fB z a n) (fD z a n) false) = 0
    ∧ frF (fS z a n) (fD z a n) true * (frF (fS z a n) (fD z a n) false / ptF (frF (fS z a n) (fD z a n) false) (frF (fB z a n) (fD z a n) false) * frF (fB z a n) (fD z a n) false / frF (fS z a n) (fD z a n) false) * fX z a n + lN n * frF (fB z a n) (fD z a n) true * (frF (fS z a n) (fD z a n) false / ptF (frF (fS z a n) (fD z a n) false) (frF (fB z a n) (fD z a n) false) * frF (fB z a n) (fD z a n) false / frF (fB z a n) (fD z a n) false)
      = fY z a n * (frF (fS z a n) (fD z a n) false / ptF (frF (fS z a n) (fD z a n) false) (frF (fB z a n) (fD z a n) false) * frF (fB z a n) (fD z a n) false)
    ∧ (frF (fS z a n) (fD z a n) true = 0 → fS z a n = 0)
    ∧ (¬ frF (fS z a n) (fD z a n) true = 0 → ¬ fS z a n = 0 ∧ 0 < (frF (-(fB z a n)) (fS z a n) false).toInt ∧ (frF (-(fB z a n)) (fS z a n) true).toInt ≠ -9223372036854775808 ∧ ptF (frF (-(fB z a n)) (fS z a n) true) (frF (-(fB z a n)) (fS z a n) false) = 1
      ∧ (frF (-(fB z a n)) (fS z a n) true < 0 ↔ (0 < frF (fB z a n) (fD z a n) true ∧ 0 < frF (fS z a n) (fD z a n) true) ∨ (frF (fB z a n) (fD z a n) true < 0 ∧ frF (fS z a n) (fD z a n) true < 0))) := by
  obtain ⟨eX, eY, eD, eS, eB, bD, bS, bB⟩ := fit_Z hR hn han
  obtain ⟨s1, h1, hS, hD1, p1, -⟩ := fr_Z (u := fS z a n) (d := fD z a n) (by omega) (by omega) (by omega) (by omega) hD
  obtain ⟨s2, h2, hB, hD2, p2, -⟩ := fr_Z (u := fB z a n) (d := fD z a n) (by omega) (by omega) (by omega) (by omega) hD
  have r1 := fb_rngL (frF (fS z a n) (fD z a n) false)
  have r2 := fb_rngL (frF (fB z a n) (fD z a n) false)
  have zL : (0 : Int64).toInt = 0 := rfl
  have hpt := ptF_Z (a := frF (fS z a n) (fD z a n) false) (b := frF (fB z a n) (fD z a n) false) (by omega) (by omega)
  generalize hup : frF (fS z a n) (fD z a n) true = up at *
  generalize hdn : frF (fS z a n) (fD z a n) false = dn at *
  generalize hba : frF (fB z a n) (fD z a n) true = ba at *
  generalize hun : frF (fB z a n) (fD z a n) false = un at *
  have gpos : 0 < Nat.gcd dn.toInt.natAbs un.toInt.natAbs := Nat.gcd_pos_of_pos_right _ (by omega)
  obtain ⟨be, hbe⟩ := Nat.gcd_dvd_left dn.toInt.natAbs un.toInt.natAbs
  obtain ⟨al, hal⟩ := Nat.gcd_dvd_right dn.toInt.natAbs un.toInt.natAbs
  have hlcm : Nat.lcm dn.toInt.natAbs un.toInt.natAbs ∣ (fD z a n).toInt.natAbs := by
    refine Nat.lcm_dvd ⟨s1.natAbs, ?_⟩ ⟨s2.natAbs, ?_⟩
    · rw [hD1, Int.natAbs_mul, Nat.mul_comm]
    · rw [hD2, Int.natAbs_mul, Nat.mul_comm]
  have hl2 : Nat.lcm dn.toInt.natAbs un.toInt.natAbs = be * un.toInt.natAbs := by
    unfold Nat.lcm
    have e : dn.toInt.natAbs * un.toInt.natAbs = Nat.gcd dn.toInt.natAbs un.toInt.natAbs * (be * un.toInt.natAbs) := by
      rw [← Nat.mul_assoc, ← hbe]
    rw [e, Nat.mul_div_cancel_left _ gpos]
  generalize hG : Nat.gcd dn.toInt.natAbs un.toInt.natAbs = G at *
  have hD0 : (fD z a n).toInt ≠ 0 := fun q => hD (Int64.toInt_inj.mp q)
  have hle : be * un.toInt.natAbs ≤ (fD z a n).toInt.natAbs := by
    rw [← hl2]; exact Nat.le_of_dvd (by omega) hlcm
  have e1 : dn.toInt = (G : Int) * (be : Int) := by rw [← Int.natCast_mul, ← hbe]; omega
  have e2 : un.toInt = (G : Int) * (al : Int) := by rw [← Int.natCast_mul, ← hal]; omega
  have hdD : dn.toInt.natAbs ≤ (fD z a n).toInt.natAbs := by
    rw [hD1, Int.natAbs_mul]
    exact Nat.le_mul_of_pos_left _ (by omega)
  have huD : un.toInt.natAbs ≤ (fD z a n).toInt.natAbs := by
    rw [hD2, Int.natAbs_mul]
    exact Nat.le_mul_of_pos_left _ (by omega)
  have q1 : (dn / ptF dn un).toInt = (be : Int) := divL_x hpt (by omega) e1 (by omega) (by omega)
  have wb : ((be * un.toInt.natAbs : Nat) : Int) = (be : Int) * un.toInt := by rw [Int.natCast_mul]; congr 1; omega
  have qw : (dn / ptF dn un * un).toInt = (be : Int) * un.toInt := by
    rw [fb_mulL (by rw [q1, ← wb]; omega) (by rw [q1, ← wb]; omega), q1]
  have q2 : (dn / ptF dn un * un / dn).toInt = (al : Int) := by
    refine divL_x (s := dn.toInt) rfl (by omega) ?_ (by rw [qw, ← wb]; omega) (by rw [qw, ← wb]; omega)
    rw [qw, e1, e2]; ac_rfl
  have q3 : (dn / ptF dn un * un / un).toInt = (be : Int) := by
    refine divL_x (s := un.toInt) rfl (by omega) ?_ (by rw [qw, ← wb]; omega) (by rw [qw, ← wb]; omega)
    rw [qw]; ac_rfl
  refine ⟨p1, p2, fun q => ?_, ?_, fun q => ?_, fun q => ?_⟩
  · rw [q, zL] at hpt; omega
  · refine ring64 ?_
    rw [q2, q3, qw, eX, eY, lN_toInt (by omega)]
    refine mid_Z hS hD1 hB hD2 e1 e2 (by omega) h1 h2 ?_
    rw [eS, eB, eD]
    exact id_Z _ _ _ _ _
  · refine Int64.toInt_inj.mp ?_
    rw [hS, q, zL, Int.mul_zero]
  · have hS0 : ¬ fS z a n = 0 := fun t => q (by
      rw [t, zL] at hS
      refine Int64.toInt_inj.mp ?_
      rw [zL]
      exact (Int.mul_eq_zero.mp hS.symm).resolve_left h1)
    have eN : (-(fB z a n)).toInt = -(fB z a n).toInt := fb_negL (by omega)
    obtain ⟨s3, h3, hBn, hSn, p3, hco⟩ := fr_Z (u := -(fB z a n)) (d := fS z a n) (by omega) (by omega) (by omega) (by omega) hS0
    have hon : (frF (-(fB z a n)) (fS z a n) true).toInt.natAbs ≤ (fB z a n).toInt.natAbs := by
      have := congrArg Int.natAbs hBn
      rw [eN, Int.natAbs_neg, Int.natAbs_mul] at this
      rw [this]
      exact Nat.le_mul_of_pos_left _ (by omega)
    have r3 := fb_rngL (frF (-(fB z a n)) (fS z a n) false)
    refine ⟨hS0, p3, by omega, ?_, ?_⟩
    · unfold ptF; rw [hco]; rfl
    · rw [eN] at hBn
      rw [Int64.lt_iff_toInt_lt, Int64.lt_iff_toInt_lt, Int64.lt_iff_toInt_lt, Int64.lt_iff_toInt_lt, Int64.lt_iff_toInt_lt, zL]
      exact sgn_Z h1 h2 h3 hS hD1 hB hD2 hBn hSn p1 p2 p3
