/-! WHAT EVERY STATE KEEPS TO: each call's state keeps to qInv. -/
def keepP (y z : zS) : Prop := y 0 0 = z 0 0 ∧ y 0 1 = z 0 1 ∧ y 0 2 = z 0 2 ∧ (∀ t, y 1 t = z 1 t) ∧ ∀ n, n < 4 → y (10 + n) 0 = z (10 + n) 0 ∧ y (10 + n) 3 = z (10 + n) 3 ∧ y (10 + n) 4 = z (10 + n) 4
theorem keepP.rf {z : zS} : keepP z z := ⟨rfl, rfl, rfl, fun _ => rfl, fun _ _ => ⟨rfl, rfl, rfl⟩⟩
theorem keepP.tr {x y z : zS} (h : keepP x y) (k : keepP y z) : keepP x z :=
  ⟨h.1.trans k.1, h.2.1.trans k.2.1, h.2.2.1.trans k.2.2.1, fun t => (h.2.2.2.1 t).trans (k.2.2.2.1 t), fun n hn => ⟨(h.2.2.2.2 n hn).1.trans (k.2.2.2.2 n hn).1, (h.2.2.2.2 n hn).2.1.trans (k.2.2.2.2 n hn).2.1, (h.2.2.2.2 n hn).2.2.trans (k.2.2.2.2 n hn).2.2⟩⟩
theorem inH_cg {y z : zS} (h1 : ∀ t, y 1 t = z 1 t) (hp : ∀ n, n < 4 → y (10 + n) 0 = z (10 + n) 0 ∧ y (10 + n) 3 = z (10 + n) 3 ∧ y (10 + n) 4 = z (10 + n) 4) : inH y = inH z := by
  have e : ∀ (k i : Nat), i + k ≤ 4 → inHr y k i = inHr z k i := by
    intro k
    induction k with
    | zero => intro i _; rfl
    | succ k ih =>
      intro i hi
      obtain ⟨a, b, c⟩ := hp i (by omega)
      have e1 : thB y (10 + i) = thB z (10 + i) := by unfold thB; rw [a]
      have e2 : jnB y (10 + i) = jnB z (10 + i) := by unfold jnB; rw [b, c, h1 0, h1 1]
      show (if thB y (10 + i) && jnB y (10 + i) then nI i else inHr y k (i + 1)) = (if thB z (10 + i) && jnB z (10 + i) then nI i else inHr z k (i + 1))
      rw [e1, e2, ih (i + 1) (by omega)]
  have e3 : hlB y = hlB z := by unfold hlB; rw [h1 0, h1 1]
  unfold inH
  rw [e3, e 4 0 (by omega)]
theorem inH_congr {y z : zS} (h : keepP y z) : inH y = inH z := inH_cg h.2.2.2.1 h.2.2.2.2
theorem inv_of {y z : zS} (hI : qInv z) (hk : keepP y z) (h3 : inR (y 0 3) 0 60 = true) (h4 : inR (y 0 4) 0 3 = true) (hp : ∀ n, n < 4 → partInv (y (10 + n))) : qInv y := by
  have e := inH_congr hk
  obtain ⟨k0, k1, k2, k3, k4⟩ := hk
  obtain ⟨a, b, c, -, -, f, -, i⟩ := hI
  refine ⟨by rw [k0]; exact a, by rw [k1]; exact b, by rw [k2]; exact c, h3, h4, fun t ht => by rw [k3 t]; exact f t ht, hp, ?_⟩
  rw [k0, e]; exact i
theorem inv_p {z : zS} (hI : qInv z) : ∀ n, n < 4 → partInv (z (10 + n)) := hI.2.2.2.2.2.2.1
-- a row of a reading or of a cause
theorem keep_low {z : zS} {i j : Nat} {v : Int32} (h : 2 ≤ i ∧ i < 10) : keepP (zu z i j v) z := by
  refine ⟨?_, ?_, ?_, fun t => ?_, fun n hn => ?_⟩
  · rw [zu_row z i j 0 v (by omega)]
  · rw [zu_row z i j 0 v (by omega)]
  · rw [zu_row z i j 0 v (by omega)]
  · rw [zu_row z i j 1 v (by omega)]
  · rw [zu_row z i j (10 + n) v (by omega)]; exact ⟨rfl, rfl, rfl⟩
theorem keep_c {z : zS} {j : Nat} {v : Int32} (h : 3 ≤ j) : keepP (zu z 0 j v) z := by
  refine ⟨?_, ?_, ?_, fun t => ?_, fun n hn => ?_⟩
  · rw [zu_col z 0 j 0 0 v (by omega)]
  · rw [zu_col z 0 j 0 1 v (by omega)]
  · rw [zu_col z 0 j 0 2 v (by omega)]
  · rw [zu_row z 0 j 1 v (by omega)]
  · rw [zu_row z 0 j (10 + n) v (by omega)]; exact ⟨rfl, rfl, rfl⟩
theorem keep_p {z : zS} {i k : Nat} {v : Int32} (hk : ¬ k = 0 ∧ ¬ k = 3 ∧ ¬ k = 4) : keepP (zu z (10 + i) k v) z := by
  refine ⟨?_, ?_, ?_, fun t => ?_, fun n hn => ?_⟩
  · rw [zu_row z (10 + i) k 0 v (by omega)]
  · rw [zu_row z (10 + i) k 0 v (by omega)]
  · rw [zu_row z (10 + i) k 0 v (by omega)]
  · rw [zu_row z (10 + i) k 1 v (by omega)]
  · rw [zu_col z (10 + i) k (10 + n) 0 v (by omega), zu_col z (10 + i) k (10 + n) 3 v (by omega), zu_col z (10 + i) k (10 + n) 4 v (by omega)]; exact ⟨rfl, rfl, rfl⟩
theorem pr_low {z : zS} {i j : Nat} {v : Int32} (h : i < 10) (hp : ∀ n, n < 4 → partInv (z (10 + n))) : ∀ n, n < 4 → partInv (zu z i j v (10 + n)) := fun n hn => by rw [zu_row z i j (10 + n) v (by omega)]; exact hp n hn
theorem pr_p {z : zS} {i k : Nat} {v : Int32} (hi : i < 4) (hp : ∀ n, n < 4 → partInv (z (10 + n))) (h : partInv (upd (z (10 + i)) k v)) : ∀ n, n < 4 → partInv (zu z (10 + i) k v (10 + n)) := fun n hn => by
  by_cases e : n = i
  · subst e; rw [zu_upd]; exact h
  · rw [zu_row z (10 + i) k (10 + n) v (by omega)]; exact hp n hn
theorem inv_zup {z : zS} (hI : qInv z) {i : Nat} (hi : i < 4) {k : Nat} {v : Int32} (hk : ¬ k = 0 ∧ ¬ k = 3 ∧ ¬ k = 4) (hp : partInv (upd (z (10 + i)) k v)) : qInv (zu z (10 + i) k v) :=
  inv_of hI (keep_p hk) (by rw [zu_row z (10 + i) k 0 v (by omega)]; exact hI.2.2.2.1) (by rw [zu_row z (10 + i) k 0 v (by omega)]; exact hI.2.2.2.2.1) (pr_p hi (inv_p hI) hp)
theorem pinv_0 {f : Nat → Int32} (hf : partInv f) {v : Int32} (hv : v = 0 ∨ v = 1) : partInv (upd f 0 v) := by
  obtain ⟨a0, a1, a2, a3, a4, a5, a6, a7, a8, a9, a10, a11⟩ := hf
  exact ⟨hv, a1, a2, a3, a4, a5, a6, a7, a8, a9, a10, a11⟩
theorem pinv_1 {f : Nat → Int32} (hf : partInv f) {v : Int32} (hv : v = 0 ∨ v = 1) : partInv (upd f 1 v) := by
  obtain ⟨a0, a1, a2, a3, a4, a5, a6, a7, a8, a9, a10, a11⟩ := hf
  exact ⟨a0, hv, a2, a3, a4, a5, a6, a7, a8, a9, a10, a11⟩
theorem pinv_2 {f : Nat → Int32} (hf : partInv f) {v : Int32} (hv : v = 0 ∨ v = 1) : partInv (upd f 2 v) := by
  obtain ⟨a0, a1, a2, a3, a4, a5, a6, a7, a8, a9, a10, a11⟩ := hf
  exact ⟨a0, a1, hv, a3, a4, a5, a6, a7, a8, a9, a10, a11⟩
theorem pinv_6 {f : Nat → Int32} (hf : partInv f) {v : Int32} (hv : inR v 0 1000 = true) : partInv (upd f 6 v) := by
  obtain ⟨a0, a1, a2, a3, a4, a5, a6, a7, a8, a9, a10, a11⟩ := hf
  exact ⟨a0, a1, a2, a3, a4, a5, hv, a7, a8, a9, a10, a11⟩
theorem inv_opS {z : zS} (hI : qInv z) {i : Nat} (hi : i < 4) (v : Int32) : qInv (opS z (10 + i) v) := by
  unfold opS
  split
  · exact inv_zup hI hi (k := 2) (by decide) (pinv_2 (inv_p hI i hi) (Or.inr rfl))
  · exact hI
theorem opS_low {z : zS} {i : Nat} (v : Int32) {a : Nat} (ha : a < 10) : opS z (10 + i) v a = z a := by
  unfold opS
  split
  · exact zu_row _ _ _ _ _ (by omega)
  · rfl
theorem opS_keep {z : zS} {i : Nat} (v : Int32) : keepP (opS z (10 + i) v) z := by
  unfold opS
  split
  · exact keep_p (by decide)
  · exact keepP.rf
theorem rc_up {x : Int32} (h : inR x 0 60 = true) (h2 : ¬ x = 60) : inR (x + 1) 0 60 = true := by
  have h1 := inR_b h (x := 0) (y := 60) rfl rfl
  have h3 := ne_toInt h2 (k := 60) rfl
  have e1 : (1 : Int32).toInt = 1 := rfl
  rw [inR_iff, fb_addI (by rw [e1]; omega) (by rw [e1]; omega), e1, i0, show (60 : Int32).toInt = 60 from rfl]
  omega
theorem addS_3 (z : zS) (v t a r : Int32) : addS z v t a r 0 3 = z 0 3 + 1 := by unfold addS; exact zu_same _ _ _ _
theorem addS_4 (z : zS) (v t a r : Int32) : addS z v t a r 0 4 = z 0 4 := by simp [addS, zu]
theorem addS_p (z : zS) (v t a r : Int32) (n : Nat) : addS z v t a r (10 + n) = z (10 + n) := by
  unfold addS
  rw [zu_row _ _ _ _ _ (by omega), zu_row _ _ _ _ _ (by omega), zu_row _ _ _ _ _ (by omega), zu_row _ _ _ _ _ (by omega), zu_row _ _ _ _ _ (by omega)]
theorem addS_keep (z : zS) (v t a r : Int32) : keepP (addS z v t a r) z :=
  (keep_c (by omega)).tr ((keep_low (by omega)).tr ((keep_low (by omega)).tr ((keep_low (by omega)).tr (keep_low (by omega)))))
theorem inv_addS {z : zS} (hI : qInv z) (hn : ¬ z 0 3 = 60) (v t a r : Int32) : qInv (addS z v t a r) :=
  inv_of hI (addS_keep z v t a r) (by rw [addS_3]; exact rc_up hI.2.2.2.1 hn) (by rw [addS_4]; exact hI.2.2.2.2.1) (fun n hn => by rw [addS_p]; exact inv_p hI n hn)
-- heat
theorem fb_sgnL (x : Int64) : (0 < x) ↔ 0 < x.toInt := by rw [Int64.lt_iff_toInt_lt]; rfl
theorem fb_negL {x : Int64} (h : x.toInt ≠ -9223372036854775808) : (-x).toInt = -x.toInt := by
  have := fb_rngL x
  rw [Int64.toInt_neg, fb_bmodL (by omega) (by omega)]
theorem absL_Z {x : Int64} (h : x.toInt ≠ -9223372036854775808) : (absL x).toInt = (x.toInt.natAbs : Int) := by
  unfold absL
  by_cases c : 0 < x
  · rw [if_pos c]; have := (fb_sgnL x).mp c; omega
  · rw [if_neg c, fb_negL h]
    have : ¬ 0 < x.toInt := fun q => c ((fb_sgnL x).mpr q)
    omega
theorem toL (x : Int32) : x.toInt64.toInt = x.toInt := Int32.toInt_toInt64 x
theorem mulB2 {a b A B : Int} (h1 : -A ≤ a) (h2 : a ≤ A) (h3 : -B ≤ b) (h4 : b ≤ B) : -(A * B) ≤ a * b ∧ a * b ≤ A * B := by
  have hA : 0 ≤ A := by omega
  have hB : 0 ≤ B := by omega
  rcases Int.le_total 0 b with h | h
  · exact mulB h1 h2 h h4 hA
  · have := mulB (b := -b) h1 h2 (by omega) (by omega : -b ≤ B) hA
    rw [Int.mul_neg] at this
    omega
theorem mul3L {u a w : Int32} (h1 : -3000 ≤ u.toInt) (h2 : u.toInt ≤ 3000) (h3 : -21000 ≤ a.toInt) (h4 : a.toInt ≤ 21000) (h5 : 0 ≤ w.toInt) (h6 : w.toInt ≤ 50) : (u.toInt64 * a.toInt64).toInt = u.toInt * a.toInt ∧ (u.toInt64 * a.toInt64 * w.toInt64).toInt = u.toInt * a.toInt * w.toInt ∧ -3150000000 ≤ u.toInt * a.toInt * w.toInt ∧ u.toInt * a.toInt * w.toInt ≤ 3150000000 := by
  have m1 := mulB2 h1 h2 h3 h4
  have m2 := mulB (A := 3000 * 21000) m1.1 m1.2 h5 h6 (by decide)
  have e1 : (u.toInt64 * a.toInt64).toInt = u.toInt * a.toInt := by
    rw [fb_mulL (by rw [toL, toL]; omega) (by rw [toL, toL]; omega), toL, toL]
  exact ⟨e1, by rw [fb_mulL (by rw [e1, toL]; omega) (by rw [e1, toL]; omega), e1, toL], by omega, by omega⟩
theorem divL_Z {x : Int64} (h0 : 0 ≤ x.toInt) (h1 : x.toInt ≤ 3150000000) : (x / 500000).toInt32.toInt = x.toInt / 500000 := by
  have e : (500000 : Int64).toInt = 500000 := rfl
  have e2 : (x / 500000).toInt = x.toInt / 500000 := by
    rw [Int64.toInt_div, e, Int.tdiv_eq_ediv_of_nonneg h0, fb_bmodL (by omega) (by omega)]
  rw [Int64.toInt_toInt32, e2, fb_bmod (by omega) (by omega)]
theorem wld_Z {h u a w : Int32} (hh : inR h 0 1000 = true) (h1 : -3000 ≤ u.toInt) (h2 : u.toInt ≤ 3000) (h3 : -21000 ≤ a.toInt) (h4 : a.toInt ≤ 21000) (hw : inR w 1 50 = true) : (wldF h u a w).toInt = h.toInt + ((u.toInt * a.toInt * w.toInt).natAbs : Int) / 500000 ∧ 0 ≤ (wldF h u a w).toInt ∧ (wldF h u a w).toInt ≤ 7300 := by
  have hh := inR_b hh (x := 0) (y := 1000) rfl rfl
  have hw := inR_b hw (x := 1) (y := 50) rfl rfl
  obtain ⟨-, m1, m2, m3⟩ := mul3L h1 h2 h3 h4 (w := w) (by omega) hw.2
  have ea : (absL (u.toInt64 * a.toInt64 * w.toInt64)).toInt = ((u.toInt * a.toInt * w.toInt).natAbs : Int) := by
    rw [absL_Z (by rw [m1]; omega), m1]
  have ed := divL_Z (x := absL (u.toInt64 * a.toInt64 * w.toInt64)) (by rw [ea]; omega) (by rw [ea]; omega)
  rw [ea] at ed
  unfold wldF
  rw [fb_addI (by rw [ed]; omega) (by rw [ed]; omega), ed]
  exact ⟨rfl, by omega, by omega⟩
theorem minI_rng {x : Int32} (h0 : 0 ≤ x.toInt) : inR (minI x 1000) 0 1000 = true := by
  have e : (1000 : Int32).toInt = 1000 := rfl
  unfold minI
  by_cases c : 1000 < x
  · rw [if_pos c]; decide
  · rw [if_neg c]
    have : ¬ 1000 < x.toInt := fun q => c (Int32.lt_iff_toInt_lt.mpr (by rw [e]; exact q))
    rw [inR_iff, i0, e]; omega
theorem warm_keep {z : zS} {i : Nat} (u a w : Int32) : keepP (warmS z (10 + i) u a w).2 z := by
  unfold warmS
  split
  · exact keep_p (by decide)
  · exact (keep_p (by decide)).tr (keep_p (by decide))
theorem warm_low {z : zS} {i : Nat} (u a w : Int32) {b : Nat} (hb : b < 10) : (warmS z (10 + i) u a w).2 b = z b := by
  unfold warmS
  split
  · exact zu_row _ _ _ _ _ (by omega)
  · exact (zu_row _ _ _ _ _ (by omega)).trans (zu_row _ _ _ _ _ (by omega))
theorem inv_warm {z : zS} (hI : qInv z) {i : Nat} (hi : i < 4) {u a w : Int32} (h1 : -3000 ≤ u.toInt) (h2 : u.toInt ≤ 3000) (h3 : -21000 ≤ a.toInt) (h4 : a.toInt ≤ 21000) (hw : inR w 1 50 = true) : qInv (warmS z (10 + i) u a w).2 := by
  have hp := inv_p hI i hi
  have hh := hp.2.2.2.2.2.2.1
  have hz := wld_Z hh h1 h2 h3 h4 hw
  have hq : qInv (zu z (10 + i) 6 (minI (wldF (z (10 + i) 6) u a w) 1000)) := inv_zup hI hi (by decide) (pinv_6 hp (minI_rng hz.2.1))
  unfold warmS
  split
  · exact hq
  · exact inv_zup hq hi (by decide) (pinv_1 (inv_p hq i hi) (Or.inr rfl))
theorem shut_keep {z : zS} {i : Nat} (x : Int32) : keepP (shutS z (10 + i) x) z := by
  unfold shutS
  split
  · exact keep_p (by decide)
  · exact keepP.rf
theorem shut_low {z : zS} {i : Nat} (x : Int32) {b : Nat} (hb : b < 10) : shutS z (10 + i) x b = z b := by
  unfold shutS
  split
  · exact zu_row _ _ _ _ _ (by omega)
  · rfl
theorem inv_shut {z : zS} (hI : qInv z) {i : Nat} (hi : i < 4) (x : Int32) : qInv (shutS z (10 + i) x) := by
  unfold shutS
  split
  · exact inv_zup hI hi (by decide) (pinv_2 (inv_p hI i hi) (Or.inl rfl))
  · exact hI
theorem uF_rng {z : zS} {p : Nat} {v : Int32} (hv : inR v (-3000) 3000 = true) : -3000 ≤ (uF z p v).toInt ∧ (uF z p v).toInt ≤ 3000 := by
  have hvb := inR_b hv (x := -3000) (y := 3000) rfl rfl
  have hn : uN z p v ≤ ix (absI v) := srch_le _ _
  have hk := (abs_nI hvb.1 hvb.2).2
  unfold uF
  rw [sgn_k (by omega)]
  split <;> omega
theorem rdS_low {z : zS} {i : Nat} (v w : Int32) : keepP (rdS z (10 + i) v w).2 z ∧ (rdS z (10 + i) v w).2 0 3 = z 0 3 + 1 ∧ (rdS z (10 + i) v w).2 0 4 = z 0 4 := by
  unfold rdS
  refine ⟨(warm_keep _ _ _).tr (addS_keep _ _ _ _ _), ?_, ?_⟩
  · rw [warm_low _ _ _ (by omega), addS_3]
  · rw [warm_low _ _ _ (by omega), addS_4]
theorem inv_rdS {z : zS} (hI : qInv z) {i : Nat} (hi : i < 4) {v w : Int32} (hv : inR v (-3000) 3000 = true) (hw : inR w 1 50 = true) (hn : ¬ z 0 3 = 60) : qInv (rdS z (10 + i) v w).2 := by
  have hu := uF_rng (z := z) (p := 10 + i) hv
  have ha := ampF_Z (inv_p hI i hi) hu.1 hu.2
  unfold rdS
  exact inv_warm (inv_addS hI hn _ _ _ _) hi hu.1 hu.2 ha.2.1 ha.2.2 hw
theorem pulS_low {z : zS} {i : Nat} (v w : Int32) : keepP (pulS z (10 + i) v w).2 z ∧ (pulS z (10 + i) v w).2 0 3 = z 0 3 + 1 ∧ (pulS z (10 + i) v w).2 0 4 = z 0 4 := by
  have h := rdS_low (z := opS z (10 + i) v) (i := i) v w
  have h0 : opS z (10 + i) v 0 = z 0 := opS_low v (by omega)
  unfold pulS
  refine ⟨(shut_keep _).tr (h.1.tr (opS_keep v)), ?_, ?_⟩
  · show shutS _ (10 + i) _ 0 3 = _
    rw [shut_low _ (by omega), h.2.1, h0]
  · show shutS _ (10 + i) _ 0 4 = _
    rw [shut_low _ (by omega), h.2.2, h0]
theorem inv_pulS {z : zS} (hI : qInv z) {i : Nat} (hi : i < 4) {v w : Int32} (hv : inR v (-3000) 3000 = true) (hw : inR w 1 50 = true) (hn : ¬ z 0 3 = 60) : qInv (pulS z (10 + i) v w).2 := by
  unfold pulS
  exact inv_shut (inv_rdS (inv_opS hI hi v) hi hv hw (by rw [opS_low v (by omega)]; exact hn)) hi _
theorem put_keep {z : zS} (s n : Int32) : keepP (putS z s n) z := by
  unfold putS
  split
  · exact (keep_c (by omega)).tr ((keep_low (by omega)).tr (keep_low (by omega)))
  · exact keepP.rf
theorem put_3 {z : zS} (s n : Int32) : putS z s n 0 3 = z 0 3 := by
  unfold putS
  split
  · simp [zu]
  · rfl
theorem put_p {z : zS} (s n : Int32) (k : Nat) : putS z s n (10 + k) = z (10 + k) := by
  unfold putS
  split
  · rw [zu_row _ _ _ _ _ (by omega), zu_row _ _ _ _ _ (by omega), zu_row _ _ _ _ _ (by omega)]
  · rfl
theorem inv_put {z : zS} (hI : qInv z) (s n : Int32) : qInv (putS z s n) :=
  inv_of hI (put_keep s n) (by rw [put_3]; exact hI.2.2.2.1) (put_cc hI.2.2.2.2.1) (fun k hk => by rw [put_p]; exact inv_p hI k hk)
theorem inv_tell {z : zS} (hI : qInv z) (n a : Int32) : qInv (tellS z n a) := inv_put (inv_put hI _ _) _ _
theorem tell_keep {z : zS} (n a : Int32) : keepP (tellS z n a) z := (put_keep _ _).tr (put_keep _ _)
theorem tell_3 {z : zS} (n a : Int32) : tellS z n a 0 3 = z 0 3 := (put_3 _ _).trans (put_3 _ _)
theorem inv_cc0 {z : zS} (hI : qInv z) : qInv (zu z 0 4 0) :=
  inv_of hI (keep_c (by omega)) (by rw [zu_col z 0 4 0 3 0 (by omega)]; exact hI.2.2.2.1) (by rw [zu_same]; decide) (pr_low (by omega) (inv_p hI))
-- cooling
theorem cool_1 {h : Int32} (hh : inR h 0 1000 = true) : inR (h - (h + 15) / 16) 0 1000 = true := by
  obtain ⟨k, hk, rfl⟩ := inR_nI (n := 1000) rfl hh
  have e : (nI k + 15) / 16 = nI ((k + 15) / 16) := by
    rw [show (15 : Int32) = nI 15 from rfl, nI_add]
    exact pk_div (d := 16) (by omega) (by decide) (by decide)
  rw [e, pk_sub (by omega), inR_iff, nI_toInt (by omega), i0, show (1000 : Int32).toInt = 1000 from rfl]
  omega
theorem cool_N : ∀ (n : Nat) {h : Int32}, inR h 0 1000 = true → inR (coolN n h) 0 1000 = true
  | 0, _, hh => hh
  | n + 1, _, hh => cool_N n (cool_1 hh)
theorem inv_coolR (k : Nat) : ∀ (f i : Nat) {z : zS}, i + f ≤ 4 → qInv z → qInv (coolR k f i z) ∧ keepP (coolR k f i z) z ∧ ∀ b, b < 10 → coolR k f i z b = z b
  | 0, _, _, _, hI => ⟨hI, keepP.rf, fun _ _ => rfl⟩
  | f + 1, i, z, hif, hI => by
    have hq := inv_zup hI (i := i) (by omega) (k := 6) (by decide) (pinv_6 (inv_p hI i (by omega)) (cool_N k (inv_p hI i (by omega)).2.2.2.2.2.2.1))
    obtain ⟨a, b, c⟩ := inv_coolR k f (i + 1) (by omega) hq
    exact ⟨a, b.tr (keep_p (by decide)), fun q hq => (c q hq).trans (zu_row _ _ _ _ _ (by omega))⟩
theorem inv_coolA {z : zS} (hI : qInv z) (k : Nat) : qInv (coolA z k) ∧ keepP (coolA z k) z ∧ ∀ b, b < 10 → coolA z k b = z b := inv_coolR k 4 0 (by omega) hI
-- the calls' own states
theorem inv_off {y z : zS} (hI : qInv z) (h0 : z 0 0 = 0) (e0 : y 0 = z 0) (h1 : ∀ t, t < 4 → inR (y 1 t) 0 255 = true) (hp : ∀ n, n < 4 → partInv (y (10 + n))) : qInv y := by
  obtain ⟨a, b, c, d, e, -, -, -⟩ := hI
  exact ⟨by rw [e0]; exact a, by rw [e0]; exact b, by rw [e0]; exact c, by rw [e0]; exact d, by rw [e0]; exact e, h1, hp, fun q => absurd (by rw [e0]; exact h0) q⟩
theorem renew_c (z : zS) (p : Nat) (f o k : Int32) : renewS z p f o k p 0 = 1 ∧ renewS z p f o k p 1 = 0 ∧ renewS z p f o k p 2 = 0 ∧ renewS z p f o k p 3 = f ∧ renewS z p f o k p 4 = o ∧ renewS z p f o k p 5 = k ∧ renewS z p f o k p 6 = 0 ∧ renewS z p f o k p 7 = 1000 ∧ renewS z p f o k p 8 = 600 ∧ renewS z p f o k p 9 = 0 ∧ renewS z p f o k p 10 = 0 ∧ renewS z p f o k p 11 = 0 := by
  simp [renewS, zu]
theorem renew_r (z : zS) (p : Nat) (f o k : Int32) {a : Nat} (h : ¬ a = p) : renewS z p f o k a = z a := by
  unfold renewS
  simp only [zu_row _ _ _ _ _ h]
theorem pOk_n {n : Int32} (h : inR n 0 3 = true) : ix n < 4 := Nat.lt_of_le_of_lt (inR_ix (n := 3) rfl h).1 (by decide)
theorem inv_part {z : zS} (hI : qInv z) (n first other kind : Int32) : qInv (s_part z n first other kind).2 := by
  unfold s_part
  by_cases h : inR n 0 3 = true ∧ inR first 0 7 = true ∧ inR other 0 7 = true
  · rw [if_pos h]
    by_cases hk : inR kind 0 3 = true
    · rw [if_pos hk]
      by_cases h3 : first = other ∨ ¬ z 0 0 = 0
      · rw [if_pos h3]; exact hI
      · rw [if_neg h3]
        have h00 : z 0 0 = 0 := Classical.not_not.mp (fun q => h3 (Or.inr q))
        have hn := pOk_n h.1
        show qInv (renewS z (10 + ix n) first other kind)
        refine inv_off hI h00 (renew_r _ _ _ _ _ (by omega)) (fun t ht => by rw [renew_r _ _ _ _ _ (by omega)]; exact hI.2.2.2.2.2.1 t ht) (fun k hkk => ?_)
        by_cases e : k = ix n
        · rw [e]
          obtain ⟨c0, c1, c2, c3, c4, c5, c6, c7, c8, c9, c10, c11⟩ := renew_c z (10 + ix n) first other kind
          unfold partInv
          rw [c0, c1, c2, c3, c4, c5, c6, c7, c8, c9, c10, c11]
          exact ⟨Or.inr rfl, Or.inl rfl, Or.inl rfl, h.2.1, h.2.2, hk, by decide, by decide, by decide, by decide, by decide, by decide⟩
        · rw [renew_r _ _ _ _ _ (by omega)]; exact inv_p hI k hkk
    · rw [if_neg hk]; exact hI
  · rw [if_neg h]; exact hI
theorem inv_remove {z : zS} (hI : qInv z) (n : Int32) : qInv (s_remove z n).2 := by
  unfold s_remove
  by_cases h : pOk z n = true
  · rw [if_pos h]
    by_cases h0 : z 0 0 = 0
    · rw [if_pos h0]
      have hn := pOk_lt h
      show qInv (zu z (10 + ix n) 0 0)
      exact inv_off hI h0 (zu_row _ _ _ _ _ (by omega)) (fun t ht => by rw [zu_row _ _ _ _ _ (by omega)]; exact hI.2.2.2.2.2.1 t ht) (pr_p hn (inv_p hI) (pinv_0 (inv_p hI _ hn) (Or.inl rfl)))
    · rw [if_neg h0]; exact hI
  · rw [if_neg h]; exact hI
theorem takes_ix {w v : Int32} (h : takesB w v = true) : ix w < 5 ∧ inR w 0 4 = true ∧ leastN (ix w) ≤ v ∧ v ≤ mostN (ix w) := by
  unfold takesB at h
  rw [Bool.and_eq_true, Bool.and_eq_true, Bool.and_eq_true, decide_eq_true_eq, decide_eq_true_eq, decide_eq_true_eq, decide_eq_true_eq] at h
  obtain ⟨h1, h2, h3, h4⟩ := h
  have h2 := Int32.lt_iff_toInt_lt.mp h2
  have h1 := Int32.le_iff_toInt_le.mp h1
  have e5 : (5 : Int32).toInt = 5 := rfl
  rw [e5] at h2
  rw [i0] at h1
  have h5 : inR w 0 4 = true := by rw [inR_iff, i0, show (4 : Int32).toInt = 4 from rfl]; omega
  exact ⟨Nat.lt_of_le_of_lt (inR_ix (n := 4) rfl h5).1 (by decide), h5, h3, h4⟩
theorem inR_w {v a b c : Int32} (hc : c.toInt ≤ a.toInt) (h1 : a ≤ v) (h2 : v ≤ b) : inR v c b = true := by
  rw [inR_iff]
  have h1 := Int32.le_iff_toInt_le.mp h1
  have h2 := Int32.le_iff_toInt_le.mp h2
  omega
theorem pinv_n {f : Nat → Int32} (hf : partInv f) {k : Nat} (hk : k < 5) {v : Int32} (h1 : leastN k ≤ v) (h2 : v ≤ mostN k) : partInv (upd f (7 + k) v) := by
  obtain ⟨a0, a1, a2, a3, a4, a5, a6, a7, a8, a9, a10, a11⟩ := hf
  rcases (show k = 0 ∨ k = 1 ∨ k = 2 ∨ k = 3 ∨ k = 4 by omega) with rfl | rfl | rfl | rfl | rfl
  · exact ⟨a0, a1, a2, a3, a4, a5, a6, inR_w (a := 1) (by decide) h1 h2, a8, a9, a10, a11⟩
  · exact ⟨a0, a1, a2, a3, a4, a5, a6, a7, inR_w (a := 1) (by decide) h1 h2, a9, a10, a11⟩
  · exact ⟨a0, a1, a2, a3, a4, a5, a6, a7, a8, inR_w (a := 0) (by decide) h1 h2, a10, a11⟩
  · exact ⟨a0, a1, a2, a3, a4, a5, a6, a7, a8, a9, inR_w (a := 0) (by decide) h1 h2, a11⟩
  · exact ⟨a0, a1, a2, a3, a4, a5, a6, a7, a8, a9, a10, inR_w (a := 0) (by decide) h1 h2⟩
theorem inv_set {z : zS} (hI : qInv z) (n w v : Int32) : qInv (s_set z n w v).2 := by
  unfold s_set
  by_cases h : pOk z n = true
  · rw [if_pos h]
    by_cases h0 : takesB w v = true
    · rw [if_pos h0]
      have hn := pOk_lt h
      obtain ⟨t1, t2, t3, t4⟩ := takes_ix h0
      show qInv (zu z (10 + ix n) (7 + ix w) v)
      exact inv_zup hI hn (by omega) (pinv_n (inv_p hI _ hn) t1 t3 t4)
    · rw [if_neg h0]; exact hI
  · rw [if_neg h]; exact hI
theorem pin_rng : ∀ x : Fin 256, ∀ p : Fin 8, inR (nI x.val ||| sh (nI p.val)) 0 255 = true ∧ inR (nI x.val &&& (sh (nI p.val) ^^^ (-1))) 0 255 = true := by decide +kernel
theorem inv_relay {z : zS} (hI : qInv z) (t p v : Int32) : qInv (s_relay z t p v).2 := by
  unfold s_relay
  by_cases h : inR t 0 3 = true ∧ inR p 0 7 = true
  · rw [if_pos h]
    by_cases hv : inR v 0 1 = true
    · rw [if_pos hv]
      by_cases h3 : z 0 0 = 0 ∧ ¬ (v = 1 ∧ shortsB z t (sh p) = true)
      · rw [if_pos h3]
        have hr := hI.2.2.2.2.2.1
        show qInv (zu z 1 (ix t) (if v = 1 then z 1 (ix t) ||| sh p else z 1 (ix t) &&& (sh p ^^^ (-1))))
        refine inv_off hI h3.1 (zu_row _ _ _ _ _ (by omega)) (fun k hk => ?_) (fun n hn => by rw [zu_row _ _ _ _ _ (by omega)]; exact inv_p hI n hn)
        by_cases e : k = ix t
        · rw [e, zu_same]
          obtain ⟨a, ha, ea⟩ := inR_nI (n := 255) rfl (hr (ix t) (by omega))
          obtain ⟨b, hb, rfl⟩ := inR_nI (n := 7) rfl h.2
          have := pin_rng ⟨a, by omega⟩ ⟨b, by omega⟩
          rw [ea]
          split
          · exact this.1
          · exact this.2
        · rw [zu_col _ _ _ _ _ _ e]; exact hr k hk
      · rw [if_neg h3]; exact hI
    · rw [if_neg hv]; exact hI
  · rw [if_neg h]; exact hI
theorem inv_power {z : zS} (hI : qInv z) (v : Int32) : qInv (s_power z v).2 := by
  unfold s_power
  by_cases h : inR v 0 1 = true
  · rw [if_pos h]
    by_cases h1 : v = 1 ∧ inH z = -9
    · rw [if_pos h1]; exact hI
    · rw [if_neg h1]
      show qInv (zu z 0 0 (if v = 1 then 1 else 0))
      obtain ⟨a, b, c, d, e, f, g, i⟩ := hI
      have er : ∀ n, zu z 0 0 (if v = 1 then 1 else 0) (10 + n) = z (10 + n) := fun n => zu_row _ _ _ _ _ (by omega)
      have e1 : zu z 0 0 (if v = 1 then 1 else 0) 1 = z 1 := zu_row _ _ _ _ _ (by omega)
      refine ⟨?_, by rw [zu_col _ _ _ _ _ _ (by decide)]; exact b, by rw [zu_col _ _ _ _ _ _ (by decide)]; exact c, by rw [zu_col _ _ _ _ _ _ (by decide)]; exact d, by rw [zu_col _ _ _ _ _ _ (by decide)]; exact e, fun t ht => by rw [e1]; exact f t ht, fun n hn => by rw [er]; exact g n hn, ?_⟩
      · rw [zu_same]; split
        · exact Or.inr rfl
        · exact Or.inl rfl
      · rw [zu_same, inH_cg (z := z) (fun t => by rw [e1]) (fun n _ => by rw [er]; exact ⟨rfl, rfl, rfl⟩)]
        intro q
        by_cases h2 : v = 1
        · exact fun q2 => h1 ⟨h2, q2⟩
        · rw [if_neg h2] at q; exact absurd rfl q
  · rw [if_neg h]; exact hI
theorem inv_row0 {z : zS} (hI : qInv z) {j : Nat} {v : Int32} (hj : ¬ j = 0) (h1 : inR (zu z 0 j v 0 1) 1 20000 = true) (h2 : inR (zu z 0 j v 0 2) 0 200 = true) (h3 : inR (zu z 0 j v 0 3) 0 60 = true) (h4 : inR (zu z 0 j v 0 4) 0 3 = true) : qInv (zu z 0 j v) := by
  obtain ⟨a, b, c, d, e, f, g, i⟩ := hI
  have er : ∀ n, zu z 0 j v (10 + n) = z (10 + n) := fun n => zu_row _ _ _ _ _ (by omega)
  have e1 : zu z 0 j v 1 = z 1 := zu_row _ _ _ _ _ (by omega)
  refine ⟨by rw [zu_col _ _ _ _ _ _ (fun q => hj q.symm)]; exact a, h1, h2, h3, h4, fun t ht => by rw [e1]; exact f t ht, fun n hn => by rw [er]; exact g n hn, ?_⟩
  rw [zu_col _ _ _ _ _ _ (fun q => hj q.symm), inH_cg (z := z) (fun t => by rw [e1]) (fun n _ => by rw [er]; exact ⟨rfl, rfl, rfl⟩)]
  exact i
theorem inv_limit {z : zS} (hI : qInv z) (v : Int32) : qInv (s_limit z v).2 := by
  unfold s_limit
  by_cases h : inR v 1 20000 = true
  · rw [if_pos h]
    exact inv_row0 hI (by decide) (by rw [zu_same]; exact h) (by rw [zu_col _ _ _ _ _ _ (by decide)]; exact hI.2.2.1) (by rw [zu_col _ _ _ _ _ _ (by decide)]; exact hI.2.2.2.1) (by rw [zu_col _ _ _ _ _ _ (by decide)]; exact hI.2.2.2.2.1)
  · rw [if_neg h]; exact hI
theorem inv_leads {z : zS} (hI : qInv z) (v : Int32) : qInv (s_leads z v).2 := by
  unfold s_leads
  by_cases h : inR v 0 200 = true
  · rw [if_pos h]
    exact inv_row0 hI (by decide) (by rw [zu_col _ _ _ _ _ _ (by decide)]; exact hI.2.1) (by rw [zu_same]; exact h) (by rw [zu_col _ _ _ _ _ _ (by decide)]; exact hI.2.2.2.1) (by rw [zu_col _ _ _ _ _ _ (by decide)]; exact hI.2.2.2.2.1)
  · rw [if_neg h]; exact hI
theorem inv_clear {z : zS} (hI : qInv z) : qInv (s_clear z).2 :=
  inv_row0 hI (by decide) (by rw [zu_col _ _ _ _ _ _ (by decide)]; exact hI.2.1) (by rw [zu_col _ _ _ _ _ _ (by decide)]; exact hI.2.2.1) (by rw [zu_same]; decide) (by rw [zu_col _ _ _ _ _ _ (by decide)]; exact hI.2.2.2.2.1)
theorem inv_rest {z : zS} (hI : qInv z) (n : Int32) : qInv (s_rest z n).2 := by
  unfold s_rest
  by_cases h : inR n 0 100 = true
  · rw [if_pos h]; exact (inv_coolA hI _).1
  · rw [if_neg h]; exact hI
theorem inHr_lt (z : zS) : ∀ (k i : Nat), inHr z k i = -9 ∨ ∃ j, i ≤ j ∧ j < i + k ∧ inHr z k i = nI j ∧ thB z (10 + j) = true ∧ jnB z (10 + j) = true
  | 0, _ => Or.inl rfl
  | k + 1, i => by
    by_cases c : (thB z (10 + i) && jnB z (10 + i)) = true
    · right
      refine ⟨i, Nat.le_refl _, by omega, ?_, ?_⟩
      · show (if thB z (10 + i) && jnB z (10 + i) then nI i else inHr z k (i + 1)) = nI i
        rw [if_pos c]
      · rw [Bool.and_eq_true] at c; exact c
    · have e : inHr z (k + 1) i = inHr z k (i + 1) := by
        show (if thB z (10 + i) && jnB z (10 + i) then nI i else inHr z k (i + 1)) = _
        rw [if_neg c]
      rw [e]
      rcases inHr_lt z k (i + 1) with h | ⟨j, h1, h2, h3⟩
      · exact Or.inl h
      · exact Or.inr ⟨j, by omega, by omega, h3⟩
theorem inH_lt {z : zS} (h : ¬ inH z = -9) : inR (inH z) 0 3 = true ∧ ix (inH z) < 4 ∧ inH z = nI (ix (inH z)) ∧ hlB z = true ∧ ¬ z (10 + ix (inH z)) 0 = 0 ∧ jnB z (10 + ix (inH z)) = true := by
  by_cases c : hlB z = true
  · have e : inH z = inHr z 4 0 := by unfold inH; rw [if_pos c]
    rw [e] at h ⊢
    rcases inHr_lt z 4 0 with q | ⟨j, h1, h2, h3, h4, h5⟩
    · exact absurd q h
    · rw [h3, ix_nI (by omega)]
      refine ⟨?_, by omega, rfl, c, by simpa [thB] using h4, h5⟩
      rw [inR_iff, nI_toInt (by omega), i0, show (3 : Int32).toInt = 3 from rfl]; omega
  · exact absurd (by unfold inH; rw [if_neg c]) h
theorem inv_pulse {z : zS} (hI : qInv z) (v w : Int32) : qInv (s_pulse z v w).2 := by
  unfold s_pulse
  by_cases h : inR v (-3000) 3000 = true ∧ inR w 1 50 = true
  · rw [if_pos h]
    by_cases h0 : z 0 0 = 0
    · rw [if_pos h0]; exact hI
    · rw [if_neg h0]
      by_cases h1 : z 0 3 = 60
      · rw [if_pos h1]; exact hI
      · rw [if_neg h1]
        have hh := inH_lt (hI.2.2.2.2.2.2.2 h0)
        have hq := inv_pulS (inv_cc0 hI) hh.2.1 h.1 h.2 (by rw [zu_col z 0 4 0 3 0 (by omega)]; exact h1)
        by_cases h2 : 0 < (pulS (zu z 0 4 0) (10 + ix (inH z)) v w).1
        · rw [if_pos h2]; dsimp only; exact inv_tell hq _ _
        · rw [if_neg h2]; dsimp only; exact hq
  · rw [if_neg h]; exact hI
-- sweeps
theorem sw_v {a b st : Int32} (ha : inR a (-3000) 3000 = true) (hb : inR b (-3000) 3000 = true) (hs : inR st 1 1000 = true) {k : Nat} (hk : k ≤ lastF a b st) : inR (a + nI k * (if b < a then -st else st)) (-3000) 3000 = true ∧ lastF a b st ≤ 6000 ∧ absI (b - a) / st = nI (lastF a b st) := by
  have ha := inR_b ha (x := -3000) (y := 3000) rfl rfl
  have hb := inR_b hb (x := -3000) (y := 3000) rfl rfl
  have hs := inR_b hs (x := 1) (y := 1000) rfl rfl
  have e1 : (b - a).toInt = b.toInt - a.toInt := fb_subI (by omega) (by omega)
  have e2 : (absI (b - a)).toInt = if 0 ≤ b.toInt - a.toInt then b.toInt - a.toInt else -(b.toInt - a.toInt) := by rw [absI_Z (by omega), e1]
  have h0 : 0 ≤ (absI (b - a)).toInt := by rw [e2]; split <;> omega
  have h6 : (absI (b - a)).toInt ≤ 6000 := by rw [e2]; split <;> omega
  have e3 : (absI (b - a) / st).toInt = (absI (b - a)).toInt / st.toInt := by rw [dv_toInt _ _ (by omega), Int.tdiv_eq_ediv_of_nonneg h0]
  have d1 : 0 ≤ (absI (b - a)).toInt / st.toInt := Int.ediv_nonneg h0 (by omega)
  have d2 : (absI (b - a)).toInt / st.toInt ≤ 6000 := Int.le_trans (Int.ediv_le_self _ h0) h6
  have hr : inR (absI (b - a) / st) 0 6000 = true := by rw [inR_iff, e3, i0, show (6000 : Int32).toInt = 6000 from rfl]; omega
  obtain ⟨l1, l2, l3⟩ := inR_ix (n := 6000) rfl hr
  have l3 : (absI (b - a)).toInt / st.toInt = (lastF a b st : Int) := by rw [← e3]; exact l3
  have hm : (k : Int) * st.toInt ≤ (absI (b - a)).toInt := by
    have m1 : (k : Int) * st.toInt ≤ (absI (b - a)).toInt / st.toInt * st.toInt := Int.mul_le_mul_of_nonneg_right (by omega) (by omega)
    have m2 : (absI (b - a)).toInt / st.toInt * st.toInt ≤ (absI (b - a)).toInt := Int.ediv_mul_le _ (by omega)
    omega
  have hm0 : 0 ≤ (k : Int) * st.toInt := Int.mul_nonneg (by omega) (by omega)
  have hkk : k ≤ 6000 := Nat.le_trans hk l1
  have ek : (nI k).toInt = k := nI_toInt (by omega)
  refine ⟨?_, l1, l2⟩
  by_cases c : b < a
  · rw [if_pos c]
    have c := Int32.lt_iff_toInt_lt.mp c
    have en : (-st).toInt = -st.toInt := fb_negI (by omega)
    have em : (nI k * -st).toInt = -((k : Int) * st.toInt) := by
      rw [fb_mulI (by rw [ek, en, Int.mul_neg]; omega) (by rw [ek, en, Int.mul_neg]; omega), ek, en, Int.mul_neg]
    rw [if_neg (by omega)] at e2
    rw [inR_iff, fb_addI (by rw [em]; omega) (by rw [em]; omega), em, show (-3000 : Int32).toInt = -3000 from rfl, show (3000 : Int32).toInt = 3000 from rfl]
    omega
  · rw [if_neg c]
    have c : ¬ b.toInt < a.toInt := fun q => c (Int32.lt_iff_toInt_lt.mpr q)
    have em : (nI k * st).toInt = (k : Int) * st.toInt := by
      rw [fb_mulI (by rw [ek]; omega) (by rw [ek]; omega), ek]
    rw [if_pos (by omega)] at e2
    rw [inR_iff, fb_addI (by rw [em]; omega) (by rw [em]; omega), em, show (-3000 : Int32).toInt = -3000 from rfl, show (3000 : Int32).toInt = 3000 from rfl]
    omega
theorem rc_nf {x : Int32} {f : Nat} (hx : inR x 0 60 = true) (h : ix x + (f + 1) ≤ 60) : ¬ x = 60 ∧ ix (x + 1) + f ≤ 60 := by
  obtain ⟨h1, h2, h3⟩ := inR_ix (n := 60) rfl hx
  have hn : ¬ x = 60 := fun q => by rw [q] at h; have : ix (60 : Int32) = 60 := rfl; omega
  refine ⟨hn, ?_⟩
  rw [h2, nI_1, ix_nI (by omega)]; omega
theorem inv_swR {p : Nat} (hp : p < 4) (hand : Int32) {a b st w : Int32} (ha : inR a (-3000) 3000 = true) (hb : inR b (-3000) 3000 = true) (hs : inR st 1 1000 = true) (hw : inR w 1 50 = true) (k all : Nat) : ∀ (f i : Nat) {z : zS}, qInv z → ix (z 0 3) + f ≤ 60 → qInv (swR (10 + p) hand a (if b < a then -st else st) w k (lastF a b st) all f i z).2
  | 0, _, _, hI, _ => hI
  | f + 1, i, z, hI, hf => by
    have hv := (sw_v ha hb hs (k := if i ≤ lastF a b st then i else 2 * lastF a b st - i) (by split <;> omega)).1
    have hn := rc_nf hI.2.2.2.1 hf
    have hq := inv_pulS hI hp hv hw hn.1
    have hl := pulS_low (z := z) (i := p) (a + nI (if i ≤ lastF a b st then i else 2 * lastF a b st - i) * (if b < a then -st else st)) w
    unfold swR
    by_cases c : 0 < (pulS z (10 + p) (a + nI (if i ≤ lastF a b st then i else 2 * lastF a b st - i) * (if b < a then -st else st)) w).1
    · rw [if_pos c]; dsimp only; exact inv_tell (inv_put hq _ _) _ _
    · rw [if_neg c]
      have hc := inv_coolA hq k
      exact inv_swR hp hand ha hb hs hw k all f (i + 1) hc.1 (by rw [hc.2.2 0 (by omega), hl.2.1]; exact hn.2)
theorem isSw_i {a b st w n back : Int32} (h : isSw a b st w n back = true) : inR a (-3000) 3000 = true ∧ inR b (-3000) 3000 = true ∧ inR st 1 1000 = true ∧ inR w 1 50 = true ∧ inR back 0 1 = true ∧ inR n 0 100 = true := by
  unfold isSw at h
  rw [Bool.and_eq_true, Bool.and_eq_true, Bool.and_eq_true, Bool.and_eq_true, Bool.and_eq_true] at h
  exact ⟨h.1.1, h.1.2, h.2.1, h.2.2.1, h.2.2.2.1, h.2.2.2.2⟩
theorem all_le {a b st back : Int32} (h : lastF a b st ≤ 6000) : allF a b st back ≤ 12001 ∧ 1 ≤ allF a b st back := by
  unfold allF; split <;> omega
theorem room_le {x : Int32} {n : Nat} (hx : inR x 0 60 = true) (hn : n ≤ 12001) (h : ¬ 60 < x + nI n) : ix x + n ≤ 60 := by
  obtain ⟨h1, h2, h3⟩ := inR_ix (n := 60) rfl hx
  have e : (x + nI n).toInt = (ix x : Int) + n := by rw [h2, nI_add, nI_toInt (by omega), ix_nI (by omega)]; omega
  have h : ¬ (60 : Int32).toInt < (x + nI n).toInt := fun q => h (Int32.lt_iff_toInt_lt.mpr q)
  rw [e, show (60 : Int32).toInt = 60 from rfl] at h
  omega
theorem inv_sweep {z : zS} (hI : qInv z) (a b st w n back : Int32) : qInv (s_sweep z a b st w n back).2 := by
  unfold s_sweep
  by_cases h : isSw a b st w n back = true
  · rw [if_pos h]
    by_cases h0 : z 0 0 = 0
    · rw [if_pos h0]; exact hI
    · rw [if_neg h0]
      by_cases h1 : 60 < z 0 3 + nI (allF a b st back)
      · rw [if_pos h1]; exact hI
      · rw [if_neg h1]
        obtain ⟨ha, hb, hs, hw, -, -⟩ := isSw_i h
        have hh := inH_lt (hI.2.2.2.2.2.2.2 h0)
        have hl := (sw_v ha hb hs (Nat.zero_le _)).2.1
        refine inv_swR hh.2.1 _ ha hb hs hw _ _ _ _ (inv_cc0 hI) ?_
        rw [zu_col z 0 4 0 3 0 (by omega)]
        exact room_le hI.2.2.2.1 (all_le hl).1 h1
  · rw [if_neg h]; exact hI
