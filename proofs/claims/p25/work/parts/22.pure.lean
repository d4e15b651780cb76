/-! AMPS NEVER FALL as volts rise: so what is found by halving is what a walk finds. -/
theorem mulB {a b A B : Int} (h1 : -A ≤ a) (h2 : a ≤ A) (h3 : 0 ≤ b) (h4 : b ≤ B) (hA : 0 ≤ A) : -(A * B) ≤ a * b ∧ a * b ≤ A * B := by
  have e1 : a * b ≤ A * b := Int.mul_le_mul_of_nonneg_right h2 h3
  have e2 : A * b ≤ A * B := Int.mul_le_mul_of_nonneg_left h4 hA
  have e3 : -A * b ≤ a * b := Int.mul_le_mul_of_nonneg_right h1 h3
  have e4 : -A * b = -(A * b) := Int.neg_mul A b
  omega
theorem i0 : (0 : Int32).toInt = 0 := rfl
theorem inR_b {v a b : Int32} (h : inR v a b = true) {x y : Int} (hx : a.toInt = x) (hy : b.toInt = y) : x ≤ v.toInt ∧ v.toInt ≤ y := by
  have := inR_iff.mp h
  omega
def coldZ (kind opn g k h v : Int) : Int :=
  if kind = 0 then v * g / 1000
  else if kind = 3 then (if opn = 0 then v * h / 1000 else v * g / 1000)
  else (v * h / 1000 + (if k < v then (v - k) * g / 1000 else 0)) + (if kind = 2 ∧ v < -k then (v + k) * g / 1000 else 0)
theorem fdv1000 (x : Int32) : (fdv x 1000).toInt = x.toInt / 1000 := fdv_toInt x 1000 (by decide)
theorem mulv {v g : Int32} {V G : Int} (h1 : -V ≤ v.toInt) (h2 : v.toInt ≤ V) (h3 : 0 ≤ g.toInt) (h4 : g.toInt ≤ G) (hV : 0 ≤ V) (hb : V * G < 2147483648) : (v * g).toInt = v.toInt * g.toInt ∧ -(V * G) ≤ v.toInt * g.toInt ∧ v.toInt * g.toInt ≤ V * G := by
  have h := mulB h1 h2 h3 h4 hV
  exact ⟨fb_mulI (by omega) (by omega), h.1, h.2⟩
theorem coldF_Z {f : Nat → Int32} (hf : partInv f) {v : Int32} (h1 : -3000 ≤ v.toInt) (h2 : v.toInt ≤ 3000) : (coldF f v).toInt = coldZ (f 5).toInt (f 2).toInt (f 7).toInt (f 8).toInt (f 9).toInt v.toInt := by
  obtain ⟨-, -, h2o, -, -, hk, -, hg, hkk, hh, -, -⟩ := hf
  have hk := inR_b hk (x := 0) (y := 3) rfl rfl
  have hg := inR_b hg (x := 0) (y := 5000) rfl rfl
  have hkk := inR_b hkk (x := 0) (y := 2000) rfl rfl
  have hh := inR_b hh (x := 0) (y := 2000) rfl rfl
  have mg := mulv h1 h2 hg.1 hg.2 (by decide) (by decide)
  have mh := mulv h1 h2 hh.1 hh.2 (by decide) (by decide)
  have e0 : (f 5 = 0) ↔ (f 5).toInt = 0 := by rw [← Int32.toInt_inj]; rfl
  have e3 : (f 5 = 3) ↔ (f 5).toInt = 3 := by rw [← Int32.toInt_inj]; rfl
  have e2 : (f 5 = 2) ↔ (f 5).toInt = 2 := by rw [← Int32.toInt_inj]; rfl
  have eo : (f 2 = 0) ↔ (f 2).toInt = 0 := by rw [← Int32.toInt_inj]; rfl
  unfold coldF coldZ
  by_cases c0 : f 5 = 0
  · rw [if_pos c0, if_pos (e0.mp c0), fdv1000, mg.1]
  · rw [if_neg c0, if_neg (fun q => c0 (e0.mpr q))]
    by_cases c3 : f 5 = 3
    · rw [if_pos c3, if_pos (e3.mp c3)]
      by_cases co : f 2 = 0
      · rw [if_pos co, if_pos (eo.mp co), fdv1000, mh.1]
      · rw [if_neg co, if_neg (fun q => co (eo.mpr q)), fdv1000, mg.1]
    · rw [if_neg c3, if_neg (fun q => c3 (e3.mpr q))]
      have ea : (fdv (v * f 9) 1000).toInt = v.toInt * (f 9).toInt / 1000 := by rw [fdv1000, mh.1]
      have eb : (if f 8 < v then fdv ((v - f 8) * f 7) 1000 else 0).toInt = (if (f 8).toInt < v.toInt then (v.toInt - (f 8).toInt) * (f 7).toInt / 1000 else 0) ∧ 0 ≤ (if (f 8).toInt < v.toInt then (v.toInt - (f 8).toInt) * (f 7).toInt / 1000 else 0) ∧ (if (f 8).toInt < v.toInt then (v.toInt - (f 8).toInt) * (f 7).toInt / 1000 else 0) ≤ 15000 := by
        by_cases c : f 8 < v
        · have c' := Int32.lt_iff_toInt_lt.mp c
          rw [if_pos c, if_pos c']
          have es : (v - f 8).toInt = v.toInt - (f 8).toInt := fb_subI (by omega) (by omega)
          have ms := mulv (v := v - f 8) (g := f 7) (V := 3000) (G := 5000) (by rw [es]; omega) (by rw [es]; omega) hg.1 hg.2 (by decide) (by decide)
          rw [es] at ms
          have mn : 0 ≤ (v.toInt - (f 8).toInt) * (f 7).toInt := Int.mul_nonneg (by omega) hg.1
          refine ⟨by rw [fdv1000, ms.1], by omega, by omega⟩
        · have c' : ¬ (f 8).toInt < v.toInt := fun q => c (Int32.lt_iff_toInt_lt.mpr q)
          rw [if_neg c, if_neg c']
          exact ⟨rfl, by omega, by omega⟩
      have ec : (if f 5 = 2 ∧ v < -(f 8) then fdv ((v + f 8) * f 7) 1000 else 0).toInt = (if (f 5).toInt = 2 ∧ v.toInt < -(f 8).toInt then (v.toInt + (f 8).toInt) * (f 7).toInt / 1000 else 0) ∧ -15000 ≤ (if (f 5).toInt = 2 ∧ v.toInt < -(f 8).toInt then (v.toInt + (f 8).toInt) * (f 7).toInt / 1000 else 0) ∧ (if (f 5).toInt = 2 ∧ v.toInt < -(f 8).toInt then (v.toInt + (f 8).toInt) * (f 7).toInt / 1000 else 0) ≤ 0 := by
        have en : (-(f 8)).toInt = -(f 8).toInt := fb_negI (by omega)
        have el : (v < -(f 8)) ↔ v.toInt < -(f 8).toInt := by rw [Int32.lt_iff_toInt_lt, en]
        by_cases c : f 5 = 2 ∧ v < -(f 8)
        · have c' : (f 5).toInt = 2 ∧ v.toInt < -(f 8).toInt := ⟨e2.mp c.1, el.mp c.2⟩
          rw [if_pos c, if_pos c']
          have es : (v + f 8).toInt = v.toInt + (f 8).toInt := fb_addI (by omega) (by omega)
          have ms := mulv (v := v + f 8) (g := f 7) (V := 3000) (G := 5000) (by rw [es]; omega) (by rw [es]; omega) hg.1 hg.2 (by decide) (by decide)
          rw [es] at ms
          have mn : (v.toInt + (f 8).toInt) * (f 7).toInt ≤ 0 := Int.mul_nonpos_of_nonpos_of_nonneg (by omega) hg.1
          refine ⟨by rw [fdv1000, ms.1], by omega, by omega⟩
        · have c' : ¬ ((f 5).toInt = 2 ∧ v.toInt < -(f 8).toInt) := fun q => c ⟨e2.mpr q.1, el.mpr q.2⟩
          rw [if_neg c, if_neg c']
          exact ⟨rfl, by omega, by omega⟩
      have s1 : (fdv (v * f 9) 1000 + (if f 8 < v then fdv ((v - f 8) * f 7) 1000 else 0)).toInt = v.toInt * (f 9).toInt / 1000 + (if (f 8).toInt < v.toInt then (v.toInt - (f 8).toInt) * (f 7).toInt / 1000 else 0) := by
        rw [fb_addI (by rw [ea, eb.1]; omega) (by rw [ea, eb.1]; omega), ea, eb.1]
      rw [fb_addI (by rw [s1, ec.1]; omega) (by rw [s1, ec.1]; omega), s1, ec.1]
theorem dmono {a b : Int} (h : a ≤ b) : a / 1000 ≤ b / 1000 := by omega
theorem coldZ_mono {kind opn g k h v w : Int} (hg : 0 ≤ g) (hk : 0 ≤ k) (hh : 0 ≤ h) (hvw : v ≤ w) : coldZ kind opn g k h v ≤ coldZ kind opn g k h w := by
  have m1 : v * g ≤ w * g := Int.mul_le_mul_of_nonneg_right hvw hg
  have m2 : v * h ≤ w * h := Int.mul_le_mul_of_nonneg_right hvw hh
  unfold coldZ
  by_cases c0 : kind = 0
  · rw [if_pos c0, if_pos c0]; exact dmono m1
  · rw [if_neg c0, if_neg c0]
    by_cases c3 : kind = 3
    · rw [if_pos c3, if_pos c3]
      by_cases co : opn = 0
      · rw [if_pos co, if_pos co]; exact dmono m2
      · rw [if_neg co, if_neg co]; exact dmono m1
    · rw [if_neg c3, if_neg c3]
      have a1 : (if k < v then (v - k) * g / 1000 else 0) ≤ (if k < w then (w - k) * g / 1000 else 0) := by
        by_cases c : k < v
        · rw [if_pos c, if_pos (by omega)]
          exact dmono (Int.mul_le_mul_of_nonneg_right (by omega) hg)
        · rw [if_neg c]
          by_cases c2 : k < w
          · rw [if_pos c2]
            have : 0 ≤ (w - k) * g := Int.mul_nonneg (by omega) hg
            omega
          · rw [if_neg c2]; omega
      have a2 : (if kind = 2 ∧ v < -k then (v + k) * g / 1000 else 0) ≤ (if kind = 2 ∧ w < -k then (w + k) * g / 1000 else 0) := by
        by_cases c : kind = 2 ∧ w < -k
        · rw [if_pos c, if_pos ⟨c.1, by omega⟩]
          exact dmono (Int.mul_le_mul_of_nonneg_right (by omega) hg)
        · rw [if_neg c]
          by_cases c2 : kind = 2 ∧ v < -k
          · rw [if_pos c2]
            have : (v + k) * g ≤ 0 := Int.mul_nonpos_of_nonpos_of_nonneg (by omega) hg
            omega
          · rw [if_neg c2]; omega
      have a3 := dmono m2
      omega
theorem coldZ_0 {kind opn g k h : Int} (hk : 0 ≤ k) : coldZ kind opn g k h 0 = 0 := by
  unfold coldZ
  have h1 : ¬ k < 0 := by omega
  have h2 : ¬ (kind = 2 ∧ 0 < -k) := by omega
  simp [h1, h2]
theorem coldZ_b {kind opn g k h v : Int} (hg : 0 ≤ g) (hg2 : g ≤ 5000) (hk : 0 ≤ k) (hh : 0 ≤ h) (hh2 : h ≤ 2000) (h1 : -3000 ≤ v) (h2 : v ≤ 3000) : -21000 ≤ coldZ kind opn g k h v ∧ coldZ kind opn g k h v ≤ 21000 := by
  have m1 := mulB h1 h2 hg hg2 (by decide)
  have m2 := mulB h1 h2 hh hh2 (by decide)
  unfold coldZ
  by_cases c0 : kind = 0
  · rw [if_pos c0]; omega
  · rw [if_neg c0]
    by_cases c3 : kind = 3
    · rw [if_pos c3]
      by_cases co : opn = 0
      · rw [if_pos co]; omega
      · rw [if_neg co]; omega
    · rw [if_neg c3]
      have a1 : 0 ≤ (if k < v then (v - k) * g / 1000 else 0) ∧ (if k < v then (v - k) * g / 1000 else 0) ≤ 15000 := by
        by_cases c : k < v
        · rw [if_pos c]
          have := mulB (a := v - k) (b := g) (A := 3000) (B := 5000) (by omega) (by omega) hg hg2 (by decide)
          have : 0 ≤ (v - k) * g := Int.mul_nonneg (by omega) hg
          omega
        · rw [if_neg c]; omega
      have a2 : -15000 ≤ (if kind = 2 ∧ v < -k then (v + k) * g / 1000 else 0) ∧ (if kind = 2 ∧ v < -k then (v + k) * g / 1000 else 0) ≤ 0 := by
        by_cases c : kind = 2 ∧ v < -k
        · rw [if_pos c]
          have := mulB (a := v + k) (b := g) (A := 3000) (B := 5000) (by omega) (by omega) hg hg2 (by decide)
          have : (v + k) * g ≤ 0 := Int.mul_nonpos_of_nonpos_of_nonneg (by omega) hg
          omega
        · rw [if_neg c]; omega
      omega
/-- own amps in whole numbers -/
def ownZ (f : Nat → Int32) (v : Int) : Int := if (f 1).toInt = 0 then 1000 * coldZ (f 5).toInt (f 2).toInt (f 7).toInt (f 8).toInt (f 9).toInt v / (1000 + (f 11).toInt * (f 6).toInt) else 0
theorem byZ {f : Nat → Int32} (hf : partInv f) : (1000 + f 11 * f 6).toInt = 1000 + (f 11).toInt * (f 6).toInt ∧ 0 ≤ (f 11).toInt * (f 6).toInt ∧ (f 11).toInt * (f 6).toInt ≤ 5000 := by
  obtain ⟨-, -, -, -, -, -, h6, -, -, -, -, h11⟩ := hf
  have h6 := inR_b h6 (x := 0) (y := 1000) rfl rfl
  have h11 := inR_b h11 (x := 0) (y := 5) rfl rfl
  have m := mulv (v := f 11) (g := f 6) (V := 5) (G := 1000) (by omega) h11.2 h6.1 h6.2 (by decide) (by decide)
  have n : 0 ≤ (f 11).toInt * (f 6).toInt := Int.mul_nonneg h11.1 h6.1
  have e : (1000 : Int32).toInt = 1000 := rfl
  exact ⟨by rw [fb_addI (by rw [e, m.1]; omega) (by rw [e, m.1]; omega), e, m.1], n, by omega⟩
theorem ownF_Z {f : Nat → Int32} (hf : partInv f) {v : Int32} (h1 : -3000 ≤ v.toInt) (h2 : v.toInt ≤ 3000) : (ownF f v).toInt = ownZ f v.toInt := by
  have hb := byZ hf
  have hc := coldF_Z hf h1 h2
  have hf0 := hf
  obtain ⟨-, -, h2o, -, -, hk, -, hg, hkk, hh, -, -⟩ := hf
  have hg := inR_b hg (x := 0) (y := 5000) rfl rfl
  have hkk := inR_b hkk (x := 0) (y := 2000) rfl rfl
  have hh := inR_b hh (x := 0) (y := 2000) rfl rfl
  have hcb := coldZ_b (kind := (f 5).toInt) (opn := (f 2).toInt) hg.1 hg.2 hkk.1 hh.1 hh.2 h1 h2
  have e1 : (f 1 = 0) ↔ (f 1).toInt = 0 := by rw [← Int32.toInt_inj]; rfl
  have eth : (1000 : Int32).toInt = 1000 := rfl
  have eone : (1 : Int32).toInt = 1 := rfl
  unfold ownF ownZ
  by_cases c : f 1 = 0
  · rw [if_pos c, if_pos (e1.mp c), if_pos (by rw [Int32.le_iff_toInt_le, eone, hb.1]; omega)]
    have em : (1000 * coldF f v).toInt = 1000 * coldZ (f 5).toInt (f 2).toInt (f 7).toInt (f 8).toInt (f 9).toInt v.toInt := by
      rw [fb_mulI (by rw [eth, hc]; omega) (by rw [eth, hc]; omega), eth, hc]
    rw [fdv_toInt _ _ (by rw [hb.1]; omega), em, hb.1]
  · rw [if_neg c, if_neg (fun q => c (e1.mpr q))]; rfl
theorem ownZ_mono {f : Nat → Int32} (hf : partInv f) {v w : Int} (h : v ≤ w) : ownZ f v ≤ ownZ f w := by
  have hb := byZ hf
  obtain ⟨-, -, -, -, -, -, -, hg, hkk, hh, -, -⟩ := hf
  have hg := inR_b hg (x := 0) (y := 5000) rfl rfl
  have hkk := inR_b hkk (x := 0) (y := 2000) rfl rfl
  have hh := inR_b hh (x := 0) (y := 2000) rfl rfl
  have hm := coldZ_mono (kind := (f 5).toInt) (opn := (f 2).toInt) hg.1 hkk.1 hh.1 h
  unfold ownZ
  by_cases c : (f 1).toInt = 0
  · rw [if_pos c, if_pos c]
    exact Int.ediv_le_ediv (by omega) (by omega)
  · rw [if_neg c, if_neg c]; omega
theorem ownZ_0 {f : Nat → Int32} (hf : partInv f) : ownZ f 0 = 0 := by
  obtain ⟨-, -, -, -, -, -, -, hg, hkk, hh, -, -⟩ := hf
  have hkk := inR_b hkk (x := 0) (y := 2000) rfl rfl
  unfold ownZ
  rw [coldZ_0 hkk.1]
  simp
theorem div_big {c d : Int} (hd : 1000 ≤ d) (h1 : -21000 ≤ c) (h2 : c ≤ 21000) : -21000 ≤ 1000 * c / d ∧ 1000 * c / d ≤ 21000 := by
  have p : 0 < d := by omega
  refine ⟨?_, ?_⟩
  · rw [Int.le_ediv_iff_mul_le p]
    have : -21000 * d ≤ -21000 * 1000 := Int.mul_le_mul_of_nonpos_left (by omega) hd
    omega
  · have : 1000 * c / d < 21001 := by
      rw [Int.ediv_lt_iff_lt_mul p]
      have : 21001 * 1000 ≤ 21001 * d := Int.mul_le_mul_of_nonneg_left hd (by omega)
      omega
    omega
theorem ownZ_b {f : Nat → Int32} (hf : partInv f) {v : Int} (h1 : -3000 ≤ v) (h2 : v ≤ 3000) : -21000 ≤ ownZ f v ∧ ownZ f v ≤ 21000 := by
  have hb := byZ hf
  obtain ⟨-, -, -, -, -, -, -, hg, hkk, hh, -, -⟩ := hf
  have hg := inR_b hg (x := 0) (y := 5000) rfl rfl
  have hkk := inR_b hkk (x := 0) (y := 2000) rfl rfl
  have hh := inR_b hh (x := 0) (y := 2000) rfl rfl
  have hcb := coldZ_b (kind := (f 5).toInt) (opn := (f 2).toInt) hg.1 hg.2 hkk.1 hh.1 hh.2 h1 h2
  unfold ownZ
  by_cases c : (f 1).toInt = 0
  · rw [if_pos c]; exact div_big (by omega) hcb.1 hcb.2
  · rw [if_neg c]; omega
/-- amps at u, in whole numbers: forward or not -/
def ampZ (fw : Prop) [Decidable fw] (f : Nat → Int32) (u : Int) : Int := if fw then ownZ f u else -(ownZ f (-u))
theorem ampF_Z {z : zS} {p : Nat} (hf : partInv (z p)) {u : Int32} (h1 : -3000 ≤ u.toInt) (h2 : u.toInt ≤ 3000) : (ampF z p u).toInt = ampZ (sh (z p 3) = z 1 0) (z p) u.toInt ∧ -21000 ≤ (ampF z p u).toInt ∧ (ampF z p u).toInt ≤ 21000 := by
  unfold ampF ownd ampZ
  by_cases c : sh (z p 3) = z 1 0
  · rw [if_pos c, if_pos c, if_pos c, ownF_Z hf h1 h2]
    exact ⟨rfl, ownZ_b hf h1 h2⟩
  · have en : (-u).toInt = -u.toInt := fb_negI (by omega)
    have ho := ownF_Z hf (v := -u) (by omega) (by omega)
    have hb := ownZ_b hf (v := (-u).toInt) (by omega) (by omega)
    rw [if_neg c, if_neg c, if_neg c, fb_negI (by rw [ho]; omega), ho, en]
    rw [en] at hb
    exact ⟨rfl, by omega, by omega⟩
theorem ampZ_mono {fw : Prop} [Decidable fw] {f : Nat → Int32} (hf : partInv f) {v w : Int} (h : v ≤ w) : ampZ fw f v ≤ ampZ fw f w := by
  unfold ampZ
  by_cases c : fw
  · rw [if_pos c, if_pos c]; exact ownZ_mono hf h
  · rw [if_neg c, if_neg c]
    have := ownZ_mono hf (v := -w) (w := -v) (by omega)
    omega
theorem ampZ_0 {fw : Prop} [Decidable fw] {f : Nat → Int32} (hf : partInv f) : ampZ fw f 0 = 0 := by
  unfold ampZ
  have := ownZ_0 hf
  by_cases c : fw
  · rw [if_pos c]; exact this
  · rw [if_neg c]; simp [this]
theorem absI_Z {x : Int32} (h : x.toInt ≠ -2147483648) : (absI x).toInt = if 0 ≤ x.toInt then x.toInt else -x.toInt := by
  unfold absI
  by_cases c : 0 ≤ x
  · rw [if_pos c, if_pos ((fb_nn x).mp c)]
  · rw [if_neg c, if_neg (fun q => c ((fb_nn x).mpr q)), fb_subI (by rw [i0]; have := fb_rng x; omega) (by rw [i0]; have := fb_rng x; omega), i0]; omega
theorem dropF_Z {z : zS} (hl : inR (z 0 2) 0 200 = true) {a : Int32} (h1 : -21000 ≤ a.toInt) (h2 : a.toInt ≤ 21000) : (dropF z a).toInt = a.toInt * (z 0 2).toInt / 1000 ∧ -4200 ≤ (dropF z a).toInt ∧ (dropF z a).toInt ≤ 4200 := by
  have hl := inR_b hl (x := 0) (y := 200) rfl rfl
  have m := mulv h1 h2 hl.1 hl.2 (by decide) (by decide)
  unfold dropF
  rw [fdv1000, m.1]
  exact ⟨rfl, by omega, by omega⟩
theorem sgn_k {v : Int32} {k : Nat} (hk : k ≤ 3000) : (sgn v * nI k).toInt = if v < 0 then -(k : Int) else (k : Int) := by
  have e1 : (nI k).toInt = k := nI_toInt (by omega)
  have en : (-1 : Int32).toInt = -1 := rfl
  have eo : (1 : Int32).toInt = 1 := rfl
  unfold sgn
  by_cases c : v < 0
  · rw [if_pos c, if_pos c, fb_mulI (by rw [e1, en]; omega) (by rw [e1, en]; omega), e1, en]; omega
  · rw [if_neg c, if_neg c, fb_mulI (by rw [e1, eo]; omega) (by rw [e1, eo]; omega), e1, eo]; omega
theorem awB_iff {z : zS} {p : Nat} {u v : Int32} : awB z p u v = true ↔ (absI (ampF z p u)).toInt ≤ (z 0 1).toInt ∧ (fourB z = true ∨ (absI (u + dropF z (ampF z p u))).toInt ≤ (absI v).toInt) := by
  unfold awB alB
  rw [Bool.and_eq_true, Bool.or_eq_true, Bool.not_eq_true', decide_eq_false_iff_not, decide_eq_true_eq, Int32.lt_iff_toInt_lt, Int32.le_iff_toInt_le]
  constructor
  · intro h; exact ⟨by omega, h.2⟩
  · intro h; exact ⟨by omega, h.2⟩
theorem mulmono {a b l : Int} (h : a ≤ b) (hl : 0 ≤ l) : a * l / 1000 ≤ b * l / 1000 := dmono (Int.mul_le_mul_of_nonneg_right h hl)
/-- what may be so at k + 1 may be so at k -/
theorem aw_down {z : zS} (hI : qInv z) {n : Nat} (hn : n < 4) {v : Int32} {k : Nat} (hk : k + 1 ≤ 3000) (h : awB z (10 + n) (sgn v * nI (k + 1)) v = true) : awB z (10 + n) (sgn v * nI k) v = true := by
  have hf := hI.2.2.2.2.2.2.1 n hn
  have hl := hI.2.2.1
  have hlb := inR_b hl (x := 0) (y := 200) rfl rfl
  rw [awB_iff] at h ⊢
  have s1 := sgn_k (v := v) (k := k) (by omega)
  have s2 := sgn_k (v := v) (k := k + 1) hk
  have b1 : -3000 ≤ (sgn v * nI k).toInt ∧ (sgn v * nI k).toInt ≤ 3000 := by rw [s1]; split <;> omega
  have b2 : -3000 ≤ (sgn v * nI (k + 1)).toInt ∧ (sgn v * nI (k + 1)).toInt ≤ 3000 := by rw [s2]; split <;> omega
  obtain ⟨a1, a2, a3⟩ := ampF_Z hf b1.1 b1.2
  obtain ⟨c1, c2, c3⟩ := ampF_Z hf b2.1 b2.2
  obtain ⟨d1, d2, d3⟩ := dropF_Z hl a2 a3
  obtain ⟨e1, e2, e3⟩ := dropF_Z hl c2 c3
  have u1 : (sgn v * nI k + dropF z (ampF z (10 + n) (sgn v * nI k))).toInt = (sgn v * nI k).toInt + (dropF z (ampF z (10 + n) (sgn v * nI k))).toInt := fb_addI (by omega) (by omega)
  have u2 : (sgn v * nI (k + 1) + dropF z (ampF z (10 + n) (sgn v * nI (k + 1)))).toInt = (sgn v * nI (k + 1)).toInt + (dropF z (ampF z (10 + n) (sgn v * nI (k + 1)))).toInt := fb_addI (by omega) (by omega)
  rw [absI_Z (by omega), absI_Z (by rw [u2]; omega)] at h
  rw [absI_Z (by omega), absI_Z (by rw [u1]; omega)]
  rw [u2] at h
  rw [u1]
  have z0 := ampZ_0 (fw := sh (z (10 + n) 3) = z 1 0) hf
  by_cases cv : v < 0
  · rw [if_pos cv] at s1 s2
    have m1 : (ampF z (10 + n) (sgn v * nI (k + 1))).toInt ≤ (ampF z (10 + n) (sgn v * nI k)).toInt := by
      rw [a1, c1]; exact ampZ_mono hf (by rw [s1, s2]; omega)
    have m2 : (ampF z (10 + n) (sgn v * nI k)).toInt ≤ 0 := by
      rw [a1, ← z0]; exact ampZ_mono hf (by rw [s1]; omega)
    have m3 : (dropF z (ampF z (10 + n) (sgn v * nI (k + 1)))).toInt ≤ (dropF z (ampF z (10 + n) (sgn v * nI k))).toInt := by
      rw [d1, e1]; exact mulmono m1 hlb.1
    have m4 : (dropF z (ampF z (10 + n) (sgn v * nI k))).toInt ≤ 0 := by
      rw [d1]
      have := Int.mul_nonpos_of_nonpos_of_nonneg m2 hlb.1
      omega
    refine ⟨?_, ?_⟩
    · have h1 := h.1
      split at h1 <;> split <;> omega
    · rcases h.2 with q | q
      · exact Or.inl q
      · right
        split at q <;> split <;> omega
  · rw [if_neg cv] at s1 s2
    have m1 : (ampF z (10 + n) (sgn v * nI k)).toInt ≤ (ampF z (10 + n) (sgn v * nI (k + 1))).toInt := by
      rw [a1, c1]; exact ampZ_mono hf (by rw [s1, s2]; omega)
    have m2 : 0 ≤ (ampF z (10 + n) (sgn v * nI k)).toInt := by
      rw [a1, ← z0]; exact ampZ_mono hf (by rw [s1]; omega)
    have m3 : (dropF z (ampF z (10 + n) (sgn v * nI k))).toInt ≤ (dropF z (ampF z (10 + n) (sgn v * nI (k + 1)))).toInt := by
      rw [d1, e1]; exact mulmono m1 hlb.1
    have m4 : 0 ≤ (dropF z (ampF z (10 + n) (sgn v * nI k))).toInt := by
      rw [d1]
      have := Int.mul_nonneg m2 hlb.1
      omega
    refine ⟨?_, ?_⟩
    · have h1 := h.1
      split at h1 <;> split <;> omega
    · rcases h.2 with q | q
      · exact Or.inl q
      · right
        split at q <;> split <;> omega
theorem srch_le : ∀ (K : Nat) (P : Nat → Bool), srch P K ≤ K
  | 0, _ => Nat.le_refl 0
  | K + 1, P => by
    unfold srch
    have := srch_le K (fun k => P (k + 1))
    split <;> omega
theorem srch_yes : ∀ (K : Nat) (P : Nat → Bool) (j : Nat), 1 ≤ j → j ≤ srch P K → P j = true
  | 0, _, j, h1, h2 => by unfold srch at h2; omega
  | K + 1, P, j, h1, h2 => by
    unfold srch at h2
    split at h2
    · rename_i c
      by_cases h : j = 1
      · rw [h]; exact c
      · have := srch_yes K (fun k => P (k + 1)) (j - 1) (by omega) (by omega)
        have e : j - 1 + 1 = j := by omega
        simpa [e] using this
    · omega
theorem srch_no : ∀ (K : Nat) (P : Nat → Bool), srch P K < K → P (srch P K + 1) = false
  | 0, _, h => absurd h (Nat.not_lt_zero _)
  | K + 1, P, h => by
    unfold srch at h ⊢
    by_cases c : P 1 = true
    · rw [if_pos c] at h ⊢
      have := srch_no K (fun k => P (k + 1)) (by omega)
      have e : 1 + srch (fun k => P (k + 1)) K + 1 = srch (fun k => P (k + 1)) K + 1 + 1 := by omega
      rw [e]; exact this
    · rw [if_neg c]; simpa using c
theorem srch_eq {P : Nat → Bool} {K a : Nat} (hm : ∀ k, k + 1 ≤ K → P (k + 1) = true → 1 ≤ k → P k = true) (ha : a ≤ K) (h1 : a = 0 ∨ P a = true) (h2 : a = K ∨ P (a + 1) = false) : srch P K = a := by
  have down : ∀ (d j : Nat), j + d ≤ K → 1 ≤ j → P (j + d) = true → P j = true := by
    intro d
    induction d with
    | zero => intro j _ _ h; exact h
    | succ d ih => intro j h1 h2 h3; exact ih j (by omega) h2 (hm (j + d) (by omega) h3 (by omega))
  have hle := srch_le K P
  rcases Nat.lt_or_ge (srch P K) a with q | q
  · have hn := srch_no K P (by omega)
    rcases h1 with h1 | h1
    · omega
    · have := down (a - (srch P K + 1)) (srch P K + 1) (by omega) (by omega) (by rw [show srch P K + 1 + (a - (srch P K + 1)) = a by omega]; exact h1)
      rw [hn] at this; cases this
  · rcases Nat.lt_or_ge a (srch P K) with q2 | q2
    · rcases h2 with h2 | h2
      · omega
      · have := srch_yes K P (a + 1) (by omega) (by omega)
        rw [h2] at this; cases this
    · omega
