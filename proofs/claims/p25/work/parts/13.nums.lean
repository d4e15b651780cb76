theorem fb_rng (x : Int32) : -2147483648 ≤ x.toInt ∧ x.toInt < 2147483648 := by
  have h1 := Int32.le_toInt x
  have h2 := Int32.toInt_lt x
  omega
theorem fb_bmod {z : Int} (h1 : -2147483648 ≤ z) (h2 : z < 2147483648) : z.bmod (2 ^ 32) = z := by
  rw [Int.bmod_eq_of_le (by omega) (by omega)]
theorem fb_addI {x y : Int32} (h1 : -2147483648 ≤ x.toInt + y.toInt) (h2 : x.toInt + y.toInt < 2147483648) : (x + y).toInt = x.toInt + y.toInt := by
  rw [Int32.toInt_add, fb_bmod h1 h2]
theorem fb_subI {x y : Int32} (h1 : -2147483648 ≤ x.toInt - y.toInt) (h2 : x.toInt - y.toInt < 2147483648) : (x - y).toInt = x.toInt - y.toInt := by
  rw [Int32.toInt_sub, fb_bmod h1 h2]
theorem fb_mulI {x y : Int32} (h1 : -2147483648 ≤ x.toInt * y.toInt) (h2 : x.toInt * y.toInt < 2147483648) : (x * y).toInt = x.toInt * y.toInt := by
  rw [Int32.toInt_mul, fb_bmod h1 h2]
theorem fb_negI {x : Int32} (h : x.toInt ≠ -2147483648) : (-x).toInt = -x.toInt := by
  have := fb_rng x
  rw [Int32.toInt_neg, fb_bmod (by omega) (by omega)]
theorem fb_ofI {z : Int} (h1 : -2147483648 ≤ z) (h2 : z < 2147483648) : (Int32.ofInt z).toInt = z := by
  rw [Int32.toInt_ofInt, fb_bmod h1 h2]
theorem fb_asI (x : Int32) : Int32.ofInt x.toInt = x := Int32.ofInt_toInt x
theorem fb_rngL (x : Int64) : -9223372036854775808 ≤ x.toInt ∧ x.toInt < 9223372036854775808 := by
  have h1 := Int64.le_toInt x
  have h2 := Int64.toInt_lt x
  omega
theorem fb_bmodL {z : Int} (h1 : -9223372036854775808 ≤ z) (h2 : z < 9223372036854775808) : z.bmod (2 ^ 64) = z := by
  rw [Int.bmod_eq_of_le (by omega) (by omega)]
theorem fb_addL {x y : Int64} (h1 : -9223372036854775808 ≤ x.toInt + y.toInt) (h2 : x.toInt + y.toInt < 9223372036854775808) : (x + y).toInt = x.toInt + y.toInt := by
  rw [Int64.toInt_add, fb_bmodL h1 h2]
theorem fb_subL {x y : Int64} (h1 : -9223372036854775808 ≤ x.toInt - y.toInt) (h2 : x.toInt - y.toInt < 9223372036854775808) : (x - y).toInt = x.toInt - y.toInt := by
  rw [Int64.toInt_sub, fb_bmodL h1 h2]
theorem fb_mulL {x y : Int64} (h1 : -9223372036854775808 ≤ x.toInt * y.toInt) (h2 : x.toInt * y.toInt < 9223372036854775808) : (x * y).toInt = x.toInt * y.toInt := by
  rw [Int64.toInt_mul, fb_bmodL h1 h2]
theorem fb_sgnI (x : Int32) : (x < 0) ↔ x.toInt < 0 := by rw [Int32.lt_iff_toInt_lt]; rfl
theorem fb_nn (x : Int32) : (0 ≤ x) ↔ 0 ≤ x.toInt := by rw [Int32.le_iff_toInt_le]; rfl
theorem fb_xor (x y : Int32) (hy : 0 ≤ y.toInt) : (0 ≤ x ^^^ y) ↔ 0 ≤ x.toInt := by
  rw [fb_nn]
  have h1 : (x ^^^ y).toInt = (x.toBitVec ^^^ y.toBitVec).toInt := rfl
  have h2 : y.toBitVec.msb = false := by
    have h3 : ¬ y.toBitVec.msb = true := fun q => by
      have h4 := (BitVec.msb_eq_toInt (x := y.toBitVec))
      rw [q] at h4
      have h5 : y.toBitVec.toInt < 0 := by simpa using h4.symm
      have h6 : y.toInt = y.toBitVec.toInt := rfl
      omega
    simpa using h3
  have h7 : (x.toBitVec ^^^ y.toBitVec).msb = x.toBitVec.msb := by rw [BitVec.msb_xor, h2]; simp
  have h8 := BitVec.msb_eq_toInt (x := x.toBitVec ^^^ y.toBitVec)
  have h9 := BitVec.msb_eq_toInt (x := x.toBitVec)
  have h10 : x.toInt = x.toBitVec.toInt := rfl
  rw [h7, h9] at h8
  rw [h1, h10]
  have h11 : (x.toBitVec.toInt < 0) ↔ ((x.toBitVec ^^^ y.toBitVec).toInt < 0) := by simpa using h8
  omega
theorem fdv_toInt (x y : Int32) (hy : 0 < y.toInt) : (fdv x y).toInt = x.toInt / y.toInt := by
  have hx := fb_rng x
  unfold fdv
  refine fb_ofI ?_ ?_
  · have h1 : (-2147483648 : Int) ≤ x.toInt := hx.1
    have h2 : (-2147483648) / y.toInt ≤ x.toInt / y.toInt := Int.ediv_le_ediv hy h1
    have h3 : (-2147483648 : Int) ≤ (-2147483648) / y.toInt := by
      rw [Int.le_ediv_iff_mul_le hy]
      have : (1 : Int) ≤ y.toInt := hy
      omega
    omega
  · have h1 : x.toInt / y.toInt ≤ 2147483647 / y.toInt := Int.ediv_le_ediv hy (by omega)
    have h2 : (2147483647 : Int) / y.toInt ≤ 2147483647 := Int.ediv_le_self _ (by omega)
    omega
theorem tdv_np {a b : Int} (h : a ≤ 0) (hb : 0 < b) : a.tdiv b ≤ 0 := by
  have h1 : (-a).tdiv b = -(a.tdiv b) := Int.neg_tdiv a b
  have h2 : 0 ≤ (-a).tdiv b := Int.tdiv_nonneg (by omega) (by omega)
  omega
theorem dv_toInt (x y : Int32) (hy : 0 < y.toInt) : (x / y).toInt = x.toInt.tdiv y.toInt := by
  have hx := fb_rng x
  rw [Int32.toInt_div]
  have h1 : (x.toInt.tdiv y.toInt).natAbs ≤ x.toInt.natAbs := by
    rw [Int.natAbs_tdiv]
    exact Nat.div_le_self _ _
  have h2 : -2147483648 ≤ x.toInt.tdiv y.toInt := by omega
  by_cases h3 : x.toInt.tdiv y.toInt < 2147483648
  · exact fb_bmod h2 h3
  · exfalso
    by_cases h4 : 0 ≤ x.toInt
    · omega
    · have h5 : x.toInt.tdiv y.toInt ≤ 0 := tdv_np (by omega) (by omega)
      omega
theorem fdv_pos (x y : Int32) (hy : 0 < y.toInt) (hx : 0 ≤ x ^^^ y) : x / y = fdv x y := by
  have h := (fb_xor x y (by omega)).mp hx
  refine Int32.toInt_inj.mp ?_
  rw [fdv_toInt x y hy, dv_toInt x y hy, Int.tdiv_eq_ediv_of_nonneg h]
theorem dvm_toInt (x y : Int32) (hy : 0 < y.toInt) : (x / y * y).toInt = x.toInt.tdiv y.toInt * y.toInt := by
  have hx := fb_rng x
  have h0 : (x.toInt.tdiv y.toInt * y.toInt).natAbs ≤ x.toInt.natAbs := by
    rw [Int.natAbs_mul, Int.natAbs_tdiv]
    exact Nat.div_mul_le_self _ _
  have e := dv_toInt x y hy
  have h1 : -2147483648 ≤ x.toInt.tdiv y.toInt * y.toInt := by omega
  have h2 : x.toInt.tdiv y.toInt * y.toInt < 2147483648 := by
    by_cases h4 : 0 ≤ x.toInt
    · omega
    · have h5 : x.toInt.tdiv y.toInt ≤ 0 := tdv_np (by omega) (by omega)
      have h6 : x.toInt.tdiv y.toInt * y.toInt ≤ 0 := Int.mul_nonpos_of_nonpos_of_nonneg h5 (by omega)
      omega
  rw [fb_mulI (by rw [e]; exact h1) (by rw [e]; exact h2), e]
theorem fdv_eq (x y : Int32) (hy : 0 < y.toInt) (h : x / y * y = x) : x / y = fdv x y := by
  have h1 := dvm_toInt x y hy
  rw [h] at h1
  refine Int32.toInt_inj.mp ?_
  rw [fdv_toInt x y hy, dv_toInt x y hy, Int.tdiv_eq_ediv]
  have h2 : y.toInt ∣ x.toInt := ⟨x.toInt.tdiv y.toInt, by rw [Int.mul_comm]; exact h1⟩
  simp [h2]
theorem fdv_neg (x y : Int32) (hy : 0 < y.toInt) (hx : ¬ 0 ≤ x ^^^ y) (h : ¬ x / y * y = x) : x / y - 1 = fdv x y := by
  have hn : ¬ 0 ≤ x.toInt := fun q => hx ((fb_xor x y (by omega)).mpr q)
  have h1 := dvm_toInt x y hy
  have hd : ¬ y.toInt ∣ x.toInt := fun q => h (Int32.toInt_inj.mp (by rw [h1]; exact Int.tdiv_mul_cancel q))
  have hb := fb_rng (fdv x y)
  have e1 := fdv_toInt x y hy
  have e2 := dv_toInt x y hy
  have e3 : x.toInt.tdiv y.toInt = x.toInt / y.toInt + 1 := by
    rw [Int.tdiv_eq_ediv]
    have : y.toInt.sign = 1 := Int.sign_eq_one_of_pos hy
    simp [hd, hn, this]
  refine Int32.toInt_inj.mp ?_
  have h1' : (1 : Int32).toInt = 1 := rfl
  rw [fb_subI (by rw [e2, e3, h1', ← e1]; omega) (by rw [e2, e3, h1', ← e1]; omega), e2, e3, h1', e1]
  omega
