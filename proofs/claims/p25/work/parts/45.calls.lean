/-! WHAT THE CLASS'S CALLS SHOW TO THE LAW, each in one word. -/
theorem inH_nn {z : zS} (hn : ¬ inH z = -9) : ¬ inH z < 0 := fun q => by
  have h := inR_b (inH_lt hn).1 (x := 0) (y := 3) rfl rfl
  have := (fb_sgnI _).mp q
  omega
theorem inH_pOk2 {z : zS} (hn : ¬ inH z = -9) : pOk z (inH z) = true := pOk_inH hn
def fwdB (z : zS) (p : Nat) : Bool := decide (sh (z p 3) = z 1 0)
theorem fwb_1 {z : zS} {p : Nat} (h : sh (z p 3) = z 1 0) : 1 = bI (fwdB z p) := by unfold fwdB; rw [decide_eq_true h]; rfl
theorem fwb_0 {z : zS} {p : Nat} (h : ¬ sh (z p 3) = z 1 0) : 0 = bI (fwdB z p) := by unfold fwdB; rw [decide_eq_false h]; rfl
theorem fwd_t {z : zS} {p : Nat} (h : fwdB z p = true) : sh (z p 3) = z 1 0 := of_decide_eq_true h
theorem fwd_f {z : zS} {p : Nat} (h : fwdB z p = false) : ¬ sh (z p 3) = z 1 0 := of_decide_eq_false h
theorem pins_0 (z : zS) : s_pins z 0 = z 1 0 := by unfold s_pins; rw [if_pos (by decide)]; rfl
theorem ofp_0 {z : zS} {n : Int32} (hp : pOk z n = true) : s_ofPart z n 0 = z (10 + ix n) 3 := by unfold s_ofPart; rw [if_pos hp, if_neg (by decide), if_pos rfl]
theorem ofp_1 {z : zS} {n : Int32} (hp : pOk z n = true) : s_ofPart z n 1 = z (10 + ix n) 4 := by unfold s_ofPart; rw [if_pos hp, if_neg (by decide), if_neg (by decide), if_pos rfl]
theorem ofp_2 {z : zS} {n : Int32} (hp : pOk z n = true) : s_ofPart z n 2 = z (10 + ix n) 5 := by unfold s_ofPart; rw [if_pos hp, if_neg (by decide), if_neg (by decide), if_neg (by decide), if_pos rfl]
theorem ofp_3 {z : zS} {n : Int32} (hp : pOk z n = true) : s_ofPart z n 3 = z (10 + ix n) 6 := by unfold s_ofPart; rw [if_pos hp, if_neg (by decide), if_neg (by decide), if_neg (by decide), if_neg (by decide), if_pos rfl]
theorem ofp_4 {z : zS} {n : Int32} (hp : pOk z n = true) : s_ofPart z n 4 = if z (10 + ix n) 1 = 0 then 0 else 1 := by unfold s_ofPart; rw [if_pos hp, if_neg (by decide), if_neg (by decide), if_neg (by decide), if_neg (by decide), if_neg (by decide), if_pos rfl]
theorem ofp_5 {z : zS} {n : Int32} (hp : pOk z n = true) : s_ofPart z n 5 = if z (10 + ix n) 2 = 0 then 0 else 1 := by unfold s_ofPart; rw [if_pos hp, if_neg (by decide), if_neg (by decide), if_neg (by decide), if_neg (by decide), if_neg (by decide), if_neg (by decide), if_pos rfl]
theorem ofp_11 {z : zS} {n : Int32} (hp : pOk z n = true) : s_ofPart z n 11 = z (10 + ix n) 8 := by unfold s_ofPart; rw [if_pos hp, if_pos (by decide)]; rfl
theorem ofp_13 {z : zS} {n : Int32} (hp : pOk z n = true) : s_ofPart z n 13 = z (10 + ix n) 10 := by unfold s_ofPart; rw [if_pos hp, if_pos (by decide)]; rfl
theorem b01_0 {x : Int32} : ((if x = 0 then (0 : Int32) else 1) = 0) ↔ x = 0 := by
  by_cases h : x = 0
  · rw [if_pos h]; simp [h]
  · rw [if_neg h]; simp [h]
theorem wd_0 {z : zS} (hn : ¬ inH z = -9) {v : Int32} (hv : inR v (-3000) 3000 = true) : s_would z v 0 - 10000 = uF z (10 + ix (inH z)) v := by
  unfold s_would; rw [if_pos ⟨hv, by decide⟩, if_neg hn, if_pos rfl]; exact Int32.add_sub_cancel _ _
theorem wd_1 {z : zS} (hn : ¬ inH z = -9) {v : Int32} (hv : inR v (-3000) 3000 = true) : s_would z v 1 - 50000 = ampF z (10 + ix (inH z)) (uF z (10 + ix (inH z)) v) := by
  unfold s_would; rw [if_pos ⟨hv, by decide⟩, if_neg hn, if_neg (by decide), if_pos rfl]; exact Int32.add_sub_cancel _ _
theorem wd_2 {z : zS} (hn : ¬ inH z = -9) {v : Int32} (hv : inR v (-3000) 3000 = true) : s_would z v 2 = ruF z (10 + ix (inH z)) (uF z (10 + ix (inH z)) v) v := by
  unfold s_would; rw [if_pos ⟨hv, by decide⟩, if_neg hn, if_neg (by decide), if_neg (by decide)]
theorem now_0 (z : zS) : s_now z 0 = inH z := by unfold s_now; rw [if_pos rfl]
theorem now_3 (z : zS) : s_now z 3 = z 0 1 := by unfold s_now; rw [if_neg (by decide), if_neg (by decide), if_neg (by decide), if_pos rfl]
theorem now_4 (z : zS) : s_now z 4 = z 0 2 := by unfold s_now; rw [if_neg (by decide), if_neg (by decide), if_neg (by decide), if_neg (by decide), if_pos rfl]
theorem now_1 (z : zS) : s_now z 1 = if fourB z = true then 4 else 2 := by unfold s_now; rw [if_neg (by decide), if_pos rfl]
theorem now1_ne {z : zS} (h : ¬ s_now z 1 = 2) : fourB z = true := by
  rw [now_1] at h
  by_cases c : fourB z = true
  · exact c
  · rw [if_neg c] at h; exact absurd rfl h
theorem now1_eq {z : zS} (h : s_now z 1 = 2) : ¬ fourB z = true := fun c => by
  rw [now_1, if_pos c] at h; exact absurd h (by decide)
theorem ru_0 {z : zS} {p : Nat} {u v : Int32} : ruF z p u v = 0 ↔ u = v := by
  unfold ruF
  by_cases c : u = v
  · rw [if_pos c]; simp [c]
  · rw [if_neg c]
    constructor
    · intro q
      by_cases ca : alB z p (if v < 0 then u - 1 else u + 1) = true
      · rw [if_pos ca] at q; exact absurd q (by decide)
      · rw [if_neg ca] at q; exact absurd q (by decide)
    · intro q; exact absurd q c
theorem aw_t {z : zS} {p : Nat} {u v : Int32} (h : awB z p u v = true) : absI (ampF z p u) ≤ z 0 1 ∧ (fourB z = true ∨ absI (u + dropF z (ampF z p u)) ≤ absI v) := by
  have h2 := awB_iff.mp h
  rw [Int32.le_iff_toInt_le, Int32.le_iff_toInt_le]; exact h2
theorem aw_f {z : zS} {p : Nat} {u v : Int32} (h : awB z p u v = false) (h1 : absI (ampF z p u) ≤ z 0 1) (h2 : fourB z = true ∨ absI (u + dropF z (ampF z p u)) ≤ absI v) : False := by
  have h3 : awB z p u v = true := awB_iff.mpr ⟨Int32.le_iff_toInt_le.mp h1, h2.imp id Int32.le_iff_toInt_le.mp⟩
  rw [h] at h3; cases h3
theorem al_t {z : zS} {p : Nat} {u : Int32} (h : ¬ absI (ampF z p u) ≤ z 0 1) : alB z p u = true := decide_eq_true (i_le_f h)
theorem al_f {z : zS} {p : Nat} {u : Int32} (h : absI (ampF z p u) ≤ z 0 1) : ¬ alB z p u = true := fun q => i_le_t h (of_decide_eq_true q)
theorem sg_in {v : Int32} (hv : inR v (-3000) 3000 = true) {k : Nat} (hk : k ≤ ix (absI v)) : inR (sgn v * nI k) (-3000) 3000 = true := by
  have h := sg_rng hv hk
  rw [inR_iff, show (-3000 : Int32).toInt = -3000 from rfl, show (3000 : Int32).toInt = 3000 from rfl]; exact h
theorem rd_has {y : zS} {k : Int32} (hk : inR k 0 60 = true) (h3 : y 0 3 = k + 1) : hasB y k = true := by
  have h := inR_b hk (x := 0) (y := 60) rfl rfl
  have e1 : (1 : Int32).toInt = 1 := rfl
  unfold hasB
  rw [Bool.and_eq_true, decide_eq_true_eq, decide_eq_true_eq, h3, Int32.le_iff_toInt_le, Int32.lt_iff_toInt_lt, i0, fb_addI (by rw [e1]; omega) (by rw [e1]; omega), e1]
  omega
theorem rdg_0 {y : zS} {k : Int32} (h : hasB y k = true) : s_reading y k 0 = y 2 (ix k) + 10000 := by unfold s_reading; rw [if_pos h, if_pos rfl]
theorem rdg_1 {y : zS} {k : Int32} (h : hasB y k = true) : s_reading y k 1 - 10000 = y 3 (ix k) := by unfold s_reading; rw [if_pos h, if_neg (by decide), if_pos rfl]; exact Int32.add_sub_cancel _ _
theorem rdg_2 {y : zS} {k : Int32} (h : hasB y k = true) : s_reading y k 2 - 50000 = y 4 (ix k) := by unfold s_reading; rw [if_pos h, if_neg (by decide), if_neg (by decide), if_pos rfl]; exact Int32.add_sub_cancel _ _
theorem rdg_3 {y : zS} {k : Int32} (h : hasB y k = true) : s_reading y k 3 = y 5 (ix k) := by unfold s_reading; rw [if_pos h, if_neg (by decide), if_neg (by decide), if_neg (by decide), if_pos rfl]
theorem many_1 (z : zS) : s_many z 1 = z 0 3 := by unfold s_many; rw [if_neg (by decide), if_pos rfl]
theorem nI_has {z : zS} (hI : qInv z) {j : Nat} (h : j < ix (z 0 3)) : hasB z (nI j) = true := by
  obtain ⟨c1, c2, c3⟩ := inR_ix (n := 60) rfl (inv_rc hI)
  unfold hasB
  rw [Bool.and_eq_true, decide_eq_true_eq, decide_eq_true_eq, Int32.le_iff_toInt_le, Int32.lt_iff_toInt_lt, i0, nI_toInt (by omega), c3]
  omega
theorem rdj_1 {z : zS} (hI : qInv z) {j : Nat} (h : j < ix (z 0 3)) : s_reading z (nI j) 1 - 10000 = z 3 j := by
  obtain ⟨c1, c2, c3⟩ := inR_ix (n := 60) rfl (inv_rc hI)
  rw [rdg_1 (nI_has hI h), ix_nI (by omega)]
theorem rdj_2 {z : zS} (hI : qInv z) {j : Nat} (h : j < ix (z 0 3)) : s_reading z (nI j) 2 - 50000 = z 4 j := by
  obtain ⟨c1, c2, c3⟩ := inR_ix (n := 60) rfl (inv_rc hI)
  rw [rdg_2 (nI_has hI h), ix_nI (by omega)]
theorem fit_w {z : zS} (hI : qInv z) {a b : Nat} (hab : a ≤ b) (hb : b < ix (z 0 3)) {w : Int32} (hw : inR w 0 5 = true) : s_fit z (nI a) (nI b) w = fitF z a (b + 1 - a) w := by
  obtain ⟨c1, c2, c3⟩ := inR_ix (n := 60) rfl (inv_rc hI)
  have hlt : ¬ nI b < nI a := fun q => by have := nI_gtt (by omega) (by omega) q; omega
  unfold s_fit
  rw [if_pos ⟨nI_has hI (by omega), nI_has hI hb, hlt, hw⟩, ix_nI (by omega), ix_nI (by omega)]
theorem fit_0 {z : zS} {a n : Nat} (hD : fD z a n = 0) (w : Int32) : fitF z a n w = -9223372036854775808 := by unfold fitF; rw [if_pos hD]
theorem fit_n {z : zS} {a n : Nat} (hD : ¬ fD z a n = 0) : fitF z a n 0 = frF (fS z a n) (fD z a n) true ∧ fitF z a n 1 = frF (fS z a n) (fD z a n) false ∧ fitF z a n 2 = frF (fB z a n) (fD z a n) true ∧ fitF z a n 3 = frF (fB z a n) (fD z a n) false ∧ fitF z a n 4 = frF (-(fB z a n)) (fS z a n) true ∧ fitF z a n 5 = frF (-(fB z a n)) (fS z a n) false := by
  unfold fitF
  rw [if_neg hD, if_neg hD, if_neg hD, if_neg hD, if_neg hD, if_neg hD]
  exact ⟨rfl, rfl, rfl, rfl, rfl, rfl⟩
theorem frF_0 {u : Int64} (b : Bool) : frF u 0 b = -9223372036854775808 := by unfold frF; rw [if_pos (Or.inl rfl)]
theorem l_ge1 {x : Int64} (h : 0 < x.toInt) : ¬ x < 1 := fun q => by
  have h1 := Int64.lt_iff_toInt_lt.mp q
  rw [show (1 : Int64).toInt = 1 from rfl] at h1; omega
theorem l_pos {x : Int64} (h : 0 < x.toInt) : ¬ x ≤ 0 := fun q => by
  have h1 := Int64.le_iff_toInt_le.mp q
  rw [show (0 : Int64).toInt = 0 from rfl] at h1; omega
theorem l_ne0 {x : Int64} (h : 0 < x.toInt) : ¬ x = 0 := fun q => by
  rw [q, show (0 : Int64).toInt = 0 from rfl] at h; omega
theorem l_min {x : Int64} (h : 0 < x.toInt) : ¬ x = -9223372036854775808 := fun q => by
  rw [q] at h; exact absurd h (by decide)
theorem sg_x {on ba up : Int64} (h : on < 0 ↔ (0 < ba ∧ 0 < up) ∨ (ba < 0 ∧ up < 0)) : on.toInt < 0 ↔ (0 < ba.toInt ∧ 0 < up.toInt) ∨ (ba.toInt < 0 ∧ up.toInt < 0) := by
  rw [Int64.lt_iff_toInt_lt, Int64.lt_iff_toInt_lt, Int64.lt_iff_toInt_lt, Int64.lt_iff_toInt_lt, Int64.lt_iff_toInt_lt, show (0 : Int64).toInt = 0 from rfl] at h
  exact h
