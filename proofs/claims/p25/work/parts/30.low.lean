/-! WHAT THE LAW'S SMALL METHODS SAY. -/
theorem lv_nm {p : Program} {l : Launch} {e : Env} {R : Room} {s : State} {m : MethodId} {args : Array Value} {below : List Frame} {meth : Method} {c : Code} {H : Heap} {locs : List Loc} {cells slots : Nat} {Q : State → Prop} {pc : Nat} {ls : Array Slot} {rest : List Value} {x y : Int32} (h : x = y) (k : W p l e R s m args below meth c H locs cells slots Q (F0 m pc ls (.int y :: rest))) : W p l e R s m args below meth c H locs cells slots Q (F0 m pc ls (.int x :: rest)) := by
  subst h; exact k
theorem lv_nmL {p : Program} {l : Launch} {e : Env} {R : Room} {s : State} {m : MethodId} {args : Array Value} {below : List Frame} {meth : Method} {c : Code} {H : Heap} {locs : List Loc} {cells slots : Nat} {Q : State → Prop} {pc : Nat} {ls : Array Slot} {rest : List Value} {x y : Int64} (h : x = y) (k : W p l e R s m args below meth c H locs cells slots Q (F0 m pc ls (.long y :: rest))) : W p l e R s m args below meth c H locs cells slots Q (F0 m pc ls (.long x :: rest)) := by
  subst h; exact k
def lowF (v n : Int32) : Int32 := (v &&& 2147483647) - (v &&& 2147483647) / n * n
def cellF (L : Nat) (xs : Nat → Int32) (k : Int32) : Int32 := if Int32.ofNat L ≤ k then 390109 * k + 61 else xs (ix k)
theorem and_nn (v : Int32) : 0 ≤ (v &&& 2147483647).toInt := by
  have h1 : (v &&& 2147483647).toInt = (v.toBitVec &&& (2147483647 : Int32).toBitVec).toInt := rfl
  have h2 : (v.toBitVec &&& (2147483647 : Int32).toBitVec).msb = false := by
    rw [BitVec.msb_and, show (2147483647 : Int32).toBitVec.msb = false from by decide, Bool.and_false]
  have h3 := BitVec.msb_eq_toInt (x := v.toBitVec &&& (2147483647 : Int32).toBitVec)
  rw [h2] at h3
  have h4 := of_decide_eq_false h3.symm
  omega
theorem rem_I {x y : Int32} (hx : 0 ≤ x.toInt) (hy : 0 < y.toInt) : (x - x / y * y).toInt = x.toInt % y.toInt := by
  have h := dvm_toInt x y hy
  have hx2 := fb_rng x
  have hy2 := fb_rng y
  have e : x.toInt.tdiv y.toInt = x.toInt / y.toInt := Int.tdiv_eq_ediv_of_nonneg hx
  have h0 := Int.emod_nonneg x.toInt (show y.toInt ≠ 0 by omega)
  have h1 := Int.emod_lt_of_pos x.toInt hy
  have h3 := Int.emod_def x.toInt y.toInt
  rw [e, Int.mul_comm] at h
  rw [fb_subI (by rw [h]; omega) (by rw [h]; omega), h]
  omega
theorem low_b (v : Int32) {n : Int32} (hn : 0 < n.toInt) : 0 ≤ (lowF v n).toInt ∧ (lowF v n).toInt < n.toInt := by
  unfold lowF
  rw [rem_I (and_nn v) hn]
  exact ⟨Int.emod_nonneg _ (by omega), Int.emod_lt_of_pos _ hn⟩
theorem cut_a {u d : Int32} (hd : 0 < d.toInt) (h : u / d * d ≤ u) : u / d = fdv u d := by
  have h1 := Int32.le_iff_toInt_le.mp h
  rw [dvm_toInt u d hd] at h1
  by_cases h0 : 0 ≤ u.toInt
  · refine Int32.toInt_inj.mp ?_
    rw [fdv_toInt u d hd, dv_toInt u d hd]
    exact Int.tdiv_eq_ediv_of_nonneg h0
  · have h3 : (-u.toInt).tdiv d.toInt = -(u.toInt.tdiv d.toInt) := Int.neg_tdiv _ _
    have h4 := Int.tdiv_eq_ediv_of_nonneg (a := -u.toInt) (b := d.toInt) (by omega)
    have h5 := Int.ediv_mul_le (-u.toInt) (show d.toInt ≠ 0 by omega)
    rw [← h4, h3, Int.neg_mul] at h5
    exact fdv_eq u d hd (Int32.toInt_inj.mp (by rw [dvm_toInt u d hd]; omega))
theorem cut_b {u d : Int32} (hd : 0 < d.toInt) (h : ¬ u / d * d ≤ u) : u / d - 1 = fdv u d := by
  have hn : ¬ 0 ≤ u.toInt := fun q => h (by
    rw [Int32.le_iff_toInt_le, dvm_toInt u d hd, Int.tdiv_eq_ediv_of_nonneg q]
    exact Int.ediv_mul_le _ (by omega))
  exact fdv_neg u d hd (fun q => hn ((fb_xor u d (by omega)).mp q)) (fun q => h (by rw [q]; exact i_rf _))
theorem sz_p {v : Int32} (h : 0 ≤ v) : v = absI v := by unfold absI; rw [if_pos h]
-- the bit of a pin
theorem one_bit : ∀ x : Fin 256, ∀ f : Fin 8, bcF (nI x.val) = 1 → (((nI x.val >>> (nI f.val &&& 31)) &&& 1 = 1) ↔ sh (nI f.val) = nI x.val) := by decide +kernel
theorem fwd_eq {z : zS} (hI : qInv z) (hl : hlB z = true) {i : Nat} (hi : i < 4) : ((z 1 0 >>> (z (10 + i) 3 &&& 31)) &&& 1 = 1) ↔ sh (z (10 + i) 3) = z 1 0 := by
  obtain ⟨a, ha, e1⟩ := inR_nI (n := 255) rfl (inv_pn hI 0 (by decide))
  obtain ⟨f, hf, e2⟩ := inR_nI (n := 7) rfl (inv_p hI i hi).2.2.2.1
  have hb := (hl_iff.mp hl).1
  rw [e1] at hb ⊢
  rw [e2]
  exact one_bit ⟨a, by omega⟩ ⟨f, by omega⟩ hb
-- what is found
theorem amp_0 {z : zS} (hI : qInv z) {i : Nat} (hi : i < 4) : ampF z (10 + i) 0 = 0 := by
  have h := (ampF_Z (z := z) (p := 10 + i) (inv_p hI i hi) (u := 0) (by decide) (by decide)).1
  rw [show (0 : Int32).toInt = 0 from rfl, ampZ_0 (inv_p hI i hi)] at h
  exact Int32.toInt_inj.mp (by rw [h]; rfl)
theorem drop_0 {z : zS} (hl : inR (z 0 2) 0 200 = true) : dropF z 0 = 0 := by
  have h := (dropF_Z hl (a := 0) (by decide) (by decide)).1
  rw [show (0 : Int32).toInt = 0 from rfl, Int.zero_mul] at h
  exact Int32.toInt_inj.mp (by rw [h]; rfl)
theorem aw_0 {z : zS} (hI : qInv z) {i : Nat} (hi : i < 4) {v : Int32} (hv : inR v (-3000) 3000 = true) : awB z (10 + i) (sgn v * nI 0) v = true := by
  have hvb := inR_b hv (x := -3000) (y := 3000) rfl rfl
  obtain ⟨eK, hK3⟩ := abs_nI hvb.1 hvb.2
  have h1 := inR_b hI.2.1 (x := 1) (y := 20000) rfl rfl
  have e0 : sgn v * nI 0 = 0 := by rw [show nI 0 = (0 : Int32) from rfl]; exact Int32.mul_zero
  have a0 : (absI 0).toInt = 0 := rfl
  rw [e0, awB_iff, amp_0 hI hi, drop_0 hI.2.2.1]
  refine ⟨by rw [a0]; omega, Or.inr ?_⟩
  rw [show (0 : Int32) + 0 = 0 from rfl, a0, eK, nI_toInt (by omega)]
  omega
theorem uN_le {z : zS} {p : Nat} {v : Int32} : uN z p v ≤ ix (absI v) := srch_le _ _
theorem aw_all {z : zS} (hI : qInv z) {i : Nat} (hi : i < 4) {v : Int32} (hv : inR v (-3000) 3000 = true) {j : Nat} (hj : j ≤ uN z (10 + i) v) : awB z (10 + i) (sgn v * nI j) v = true := by
  rcases Nat.eq_zero_or_pos j with rfl | h
  · exact aw_0 hI hi hv
  · exact srch_yes (ix (absI v)) (fun k => awB z (10 + i) (sgn v * nI k) v) j h hj
theorem aw_next {z : zS} {p : Nat} {v : Int32} (h : uN z p v < ix (absI v)) : awB z p (sgn v * nI (uN z p v + 1)) v = false := srch_no (ix (absI v)) (fun k => awB z p (sgn v * nI k) v) h
theorem sgn_k4 {v : Int32} {k : Nat} (hk : k ≤ 4000) : (sgn v * nI k).toInt = if v < 0 then -(k : Int) else (k : Int) := by
  have e : (nI k).toInt = k := nI_toInt (by omega)
  have e1 : (-1 : Int32).toInt = -1 := rfl
  have e2 : (1 : Int32).toInt = 1 := rfl
  unfold sgn
  split
  · rw [fb_mulI (by rw [e, e1]; omega) (by rw [e, e1]; omega), e, e1]; omega
  · rw [fb_mulI (by rw [e, e2]; omega) (by rw [e, e2]; omega), e, e2]; omega
theorem abs_sg {v : Int32} {j : Nat} (hj : j ≤ 4000) : absI (sgn v * nI j) = nI j := by
  have h := sgn_k4 (v := v) hj
  have e : (nI j).toInt = j := nI_toInt (by omega)
  refine Int32.toInt_inj.mp ?_
  by_cases hv : v < 0
  · rw [if_pos hv] at h
    rw [absI_Z (by rw [h]; omega), h, e]; split <;> omega
  · rw [if_neg hv] at h
    rw [absI_Z (by rw [h]; omega), h, e]; split <;> omega
theorem sg_inj {v : Int32} {a b : Nat} (ha : a ≤ 4000) (hb : b ≤ 4000) (h : sgn v * nI a = sgn v * nI b) : a = b := by
  have h1 := congrArg Int32.toInt h
  rw [sgn_k4 ha, sgn_k4 hb] at h1
  split at h1 <;> omega
theorem uF_top {z : zS} {p : Nat} {v : Int32} (hv : inR v (-3000) 3000 = true) (h : uN z p v = ix (absI v)) : uF z p v = v := by
  unfold uF; rw [h]; exact sg_v hv
theorem uF_not {z : zS} {p : Nat} {v : Int32} (hv : inR v (-3000) 3000 = true) (h : uN z p v < ix (absI v)) : ¬ uF z p v = v := fun q => by
  have hvb := inR_b hv (x := -3000) (y := 3000) rfl rfl
  obtain ⟨eK, hK3⟩ := abs_nI hvb.1 hvb.2
  have h2 := sg_v hv
  unfold uF at q
  have := sg_inj (v := v) (a := uN z p v) (b := ix (absI v)) (by omega) (by omega) (q.trans h2.symm)
  omega
theorem ru_next {z : zS} {p : Nat} {v : Int32} (hv : inR v (-3000) 3000 = true) (h : uN z p v < ix (absI v)) : ruF z p (uF z p v) v = if alB z p (sgn v * nI (uN z p v + 1)) = true then 1 else 2 := by
  unfold ruF
  rw [if_neg (uF_not hv h)]
  unfold uF
  rw [sg_next]
theorem uF_sgn {z : zS} {p : Nat} {v : Int32} (hv : inR v (-3000) 3000 = true) : (0 ≤ v → 0 ≤ uF z p v) ∧ (v ≤ 0 → uF z p v ≤ 0) ∧ absI (uF z p v) = nI (uN z p v) ∧ absI v = nI (ix (absI v)) ∧ ix (absI v) ≤ 3000 := by
  have hvb := inR_b hv (x := -3000) (y := 3000) rfl rfl
  obtain ⟨eK, hK3⟩ := abs_nI hvb.1 hvb.2
  have hl := uN_le (z := z) (p := p) (v := v)
  have e := sgn_k4 (v := v) (k := uN z p v) (by omega)
  refine ⟨fun h => ?_, fun h => ?_, abs_sg (by omega), eK, hK3⟩
  · have h1 := Int32.le_iff_toInt_le.mp h
    rw [i0] at h1
    rw [Int32.le_iff_toInt_le, i0]
    unfold uF
    rw [e, if_neg (fun q => by have := (fb_sgnI v).mp q; omega)]; omega
  · have h1 := Int32.le_iff_toInt_le.mp h
    rw [i0] at h1
    rw [Int32.le_iff_toInt_le, i0]
    unfold uF
    rw [e]
    by_cases q : v < 0
    · rw [if_pos q]; omega
    · have h3 : v.toInt = 0 := by
        have : ¬ v.toInt < 0 := fun t => q ((fb_sgnI v).mpr t)
        omega
      have h4 : v = 0 := Int32.toInt_inj.mp (by rw [h3]; rfl)
      have h5 : ix (absI v) = 0 := by rw [h4]; rfl
      rw [if_neg q]; omega
theorem amps_f {z : zS} (hI : qInv z) (hn : ¬ inH z = -9) {at_ : Int32} (ha : inR at_ (-3000) 3000 = true) (hf : sh (z (10 + ix (inH z)) 3) = z 1 0) : s_amps z (inH z) at_ - 50000 = ampF z (10 + ix (inH z)) at_ := by
  obtain ⟨h1, h2, h3, h4, h5, h6⟩ := inH_lt hn
  have hp : pOk z (inH z) = true := by simp [pOk, h1, h5]
  unfold s_amps ampF ownd
  rw [if_pos hp, if_pos ha, if_pos hf, if_pos hf]
  exact Int32.add_sub_cancel _ _
theorem neg_in {at_ : Int32} (ha : inR at_ (-3000) 3000 = true) : inR (-at_) (-3000) 3000 = true := by
  have h := inR_b ha (x := -3000) (y := 3000) rfl rfl
  rw [inR_iff, fb_negI (x := at_) (by omega), show (-3000 : Int32).toInt = -3000 from rfl, show (3000 : Int32).toInt = 3000 from rfl]
  omega
theorem amps_b {z : zS} (hI : qInv z) (hn : ¬ inH z = -9) {at_ : Int32} (ha : inR at_ (-3000) 3000 = true) (hf : ¬ sh (z (10 + ix (inH z)) 3) = z 1 0) : 50000 - s_amps z (inH z) (-at_) = ampF z (10 + ix (inH z)) at_ := by
  obtain ⟨h1, h2, h3, h4, h5, h6⟩ := inH_lt hn
  have hp : pOk z (inH z) = true := by simp [pOk, h1, h5]
  have hb := inR_b (neg_in ha) (x := -3000) (y := 3000) rfl rfl
  have hz := ownF_Z (inv_p hI _ h2) hb.1 hb.2
  have hzb := ownZ_b (inv_p hI _ h2) hb.1 hb.2
  rw [← hz] at hzb
  have e5 : (50000 : Int32).toInt = 50000 := rfl
  unfold s_amps ampF ownd
  rw [if_pos hp, if_pos (neg_in ha), if_neg hf, if_neg hf]
  refine Int32.toInt_inj.mp ?_
  have e6 : (ownF (z (10 + ix (inH z))) (-at_) + 50000).toInt = (ownF (z (10 + ix (inH z))) (-at_)).toInt + 50000 := by
    rw [fb_addI (by rw [e5]; omega) (by rw [e5]; omega), e5]
  rw [fb_subI (by rw [e6, e5]; omega) (by rw [e6, e5]; omega), e6, e5, fb_negI (by omega)]
  omega
