theorem nI_gtt {a b : Nat} (ha : a < 2 ^ 31) (hb : b < 2 ^ 31) (h : nI b < nI a) : b < a := (nI_ltI hb ha).mp h
theorem nI_gtf {a b : Nat} (ha : a < 2 ^ 31) (hb : b < 2 ^ 31) (h : ¬ nI b < nI a) : a ≤ b := Nat.le_of_not_lt (fun q => h ((nI_ltI hb ha).mpr q))
theorem l_le_t {x y : Int64} (h : x ≤ y) : ¬ y < x := by rw [Int64.lt_iff_toInt_lt]; rw [Int64.le_iff_toInt_le] at h; omega
theorem l_le_f {x y : Int64} (h : ¬ x ≤ y) : y < x := by rw [Int64.lt_iff_toInt_lt]; rw [Int64.le_iff_toInt_le] at h; omega
theorem nlen {a b : Nat} (hab : a ≤ b) (hb6 : b < 60) : ((nI b - nI a) + 1).toInt64 = lN (b + 1 - a) := by
  rw [pk_sub hab, nI_1, nI_l (by omega)]
  congr 1; omega
theorem neg0L {x : Int64} (h : ¬ x = 0) : ¬ -x = 0 := fun q => h (by
  have h2 : -(-x) = -(0 : Int64) := by rw [q]
  rw [Int64.neg_neg] at h2
  rw [h2]; rfl)
set_option maxHeartbeats 4000000 in
set_option maxRecDepth 100000 in
theorem kX2_sum_3 (l : Launch) (g : qG) {ad : Nat → Nat} (z : zS) (hj : adInj 15 ad) {a b : Nat} (hab : a ≤ b) (hb6 : b < 60) : qMl l yX2_sum wsX2_sum 0 g (WX g ad) (adOf 15 ad) z [.ref (ad 3), .int (nI a), .int (nI b)] (fX z a (b + 1 - a)) z := by
  refine qStart (cc := cX2_sum) (maxL := 6) (ret := (some .long)) (plainFor_of_name (by decide)) rfl (Nat.le_of_ble_eq_true rfl) ?_
  intro p e s m args below meth c hx hb hml hown hts hr hlk hP hK ls hl
  have hl : lv_has ls 6 [(0, .ref (ad 3)), (1, .int (nI a)), (2, .int (nI b))] := hl
  have hS : va_S (adOf 15 ad) s.heap s.heap [] := va_S.rf
  have loop : ∀ (k : Nat) (j : Nat) (t : Int64), j + k = b + 1 → smR (fun i => (z 3 i).toInt64) k j t = fX z a (b + 1 - a) → ∀ (H : Heap) (locs : List Loc), va_P g.1 vwCl ((WX g ad) z) H → va_S (adOf 15 ad) s.heap H locs → ∀ ls : Array Slot, lv_has ls 6 [(0, .ref (ad 3)), (1, .int (nI a)), (2, .int (nI b)), (3, .long t), (5, .int (nI j))] → W p l e (rmL 0) s m args below meth c H locs 0 0 (MQ below (va_Ql (fun q9 u9 => q9 = fX z a (b + 1 - a) ∧ u9 = z) (qU g (WX g ad)) (adOf 15 ad)) args s 0 0 (adOf 15 ad)) (F0 m 5 ls []) := by
    intro k
    induction k with
    | zero =>
      intro j t hj2 hz H locs hP hS ls hl
      refine lv_iload hx hb dX2_sum_5 (lv_at hl 4 rfl) ?_
      refine lv_iload_n hx hb dX2_sum_7 rfl (lv_at hl 2 rfl) ?_
      refine lv_icmp_gt (tgt := 25) hx hb dX2_sum_8 (by decide) (fun c_8 => ?_) (fun c_8 => ?_)
      · -- 8 taken
        have c_8n := i_lt_t c_8
        refine lv_lload_n hx hb dX2_sum_25 rfl (lv_at hl 3 rfl) ?_
        exact qRl hx hb hr hlk hP hK hS dX2_sum_26 hz rfl
      · -- 8 not taken
        have c_8n := i_lt_f c_8
        exact absurd (nI_gtf (by omega) (by omega) c_8) (by omega)
    | succ k ih =>
      intro j t hj2 hz H locs hP hS ls hl
      refine lv_iload hx hb dX2_sum_5 (lv_at hl 4 rfl) ?_
      refine lv_iload_n hx hb dX2_sum_7 rfl (lv_at hl 2 rfl) ?_
      refine lv_icmp_gt (tgt := 25) hx hb dX2_sum_8 (by decide) (fun c_8 => ?_) (fun c_8 => ?_)
      · -- 8 taken
        have c_8n := i_lt_t c_8
        exact absurd (nI_gtt (by omega) (by omega) c_8) (by omega)
      · -- 8 not taken
        have c_8n := i_lt_f c_8
        refine lv_lload_n hx hb dX2_sum_11 rfl (lv_at hl 3 rfl) ?_
        refine lv_aload_n hx hb dX2_sum_12 rfl (lv_at hl 0 rfl) ?_
        refine lv_iload hx hb dX2_sum_13 (lv_at hl 4 rfl) ?_
        refine qIld (v := (z 3 j)) hx hb hK hP 3 rfl (vp_in_nI (n := j) (N := 60) (by omega) (by decide)) (congrArg (z 3) (nI_e j (by omega))) dX2_sum_15 ?_
        refine lv_i2l hx hb dX2_sum_16 rfl ?_
        refine lv_ladd hx hb dX2_sum_17 ?_
        refine lv_lstore_n (lv' := [(3, .long (t + ((z 3 j).toInt64))), (0, .ref (ad 3)), (1, .int (nI a)), (2, .int (nI b)), (5, .int (nI j))]) hx hb dX2_sum_18 rfl hl (by decide) rfl (fun ls hl => ?_)
        refine lv_iinc (v := nI (j + 1)) (lv' := [(5, .int (nI (j + 1))), (3, .long (t + ((z 3 j).toInt64))), (0, .ref (ad 3)), (1, .int (nI a)), (2, .int (nI b))]) hx hb dX2_sum_19 hl (k := 4) rfl (nI_1 j) (by decide) rfl (fun ls hl => ?_)
        refine lv_goto (tgt := 5) hx hb dX2_sum_22 (by decide) ?_
        exact ih (j + 1) _ (by omega) (by rw [← hz]; rfl) _ _ hP hS ls (lv_sub hl [2, 3, 4, 1, 0] rfl)
  refine lv_lconst (v := 0) hx hb dX2_sum_0 rfl ?_
  refine lv_lstore_n (lv' := [(3, .long 0), (0, .ref (ad 3)), (1, .int (nI a)), (2, .int (nI b))]) hx hb dX2_sum_1 rfl hl (by decide) rfl (fun ls hl => ?_)
  refine lv_iload_n hx hb dX2_sum_2 rfl (lv_at hl 2 rfl) ?_
  refine lv_istore (lv' := [(5, .int (nI a)), (3, .long 0), (0, .ref (ad 3)), (1, .int (nI a)), (2, .int (nI b))]) hx hb dX2_sum_3 hl (by decide) rfl (fun ls hl => ?_)
  exact loop (b + 1 - a) a 0 (by omega) rfl _ _ hP hS ls (lv_sub hl [2, 3, 4, 1, 0] rfl)
set_option maxHeartbeats 4000000 in
set_option maxRecDepth 100000 in
theorem kX2_sum_4 (l : Launch) (g : qG) {ad : Nat → Nat} (z : zS) (hj : adInj 15 ad) {a b : Nat} (hab : a ≤ b) (hb6 : b < 60) : qMl l yX2_sum wsX2_sum 0 g (WX g ad) (adOf 15 ad) z [.ref (ad 4), .int (nI a), .int (nI b)] (fY z a (b + 1 - a)) z := by
  refine qStart (cc := cX2_sum) (maxL := 6) (ret := (some .long)) (plainFor_of_name (by decide)) rfl (Nat.le_of_ble_eq_true rfl) ?_
  intro p e s m args below meth c hx hb hml hown hts hr hlk hP hK ls hl
  have hl : lv_has ls 6 [(0, .ref (ad 4)), (1, .int (nI a)), (2, .int (nI b))] := hl
  have hS : va_S (adOf 15 ad) s.heap s.heap [] := va_S.rf
  have loop : ∀ (k : Nat) (j : Nat) (t : Int64), j + k = b + 1 → smR (fun i => (z 4 i).toInt64) k j t = fY z a (b + 1 - a) → ∀ (H : Heap) (locs : List Loc), va_P g.1 vwCl ((WX g ad) z) H → va_S (adOf 15 ad) s.heap H locs → ∀ ls : Array Slot, lv_has ls 6 [(0, .ref (ad 4)), (1, .int (nI a)), (2, .int (nI b)), (3, .long t), (5, .int (nI j))] → W p l e (rmL 0) s m args below meth c H locs 0 0 (MQ below (va_Ql (fun q9 u9 => q9 = fY z a (b + 1 - a) ∧ u9 = z) (qU g (WX g ad)) (adOf 15 ad)) args s 0 0 (adOf 15 ad)) (F0 m 5 ls []) := by
    intro k
    induction k with
    | zero =>
      intro j t hj2 hz H locs hP hS ls hl
      refine lv_iload hx hb dX2_sum_5 (lv_at hl 4 rfl) ?_
      refine lv_iload_n hx hb dX2_sum_7 rfl (lv_at hl 2 rfl) ?_
      refine lv_icmp_gt (tgt := 25) hx hb dX2_sum_8 (by decide) (fun c_8 => ?_) (fun c_8 => ?_)
      · -- 8 taken
        have c_8n := i_lt_t c_8
        refine lv_lload_n hx hb dX2_sum_25 rfl (lv_at hl 3 rfl) ?_
        exact qRl hx hb hr hlk hP hK hS dX2_sum_26 hz rfl
      · -- 8 not taken
        have c_8n := i_lt_f c_8
        exact absurd (nI_gtf (by omega) (by omega) c_8) (by omega)
    | succ k ih =>
      intro j t hj2 hz H locs hP hS ls hl
      refine lv_iload hx hb dX2_sum_5 (lv_at hl 4 rfl) ?_
      refine lv_iload_n hx hb dX2_sum_7 rfl (lv_at hl 2 rfl) ?_
      refine lv_icmp_gt (tgt := 25) hx hb dX2_sum_8 (by decide) (fun c_8 => ?_) (fun c_8 => ?_)
      · -- 8 taken
        have c_8n := i_lt_t c_8
        exact absurd (nI_gtt (by omega) (by omega) c_8) (by omega)
      · -- 8 not taken
        have c_8n := i_lt_f c_8
        refine lv_lload_n hx hb dX2_sum_11 rfl (lv_at hl 3 rfl) ?_
        refine lv_aload_n hx hb dX2_sum_12 rfl (lv_at hl 0 rfl) ?_
        refine lv_iload hx hb dX2_sum_13 (lv_at hl 4 rfl) ?_
        refine qIld (v := (z 4 j)) hx hb hK hP 4 rfl (vp_in_nI (n := j) (N := 60) (by omega) (by decide)) (congrArg (z 4) (nI_e j (by omega))) dX2_sum_15 ?_
        refine lv_i2l hx hb dX2_sum_16 rfl ?_
        refine lv_ladd hx hb dX2_sum_17 ?_
        refine lv_lstore_n (lv' := [(3, .long (t + ((z 4 j).toInt64))), (0, .ref (ad 4)), (1, .int (nI a)), (2, .int (nI b)), (5, .int (nI j))]) hx hb dX2_sum_18 rfl hl (by decide) rfl (fun ls hl => ?_)
        refine lv_iinc (v := nI (j + 1)) (lv' := [(5, .int (nI (j + 1))), (3, .long (t + ((z 4 j).toInt64))), (0, .ref (ad 4)), (1, .int (nI a)), (2, .int (nI b))]) hx hb dX2_sum_19 hl (k := 4) rfl (nI_1 j) (by decide) rfl (fun ls hl => ?_)
        refine lv_goto (tgt := 5) hx hb dX2_sum_22 (by decide) ?_
        exact ih (j + 1) _ (by omega) (by rw [← hz]; rfl) _ _ hP hS ls (lv_sub hl [2, 3, 4, 1, 0] rfl)
  refine lv_lconst (v := 0) hx hb dX2_sum_0 rfl ?_
  refine lv_lstore_n (lv' := [(3, .long 0), (0, .ref (ad 4)), (1, .int (nI a)), (2, .int (nI b))]) hx hb dX2_sum_1 rfl hl (by decide) rfl (fun ls hl => ?_)
  refine lv_iload_n hx hb dX2_sum_2 rfl (lv_at hl 2 rfl) ?_
  refine lv_istore (lv' := [(5, .int (nI a)), (3, .long 0), (0, .ref (ad 4)), (1, .int (nI a)), (2, .int (nI b))]) hx hb dX2_sum_3 hl (by decide) rfl (fun ls hl => ?_)
  exact loop (b + 1 - a) a 0 (by omega) rfl _ _ hP hS ls (lv_sub hl [2, 3, 4, 1, 0] rfl)
set_option maxHeartbeats 4000000 in
set_option maxRecDepth 100000 in
theorem kX2_sop_4 (l : Launch) (g : qG) {ad : Nat → Nat} (z : zS) (hj : adInj 15 ad) {a b : Nat} (hab : a ≤ b) (hb6 : b < 60) : qMl l yX2_sumOfProducts wsX2_sumOfProducts 0 g (WX g ad) (adOf 15 ad) z [.ref (ad 3), .ref (ad 4), .int (nI a), .int (nI b)] (fP z a (b + 1 - a)) z := by
  refine qStart (cc := cX2_sumOfProducts) (maxL := 7) (ret := (some .long)) (plainFor_of_name (by decide)) rfl (Nat.le_of_ble_eq_true rfl) ?_
  intro p e s m args below meth c hx hb hml hown hts hr hlk hP hK ls hl
  have hl : lv_has ls 7 [(0, .ref (ad 3)), (1, .ref (ad 4)), (2, .int (nI a)), (3, .int (nI b))] := hl
  have hS : va_S (adOf 15 ad) s.heap s.heap [] := va_S.rf
  have loop : ∀ (k : Nat) (j : Nat) (t : Int64), j + k = b + 1 → smR (fun i => (z 3 i).toInt64 * (z 4 i).toInt64) k j t = fP z a (b + 1 - a) → ∀ (H : Heap) (locs : List Loc), va_P g.1 vwCl ((WX g ad) z) H → va_S (adOf 15 ad) s.heap H locs → ∀ ls : Array Slot, lv_has ls 7 [(0, .ref (ad 3)), (1, .ref (ad 4)), (2, .int (nI a)), (3, .int (nI b)), (4, .long t), (6, .int (nI j))] → W p l e (rmL 0) s m args below meth c H locs 0 0 (MQ below (va_Ql (fun q9 u9 => q9 = fP z a (b + 1 - a) ∧ u9 = z) (qU g (WX g ad)) (adOf 15 ad)) args s 0 0 (adOf 15 ad)) (F0 m 6 ls []) := by
    intro k
    induction k with
    | zero =>
      intro j t hj2 hz H locs hP hS ls hl
      refine lv_iload hx hb dX2_sumOfProducts_6 (lv_at hl 5 rfl) ?_
      refine lv_iload_n hx hb dX2_sumOfProducts_8 rfl (lv_at hl 3 rfl) ?_
      refine lv_icmp_gt (tgt := 34) hx hb dX2_sumOfProducts_9 (by decide) (fun c_9 => ?_) (fun c_9 => ?_)
      · -- 9 taken
        have c_9n := i_lt_t c_9
        refine lv_lload hx hb dX2_sumOfProducts_34 (lv_at hl 4 rfl) ?_
        exact qRl hx hb hr hlk hP hK hS dX2_sumOfProducts_36 hz rfl
      · -- 9 not taken
        have c_9n := i_lt_f c_9
        exact absurd (nI_gtf (by omega) (by omega) c_9) (by omega)
    | succ k ih =>
      intro j t hj2 hz H locs hP hS ls hl
      refine lv_iload hx hb dX2_sumOfProducts_6 (lv_at hl 5 rfl) ?_
      refine lv_iload_n hx hb dX2_sumOfProducts_8 rfl (lv_at hl 3 rfl) ?_
      refine lv_icmp_gt (tgt := 34) hx hb dX2_sumOfProducts_9 (by decide) (fun c_9 => ?_) (fun c_9 => ?_)
      · -- 9 taken
        have c_9n := i_lt_t c_9
        exact absurd (nI_gtt (by omega) (by omega) c_9) (by omega)
      · -- 9 not taken
        have c_9n := i_lt_f c_9
        refine lv_lload hx hb dX2_sumOfProducts_12 (lv_at hl 4 rfl) ?_
        refine lv_aload_n hx hb dX2_sumOfProducts_14 rfl (lv_at hl 0 rfl) ?_
        refine lv_iload hx hb dX2_sumOfProducts_15 (lv_at hl 5 rfl) ?_
        refine qIld (v := (z 3 j)) hx hb hK hP 3 rfl (vp_in_nI (n := j) (N := 60) (by omega) (by decide)) (congrArg (z 3) (nI_e j (by omega))) dX2_sumOfProducts_17 ?_
        refine lv_i2l hx hb dX2_sumOfProducts_18 rfl ?_
        refine lv_aload_n hx hb dX2_sumOfProducts_19 rfl (lv_at hl 1 rfl) ?_
        refine lv_iload hx hb dX2_sumOfProducts_20 (lv_at hl 5 rfl) ?_
        refine qIld (v := (z 4 j)) hx hb hK hP 4 rfl (vp_in_nI (n := j) (N := 60) (by omega) (by decide)) (congrArg (z 4) (nI_e j (by omega))) dX2_sumOfProducts_22 ?_
        refine lv_i2l hx hb dX2_sumOfProducts_23 rfl ?_
        refine lv_lmul hx hb dX2_sumOfProducts_24 ?_
        refine lv_ladd hx hb dX2_sumOfProducts_25 ?_
        refine lv_lstore (lv' := [(4, .long (t + (((z 3 j).toInt64) * ((z 4 j).toInt64)))), (0, .ref (ad 3)), (1, .ref (ad 4)), (2, .int (nI a)), (3, .int (nI b)), (6, .int (nI j))]) hx hb dX2_sumOfProducts_26 hl (by decide) rfl (fun ls hl => ?_)
        refine lv_iinc (v := nI (j + 1)) (lv' := [(6, .int (nI (j + 1))), (4, .long (t + (((z 3 j).toInt64) * ((z 4 j).toInt64)))), (0, .ref (ad 3)), (1, .ref (ad 4)), (2, .int (nI a)), (3, .int (nI b))]) hx hb dX2_sumOfProducts_28 hl (k := 5) rfl (nI_1 j) (by decide) rfl (fun ls hl => ?_)
        refine lv_goto (tgt := 6) hx hb dX2_sumOfProducts_31 (by decide) ?_
        exact ih (j + 1) _ (by omega) (by rw [← hz]; rfl) _ _ hP hS ls (lv_sub hl [2, 3, 4, 5, 1, 0] rfl)
  refine lv_lconst (v := 0) hx hb dX2_sumOfProducts_0 rfl ?_
  refine lv_lstore (lv' := [(4, .long 0), (0, .ref (ad 3)), (1, .ref (ad 4)), (2, .int (nI a)), (3, .int (nI b))]) hx hb dX2_sumOfProducts_1 hl (by decide) rfl (fun ls hl => ?_)
  refine lv_iload_n hx hb dX2_sumOfProducts_3 rfl (lv_at hl 3 rfl) ?_
  refine lv_istore (lv' := [(6, .int (nI a)), (4, .long 0), (0, .ref (ad 3)), (1, .ref (ad 4)), (2, .int (nI a)), (3, .int (nI b))]) hx hb dX2_sumOfProducts_4 hl (by decide) rfl (fun ls hl => ?_)
  exact loop (b + 1 - a) a 0 (by omega) rfl _ _ hP hS ls (lv_sub hl [2, 3, 4, 5, 1, 0] rfl)
set_option maxHeartbeats 4000000 in
set_option maxRecDepth 100000 in
theorem kX2_sop_3 (l : Launch) (g : qG) {ad : Nat → Nat} (z : zS) (hj : adInj 15 ad) {a b : Nat} (hab : a ≤ b) (hb6 : b < 60) : qMl l yX2_sumOfProducts wsX2_sumOfProducts 0 g (WX g ad) (adOf 15 ad) z [.ref (ad 3), .ref (ad 3), .int (nI a), .int (nI b)] (fQ z a (b + 1 - a)) z := by
  refine qStart (cc := cX2_sumOfProducts) (maxL := 7) (ret := (some .long)) (plainFor_of_name (by decide)) rfl (Nat.le_of_ble_eq_true rfl) ?_
  intro p e s m args below meth c hx hb hml hown hts hr hlk hP hK ls hl
  have hl : lv_has ls 7 [(0, .ref (ad 3)), (1, .ref (ad 3)), (2, .int (nI a)), (3, .int (nI b))] := hl
  have hS : va_S (adOf 15 ad) s.heap s.heap [] := va_S.rf
  have loop : ∀ (k : Nat) (j : Nat) (t : Int64), j + k = b + 1 → smR (fun i => (z 3 i).toInt64 * (z 3 i).toInt64) k j t = fQ z a (b + 1 - a) → ∀ (H : Heap) (locs : List Loc), va_P g.1 vwCl ((WX g ad) z) H → va_S (adOf 15 ad) s.heap H locs → ∀ ls : Array Slot, lv_has ls 7 [(0, .ref (ad 3)), (1, .ref (ad 3)), (2, .int (nI a)), (3, .int (nI b)), (4, .long t), (6, .int (nI j))] → W p l e (rmL 0) s m args below meth c H locs 0 0 (MQ below (va_Ql (fun q9 u9 => q9 = fQ z a (b + 1 - a) ∧ u9 = z) (qU g (WX g ad)) (adOf 15 ad)) args s 0 0 (adOf 15 ad)) (F0 m 6 ls []) := by
    intro k
    induction k with
    | zero =>
      intro j t hj2 hz H locs hP hS ls hl
      refine lv_iload hx hb dX2_sumOfProducts_6 (lv_at hl 5 rfl) ?_
      refine lv_iload_n hx hb dX2_sumOfProducts_8 rfl (lv_at hl 3 rfl) ?_
      refine lv_icmp_gt (tgt := 34) hx hb dX2_sumOfProducts_9 (by decide) (fun c_9 => ?_) (fun c_9 => ?_)
      · -- 9 taken
        have c_9n := i_lt_t c_9
        refine lv_lload hx hb dX2_sumOfProducts_34 (lv_at hl 4 rfl) ?_
        exact qRl hx hb hr hlk hP hK hS dX2_sumOfProducts_36 hz rfl
      · -- 9 not taken
        have c_9n := i_lt_f c_9
        exact absurd (nI_gtf (by omega) (by omega) c_9) (by omega)
    | succ k ih =>
      intro j t hj2 hz H locs hP hS ls hl
      refine lv_iload hx hb dX2_sumOfProducts_6 (lv_at hl 5 rfl) ?_
      refine lv_iload_n hx hb dX2_sumOfProducts_8 rfl (lv_at hl 3 rfl) ?_
      refine lv_icmp_gt (tgt := 34) hx hb dX2_sumOfProducts_9 (by decide) (fun c_9 => ?_) (fun c_9 => ?_)
      · -- 9 taken
        have c_9n := i_lt_t c_9
        exact absurd (nI_gtt (by omega) (by omega) c_9) (by omega)
      · -- 9 not taken
        have c_9n := i_lt_f c_9
        refine lv_lload hx hb dX2_sumOfProducts_12 (lv_at hl 4 rfl) ?_
        refine lv_aload_n hx hb dX2_sumOfProducts_14 rfl (lv_at hl 0 rfl) ?_
        refine lv_iload hx hb dX2_sumOfProducts_15 (lv_at hl 5 rfl) ?_
        refine qIld (v := (z 3 j)) hx hb hK hP 3 rfl (vp_in_nI (n := j) (N := 60) (by omega) (by decide)) (congrArg (z 3) (nI_e j (by omega))) dX2_sumOfProducts_17 ?_
        refine lv_i2l hx hb dX2_sumOfProducts_18 rfl ?_
        refine lv_aload_n hx hb dX2_sumOfProducts_19 rfl (lv_at hl 1 rfl) ?_
        refine lv_iload hx hb dX2_sumOfProducts_20 (lv_at hl 5 rfl) ?_
        refine qIld (v := (z 3 j)) hx hb hK hP 3 rfl (vp_in_nI (n := j) (N := 60) (by omega) (by decide)) (congrArg (z 3) (nI_e j (by omega))) dX2_sumOfProducts_22 ?_
        refine lv_i2l hx hb dX2_sumOfProducts_23 rfl ?_
        refine lv_lmul hx hb dX2_sumOfProducts_24 ?_
        refine lv_ladd hx hb dX2_sumOfProducts_25 ?_
        refine lv_lstore (lv' := [(4, .long (t + (((z 3 j).toInt64) * ((z 3 j).toInt64)))), (0, .ref (ad 3)), (1, .ref (ad 3)), (2, .int (nI a)), (3, .int (nI b)), (6, .int (nI j))]) hx hb dX2_sumOfProducts_26 hl (by decide) rfl (fun ls hl => ?_)
        refine lv_iinc (v := nI (j + 1)) (lv' := [(6, .int (nI (j + 1))), (4, .long (t + (((z 3 j).toInt64) * ((z 3 j).toInt64)))), (0, .ref (ad 3)), (1, .ref (ad 3)), (2, .int (nI a)), (3, .int (nI b))]) hx hb dX2_sumOfProducts_28 hl (k := 5) rfl (nI_1 j) (by decide) rfl (fun ls hl => ?_)
        refine lv_goto (tgt := 6) hx hb dX2_sumOfProducts_31 (by decide) ?_
        exact ih (j + 1) _ (by omega) (by rw [← hz]; rfl) _ _ hP hS ls (lv_sub hl [2, 3, 4, 5, 1, 0] rfl)
  refine lv_lconst (v := 0) hx hb dX2_sumOfProducts_0 rfl ?_
  refine lv_lstore (lv' := [(4, .long 0), (0, .ref (ad 3)), (1, .ref (ad 3)), (2, .int (nI a)), (3, .int (nI b))]) hx hb dX2_sumOfProducts_1 hl (by decide) rfl (fun ls hl => ?_)
  refine lv_iload_n hx hb dX2_sumOfProducts_3 rfl (lv_at hl 3 rfl) ?_
  refine lv_istore (lv' := [(6, .int (nI a)), (4, .long 0), (0, .ref (ad 3)), (1, .ref (ad 3)), (2, .int (nI a)), (3, .int (nI b))]) hx hb dX2_sumOfProducts_4 hl (by decide) rfl (fun ls hl => ?_)
  exact loop (b + 1 - a) a 0 (by omega) rfl _ _ hP hS ls (lv_sub hl [2, 3, 4, 5, 1, 0] rfl)
set_option maxHeartbeats 4000000 in
set_option maxRecDepth 100000 in
theorem kX2_gd (l : Launch) (g : qG) {S : Type} {Wd : S → va_W} {A : Nat → Prop} (u : S) (x y : Int64) : qMl l yX2_greatestDivisor wsX2_greatestDivisor 0 g Wd A u [.long x, .long y] (gdF x y) u := by
  refine qStart (cc := cX2_greatestDivisor) (maxL := 7) (ret := (some .long)) (plainFor_of_name (by decide)) rfl (Nat.le_of_ble_eq_true rfl) ?_
  intro p e s m args below meth c hx hb hml hown hts hr hlk hP hK ls hl
  have hl : lv_has ls 7 [(0, .long x), (2, .long y)] := hl
  have hS : va_S A s.heap s.heap [] := va_S.rf
  have loop : ∀ (k : Nat) (j : Nat) (v t : Int64), j + k = 1000 → gdR k v t = gdF x y → ∀ (H : Heap) (locs : List Loc), va_P g.1 vwCl (Wd u) H → va_S A s.heap H locs → ∀ ls : Array Slot, lv_has ls 7 [(0, .long v), (2, .long t), (4, .int (nI j))] → W p l e (rmL 0) s m args below meth c H locs 0 0 (MQ below (va_Ql (fun q9 u9 => q9 = gdF x y ∧ u9 = u) (qU g Wd) A) args s 0 0 A) (F0 m 3 ls []) := by
    intro k
    induction k with
    | zero =>
      intro j v t hj2 hz H locs hP hS ls hl
      refine lv_iload hx hb dX2_greatestDivisor_3 (lv_at hl 2 rfl) ?_
      refine lv_sipush (v := 1000) hx hb dX2_greatestDivisor_5 (by decide) ?_
      refine lv_icmp_ge (tgt := 33) hx hb dX2_greatestDivisor_8 (by decide) (fun c_8 => ?_) (fun c_8 => ?_)
      · -- 8 taken
        have c_8n := i_le_t c_8
        refine lv_lload_n hx hb dX2_greatestDivisor_33 rfl (lv_at hl 0 rfl) ?_
        exact qRl hx hb hr hlk hP hK hS dX2_greatestDivisor_34 (by rw [← hz]; first | rfl | simp [gdR, c_8, c_8n]) rfl
      · -- 8 not taken
        have c_8n := i_le_f c_8
        exact absurd (nI_lt' (b := 1000) (by omega) (by omega) c_8) (by omega)
    | succ k ih =>
      intro j v t hj2 hz H locs hP hS ls hl
      refine lv_iload hx hb dX2_greatestDivisor_3 (lv_at hl 2 rfl) ?_
      refine lv_sipush (v := 1000) hx hb dX2_greatestDivisor_5 (by decide) ?_
      refine lv_icmp_ge (tgt := 33) hx hb dX2_greatestDivisor_8 (by decide) (fun c_8 => ?_) (fun c_8 => ?_)
      · -- 8 taken
        have c_8n := i_le_t c_8
        exact absurd (nI_ge' (b := 1000) (by omega) (by omega) c_8) (by omega)
      · -- 8 not taken
        have c_8n := i_le_f c_8
        refine lv_lload_n hx hb dX2_greatestDivisor_11 rfl (lv_at hl 1 rfl) ?_
        refine lv_lconst (v := 0) hx hb dX2_greatestDivisor_12 rfl ?_
        refine W.lcmp hx hb dX2_greatestDivisor_13 ?_
        refine lv_if_eq (tgt := 33) hx hb dX2_greatestDivisor_14 (by decide) (fun c_14 => ?_) (fun c_14 => ?_)
        · -- 14 taken
          rw [lg_cmp_eq] at c_14
          refine lv_lload_n hx hb dX2_greatestDivisor_33 rfl (lv_at hl 0 rfl) ?_
          exact qRl hx hb hr hlk hP hK hS dX2_greatestDivisor_34 (by rw [← hz]; first | rfl | simp [gdR, c_8, c_8n, c_14]) rfl
        · -- 14 not taken
          rw [lg_cmp_eq] at c_14
          refine lv_lload_n hx hb dX2_greatestDivisor_17 rfl (lv_at hl 0 rfl) ?_
          refine lv_lload_n hx hb dX2_greatestDivisor_18 rfl (lv_at hl 1 rfl) ?_
          refine lv_lrem hx hb dX2_greatestDivisor_19 c_14 ?_
          refine lv_lstore (lv' := [(5, .long (v - v / t * t)), (0, .long v), (2, .long t), (4, .int (nI j))]) hx hb dX2_greatestDivisor_20 hl (by decide) rfl (fun ls hl => ?_)
          refine lv_lload_n hx hb dX2_greatestDivisor_22 rfl (lv_at hl 2 rfl) ?_
          refine lv_lstore_n (lv' := [(0, .long t), (5, .long (v - v / t * t)), (2, .long t), (4, .int (nI j))]) hx hb dX2_greatestDivisor_23 rfl hl (by decide) rfl (fun ls hl => ?_)
          refine lv_lload hx hb dX2_greatestDivisor_24 (lv_at hl 1 rfl) ?_
          refine lv_lstore_n (lv' := [(2, .long (v - v / t * t)), (0, .long t), (5, .long (v - v / t * t)), (4, .int (nI j))]) hx hb dX2_greatestDivisor_26 rfl hl (by decide) rfl (fun ls hl => ?_)
          refine lv_iinc (v := nI (j + 1)) (lv' := [(4, .int (nI (j + 1))), (2, .long (v - v / t * t)), (0, .long t), (5, .long (v - v / t * t))]) hx hb dX2_greatestDivisor_27 hl (k := 3) rfl (nI_1 j) (by decide) rfl (fun ls hl => ?_)
          refine lv_goto (tgt := 3) hx hb dX2_greatestDivisor_30 (by decide) ?_
          exact ih (j + 1) _ _ (by omega) (by rw [← hz]; simp [gdR, c_8, c_8n, c_14]) _ _ hP hS ls (lv_sub hl [2, 1, 0] rfl)
  refine lv_iconst (v := 0) hx hb dX2_greatestDivisor_0 rfl ?_
  refine lv_istore (lv' := [(4, .int 0), (0, .long x), (2, .long y)]) hx hb dX2_greatestDivisor_1 hl (by decide) rfl (fun ls hl => ?_)
  exact loop 1000 0 x y rfl rfl _ _ hP hS ls (lv_sub hl [1, 2, 0] rfl)
set_option maxHeartbeats 4000000 in
set_option maxRecDepth 100000 in
theorem kX2_ofFraction (l : Launch) (g : qG) {S : Type} {Wd : S → va_W} {A : Nat → Prop} (u : S) (n d : Int64) (up : Bool) : qMl l yX2_ofFraction wsX2_ofFraction 1 g Wd A u [.long n, .long d, .int (bI up)] (frF n d up) u := by
  refine qStart (cc := cX2_ofFraction) (maxL := 9) (ret := (some .long)) (plainFor_of_name (by decide)) rfl (Nat.le_of_ble_eq_true rfl) ?_
  intro p e s m args below meth c hx hb hml hown hts hr hlk hP hK ls hl
  have hl : lv_has ls 9 [(0, .long n), (2, .long d), (4, .int (bI up))] := hl
  have hS : va_S A s.heap s.heap [] := va_S.rf
  refine lv_lload_n hx hb dX2_ofFraction_0 rfl (lv_at hl 0 rfl) ?_
  refine q_abs_long hx hb (hml.trans hl.1.symm) hown (hts (.methodLink RX2 32 Lib.MathLoose.abs_long.x) (by decide +kernel)) (hts (.static Lib.MathLoose.abs_long.x) (by decide +kernel)) (hts (.initialized "java/lang/Math") (by decide +kernel)) (hts (.code Lib.MathLoose.abs_long.x Lib.MathLoose.abs_long.code 2 (some .long)) (by decide +kernel)) (Nat.le_of_ble_eq_true rfl) (Nat.le_of_ble_eq_true rfl) (Nat.zero_le _) (Nat.zero_le _) dX2_ofFraction_1 ?_
  refine lv_lload_n hx hb dX2_ofFraction_4 rfl (lv_at hl 1 rfl) ?_
  refine q_abs_long hx hb (hml.trans hl.1.symm) hown (hts (.methodLink RX2 32 Lib.MathLoose.abs_long.x) (by decide +kernel)) (hts (.static Lib.MathLoose.abs_long.x) (by decide +kernel)) (hts (.initialized "java/lang/Math") (by decide +kernel)) (hts (.code Lib.MathLoose.abs_long.x Lib.MathLoose.abs_long.code 2 (some .long)) (by decide +kernel)) (Nat.le_of_ble_eq_true rfl) (Nat.le_of_ble_eq_true rfl) (Nat.zero_le _) (Nat.zero_le _) dX2_ofFraction_5 ?_
  refine qSl (As := [.long (absL n), .long (absL d)]) (rest := []) hx hb hml hown hts (kX2_gd l g (Wd := Wd) (A := A) u (absL n) (absL d)) gX2_ofFraction_X2_greatestDivisor rfl 2 hdX2_greatestDivisor rfl ⟨Nat.le_of_ble_eq_true rfl, Nat.le_of_ble_eq_true rfl⟩ ⟨Nat.zero_le _, Nat.zero_le _⟩ hK hP hS (fun _ h => h) hl.1 rfl (Nat.le_of_ble_eq_true rfl) dX2_ofFraction_8 (fun H locs hP hS => ?_)
  refine lv_lstore (lv' := [(5, .long (gdF (absL n) (absL d))), (0, .long n), (2, .long d), (4, .int (bI up))]) hx hb dX2_ofFraction_11 hl (by decide) rfl (fun ls hl => ?_)
  refine lv_lload_n hx hb dX2_ofFraction_13 rfl (lv_at hl 2 rfl) ?_
  refine lv_lconst (v := 0) hx hb dX2_ofFraction_14 rfl ?_
  refine W.lcmp hx hb dX2_ofFraction_15 ?_
  refine lv_if_eq (tgt := 26) hx hb dX2_ofFraction_16 (by decide) (fun c_16 => ?_) (fun c_16 => ?_)
  · -- 16 taken
    rw [lg_cmp_eq] at c_16
    refine lv_ldc2 (v := -9223372036854775808) hx hb hown (hts (.constantLong RX2 53 (-9223372036854775808)) (by decide +kernel)) dX2_ofFraction_26 ?_
    exact qRl hx hb hr hlk hP hK hS dX2_ofFraction_29 (by first | rfl | simp [frF, c_16]) (by first | rfl | simp [frF, c_16])
  · -- 16 not taken
    rw [lg_cmp_eq] at c_16
    refine lv_lload hx hb dX2_ofFraction_19 (lv_at hl 0 rfl) ?_
    refine lv_lconst (v := 0) hx hb dX2_ofFraction_21 rfl ?_
    refine W.lcmp hx hb dX2_ofFraction_22 ?_
    refine lv_if_ne (tgt := 30) hx hb dX2_ofFraction_23 (by decide) (fun c_23 => ?_) (fun c_23 => ?_)
    · -- 23 taken
      rw [lg_cmp_eq] at c_23
      refine lv_lload_n hx hb dX2_ofFraction_30 rfl (lv_at hl 2 rfl) ?_
      refine lv_lconst (v := 0) hx hb dX2_ofFraction_31 rfl ?_
      refine W.lcmp hx hb dX2_ofFraction_32 ?_
      refine lv_if_ge (tgt := 42) hx hb dX2_ofFraction_33 (by decide) (fun c_33 => ?_) (fun c_33 => ?_)
      · -- 33 taken
        rw [lg_cmp_ge] at c_33
        have c_33n := l_le_t c_33
        refine lv_lload hx hb dX2_ofFraction_42 (lv_at hl 0 rfl) ?_
        refine lv_lstore (lv' := [(7, .long (gdF (absL n) (absL d))), (5, .long (gdF (absL n) (absL d))), (0, .long n), (2, .long d), (4, .int (bI up))]) hx hb dX2_ofFraction_44 hl (by decide) rfl (fun ls hl => ?_)
        refine lv_iload hx hb dX2_ofFraction_46 (lv_at hl 4 rfl) ?_
        refine lv_if_eq (tgt := 58) hx hb dX2_ofFraction_48 (by decide) (fun c_48 => ?_) (fun c_48 => ?_)
        · -- 48 taken
          have c_48 := bI_0 c_48
          refine lv_lload_n hx hb dX2_ofFraction_58 rfl (lv_at hl 3 rfl) ?_
          refine lv_lload hx hb dX2_ofFraction_59 (lv_at hl 0 rfl) ?_
          refine lv_ldiv hx hb dX2_ofFraction_61 c_23 ?_
          exact qRl hx hb hr hlk hP hK hS dX2_ofFraction_62 (by first | rfl | simp [frF, c_16, c_23, c_33, c_33n, c_48]) (by first | rfl | simp [frF, c_16, c_23, c_33, c_33n, c_48])
        · -- 48 not taken
          have c_48 := bI_n c_48
          refine lv_lload_n hx hb dX2_ofFraction_51 rfl (lv_at hl 2 rfl) ?_
          refine lv_lload hx hb dX2_ofFraction_52 (lv_at hl 0 rfl) ?_
          refine lv_ldiv hx hb dX2_ofFraction_54 c_23 ?_
          refine lv_goto (tgt := 62) hx hb dX2_ofFraction_55 (by decide) ?_
          exact qRl hx hb hr hlk hP hK hS dX2_ofFraction_62 (by first | rfl | simp [frF, c_16, c_23, c_33, c_33n, c_48]) (by first | rfl | simp [frF, c_16, c_23, c_33, c_33n, c_48])
      · -- 33 not taken
        rw [lg_cmp_ge] at c_33
        have c_33n := l_le_f c_33
        refine lv_lload hx hb dX2_ofFraction_36 (lv_at hl 0 rfl) ?_
        refine lv_lneg hx hb dX2_ofFraction_38 ?_
        refine lv_goto (tgt := 44) hx hb dX2_ofFraction_39 (by decide) ?_
        refine lv_lstore (lv' := [(7, .long (-(gdF (absL n) (absL d)))), (5, .long (gdF (absL n) (absL d))), (0, .long n), (2, .long d), (4, .int (bI up))]) hx hb dX2_ofFraction_44 hl (by decide) rfl (fun ls hl => ?_)
        refine lv_iload hx hb dX2_ofFraction_46 (lv_at hl 4 rfl) ?_
        refine lv_if_eq (tgt := 58) hx hb dX2_ofFraction_48 (by decide) (fun c_48 => ?_) (fun c_48 => ?_)
        · -- 48 taken
          have c_48 := bI_0 c_48
          refine lv_lload_n hx hb dX2_ofFraction_58 rfl (lv_at hl 3 rfl) ?_
          refine lv_lload hx hb dX2_ofFraction_59 (lv_at hl 0 rfl) ?_
          refine lv_ldiv hx hb dX2_ofFraction_61 (neg0L c_23) ?_
          exact qRl hx hb hr hlk hP hK hS dX2_ofFraction_62 (by first | rfl | simp [frF, c_16, c_23, c_33, c_33n, c_48]) (by first | rfl | simp [frF, c_16, c_23, c_33, c_33n, c_48])
        · -- 48 not taken
          have c_48 := bI_n c_48
          refine lv_lload_n hx hb dX2_ofFraction_51 rfl (lv_at hl 2 rfl) ?_
          refine lv_lload hx hb dX2_ofFraction_52 (lv_at hl 0 rfl) ?_
          refine lv_ldiv hx hb dX2_ofFraction_54 (neg0L c_23) ?_
          refine lv_goto (tgt := 62) hx hb dX2_ofFraction_55 (by decide) ?_
          exact qRl hx hb hr hlk hP hK hS dX2_ofFraction_62 (by first | rfl | simp [frF, c_16, c_23, c_33, c_33n, c_48]) (by first | rfl | simp [frF, c_16, c_23, c_33, c_33n, c_48])
    · -- 23 not taken
      rw [lg_cmp_eq] at c_23
      refine lv_ldc2 (v := -9223372036854775808) hx hb hown (hts (.constantLong RX2 53 (-9223372036854775808)) (by decide +kernel)) dX2_ofFraction_26 ?_
      exact qRl hx hb hr hlk hP hK hS dX2_ofFraction_29 (by first | rfl | simp [frF, c_16, c_23]) (by first | rfl | simp [frF, c_16, c_23])
theorem w05 {w : Int32} {P : Int32 → Prop} (h : inR w 0 5 = true) (h0 : P 0) (h1 : P 1) (h2 : P 2) (h3 : P 3) (h4 : P 4) (h5 : P 5) : P w := by
  obtain ⟨k, hk, rfl⟩ := inR_nI (n := 5) rfl h
  rcases (show k = 0 ∨ k = 1 ∨ k = 2 ∨ k = 3 ∨ k = 4 ∨ k = 5 by omega) with rfl | rfl | rfl | rfl | rfl | rfl <;> assumption
theorem pick0 {w : Int32} (h : inR w 0 5 = true) : w - w / 2 * 2 = 0 → w / 2 = 0 → w = 0 := w05 (P := fun w => w - w / 2 * 2 = 0 → w / 2 = 0 → w = 0) h (by decide) (by decide) (by decide) (by decide) (by decide) (by decide)
theorem pick1 {w : Int32} (h : inR w 0 5 = true) : ¬ w - w / 2 * 2 = 0 → w / 2 = 0 → w = 1 := w05 (P := fun w => ¬ w - w / 2 * 2 = 0 → w / 2 = 0 → w = 1) h (by decide) (by decide) (by decide) (by decide) (by decide) (by decide)
theorem pick2 {w : Int32} (h : inR w 0 5 = true) : w - w / 2 * 2 = 0 → w / 2 = 1 → w = 2 := w05 (P := fun w => w - w / 2 * 2 = 0 → w / 2 = 1 → w = 2) h (by decide) (by decide) (by decide) (by decide) (by decide) (by decide)
theorem pick3 {w : Int32} (h : inR w 0 5 = true) : ¬ w - w / 2 * 2 = 0 → w / 2 = 1 → w = 3 := w05 (P := fun w => ¬ w - w / 2 * 2 = 0 → w / 2 = 1 → w = 3) h (by decide) (by decide) (by decide) (by decide) (by decide) (by decide)
theorem pick4 {w : Int32} (h : inR w 0 5 = true) : w - w / 2 * 2 = 0 → ¬ w / 2 = 0 → ¬ w / 2 = 1 → w = 4 := w05 (P := fun w => w - w / 2 * 2 = 0 → ¬ w / 2 = 0 → ¬ w / 2 = 1 → w = 4) h (by decide) (by decide) (by decide) (by decide) (by decide) (by decide)
theorem pick5 {w : Int32} (h : inR w 0 5 = true) : ¬ w - w / 2 * 2 = 0 → ¬ w / 2 = 0 → ¬ w / 2 = 1 → w = 5 := w05 (P := fun w => ¬ w - w / 2 * 2 = 0 → ¬ w / 2 = 0 → ¬ w / 2 = 1 → w = 5) h (by decide) (by decide) (by decide) (by decide) (by decide) (by decide)
set_option maxHeartbeats 4000000 in
set_option maxRecDepth 100000 in
theorem kX2_lineFitted (l : Launch) (g : qG) {ad : Nat → Nat} (z : zS) (hj : adInj 15 ad) {a b : Nat} (hab : a ≤ b) (hb6 : b < 60) (w : Int32) (hw : inR w 0 5 = true) : qMl l yX2_lineFitted wsX2_lineFitted 2 g (WX g ad) (adOf 15 ad) z [.ref (ad 9), .int (nI a), .int (nI b), .int w] (fitF z a (b + 1 - a) w) z := by
  refine qStart (cc := cX2_lineFitted) (maxL := 21) (ret := (some .long)) (plainFor_of_name (by decide)) rfl (Nat.le_of_ble_eq_true rfl) ?_
  intro p e s m args below meth c hx hb hml hown hts hr hlk hP hK ls hl
  have hl : lv_has ls 21 [(0, .ref (ad 9)), (1, .int (nI a)), (2, .int (nI b)), (3, .int w)] := hl
  have hS : va_S (adOf 15 ad) s.heap s.heap [] := va_S.rf
  have hin2 : ∀ w ∈ u_ws RX2 TX2 5, w ∈ wsX2_lineFitted := by decide +kernel
  refine lv_iload_n hx hb dX2_lineFitted_0 rfl (lv_at hl 2 rfl) ?_
  refine lv_iload_n hx hb dX2_lineFitted_1 rfl (lv_at hl 1 rfl) ?_
  refine lv_isub hx hb dX2_lineFitted_2 ?_
  refine lv_iconst (v := 1) hx hb dX2_lineFitted_3 rfl ?_
  refine lv_iadd hx hb dX2_lineFitted_4 ?_
  refine lv_i2l hx hb dX2_lineFitted_5 rfl ?_
  refine lv_topl (fun y6 e6 => ?_)
  obtain rfl := e6.trans (nlen hab hb6)
  refine lv_lstore (lv' := [(4, .long (lN (b + 1 - a))), (0, .ref (ad 9)), (1, .int (nI a)), (2, .int (nI b)), (3, .int w)]) hx hb dX2_lineFitted_6 hl (by decide) rfl (fun ls hl => ?_)
  refine lv_aload_n hx hb dX2_lineFitted_8 rfl (lv_at hl 1 rfl) ?_
  refine qGet (ci := 2) (v := .ref (ad 3)) (C := RX2) (T := TX2) (N := 5) hx hb hts hin2 hown hK hP 9 rfl rfl 1 (by decide) (hts (.fieldLink RX2 15 "PartCurves$Readings" "told" "[I") (by decide +kernel)) rfl dX2_lineFitted_9 ?_
  refine lv_iload_n hx hb dX2_lineFitted_12 rfl (lv_at hl 2 rfl) ?_
  refine lv_iload_n hx hb dX2_lineFitted_13 rfl (lv_at hl 3 rfl) ?_
  refine qSl (As := [.ref (ad 3), .int (nI a), .int (nI b)]) (rest := []) hx hb hml hown hts (kX2_sum_3 l g z hj hab hb6) gX2_lineFitted_X2_sum rfl 3 hdX2_sum rfl ⟨Nat.le_of_ble_eq_true rfl, Nat.le_of_ble_eq_true rfl⟩ ⟨Nat.zero_le _, Nat.zero_le _⟩ hK hP hS (fun _ h => h) hl.1 rfl (Nat.le_of_ble_eq_true rfl) dX2_lineFitted_14 (fun H locs hP hS => ?_)
  refine lv_lstore (lv' := [(6, .long (fX z a (b + 1 - a))), (4, .long (lN (b + 1 - a))), (0, .ref (ad 9)), (1, .int (nI a)), (2, .int (nI b)), (3, .int w)]) hx hb dX2_lineFitted_17 hl (by decide) rfl (fun ls hl => ?_)
  refine lv_aload_n hx hb dX2_lineFitted_19 rfl (lv_at hl 2 rfl) ?_
  refine qGet (ci := 2) (v := .ref (ad 4)) (C := RX2) (T := TX2) (N := 5) hx hb hts hin2 hown hK hP 9 rfl rfl 2 (by decide) (hts (.fieldLink RX2 18 "PartCurves$Readings" "flowed" "[I") (by decide +kernel)) rfl dX2_lineFitted_20 ?_
  refine lv_iload_n hx hb dX2_lineFitted_23 rfl (lv_at hl 3 rfl) ?_
  refine lv_iload_n hx hb dX2_lineFitted_24 rfl (lv_at hl 4 rfl) ?_
  refine qSl (As := [.ref (ad 4), .int (nI a), .int (nI b)]) (rest := []) hx hb hml hown hts (kX2_sum_4 l g z hj hab hb6) gX2_lineFitted_X2_sum rfl 3 hdX2_sum rfl ⟨Nat.le_of_ble_eq_true rfl, Nat.le_of_ble_eq_true rfl⟩ ⟨Nat.zero_le _, Nat.zero_le _⟩ hK hP hS (fun _ h => h) hl.1 rfl (Nat.le_of_ble_eq_true rfl) dX2_lineFitted_25 (fun H locs hP hS => ?_)
  refine lv_lstore (lv' := [(8, .long (fY z a (b + 1 - a))), (6, .long (fX z a (b + 1 - a))), (4, .long (lN (b + 1 - a))), (0, .ref (ad 9)), (1, .int (nI a)), (2, .int (nI b)), (3, .int w)]) hx hb dX2_lineFitted_28 hl (by decide) rfl (fun ls hl => ?_)
  refine lv_aload_n hx hb dX2_lineFitted_30 rfl (lv_at hl 3 rfl) ?_
  refine qGet (ci := 2) (v := .ref (ad 3)) (C := RX2) (T := TX2) (N := 5) hx hb hts hin2 hown hK hP 9 rfl rfl 1 (by decide) (hts (.fieldLink RX2 15 "PartCurves$Readings" "told" "[I") (by decide +kernel)) rfl dX2_lineFitted_31 ?_
  refine lv_aload_n hx hb dX2_lineFitted_34 rfl (lv_at hl 3 rfl) ?_
  refine qGet (ci := 2) (v := .ref (ad 4)) (C := RX2) (T := TX2) (N := 5) hx hb hts hin2 hown hK hP 9 rfl rfl 2 (by decide) (hts (.fieldLink RX2 18 "PartCurves$Readings" "flowed" "[I") (by decide +kernel)) rfl dX2_lineFitted_35 ?_
  refine lv_iload_n hx hb dX2_lineFitted_38 rfl (lv_at hl 4 rfl) ?_
  refine lv_iload_n hx hb dX2_lineFitted_39 rfl (lv_at hl 5 rfl) ?_
  refine qSl (As := [.ref (ad 3), .ref (ad 4), .int (nI a), .int (nI b)]) (rest := []) hx hb hml hown hts (kX2_sop_4 l g z hj hab hb6) gX2_lineFitted_X2_sumOfProducts rfl 4 hdX2_sumOfProducts rfl ⟨Nat.le_of_ble_eq_true rfl, Nat.le_of_ble_eq_true rfl⟩ ⟨Nat.zero_le _, Nat.zero_le _⟩ hK hP hS (fun _ h => h) hl.1 rfl (Nat.le_of_ble_eq_true rfl) dX2_lineFitted_40 (fun H locs hP hS => ?_)
  refine lv_lstore (lv' := [(10, .long (fP z a (b + 1 - a))), (8, .long (fY z a (b + 1 - a))), (6, .long (fX z a (b + 1 - a))), (4, .long (lN (b + 1 - a))), (0, .ref (ad 9)), (1, .int (nI a)), (2, .int (nI b)), (3, .int w)]) hx hb dX2_lineFitted_43 hl (by decide) rfl (fun ls hl => ?_)
  refine lv_aload_n hx hb dX2_lineFitted_45 rfl (lv_at hl 4 rfl) ?_
  refine qGet (ci := 2) (v := .ref (ad 3)) (C := RX2) (T := TX2) (N := 5) hx hb hts hin2 hown hK hP 9 rfl rfl 1 (by decide) (hts (.fieldLink RX2 15 "PartCurves$Readings" "told" "[I") (by decide +kernel)) rfl dX2_lineFitted_46 ?_
  refine lv_aload_n hx hb dX2_lineFitted_49 rfl (lv_at hl 4 rfl) ?_
  refine qGet (ci := 2) (v := .ref (ad 3)) (C := RX2) (T := TX2) (N := 5) hx hb hts hin2 hown hK hP 9 rfl rfl 1 (by decide) (hts (.fieldLink RX2 15 "PartCurves$Readings" "told" "[I") (by decide +kernel)) rfl dX2_lineFitted_50 ?_
  refine lv_iload_n hx hb dX2_lineFitted_53 rfl (lv_at hl 5 rfl) ?_
  refine lv_iload_n hx hb dX2_lineFitted_54 rfl (lv_at hl 6 rfl) ?_
  refine qSl (As := [.ref (ad 3), .ref (ad 3), .int (nI a), .int (nI b)]) (rest := []) hx hb hml hown hts (kX2_sop_3 l g z hj hab hb6) gX2_lineFitted_X2_sumOfProducts rfl 4 hdX2_sumOfProducts rfl ⟨Nat.le_of_ble_eq_true rfl, Nat.le_of_ble_eq_true rfl⟩ ⟨Nat.zero_le _, Nat.zero_le _⟩ hK hP hS (fun _ h => h) hl.1 rfl (Nat.le_of_ble_eq_true rfl) dX2_lineFitted_55 (fun H locs hP hS => ?_)
  refine lv_lstore (lv' := [(12, .long (fQ z a (b + 1 - a))), (10, .long (fP z a (b + 1 - a))), (8, .long (fY z a (b + 1 - a))), (6, .long (fX z a (b + 1 - a))), (4, .long (lN (b + 1 - a))), (0, .ref (ad 9)), (1, .int (nI a)), (2, .int (nI b)), (3, .int w)]) hx hb dX2_lineFitted_58 hl (by decide) rfl (fun ls hl => ?_)
  refine lv_lload hx hb dX2_lineFitted_60 (lv_at hl 4 rfl) ?_
  refine lv_lload hx hb dX2_lineFitted_62 (lv_at hl 0 rfl) ?_
  refine lv_lmul hx hb dX2_lineFitted_64 ?_
  refine lv_lload hx hb dX2_lineFitted_65 (lv_at hl 3 rfl) ?_
  refine lv_lload hx hb dX2_lineFitted_67 (lv_at hl 3 rfl) ?_
  refine lv_lmul hx hb dX2_lineFitted_69 ?_
  refine lv_lsub hx hb dX2_lineFitted_70 ?_
  refine lv_lstore (lv' := [(14, .long (fD z a (b + 1 - a))), (12, .long (fQ z a (b + 1 - a))), (10, .long (fP z a (b + 1 - a))), (8, .long (fY z a (b + 1 - a))), (6, .long (fX z a (b + 1 - a))), (4, .long (lN (b + 1 - a))), (0, .ref (ad 9)), (1, .int (nI a)), (2, .int (nI b)), (3, .int w)]) hx hb dX2_lineFitted_71 hl (by decide) rfl (fun ls hl => ?_)
  refine lv_lload hx hb dX2_lineFitted_73 (lv_at hl 0 rfl) ?_
  refine lv_lconst (v := 0) hx hb dX2_lineFitted_75 rfl ?_
  refine W.lcmp hx hb dX2_lineFitted_76 ?_
  refine lv_if_ne (tgt := 84) hx hb dX2_lineFitted_77 (by decide) (fun c_77 => ?_) (fun c_77 => ?_)
  · -- 77 taken
    rw [lg_cmp_eq] at c_77
    refine lv_lload hx hb dX2_lineFitted_84 (lv_at hl 5 rfl) ?_
    refine lv_lload hx hb dX2_lineFitted_86 (lv_at hl 2 rfl) ?_
    refine lv_lmul hx hb dX2_lineFitted_88 ?_
    refine lv_lload hx hb dX2_lineFitted_89 (lv_at hl 4 rfl) ?_
    refine lv_lload hx hb dX2_lineFitted_91 (lv_at hl 3 rfl) ?_
    refine lv_lmul hx hb dX2_lineFitted_93 ?_
    refine lv_lsub hx hb dX2_lineFitted_94 ?_
    refine lv_lstore (lv' := [(16, .long (fS z a (b + 1 - a))), (14, .long (fD z a (b + 1 - a))), (12, .long (fQ z a (b + 1 - a))), (10, .long (fP z a (b + 1 - a))), (8, .long (fY z a (b + 1 - a))), (6, .long (fX z a (b + 1 - a))), (4, .long (lN (b + 1 - a))), (0, .ref (ad 9)), (1, .int (nI a)), (2, .int (nI b)), (3, .int w)]) hx hb dX2_lineFitted_95 hl (by decide) rfl (fun ls hl => ?_)
    refine lv_lload hx hb dX2_lineFitted_97 (lv_at hl 4 rfl) ?_
    refine lv_lload hx hb dX2_lineFitted_99 (lv_at hl 2 rfl) ?_
    refine lv_lmul hx hb dX2_lineFitted_101 ?_
    refine lv_lload hx hb dX2_lineFitted_102 (lv_at hl 5 rfl) ?_
    refine lv_lload hx hb dX2_lineFitted_104 (lv_at hl 3 rfl) ?_
    refine lv_lmul hx hb dX2_lineFitted_106 ?_
    refine lv_lsub hx hb dX2_lineFitted_107 ?_
    refine lv_lstore (lv' := [(18, .long (fB z a (b + 1 - a))), (16, .long (fS z a (b + 1 - a))), (14, .long (fD z a (b + 1 - a))), (12, .long (fQ z a (b + 1 - a))), (10, .long (fP z a (b + 1 - a))), (8, .long (fY z a (b + 1 - a))), (6, .long (fX z a (b + 1 - a))), (4, .long (lN (b + 1 - a))), (0, .ref (ad 9)), (1, .int (nI a)), (2, .int (nI b)), (3, .int w)]) hx hb dX2_lineFitted_108 hl (by decide) rfl (fun ls hl => ?_)
    refine lv_iload_n hx hb dX2_lineFitted_110 rfl (lv_at hl 11 rfl) ?_
    refine lv_iconst (v := 2) hx hb dX2_lineFitted_111 rfl ?_
    refine lv_irem hx hb dX2_lineFitted_112 (by decide) ?_
    refine lv_if_ne (tgt := 120) hx hb dX2_lineFitted_113 (by decide) (fun c_113 => ?_) (fun c_113 => ?_)
    · -- 113 taken
      refine lv_iconst (v := 0) hx hb dX2_lineFitted_120 rfl ?_
      refine lv_istore (lv' := [(20, .int 0), (18, .long (fB z a (b + 1 - a))), (16, .long (fS z a (b + 1 - a))), (14, .long (fD z a (b + 1 - a))), (12, .long (fQ z a (b + 1 - a))), (10, .long (fP z a (b + 1 - a))), (8, .long (fY z a (b + 1 - a))), (6, .long (fX z a (b + 1 - a))), (4, .long (lN (b + 1 - a))), (0, .ref (ad 9)), (1, .int (nI a)), (2, .int (nI b)), (3, .int w)]) hx hb dX2_lineFitted_121 hl (by decide) rfl (fun ls hl => ?_)
      refine lv_iload_n hx hb dX2_lineFitted_123 rfl (lv_at hl 12 rfl) ?_
      refine lv_iconst (v := 2) hx hb dX2_lineFitted_124 rfl ?_
      refine lv_idiv hx hb dX2_lineFitted_125 (by decide) ?_
      by_cases c_126_is0 : (w / 2) = 0
      · -- 126 is 0
        refine lv_lookup (tgt := 152) hx hb dX2_lineFitted_126 (by decide) (by rw [c_126_is0] <;> rfl) (by decide) ?_
        refine lv_lload hx hb dX2_lineFitted_152 (lv_at hl 2 rfl) ?_
        refine lv_lload hx hb dX2_lineFitted_154 (lv_at hl 3 rfl) ?_
        refine lv_iload hx hb dX2_lineFitted_156 (lv_at hl 0 rfl) ?_
        refine qSl (As := [.long (fS z a (b + 1 - a)), .long (fD z a (b + 1 - a)), .int 0]) (rest := []) hx hb hml hown hts (kX2_ofFraction l g (Wd := (WX g ad)) (A := (adOf 15 ad)) z (fS z a (b + 1 - a)) (fD z a (b + 1 - a)) false) gX2_lineFitted_X2_ofFraction rfl 3 hdX2_ofFraction rfl ⟨Nat.le_of_ble_eq_true rfl, Nat.le_of_ble_eq_true rfl⟩ ⟨Nat.zero_le _, Nat.zero_le _⟩ hK hP hS (fun _ h => h) hl.1 rfl (Nat.le_of_ble_eq_true rfl) dX2_lineFitted_158 (fun H locs hP hS => ?_)
        exact qRl hx hb hr hlk hP hK hS dX2_lineFitted_161 (by obtain rfl := pick1 hw c_113 c_126_is0; simp [fitF, c_77]) rfl
      by_cases c_126_is1 : (w / 2) = 1
      · -- 126 is 1
        refine lv_lookup (tgt := 162) hx hb dX2_lineFitted_126 (by decide) (by rw [c_126_is1] <;> rfl) (by decide) ?_
        refine lv_lload hx hb dX2_lineFitted_162 (lv_at hl 1 rfl) ?_
        refine lv_lload hx hb dX2_lineFitted_164 (lv_at hl 3 rfl) ?_
        refine lv_iload hx hb dX2_lineFitted_166 (lv_at hl 0 rfl) ?_
        refine qSl (As := [.long (fB z a (b + 1 - a)), .long (fD z a (b + 1 - a)), .int 0]) (rest := []) hx hb hml hown hts (kX2_ofFraction l g (Wd := (WX g ad)) (A := (adOf 15 ad)) z (fB z a (b + 1 - a)) (fD z a (b + 1 - a)) false) gX2_lineFitted_X2_ofFraction rfl 3 hdX2_ofFraction rfl ⟨Nat.le_of_ble_eq_true rfl, Nat.le_of_ble_eq_true rfl⟩ ⟨Nat.zero_le _, Nat.zero_le _⟩ hK hP hS (fun _ h => h) hl.1 rfl (Nat.le_of_ble_eq_true rfl) dX2_lineFitted_168 (fun H locs hP hS => ?_)
        exact qRl hx hb hr hlk hP hK hS dX2_lineFitted_171 (by obtain rfl := pick3 hw c_113 c_126_is1; simp [fitF, c_77]) rfl
      refine lv_lookup (off := 46) (tgt := 172) hx hb dX2_lineFitted_126 (by decide) (by have h0 := ne_toInt c_126_is0 (k := 0) rfl; have h1 := ne_toInt c_126_is1 (k := 1) rfl; show (if (0 : Int) = ((w / 2)).toInt then (26 : Int) else if (1 : Int) = ((w / 2)).toInt then (36 : Int) else (46 : Int)) = 46; rw [if_neg (fun q => h0 q.symm), if_neg (fun q => h1 q.symm)]) (by decide) ?_
      refine lv_lload hx hb dX2_lineFitted_172 (lv_at hl 1 rfl) ?_
      refine lv_lneg hx hb dX2_lineFitted_174 ?_
      refine lv_lload hx hb dX2_lineFitted_175 (lv_at hl 2 rfl) ?_
      refine lv_iload hx hb dX2_lineFitted_177 (lv_at hl 0 rfl) ?_
      refine qSl (As := [.long (-(fB z a (b + 1 - a))), .long (fS z a (b + 1 - a)), .int 0]) (rest := []) hx hb hml hown hts (kX2_ofFraction l g (Wd := (WX g ad)) (A := (adOf 15 ad)) z (-(fB z a (b + 1 - a))) (fS z a (b + 1 - a)) false) gX2_lineFitted_X2_ofFraction rfl 3 hdX2_ofFraction rfl ⟨Nat.le_of_ble_eq_true rfl, Nat.le_of_ble_eq_true rfl⟩ ⟨Nat.zero_le _, Nat.zero_le _⟩ hK hP hS (fun _ h => h) hl.1 rfl (Nat.le_of_ble_eq_true rfl) dX2_lineFitted_179 (fun H locs hP hS => ?_)
      exact qRl hx hb hr hlk hP hK hS dX2_lineFitted_182 (by obtain rfl := pick5 hw c_113 c_126_is0 c_126_is1; simp [fitF, c_77]) rfl
    · -- 113 not taken
      refine lv_iconst (v := 1) hx hb dX2_lineFitted_116 rfl ?_
      refine lv_goto (tgt := 121) hx hb dX2_lineFitted_117 (by decide) ?_
      refine lv_istore (lv' := [(20, .int 1), (18, .long (fB z a (b + 1 - a))), (16, .long (fS z a (b + 1 - a))), (14, .long (fD z a (b + 1 - a))), (12, .long (fQ z a (b + 1 - a))), (10, .long (fP z a (b + 1 - a))), (8, .long (fY z a (b + 1 - a))), (6, .long (fX z a (b + 1 - a))), (4, .long (lN (b + 1 - a))), (0, .ref (ad 9)), (1, .int (nI a)), (2, .int (nI b)), (3, .int w)]) hx hb dX2_lineFitted_121 hl (by decide) rfl (fun ls hl => ?_)
      refine lv_iload_n hx hb dX2_lineFitted_123 rfl (lv_at hl 12 rfl) ?_
      refine lv_iconst (v := 2) hx hb dX2_lineFitted_124 rfl ?_
      refine lv_idiv hx hb dX2_lineFitted_125 (by decide) ?_
      by_cases c_126_is0 : (w / 2) = 0
      · -- 126 is 0
        refine lv_lookup (tgt := 152) hx hb dX2_lineFitted_126 (by decide) (by rw [c_126_is0] <;> rfl) (by decide) ?_
        refine lv_lload hx hb dX2_lineFitted_152 (lv_at hl 2 rfl) ?_
        refine lv_lload hx hb dX2_lineFitted_154 (lv_at hl 3 rfl) ?_
        refine lv_iload hx hb dX2_lineFitted_156 (lv_at hl 0 rfl) ?_
        refine qSl (As := [.long (fS z a (b + 1 - a)), .long (fD z a (b + 1 - a)), .int 1]) (rest := []) hx hb hml hown hts (kX2_ofFraction l g (Wd := (WX g ad)) (A := (adOf 15 ad)) z (fS z a (b + 1 - a)) (fD z a (b + 1 - a)) true) gX2_lineFitted_X2_ofFraction rfl 3 hdX2_ofFraction rfl ⟨Nat.le_of_ble_eq_true rfl, Nat.le_of_ble_eq_true rfl⟩ ⟨Nat.zero_le _, Nat.zero_le _⟩ hK hP hS (fun _ h => h) hl.1 rfl (Nat.le_of_ble_eq_true rfl) dX2_lineFitted_158 (fun H locs hP hS => ?_)
        exact qRl hx hb hr hlk hP hK hS dX2_lineFitted_161 (by obtain rfl := pick0 hw c_113 c_126_is0; simp [fitF, c_77]) rfl
      by_cases c_126_is1 : (w / 2) = 1
      · -- 126 is 1
        refine lv_lookup (tgt := 162) hx hb dX2_lineFitted_126 (by decide) (by rw [c_126_is1] <;> rfl) (by decide) ?_
        refine lv_lload hx hb dX2_lineFitted_162 (lv_at hl 1 rfl) ?_
        refine lv_lload hx hb dX2_lineFitted_164 (lv_at hl 3 rfl) ?_
        refine lv_iload hx hb dX2_lineFitted_166 (lv_at hl 0 rfl) ?_
        refine qSl (As := [.long (fB z a (b + 1 - a)), .long (fD z a (b + 1 - a)), .int 1]) (rest := []) hx hb hml hown hts (kX2_ofFraction l g (Wd := (WX g ad)) (A := (adOf 15 ad)) z (fB z a (b + 1 - a)) (fD z a (b + 1 - a)) true) gX2_lineFitted_X2_ofFraction rfl 3 hdX2_ofFraction rfl ⟨Nat.le_of_ble_eq_true rfl, Nat.le_of_ble_eq_true rfl⟩ ⟨Nat.zero_le _, Nat.zero_le _⟩ hK hP hS (fun _ h => h) hl.1 rfl (Nat.le_of_ble_eq_true rfl) dX2_lineFitted_168 (fun H locs hP hS => ?_)
        exact qRl hx hb hr hlk hP hK hS dX2_lineFitted_171 (by obtain rfl := pick2 hw c_113 c_126_is1; simp [fitF, c_77]) rfl
      refine lv_lookup (off := 46) (tgt := 172) hx hb dX2_lineFitted_126 (by decide) (by have h0 := ne_toInt c_126_is0 (k := 0) rfl; have h1 := ne_toInt c_126_is1 (k := 1) rfl; show (if (0 : Int) = ((w / 2)).toInt then (26 : Int) else if (1 : Int) = ((w / 2)).toInt then (36 : Int) else (46 : Int)) = 46; rw [if_neg (fun q => h0 q.symm), if_neg (fun q => h1 q.symm)]) (by decide) ?_
      refine lv_lload hx hb dX2_lineFitted_172 (lv_at hl 1 rfl) ?_
      refine lv_lneg hx hb dX2_lineFitted_174 ?_
      refine lv_lload hx hb dX2_lineFitted_175 (lv_at hl 2 rfl) ?_
      refine lv_iload hx hb dX2_lineFitted_177 (lv_at hl 0 rfl) ?_
      refine qSl (As := [.long (-(fB z a (b + 1 - a))), .long (fS z a (b + 1 - a)), .int 1]) (rest := []) hx hb hml hown hts (kX2_ofFraction l g (Wd := (WX g ad)) (A := (adOf 15 ad)) z (-(fB z a (b + 1 - a))) (fS z a (b + 1 - a)) true) gX2_lineFitted_X2_ofFraction rfl 3 hdX2_ofFraction rfl ⟨Nat.le_of_ble_eq_true rfl, Nat.le_of_ble_eq_true rfl⟩ ⟨Nat.zero_le _, Nat.zero_le _⟩ hK hP hS (fun _ h => h) hl.1 rfl (Nat.le_of_ble_eq_true rfl) dX2_lineFitted_179 (fun H locs hP hS => ?_)
      exact qRl hx hb hr hlk hP hK hS dX2_lineFitted_182 (by obtain rfl := pick4 hw c_113 c_126_is0 c_126_is1; simp [fitF, c_77]) rfl
  · -- 77 not taken
    rw [lg_cmp_eq] at c_77
    refine lv_ldc2 (v := -9223372036854775808) hx hb hown (hts (.constantLong RX2 53 (-9223372036854775808)) (by decide +kernel)) dX2_lineFitted_80 ?_
    exact qRl hx hb hr hlk hP hK hS dX2_lineFitted_83 (by simp [fitF, c_77]) rfl
set_option maxHeartbeats 4000000 in
set_option maxRecDepth 100000 in
theorem kX2_kneePoint (l : Launch) (g : qG) {ad : Nat → Nat} (z : zS) (hj : adInj 15 ad) {a b : Nat} (hab : a ≤ b) (hb6 : b < 60) : qMi l yX2_kneePoint wsX2_kneePoint 1 g (WX g ad) (adOf 15 ad) z [.ref (ad 9), .int (nI a), .int (nI b)] (knF z a b) z := by
  refine qStart (cc := cX2_kneePoint) (maxL := 13) (ret := (some .int)) (plainFor_of_name (by decide)) rfl (Nat.le_of_ble_eq_true rfl) ?_
  intro p e s m args below meth c hx hb hml hown hts hr hlk hP hK ls hl
  have hl : lv_has ls 13 [(0, .ref (ad 9)), (1, .int (nI a)), (2, .int (nI b))] := hl
  have hS : va_S (adOf 15 ad) s.heap s.heap [] := va_S.rf
  have hin2 : ∀ w ∈ u_ws RX2 TX2 5, w ∈ wsX2_kneePoint := by decide +kernel
  have loop : ∀ (k : Nat) (j : Nat) (pt : Int32) (far : Int64), j + k = b + 1 → knR z a b k j pt far = knF z a b → ∀ (H : Heap) (locs : List Loc), va_P g.1 vwCl ((WX g ad) z) H → va_S (adOf 15 ad) s.heap H locs → ∀ ls : Array Slot, lv_has ls 13 [(0, .ref (ad 9)), (1, .int (nI a)), (2, .int (nI b)), (3, .int pt), (4, .long far), (6, .long ((z 3 b - z 3 a).toInt64)), (8, .long ((z 4 b - z 4 a).toInt64)), (10, .int (nI j))] → W p l e (rmL 1) s m args below meth c H locs 0 0 (MQ below (va_Qi (fun q9 u9 => q9 = knF z a b ∧ u9 = z) (qU g (WX g ad)) (adOf 15 ad)) args s 0 0 (adOf 15 ad)) (F0 m 41 ls []) := by
    intro k
    induction k with
    | zero =>
      intro j pt far hj2 hz H locs hP hS ls hl
      refine lv_iload hx hb dX2_kneePoint_41 (lv_at hl 7 rfl) ?_
      refine lv_iload_n hx hb dX2_kneePoint_43 rfl (lv_at hl 2 rfl) ?_
      refine lv_icmp_gt (tgt := 110) hx hb dX2_kneePoint_44 (by decide) (fun c_44 => ?_) (fun c_44 => ?_)
      · -- 44 taken
        have c_44n := i_lt_t c_44
        refine lv_iload_n hx hb dX2_kneePoint_110 rfl (lv_at hl 3 rfl) ?_
        exact qRi hx hb hr hlk hP hK hS dX2_kneePoint_111 hz rfl
      · -- 44 not taken
        have c_44n := i_lt_f c_44
        exact absurd (nI_gtf (by omega) (by omega) c_44) (by omega)
    | succ k ih =>
      intro j pt far hj2 hz H locs hP hS ls hl
      refine lv_iload hx hb dX2_kneePoint_41 (lv_at hl 7 rfl) ?_
      refine lv_iload_n hx hb dX2_kneePoint_43 rfl (lv_at hl 2 rfl) ?_
      refine lv_icmp_gt (tgt := 110) hx hb dX2_kneePoint_44 (by decide) (fun c_44 => ?_) (fun c_44 => ?_)
      · -- 44 taken
        have c_44n := i_lt_t c_44
        exact absurd (nI_gtt (by omega) (by omega) c_44) (by omega)
      · -- 44 not taken
        have c_44n := i_lt_f c_44
        refine lv_aload_n hx hb dX2_kneePoint_47 rfl (lv_at hl 0 rfl) ?_
        refine qGet (ci := 2) (v := .ref (ad 3)) (C := RX2) (T := TX2) (N := 5) hx hb hts hin2 hown hK hP 9 rfl rfl 1 (by decide) (hts (.fieldLink RX2 15 "PartCurves$Readings" "told" "[I") (by decide +kernel)) rfl dX2_kneePoint_48 ?_
        refine lv_iload hx hb dX2_kneePoint_51 (lv_at hl 7 rfl) ?_
        refine qIld (v := (z 3 j)) hx hb hK hP 3 rfl (vp_in_nI (n := j) (N := 60) (by omega) (by decide)) (congrArg (z 3) (nI_e j (by omega))) dX2_kneePoint_53 ?_
        refine lv_aload_n hx hb dX2_kneePoint_54 rfl (lv_at hl 0 rfl) ?_
        refine qGet (ci := 2) (v := .ref (ad 3)) (C := RX2) (T := TX2) (N := 5) hx hb hts hin2 hown hK hP 9 rfl rfl 1 (by decide) (hts (.fieldLink RX2 15 "PartCurves$Readings" "told" "[I") (by decide +kernel)) rfl dX2_kneePoint_55 ?_
        refine lv_iload_n hx hb dX2_kneePoint_58 rfl (lv_at hl 1 rfl) ?_
        refine qIld (v := (z 3 a)) hx hb hK hP 3 rfl (vp_in_nI (n := a) (N := 60) (by omega) (by decide)) (congrArg (z 3) (nI_e a (by omega))) dX2_kneePoint_59 ?_
        refine lv_isub hx hb dX2_kneePoint_60 ?_
        refine lv_i2l hx hb dX2_kneePoint_61 rfl ?_
        refine lv_lload hx hb dX2_kneePoint_62 (lv_at hl 6 rfl) ?_
        refine lv_lmul hx hb dX2_kneePoint_64 ?_
        refine lv_aload_n hx hb dX2_kneePoint_65 rfl (lv_at hl 0 rfl) ?_
        refine qGet (ci := 2) (v := .ref (ad 4)) (C := RX2) (T := TX2) (N := 5) hx hb hts hin2 hown hK hP 9 rfl rfl 2 (by decide) (hts (.fieldLink RX2 18 "PartCurves$Readings" "flowed" "[I") (by decide +kernel)) rfl dX2_kneePoint_66 ?_
        refine lv_iload hx hb dX2_kneePoint_69 (lv_at hl 7 rfl) ?_
        refine qIld (v := (z 4 j)) hx hb hK hP 4 rfl (vp_in_nI (n := j) (N := 60) (by omega) (by decide)) (congrArg (z 4) (nI_e j (by omega))) dX2_kneePoint_71 ?_
        refine lv_aload_n hx hb dX2_kneePoint_72 rfl (lv_at hl 0 rfl) ?_
        refine qGet (ci := 2) (v := .ref (ad 4)) (C := RX2) (T := TX2) (N := 5) hx hb hts hin2 hown hK hP 9 rfl rfl 2 (by decide) (hts (.fieldLink RX2 18 "PartCurves$Readings" "flowed" "[I") (by decide +kernel)) rfl dX2_kneePoint_73 ?_
        refine lv_iload_n hx hb dX2_kneePoint_76 rfl (lv_at hl 1 rfl) ?_
        refine qIld (v := (z 4 a)) hx hb hK hP 4 rfl (vp_in_nI (n := a) (N := 60) (by omega) (by decide)) (congrArg (z 4) (nI_e a (by omega))) dX2_kneePoint_77 ?_
        refine lv_isub hx hb dX2_kneePoint_78 ?_
        refine lv_i2l hx hb dX2_kneePoint_79 rfl ?_
        refine lv_lload hx hb dX2_kneePoint_80 (lv_at hl 5 rfl) ?_
        refine lv_lmul hx hb dX2_kneePoint_82 ?_
        refine lv_lsub hx hb dX2_kneePoint_83 ?_
        refine q_abs_long hx hb (hml.trans hl.1.symm) hown (hts (.methodLink RX2 32 Lib.MathLoose.abs_long.x) (by decide +kernel)) (hts (.static Lib.MathLoose.abs_long.x) (by decide +kernel)) (hts (.initialized "java/lang/Math") (by decide +kernel)) (hts (.code Lib.MathLoose.abs_long.x Lib.MathLoose.abs_long.code 2 (some .long)) (by decide +kernel)) (Nat.le_of_ble_eq_true rfl) (Nat.le_of_ble_eq_true rfl) (Nat.zero_le _) (Nat.zero_le _) dX2_kneePoint_84 ?_
        refine lv_lstore (lv' := [(11, .long (offF z j a b)), (0, .ref (ad 9)), (1, .int (nI a)), (2, .int (nI b)), (3, .int pt), (4, .long far), (6, .long ((z 3 b - z 3 a).toInt64)), (8, .long ((z 4 b - z 4 a).toInt64)), (10, .int (nI j))]) hx hb dX2_kneePoint_87 hl (by decide) rfl (fun ls hl => ?_)
        refine lv_lload hx hb dX2_kneePoint_89 (lv_at hl 0 rfl) ?_
        refine lv_lload hx hb dX2_kneePoint_91 (lv_at hl 5 rfl) ?_
        refine W.lcmp hx hb dX2_kneePoint_93 ?_
        refine lv_if_le (tgt := 104) hx hb dX2_kneePoint_94 (by decide) (fun c_94 => ?_) (fun c_94 => ?_)
        · -- 94 taken
          rw [lg_cmp_le] at c_94
          have c_94n := l_le_t c_94
          refine lv_iinc (v := nI (j + 1)) (lv' := [(10, .int (nI (j + 1))), (11, .long (offF z j a b)), (0, .ref (ad 9)), (1, .int (nI a)), (2, .int (nI b)), (3, .int pt), (4, .long far), (6, .long ((z 3 b - z 3 a).toInt64)), (8, .long ((z 4 b - z 4 a).toInt64))]) hx hb dX2_kneePoint_104 hl (k := 8) rfl (nI_1 j) (by decide) rfl (fun ls hl => ?_)
          refine lv_goto (tgt := 41) hx hb dX2_kneePoint_107 (by decide) ?_
          exact ih (j + 1) _ _ (by omega) (by rw [← hz]; simp [knR, c_44, c_44n, c_94, c_94n]) _ _ hP hS ls (lv_sub hl [2, 3, 4, 5, 6, 7, 8, 0] rfl)
        · -- 94 not taken
          rw [lg_cmp_le] at c_94
          have c_94n := l_le_f c_94
          refine lv_lload hx hb dX2_kneePoint_97 (lv_at hl 0 rfl) ?_
          refine lv_lstore (lv' := [(4, .long (offF z j a b)), (11, .long (offF z j a b)), (0, .ref (ad 9)), (1, .int (nI a)), (2, .int (nI b)), (3, .int pt), (6, .long ((z 3 b - z 3 a).toInt64)), (8, .long ((z 4 b - z 4 a).toInt64)), (10, .int (nI j))]) hx hb dX2_kneePoint_99 hl (by decide) rfl (fun ls hl => ?_)
          refine lv_iload hx hb dX2_kneePoint_101 (lv_at hl 8 rfl) ?_
          refine lv_istore_n (lv' := [(3, .int (nI j)), (4, .long (offF z j a b)), (11, .long (offF z j a b)), (0, .ref (ad 9)), (1, .int (nI a)), (2, .int (nI b)), (6, .long ((z 3 b - z 3 a).toInt64)), (8, .long ((z 4 b - z 4 a).toInt64)), (10, .int (nI j))]) hx hb dX2_kneePoint_103 rfl hl (by decide) rfl (fun ls hl => ?_)
          refine lv_iinc (v := nI (j + 1)) (lv' := [(10, .int (nI (j + 1))), (3, .int (nI j)), (4, .long (offF z j a b)), (11, .long (offF z j a b)), (0, .ref (ad 9)), (1, .int (nI a)), (2, .int (nI b)), (6, .long ((z 3 b - z 3 a).toInt64)), (8, .long ((z 4 b - z 4 a).toInt64))]) hx hb dX2_kneePoint_104 hl (k := 8) rfl (nI_1 j) (by decide) rfl (fun ls hl => ?_)
          refine lv_goto (tgt := 41) hx hb dX2_kneePoint_107 (by decide) ?_
          exact ih (j + 1) _ _ (by omega) (by rw [← hz]; simp [knR, c_44, c_44n, c_94, c_94n]) _ _ hP hS ls (lv_sub hl [4, 5, 6, 1, 2, 7, 8, 0] rfl)
  refine lv_bipush (v := -9) hx hb dX2_kneePoint_0 (by decide) ?_
  refine lv_istore_n (lv' := [(3, .int (-9)), (0, .ref (ad 9)), (1, .int (nI a)), (2, .int (nI b))]) hx hb dX2_kneePoint_2 rfl hl (by decide) rfl (fun ls hl => ?_)
  refine lv_lconst (v := 0) hx hb dX2_kneePoint_3 rfl ?_
  refine lv_lstore (lv' := [(4, .long 0), (3, .int (-9)), (0, .ref (ad 9)), (1, .int (nI a)), (2, .int (nI b))]) hx hb dX2_kneePoint_4 hl (by decide) rfl (fun ls hl => ?_)
  refine lv_aload_n hx hb dX2_kneePoint_6 rfl (lv_at hl 2 rfl) ?_
  refine qGet (ci := 2) (v := .ref (ad 3)) (C := RX2) (T := TX2) (N := 5) hx hb hts hin2 hown hK hP 9 rfl rfl 1 (by decide) (hts (.fieldLink RX2 15 "PartCurves$Readings" "told" "[I") (by decide +kernel)) rfl dX2_kneePoint_7 ?_
  refine lv_iload_n hx hb dX2_kneePoint_10 rfl (lv_at hl 4 rfl) ?_
  refine qIld (v := (z 3 b)) hx hb hK hP 3 rfl (vp_in_nI (n := b) (N := 60) (by omega) (by decide)) (congrArg (z 3) (nI_e b (by omega))) dX2_kneePoint_11 ?_
  refine lv_aload_n hx hb dX2_kneePoint_12 rfl (lv_at hl 2 rfl) ?_
  refine qGet (ci := 2) (v := .ref (ad 3)) (C := RX2) (T := TX2) (N := 5) hx hb hts hin2 hown hK hP 9 rfl rfl 1 (by decide) (hts (.fieldLink RX2 15 "PartCurves$Readings" "told" "[I") (by decide +kernel)) rfl dX2_kneePoint_13 ?_
  refine lv_iload_n hx hb dX2_kneePoint_16 rfl (lv_at hl 3 rfl) ?_
  refine qIld (v := (z 3 a)) hx hb hK hP 3 rfl (vp_in_nI (n := a) (N := 60) (by omega) (by decide)) (congrArg (z 3) (nI_e a (by omega))) dX2_kneePoint_17 ?_
  refine lv_isub hx hb dX2_kneePoint_18 ?_
  refine lv_i2l hx hb dX2_kneePoint_19 rfl ?_
  refine lv_lstore (lv' := [(6, .long (((z 3 b) - (z 3 a)).toInt64)), (4, .long 0), (3, .int (-9)), (0, .ref (ad 9)), (1, .int (nI a)), (2, .int (nI b))]) hx hb dX2_kneePoint_20 hl (by decide) rfl (fun ls hl => ?_)
  refine lv_aload_n hx hb dX2_kneePoint_22 rfl (lv_at hl 3 rfl) ?_
  refine qGet (ci := 2) (v := .ref (ad 4)) (C := RX2) (T := TX2) (N := 5) hx hb hts hin2 hown hK hP 9 rfl rfl 2 (by decide) (hts (.fieldLink RX2 18 "PartCurves$Readings" "flowed" "[I") (by decide +kernel)) rfl dX2_kneePoint_23 ?_
  refine lv_iload_n hx hb dX2_kneePoint_26 rfl (lv_at hl 5 rfl) ?_
  refine qIld (v := (z 4 b)) hx hb hK hP 4 rfl (vp_in_nI (n := b) (N := 60) (by omega) (by decide)) (congrArg (z 4) (nI_e b (by omega))) dX2_kneePoint_27 ?_
  refine lv_aload_n hx hb dX2_kneePoint_28 rfl (lv_at hl 3 rfl) ?_
  refine qGet (ci := 2) (v := .ref (ad 4)) (C := RX2) (T := TX2) (N := 5) hx hb hts hin2 hown hK hP 9 rfl rfl 2 (by decide) (hts (.fieldLink RX2 18 "PartCurves$Readings" "flowed" "[I") (by decide +kernel)) rfl dX2_kneePoint_29 ?_
  refine lv_iload_n hx hb dX2_kneePoint_32 rfl (lv_at hl 4 rfl) ?_
  refine qIld (v := (z 4 a)) hx hb hK hP 4 rfl (vp_in_nI (n := a) (N := 60) (by omega) (by decide)) (congrArg (z 4) (nI_e a (by omega))) dX2_kneePoint_33 ?_
  refine lv_isub hx hb dX2_kneePoint_34 ?_
  refine lv_i2l hx hb dX2_kneePoint_35 rfl ?_
  refine lv_lstore (lv' := [(8, .long (((z 4 b) - (z 4 a)).toInt64)), (6, .long (((z 3 b) - (z 3 a)).toInt64)), (4, .long 0), (3, .int (-9)), (0, .ref (ad 9)), (1, .int (nI a)), (2, .int (nI b))]) hx hb dX2_kneePoint_36 hl (by decide) rfl (fun ls hl => ?_)
  refine lv_iload_n hx hb dX2_kneePoint_38 rfl (lv_at hl 5 rfl) ?_
  refine lv_istore (lv' := [(10, .int (nI a)), (8, .long (((z 4 b) - (z 4 a)).toInt64)), (6, .long (((z 3 b) - (z 3 a)).toInt64)), (4, .long 0), (3, .int (-9)), (0, .ref (ad 9)), (1, .int (nI a)), (2, .int (nI b))]) hx hb dX2_kneePoint_39 hl (by decide) rfl (fun ls hl => ?_)
  exact loop (b + 1 - a) a (-9) 0 (by omega) rfl _ _ hP hS ls (lv_sub hl [5, 6, 7, 4, 3, 2, 1, 0] rfl)
