theorem neL {x : Int64} (h : ¬ x = 0) : ¬ -x = 0 := neg0L h
theorem fitM0 {z : zS} {a n : Nat} {w : Int32} (hw : inR w 0 5 = true) (hD : ¬ fD z a n = 0) (h : ¬ 2 ≤ w) : (w = 0 ∨ w = 1) ∧ frF (fS z a n) (fD z a n) (decide (w = 0)) = fitF z a n w := by
  refine w05 (P := fun w => ¬ 2 ≤ w → (w = 0 ∨ w = 1) ∧ frF (fS z a n) (fD z a n) (decide (w = 0)) = fitF z a n w) hw ?_ ?_ ?_ ?_ ?_ ?_ h
  · intro _; exact ⟨Or.inl rfl, by simp [fitF, hD]⟩
  · intro _; exact ⟨Or.inr rfl, by simp [fitF, hD]⟩
  · intro q; exact absurd (by decide) q
  · intro q; exact absurd (by decide) q
  · intro q; exact absurd (by decide) q
  · intro q; exact absurd (by decide) q
theorem fitM1 {z : zS} {a n : Nat} {w : Int32} (hw : inR w 0 5 = true) (hD : ¬ fD z a n = 0) (h : 2 ≤ w) (h4 : ¬ 4 ≤ w) : (w - 2 = 0 ∨ w - 2 = 1) ∧ frF (fB z a n) (fD z a n) (decide (w - 2 = 0)) = fitF z a n w := by
  refine w05 (P := fun w => 2 ≤ w → ¬ 4 ≤ w → (w - 2 = 0 ∨ w - 2 = 1) ∧ frF (fB z a n) (fD z a n) (decide (w - 2 = 0)) = fitF z a n w) hw ?_ ?_ ?_ ?_ ?_ ?_ h h4
  · intro q; exact absurd q (by decide)
  · intro q; exact absurd q (by decide)
  · intro _ _; exact ⟨Or.inl rfl, by simp [fitF, hD]⟩
  · intro _ _; exact ⟨Or.inr rfl, by simp [fitF, hD]⟩
  · intro _ q; exact absurd (by decide) q
  · intro _ q; exact absurd (by decide) q
theorem fitM2 {z : zS} {a n : Nat} {w : Int32} (hw : inR w 0 5 = true) (hD : ¬ fD z a n = 0) (h4 : 4 ≤ w) : (w - 4 = 0 ∨ w - 4 = 1) ∧ frF (-(fB z a n)) (fS z a n) (decide (w - 4 = 0)) = fitF z a n w := by
  refine w05 (P := fun w => 4 ≤ w → (w - 4 = 0 ∨ w - 4 = 1) ∧ frF (-(fB z a n)) (fS z a n) (decide (w - 4 = 0)) = fitF z a n w) hw ?_ ?_ ?_ ?_ ?_ ?_ h4
  · intro q; exact absurd q (by decide)
  · intro q; exact absurd q (by decide)
  · intro q; exact absurd q (by decide)
  · intro q; exact absurd q (by decide)
  · intro _; exact ⟨Or.inl rfl, by simp [fitF, hD]⟩
  · intro _; exact ⟨Or.inr rfl, by simp [fitF, hD]⟩
theorem fitM3 {z : zS} {a n : Nat} {w : Int32} (hD : fD z a n = 0) : (-9223372036854775808 : Int64) = fitF z a n w := by
  unfold fitF; rw [if_pos hD]
theorem fitM4 {z : zS} {a n : Nat} {w : Int32} (hw : inR w 0 5 = true) (h3 : ¬ w ≤ 3) (hS : fS z a n = 0) : (-9223372036854775808 : Int64) = fitF z a n w := by
  by_cases hD : fD z a n = 0
  · exact fitM3 hD
  · refine w05 (P := fun w => ¬ w ≤ 3 → (-9223372036854775808 : Int64) = fitF z a n w) hw ?_ ?_ ?_ ?_ ?_ ?_ h3
    · intro q; exact absurd (by decide) q
    · intro q; exact absurd (by decide) q
    · intro q; exact absurd (by decide) q
    · intro q; exact absurd (by decide) q
    · intro _; simp [fitF, hD, frF, hS]
    · intro _; simp [fitF, hD, frF, hS]
theorem le34 {w : Int32} (h : ¬ w ≤ 3) : 4 ≤ w := by
  rw [Int32.le_iff_toInt_le] at h ⊢
  rw [show (3 : Int32).toInt = 3 from rfl] at h
  rw [show (4 : Int32).toInt = 4 from rfl]; omega
theorem le43 {w : Int32} (h : 4 ≤ w) : ¬ w ≤ 3 := by
  rw [Int32.le_iff_toInt_le] at h ⊢
  rw [show (4 : Int32).toInt = 4 from rfl] at h
  rw [show (3 : Int32).toInt = 3 from rfl]; omega
set_option maxHeartbeats 4000000 in
set_option maxRecDepth 100000 in
theorem kX4_fraction (l : Launch) (g : qG) {S : Type} {Wd : S → va_W} {A : Nat → Prop} (u : S) (x d : Int64) (wk : Int32) (hd : ¬ d = 0) : qMl l yX4_fraction wsX4_fraction 0 g Wd A u [.long x, .long d, .int wk] (frF x d (decide (wk = 0))) u := by
  refine qStart (cc := cX4_fraction) (maxL := 11) (ret := (some .long)) (plainFor_of_name (by decide)) rfl (Nat.le_of_ble_eq_true rfl) ?_
  intro p e s m args below meth c hx hb hml hown hts hr hlk hP hK ls hl
  have hl : lv_has ls 11 [(0, .long x), (2, .long d), (4, .int wk)] := hl
  have hS : va_S A s.heap s.heap [] := va_S.rf
  have hg : ¬ gdF (absL x) (absL d) = 0 := gd_ne0 1000 _ _ (gdz_all _ _) (Or.inr (absL_ne hd))
  have tail : ∀ (_ : True), ∀ (H : Heap) (locs : List Loc), va_P g.1 vwCl (Wd u) H → va_S A s.heap H locs → ∀ ls : Array Slot, lv_has ls 11 [(0, .long x), (2, .long d), (4, .int wk), (5, .long (gdF (absL x) (absL d)))] → W p l e (rmL 0) s m args below meth c H locs 0 0 (MQ below (va_Ql (fun q9 u9 => q9 = frF x d (decide (wk = 0)) ∧ u9 = u) (qU g Wd) A) args s 0 0 A) (F0 m 53 ls []) := by
    intro _ H locs hP hS ls hl
    refine lv_lload_n hx hb dX4_fraction_53 rfl (lv_at hl 1 rfl) ?_
    refine lv_lconst (v := 0) hx hb dX4_fraction_54 rfl ?_
    refine W.lcmp hx hb dX4_fraction_55 ?_
    refine lv_if_ge (tgt := 65) hx hb dX4_fraction_56 (by decide) (fun c_56 => ?_) (fun c_56 => ?_)
    · -- 56 taken
      rw [lg_cmp_ge] at c_56
      have c_56n := l_le_t c_56
      refine lv_lload hx hb dX4_fraction_65 (lv_at hl 3 rfl) ?_
      refine lv_lstore (lv' := [(9, .long (gdF (absL x) (absL d))), (0, .long x), (2, .long d), (4, .int wk), (5, .long (gdF (absL x) (absL d)))]) hx hb dX4_fraction_67 hl (by decide) rfl (fun ls hl => ?_)
      refine lv_iload hx hb dX4_fraction_69 (lv_at hl 3 rfl) ?_
      refine lv_if_ne (tgt := 81) hx hb dX4_fraction_71 (by decide) (fun c_71 => ?_) (fun c_71 => ?_)
      · -- 71 taken
        refine lv_lload_n hx hb dX4_fraction_81 rfl (lv_at hl 2 rfl) ?_
        refine lv_lload hx hb dX4_fraction_82 (lv_at hl 0 rfl) ?_
        refine lv_ldiv hx hb dX4_fraction_84 hg ?_
        exact qRl hx hb hr hlk hP hK hS dX4_fraction_85 (by simp [frF, hd, hg, c_56n, c_71]) rfl
      · -- 71 not taken
        refine lv_lload_n hx hb dX4_fraction_74 rfl (lv_at hl 1 rfl) ?_
        refine lv_lload hx hb dX4_fraction_75 (lv_at hl 0 rfl) ?_
        refine lv_ldiv hx hb dX4_fraction_77 hg ?_
        refine lv_goto (tgt := 85) hx hb dX4_fraction_78 (by decide) ?_
        exact qRl hx hb hr hlk hP hK hS dX4_fraction_85 (by simp [frF, hd, hg, c_56n, c_71]) rfl
    · -- 56 not taken
      rw [lg_cmp_ge] at c_56
      have c_56n := l_le_f c_56
      refine lv_lload hx hb dX4_fraction_59 (lv_at hl 3 rfl) ?_
      refine lv_lneg hx hb dX4_fraction_61 ?_
      refine lv_goto (tgt := 67) hx hb dX4_fraction_62 (by decide) ?_
      refine lv_lstore (lv' := [(9, .long (-(gdF (absL x) (absL d)))), (0, .long x), (2, .long d), (4, .int wk), (5, .long (gdF (absL x) (absL d)))]) hx hb dX4_fraction_67 hl (by decide) rfl (fun ls hl => ?_)
      refine lv_iload hx hb dX4_fraction_69 (lv_at hl 3 rfl) ?_
      refine lv_if_ne (tgt := 81) hx hb dX4_fraction_71 (by decide) (fun c_71 => ?_) (fun c_71 => ?_)
      · -- 71 taken
        refine lv_lload_n hx hb dX4_fraction_81 rfl (lv_at hl 2 rfl) ?_
        refine lv_lload hx hb dX4_fraction_82 (lv_at hl 0 rfl) ?_
        refine lv_ldiv hx hb dX4_fraction_84 (neg0L hg) ?_
        exact qRl hx hb hr hlk hP hK hS dX4_fraction_85 (by simp [frF, hd, hg, c_56n, c_71]) rfl
      · -- 71 not taken
        refine lv_lload_n hx hb dX4_fraction_74 rfl (lv_at hl 1 rfl) ?_
        refine lv_lload hx hb dX4_fraction_75 (lv_at hl 0 rfl) ?_
        refine lv_ldiv hx hb dX4_fraction_77 (neg0L hg) ?_
        refine lv_goto (tgt := 85) hx hb dX4_fraction_78 (by decide) ?_
        exact qRl hx hb hr hlk hP hK hS dX4_fraction_85 (by simp [frF, hd, hg, c_56n, c_71]) rfl
  have loop : ∀ (k : Nat) (v t : Int64), gdz k v t = true → gdR k v t = gdF (absL x) (absL d) → ∀ (H : Heap) (locs : List Loc), va_P g.1 vwCl (Wd u) H → va_S A s.heap H locs → ∀ ls : Array Slot, lv_has ls 11 [(0, .long x), (2, .long d), (4, .int wk), (5, .long v), (7, .long t)] → W p l e (rmL 0) s m args below meth c H locs 0 0 (MQ below (va_Ql (fun q9 u9 => q9 = frF x d (decide (wk = 0)) ∧ u9 = u) (qU g Wd) A) args s 0 0 A) (F0 m 28 ls []) := by
    intro k
    induction k with
    | zero =>
      intro v t hT hz H locs hP hS ls hl
      refine lv_lload hx hb dX4_fraction_28 (lv_at hl 4 rfl) ?_
      refine lv_lconst (v := 0) hx hb dX4_fraction_30 rfl ?_
      refine W.lcmp hx hb dX4_fraction_31 ?_
      refine lv_if_eq (tgt := 53) hx hb dX4_fraction_32 (by decide) (fun c_32 => ?_) (fun c_32 => ?_)
      · -- 32 taken
        rw [lg_cmp_eq] at c_32
        have hv9 : v = gdF (absL x) (absL d) := by rw [← hz]; first | rfl | simp [gdR, c_32]
        exact tail trivial _ _ hP hS ls (by rw [← hv9]; exact lv_sub hl [0, 1, 2, 3] rfl)
      · -- 32 not taken
        rw [lg_cmp_eq] at c_32
        exact absurd (by simpa [gdz] using hT) c_32
    | succ k ih =>
      intro v t hT hz H locs hP hS ls hl
      refine lv_lload hx hb dX4_fraction_28 (lv_at hl 4 rfl) ?_
      refine lv_lconst (v := 0) hx hb dX4_fraction_30 rfl ?_
      refine W.lcmp hx hb dX4_fraction_31 ?_
      refine lv_if_eq (tgt := 53) hx hb dX4_fraction_32 (by decide) (fun c_32 => ?_) (fun c_32 => ?_)
      · -- 32 taken
        rw [lg_cmp_eq] at c_32
        have hv9 : v = gdF (absL x) (absL d) := by rw [← hz]; first | rfl | simp [gdR, c_32]
        exact tail trivial _ _ hP hS ls (by rw [← hv9]; exact lv_sub hl [0, 1, 2, 3] rfl)
      · -- 32 not taken
        rw [lg_cmp_eq] at c_32
        refine lv_lload hx hb dX4_fraction_35 (lv_at hl 3 rfl) ?_
        refine lv_lload hx hb dX4_fraction_37 (lv_at hl 4 rfl) ?_
        refine lv_lrem hx hb dX4_fraction_39 c_32 ?_
        refine lv_lstore (lv' := [(9, .long (v - v / t * t)), (0, .long x), (2, .long d), (4, .int wk), (5, .long v), (7, .long t)]) hx hb dX4_fraction_40 hl (by decide) rfl (fun ls hl => ?_)
        refine lv_lload hx hb dX4_fraction_42 (lv_at hl 5 rfl) ?_
        refine lv_lstore (lv' := [(5, .long t), (9, .long (v - v / t * t)), (0, .long x), (2, .long d), (4, .int wk), (7, .long t)]) hx hb dX4_fraction_44 hl (by decide) rfl (fun ls hl => ?_)
        refine lv_lload hx hb dX4_fraction_46 (lv_at hl 1 rfl) ?_
        refine lv_lstore (lv' := [(7, .long (v - v / t * t)), (5, .long t), (9, .long (v - v / t * t)), (0, .long x), (2, .long d), (4, .int wk)]) hx hb dX4_fraction_48 hl (by decide) rfl (fun ls hl => ?_)
        refine lv_goto (tgt := 28) hx hb dX4_fraction_50 (by decide) ?_
        exact ih _ _ (by unfold gdz at hT; rw [if_neg c_32] at hT; exact hT) (by rw [← hz, gdR, if_neg c_32]) _ _ hP hS ls (lv_sub hl [3, 4, 5, 1, 0] rfl)
  refine lv_lload_n hx hb dX4_fraction_0 rfl (lv_at hl 0 rfl) ?_
  refine lv_lconst (v := 0) hx hb dX4_fraction_1 rfl ?_
  refine W.lcmp hx hb dX4_fraction_2 ?_
  refine lv_if_ge (tgt := 11) hx hb dX4_fraction_3 (by decide) (fun c_3 => ?_) (fun c_3 => ?_)
  · -- 3 taken
    rw [lg_cmp_ge] at c_3
    refine lv_lload_n hx hb dX4_fraction_11 rfl (lv_at hl 0 rfl) ?_
    refine lv_nmL (y := absL x) (by rw [absL_M, if_neg (l_le_t c_3)]) ?_
    refine lv_lstore (lv' := [(5, .long (absL x)), (0, .long x), (2, .long d), (4, .int wk)]) hx hb dX4_fraction_12 hl (by decide) rfl (fun ls hl => ?_)
    refine lv_lload_n hx hb dX4_fraction_14 rfl (lv_at hl 2 rfl) ?_
    refine lv_lconst (v := 0) hx hb dX4_fraction_15 rfl ?_
    refine W.lcmp hx hb dX4_fraction_16 ?_
    refine lv_if_ge (tgt := 25) hx hb dX4_fraction_17 (by decide) (fun c_17 => ?_) (fun c_17 => ?_)
    · -- 17 taken
      rw [lg_cmp_ge] at c_17
      refine lv_lload_n hx hb dX4_fraction_25 rfl (lv_at hl 2 rfl) ?_
      refine lv_nmL (y := absL d) (by rw [absL_M, if_neg (l_le_t c_17)]) ?_
      refine lv_lstore (lv' := [(7, .long (absL d)), (5, .long (absL x)), (0, .long x), (2, .long d), (4, .int wk)]) hx hb dX4_fraction_26 hl (by decide) rfl (fun ls hl => ?_)
      exact loop 1000 _ _ (gdz_all _ _) rfl _ _ hP hS ls (lv_sub hl [2, 3, 4, 1, 0] rfl)
    · -- 17 not taken
      rw [lg_cmp_ge] at c_17
      refine lv_lload_n hx hb dX4_fraction_20 rfl (lv_at hl 2 rfl) ?_
      refine lv_lneg hx hb dX4_fraction_21 ?_
      refine lv_goto (tgt := 26) hx hb dX4_fraction_22 (by decide) ?_
      refine lv_nmL (y := absL d) (by rw [absL_M, if_pos (l_le_f c_17)]) ?_
      refine lv_lstore (lv' := [(7, .long (absL d)), (5, .long (absL x)), (0, .long x), (2, .long d), (4, .int wk)]) hx hb dX4_fraction_26 hl (by decide) rfl (fun ls hl => ?_)
      exact loop 1000 _ _ (gdz_all _ _) rfl _ _ hP hS ls (lv_sub hl [2, 3, 4, 1, 0] rfl)
  · -- 3 not taken
    rw [lg_cmp_ge] at c_3
    refine lv_lload_n hx hb dX4_fraction_6 rfl (lv_at hl 0 rfl) ?_
    refine lv_lneg hx hb dX4_fraction_7 ?_
    refine lv_goto (tgt := 12) hx hb dX4_fraction_8 (by decide) ?_
    refine lv_nmL (y := absL x) (by rw [absL_M, if_pos (l_le_f c_3)]) ?_
    refine lv_lstore (lv' := [(5, .long (absL x)), (0, .long x), (2, .long d), (4, .int wk)]) hx hb dX4_fraction_12 hl (by decide) rfl (fun ls hl => ?_)
    refine lv_lload_n hx hb dX4_fraction_14 rfl (lv_at hl 2 rfl) ?_
    refine lv_lconst (v := 0) hx hb dX4_fraction_15 rfl ?_
    refine W.lcmp hx hb dX4_fraction_16 ?_
    refine lv_if_ge (tgt := 25) hx hb dX4_fraction_17 (by decide) (fun c_17 => ?_) (fun c_17 => ?_)
    · -- 17 taken
      rw [lg_cmp_ge] at c_17
      refine lv_lload_n hx hb dX4_fraction_25 rfl (lv_at hl 2 rfl) ?_
      refine lv_nmL (y := absL d) (by rw [absL_M, if_neg (l_le_t c_17)]) ?_
      refine lv_lstore (lv' := [(7, .long (absL d)), (5, .long (absL x)), (0, .long x), (2, .long d), (4, .int wk)]) hx hb dX4_fraction_26 hl (by decide) rfl (fun ls hl => ?_)
      exact loop 1000 _ _ (gdz_all _ _) rfl _ _ hP hS ls (lv_sub hl [2, 3, 4, 1, 0] rfl)
    · -- 17 not taken
      rw [lg_cmp_ge] at c_17
      refine lv_lload_n hx hb dX4_fraction_20 rfl (lv_at hl 2 rfl) ?_
      refine lv_lneg hx hb dX4_fraction_21 ?_
      refine lv_goto (tgt := 26) hx hb dX4_fraction_22 (by decide) ?_
      refine lv_nmL (y := absL d) (by rw [absL_M, if_pos (l_le_f c_17)]) ?_
      refine lv_lstore (lv' := [(7, .long (absL d)), (5, .long (absL x)), (0, .long x), (2, .long d), (4, .int wk)]) hx hb dX4_fraction_26 hl (by decide) rfl (fun ls hl => ?_)
      exact loop 1000 _ _ (gdz_all _ _) rfl _ _ hP hS ls (lv_sub hl [2, 3, 4, 1, 0] rfl)
set_option maxHeartbeats 4000000 in
set_option maxRecDepth 100000 in
theorem kX4_fit (l : Launch) (g : qG) {am : Nat → Nat} (z : zS) (r : Nat → Int32) (hj : adInj 18 am) (hI : qInv z) (a b w : Int32) : qMl l yX4_fit wsX4_fit 3 g (WMu g am) (adOf 18 am) (z, r) [.ref (am 0), .int a, .int b, .int w] (s_fit z a b w) (z, r) := by
  refine qStart (cc := cX4_fit) (maxL := 20) (ret := (some .long)) (plainFor_of_name (by decide)) rfl (Nat.le_of_ble_eq_true rfl) ?_
  intro p e s m args below meth c hx hb hml hown hts hr hlk hP hK ls hl
  have hl : lv_has ls 20 [(0, .ref (am 0)), (1, .int a), (2, .int b), (3, .int w)] := hl
  have hS : va_S (adOf 18 am) s.heap s.heap [] := va_S.rf
  have hin4 : ∀ w ∈ u_ws RX4 TX4 25, w ∈ wsX4_fit := by decide +kernel
  have tail : ∀ (_ : True), (ix a < 60 ∧ a = nI (ix a) ∧ vp_in a 60) → (ix b < 60 ∧ b = nI (ix b) ∧ vp_in b 60) → s_fit z a b w = fitF z (ix a) (ix b + 1 - ix a) w → inR w 0 5 = true → ∀ (H : Heap) (locs : List Loc), va_P g.1 vwCl ((WMu g am) (z, r)) H → va_S (adOf 18 am) s.heap H locs → ∀ ls : Array Slot, lv_has ls 20 [(0, .ref (am 0)), (1, .int a), (2, .int b), (3, .int w), (4, .long (lN (ix b + 1 - ix a))), (6, .long (fX z (ix a) (ix b + 1 - ix a))), (8, .long (fY z (ix a) (ix b + 1 - ix a))), (10, .long (fP z (ix a) (ix b + 1 - ix a))), (12, .long (fQ z (ix a) (ix b + 1 - ix a)))] → W p l e (rmL 3) s m args below meth c H locs 0 0 (MQ below (va_Ql (fun q9 u9 => q9 = s_fit z a b w ∧ u9 = (z, r)) (qU g (WMu g am)) (adOf 18 am)) args s 0 0 (adOf 18 am)) (F0 m 123 ls []) := by
    intro _ hka hkb hsf hw H locs hP hS ls hl
    refine lv_lload hx hb dX4_fit_123 (lv_at hl 4 rfl) ?_
    refine lv_lload hx hb dX4_fit_125 (lv_at hl 8 rfl) ?_
    refine lv_lmul hx hb dX4_fit_127 ?_
    refine lv_lload hx hb dX4_fit_128 (lv_at hl 5 rfl) ?_
    refine lv_lload hx hb dX4_fit_130 (lv_at hl 5 rfl) ?_
    refine lv_lmul hx hb dX4_fit_132 ?_
    refine lv_lsub hx hb dX4_fit_133 ?_
    refine lv_lstore (lv' := [(14, .long (fD z (ix a) (ix b + 1 - ix a))), (0, .ref (am 0)), (1, .int a), (2, .int b), (3, .int w), (4, .long (lN (ix b + 1 - ix a))), (6, .long (fX z (ix a) (ix b + 1 - ix a))), (8, .long (fY z (ix a) (ix b + 1 - ix a))), (10, .long (fP z (ix a) (ix b + 1 - ix a))), (12, .long (fQ z (ix a) (ix b + 1 - ix a)))]) hx hb dX4_fit_134 hl (by decide) rfl (fun ls hl => ?_)
    refine lv_lload hx hb dX4_fit_136 (lv_at hl 5 rfl) ?_
    refine lv_lload hx hb dX4_fit_138 (lv_at hl 8 rfl) ?_
    refine lv_lmul hx hb dX4_fit_140 ?_
    refine lv_lload hx hb dX4_fit_141 (lv_at hl 6 rfl) ?_
    refine lv_lload hx hb dX4_fit_143 (lv_at hl 7 rfl) ?_
    refine lv_lmul hx hb dX4_fit_145 ?_
    refine lv_lsub hx hb dX4_fit_146 ?_
    refine lv_lstore (lv' := [(16, .long (fS z (ix a) (ix b + 1 - ix a))), (14, .long (fD z (ix a) (ix b + 1 - ix a))), (0, .ref (am 0)), (1, .int a), (2, .int b), (3, .int w), (4, .long (lN (ix b + 1 - ix a))), (6, .long (fX z (ix a) (ix b + 1 - ix a))), (8, .long (fY z (ix a) (ix b + 1 - ix a))), (10, .long (fP z (ix a) (ix b + 1 - ix a))), (12, .long (fQ z (ix a) (ix b + 1 - ix a)))]) hx hb dX4_fit_147 hl (by decide) rfl (fun ls hl => ?_)
    refine lv_lload hx hb dX4_fit_149 (lv_at hl 8 rfl) ?_
    refine lv_lload hx hb dX4_fit_151 (lv_at hl 10 rfl) ?_
    refine lv_lmul hx hb dX4_fit_153 ?_
    refine lv_lload hx hb dX4_fit_154 (lv_at hl 7 rfl) ?_
    refine lv_lload hx hb dX4_fit_156 (lv_at hl 9 rfl) ?_
    refine lv_lmul hx hb dX4_fit_158 ?_
    refine lv_lsub hx hb dX4_fit_159 ?_
    refine lv_lstore (lv' := [(18, .long (fB z (ix a) (ix b + 1 - ix a))), (16, .long (fS z (ix a) (ix b + 1 - ix a))), (14, .long (fD z (ix a) (ix b + 1 - ix a))), (0, .ref (am 0)), (1, .int a), (2, .int b), (3, .int w), (4, .long (lN (ix b + 1 - ix a))), (6, .long (fX z (ix a) (ix b + 1 - ix a))), (8, .long (fY z (ix a) (ix b + 1 - ix a))), (10, .long (fP z (ix a) (ix b + 1 - ix a))), (12, .long (fQ z (ix a) (ix b + 1 - ix a)))]) hx hb dX4_fit_160 hl (by decide) rfl (fun ls hl => ?_)
    refine lv_lload hx hb dX4_fit_162 (lv_at hl 2 rfl) ?_
    refine lv_lconst (v := 0) hx hb dX4_fit_164 rfl ?_
    refine W.lcmp hx hb dX4_fit_165 ?_
    refine lv_if_eq (tgt := 181) hx hb dX4_fit_166 (by decide) (fun c_166 => ?_) (fun c_166 => ?_)
    · -- 166 taken
      rw [lg_cmp_eq] at c_166
      refine lv_ldc2 (v := -9223372036854775808) hx hb hown (hts (.constantLong RX4 175 (-9223372036854775808)) (by decide +kernel)) dX4_fit_181 ?_
      exact qRl hx hb hr hlk hP hK hS dX4_fit_184 (by rw [hsf]; exact fitM3 c_166) rfl
    · -- 166 not taken
      rw [lg_cmp_eq] at c_166
      refine lv_iload_n hx hb dX4_fit_169 rfl (lv_at hl 6 rfl) ?_
      refine lv_iconst (v := 3) hx hb dX4_fit_170 rfl ?_
      refine lv_icmp_le (tgt := 185) hx hb dX4_fit_171 (by decide) (fun c_171 => ?_) (fun c_171 => ?_)
      · -- 171 taken
        have c_171n := i_le_t c_171
        refine lv_iload_n hx hb dX4_fit_185 rfl (lv_at hl 6 rfl) ?_
        refine lv_iconst (v := 2) hx hb dX4_fit_186 rfl ?_
        refine lv_icmp_ge (tgt := 201) hx hb dX4_fit_187 (by decide) (fun c_187 => ?_) (fun c_187 => ?_)
        · -- 187 taken
          have c_187n := i_le_t c_187
          refine lv_iload_n hx hb dX4_fit_201 rfl (lv_at hl 6 rfl) ?_
          refine lv_iconst (v := 4) hx hb dX4_fit_202 rfl ?_
          refine lv_icmp_ge (tgt := 219) hx hb dX4_fit_203 (by decide) (fun c_203 => ?_) (fun c_203 => ?_)
          · -- 203 taken
            have c_203n := i_le_t c_203
            exact absurd c_171 (le43 c_203)
          · -- 203 not taken
            have c_203n := i_le_f c_203
            refine lv_lload hx hb dX4_fit_206 (lv_at hl 0 rfl) ?_
            refine lv_lload hx hb dX4_fit_208 (lv_at hl 2 rfl) ?_
            refine lv_iload_n hx hb dX4_fit_210 rfl (lv_at hl 6 rfl) ?_
            refine lv_iconst (v := 2) hx hb dX4_fit_211 rfl ?_
            refine lv_isub hx hb dX4_fit_212 ?_
            refine qSl (As := [.long (fB z (ix a) (ix b + 1 - ix a)), .long (fD z (ix a) (ix b + 1 - ix a)), .int (w - 2)]) (rest := []) hx hb hml hown hts (kX4_fraction l g (Wd := (WMu g am)) (A := (adOf 18 am)) (z, r) (fB z (ix a) (ix b + 1 - ix a)) (fD z (ix a) (ix b + 1 - ix a)) (w - 2) c_166) gX4_fit_X4_fraction rfl 3 hdX4_fraction rfl ⟨Nat.le_of_ble_eq_true rfl, Nat.le_of_ble_eq_true rfl⟩ ⟨Nat.zero_le _, Nat.zero_le _⟩ hK hP hS (fun _ h => h) hl.1 rfl (Nat.le_of_ble_eq_true rfl) dX4_fit_213 (fun H locs hP hS => ?_)
            refine lv_goto (tgt := 230) hx hb dX4_fit_216 (by decide) ?_
            exact qRl hx hb hr hlk hP hK hS dX4_fit_230 (by rw [hsf]; exact (fitM1 hw c_166 c_187 c_203).2) rfl
        · -- 187 not taken
          have c_187n := i_le_f c_187
          refine lv_lload hx hb dX4_fit_190 (lv_at hl 1 rfl) ?_
          refine lv_lload hx hb dX4_fit_192 (lv_at hl 2 rfl) ?_
          refine lv_iload_n hx hb dX4_fit_194 rfl (lv_at hl 6 rfl) ?_
          refine qSl (As := [.long (fS z (ix a) (ix b + 1 - ix a)), .long (fD z (ix a) (ix b + 1 - ix a)), .int w]) (rest := []) hx hb hml hown hts (kX4_fraction l g (Wd := (WMu g am)) (A := (adOf 18 am)) (z, r) (fS z (ix a) (ix b + 1 - ix a)) (fD z (ix a) (ix b + 1 - ix a)) w c_166) gX4_fit_X4_fraction rfl 3 hdX4_fraction rfl ⟨Nat.le_of_ble_eq_true rfl, Nat.le_of_ble_eq_true rfl⟩ ⟨Nat.zero_le _, Nat.zero_le _⟩ hK hP hS (fun _ h => h) hl.1 rfl (Nat.le_of_ble_eq_true rfl) dX4_fit_195 (fun H locs hP hS => ?_)
          refine lv_goto (tgt := 230) hx hb dX4_fit_198 (by decide) ?_
          exact qRl hx hb hr hlk hP hK hS dX4_fit_230 (by rw [hsf]; exact (fitM0 hw c_166 c_187).2) rfl
      · -- 171 not taken
        have c_171n := i_le_f c_171
        refine lv_lload hx hb dX4_fit_174 (lv_at hl 1 rfl) ?_
        refine lv_lconst (v := 0) hx hb dX4_fit_176 rfl ?_
        refine W.lcmp hx hb dX4_fit_177 ?_
        refine lv_if_ne (tgt := 185) hx hb dX4_fit_178 (by decide) (fun c_178 => ?_) (fun c_178 => ?_)
        · -- 178 taken
          rw [lg_cmp_eq] at c_178
          refine lv_iload_n hx hb dX4_fit_185 rfl (lv_at hl 6 rfl) ?_
          refine lv_iconst (v := 2) hx hb dX4_fit_186 rfl ?_
          refine lv_icmp_ge (tgt := 201) hx hb dX4_fit_187 (by decide) (fun c_187 => ?_) (fun c_187 => ?_)
          · -- 187 taken
            have c_187n := i_le_t c_187
            refine lv_iload_n hx hb dX4_fit_201 rfl (lv_at hl 6 rfl) ?_
            refine lv_iconst (v := 4) hx hb dX4_fit_202 rfl ?_
            refine lv_icmp_ge (tgt := 219) hx hb dX4_fit_203 (by decide) (fun c_203 => ?_) (fun c_203 => ?_)
            · -- 203 taken
              have c_203n := i_le_t c_203
              have hS9 := c_178
              refine lv_lload hx hb dX4_fit_219 (lv_at hl 0 rfl) ?_
              refine lv_lneg hx hb dX4_fit_221 ?_
              refine lv_lload hx hb dX4_fit_222 (lv_at hl 1 rfl) ?_
              refine lv_iload_n hx hb dX4_fit_224 rfl (lv_at hl 6 rfl) ?_
              refine lv_iconst (v := 4) hx hb dX4_fit_225 rfl ?_
              refine lv_isub hx hb dX4_fit_226 ?_
              refine qSl (As := [.long (-(fB z (ix a) (ix b + 1 - ix a))), .long (fS z (ix a) (ix b + 1 - ix a)), .int (w - 4)]) (rest := []) hx hb hml hown hts (kX4_fraction l g (Wd := (WMu g am)) (A := (adOf 18 am)) (z, r) (-(fB z (ix a) (ix b + 1 - ix a))) (fS z (ix a) (ix b + 1 - ix a)) (w - 4) hS9) gX4_fit_X4_fraction rfl 3 hdX4_fraction rfl ⟨Nat.le_of_ble_eq_true rfl, Nat.le_of_ble_eq_true rfl⟩ ⟨Nat.zero_le _, Nat.zero_le _⟩ hK hP hS (fun _ h => h) hl.1 rfl (Nat.le_of_ble_eq_true rfl) dX4_fit_227 (fun H locs hP hS => ?_)
              exact qRl hx hb hr hlk hP hK hS dX4_fit_230 (by rw [hsf]; exact (fitM2 hw c_166 c_203).2) rfl
            · -- 203 not taken
              have c_203n := i_le_f c_203
              refine lv_lload hx hb dX4_fit_206 (lv_at hl 0 rfl) ?_
              refine lv_lload hx hb dX4_fit_208 (lv_at hl 2 rfl) ?_
              refine lv_iload_n hx hb dX4_fit_210 rfl (lv_at hl 6 rfl) ?_
              refine lv_iconst (v := 2) hx hb dX4_fit_211 rfl ?_
              refine lv_isub hx hb dX4_fit_212 ?_
              refine qSl (As := [.long (fB z (ix a) (ix b + 1 - ix a)), .long (fD z (ix a) (ix b + 1 - ix a)), .int (w - 2)]) (rest := []) hx hb hml hown hts (kX4_fraction l g (Wd := (WMu g am)) (A := (adOf 18 am)) (z, r) (fB z (ix a) (ix b + 1 - ix a)) (fD z (ix a) (ix b + 1 - ix a)) (w - 2) c_166) gX4_fit_X4_fraction rfl 3 hdX4_fraction rfl ⟨Nat.le_of_ble_eq_true rfl, Nat.le_of_ble_eq_true rfl⟩ ⟨Nat.zero_le _, Nat.zero_le _⟩ hK hP hS (fun _ h => h) hl.1 rfl (Nat.le_of_ble_eq_true rfl) dX4_fit_213 (fun H locs hP hS => ?_)
              refine lv_goto (tgt := 230) hx hb dX4_fit_216 (by decide) ?_
              exact qRl hx hb hr hlk hP hK hS dX4_fit_230 (by rw [hsf]; exact (fitM1 hw c_166 c_187 c_203).2) rfl
          · -- 187 not taken
            have c_187n := i_le_f c_187
            refine lv_lload hx hb dX4_fit_190 (lv_at hl 1 rfl) ?_
            refine lv_lload hx hb dX4_fit_192 (lv_at hl 2 rfl) ?_
            refine lv_iload_n hx hb dX4_fit_194 rfl (lv_at hl 6 rfl) ?_
            refine qSl (As := [.long (fS z (ix a) (ix b + 1 - ix a)), .long (fD z (ix a) (ix b + 1 - ix a)), .int w]) (rest := []) hx hb hml hown hts (kX4_fraction l g (Wd := (WMu g am)) (A := (adOf 18 am)) (z, r) (fS z (ix a) (ix b + 1 - ix a)) (fD z (ix a) (ix b + 1 - ix a)) w c_166) gX4_fit_X4_fraction rfl 3 hdX4_fraction rfl ⟨Nat.le_of_ble_eq_true rfl, Nat.le_of_ble_eq_true rfl⟩ ⟨Nat.zero_le _, Nat.zero_le _⟩ hK hP hS (fun _ h => h) hl.1 rfl (Nat.le_of_ble_eq_true rfl) dX4_fit_195 (fun H locs hP hS => ?_)
            refine lv_goto (tgt := 230) hx hb dX4_fit_198 (by decide) ?_
            exact qRl hx hb hr hlk hP hK hS dX4_fit_230 (by rw [hsf]; exact (fitM0 hw c_166 c_187).2) rfl
        · -- 178 not taken
          rw [lg_cmp_eq] at c_178
          refine lv_ldc2 (v := -9223372036854775808) hx hb hown (hts (.constantLong RX4 175 (-9223372036854775808)) (by decide +kernel)) dX4_fit_181 ?_
          exact qRl hx hb hr hlk hP hK hS dX4_fit_184 (by rw [hsf]; exact fitM4 hw c_171 c_178) rfl
  have loop : ∀ (k : Nat) (j : Nat) (sx sy sp sq : Int64), (ix a < 60 ∧ a = nI (ix a) ∧ vp_in a 60) → (ix b < 60 ∧ b = nI (ix b) ∧ vp_in b 60) → s_fit z a b w = fitF z (ix a) (ix b + 1 - ix a) w → inR w 0 5 = true → j + k = ix b + 1 → smR (fun i => (z 3 i).toInt64) k j sx = fX z (ix a) (ix b + 1 - ix a) → smR (fun i => (z 4 i).toInt64) k j sy = fY z (ix a) (ix b + 1 - ix a) → smR (fun i => (z 3 i).toInt64 * (z 4 i).toInt64) k j sp = fP z (ix a) (ix b + 1 - ix a) → smR (fun i => (z 3 i).toInt64 * (z 3 i).toInt64) k j sq = fQ z (ix a) (ix b + 1 - ix a) → ∀ (H : Heap) (locs : List Loc), va_P g.1 vwCl ((WMu g am) (z, r)) H → va_S (adOf 18 am) s.heap H locs → ∀ ls : Array Slot, lv_has ls 20 [(0, .ref (am 0)), (1, .int a), (2, .int b), (3, .int w), (4, .long (lN (ix b + 1 - ix a))), (6, .long sx), (8, .long sy), (10, .long sp), (12, .long sq), (14, .int (nI j))] → W p l e (rmL 3) s m args below meth c H locs 0 0 (MQ below (va_Ql (fun q9 u9 => q9 = s_fit z a b w ∧ u9 = (z, r)) (qU g (WMu g am)) (adOf 18 am)) args s 0 0 (adOf 18 am)) (F0 m 57 ls []) := by
    intro k
    induction k with
    | zero =>
      intro j sx sy sp sq hka hkb hsf hw hj2 hz1 hz2 hz3 hz4 H locs hP hS ls hl
      refine lv_iload hx hb dX4_fit_57 (lv_at hl 9 rfl) ?_
      refine lv_iload_n hx hb dX4_fit_59 rfl (lv_at hl 2 rfl) ?_
      refine lv_nm (y := nI (ix b)) (hkb.2.1) ?_
      refine lv_icmp_gt (tgt := 123) hx hb dX4_fit_60 (by decide) (fun c_60 => ?_) (fun c_60 => ?_)
      · -- 60 taken
        have c_60n := i_lt_t c_60
        obtain rfl := hz1
        obtain rfl := hz2
        obtain rfl := hz3
        obtain rfl := hz4
        exact tail trivial hka hkb hsf hw _ _ hP hS ls (lv_sub hl [0, 1, 2, 3, 4, 5, 6, 7, 8] rfl)
      · -- 60 not taken
        have c_60n := i_lt_f c_60
        exact absurd (nI_gtf (by omega) (by omega) c_60) (by omega)
    | succ k ih =>
      intro j sx sy sp sq hka hkb hsf hw hj2 hz1 hz2 hz3 hz4 H locs hP hS ls hl
      refine lv_iload hx hb dX4_fit_57 (lv_at hl 9 rfl) ?_
      refine lv_iload_n hx hb dX4_fit_59 rfl (lv_at hl 2 rfl) ?_
      refine lv_nm (y := nI (ix b)) (hkb.2.1) ?_
      refine lv_icmp_gt (tgt := 123) hx hb dX4_fit_60 (by decide) (fun c_60 => ?_) (fun c_60 => ?_)
      · -- 60 taken
        have c_60n := i_lt_t c_60
        exact absurd (nI_gtt (by omega) (by omega) c_60) (by omega)
      · -- 60 not taken
        have c_60n := i_lt_f c_60
        refine lv_aload_n hx hb dX4_fit_63 rfl (lv_at hl 0 rfl) ?_
        refine qGet (ci := 4) (v := .ref (am 13)) (C := RX4) (T := TX4) (N := 25) hx hb hts hin4 hown hK hP 0 rfl rfl 18 (by decide) (hts (.fieldLink RX4 51 "PartCurvesModel" "toldVolts" "[I") (by decide +kernel)) rfl dX4_fit_64 ?_
        refine lv_iload hx hb dX4_fit_67 (lv_at hl 9 rfl) ?_
        refine qIld (v := (z 3 j)) hx hb hK hP 13 rfl (vp_in_nI (n := j) (N := 60) (by omega) (by decide)) (congrArg (z 3) (nI_e j (by omega))) dX4_fit_69 ?_
        refine lv_i2l hx hb dX4_fit_70 rfl ?_
        refine lv_lstore (lv' := [(15, .long ((z 3 j).toInt64)), (0, .ref (am 0)), (1, .int a), (2, .int b), (3, .int w), (4, .long (lN (ix b + 1 - ix a))), (6, .long sx), (8, .long sy), (10, .long sp), (12, .long sq), (14, .int (nI j))]) hx hb dX4_fit_71 hl (by decide) rfl (fun ls hl => ?_)
        refine lv_aload_n hx hb dX4_fit_73 rfl (lv_at hl 1 rfl) ?_
        refine qGet (ci := 4) (v := .ref (am 14)) (C := RX4) (T := TX4) (N := 25) hx hb hts hin4 hown hK hP 0 rfl rfl 19 (by decide) (hts (.fieldLink RX4 54 "PartCurvesModel" "ampsOf" "[I") (by decide +kernel)) rfl dX4_fit_74 ?_
        refine lv_iload hx hb dX4_fit_77 (lv_at hl 10 rfl) ?_
        refine qIld (v := (z 4 j)) hx hb hK hP 14 rfl (vp_in_nI (n := j) (N := 60) (by omega) (by decide)) (congrArg (z 4) (nI_e j (by omega))) dX4_fit_79 ?_
        refine lv_i2l hx hb dX4_fit_80 rfl ?_
        refine lv_lstore (lv' := [(17, .long ((z 4 j).toInt64)), (15, .long ((z 3 j).toInt64)), (0, .ref (am 0)), (1, .int a), (2, .int b), (3, .int w), (4, .long (lN (ix b + 1 - ix a))), (6, .long sx), (8, .long sy), (10, .long sp), (12, .long sq), (14, .int (nI j))]) hx hb dX4_fit_81 hl (by decide) rfl (fun ls hl => ?_)
        refine lv_lload hx hb dX4_fit_83 (lv_at hl 7 rfl) ?_
        refine lv_lload hx hb dX4_fit_85 (lv_at hl 1 rfl) ?_
        refine lv_ladd hx hb dX4_fit_87 ?_
        refine lv_lstore (lv' := [(6, .long (sx + ((z 3 j).toInt64))), (17, .long ((z 4 j).toInt64)), (15, .long ((z 3 j).toInt64)), (0, .ref (am 0)), (1, .int a), (2, .int b), (3, .int w), (4, .long (lN (ix b + 1 - ix a))), (8, .long sy), (10, .long sp), (12, .long sq), (14, .int (nI j))]) hx hb dX4_fit_88 hl (by decide) rfl (fun ls hl => ?_)
        refine lv_lload hx hb dX4_fit_90 (lv_at hl 8 rfl) ?_
        refine lv_lload hx hb dX4_fit_92 (lv_at hl 1 rfl) ?_
        refine lv_ladd hx hb dX4_fit_94 ?_
        refine lv_lstore (lv' := [(8, .long (sy + ((z 4 j).toInt64))), (6, .long (sx + ((z 3 j).toInt64))), (17, .long ((z 4 j).toInt64)), (15, .long ((z 3 j).toInt64)), (0, .ref (am 0)), (1, .int a), (2, .int b), (3, .int w), (4, .long (lN (ix b + 1 - ix a))), (10, .long sp), (12, .long sq), (14, .int (nI j))]) hx hb dX4_fit_95 hl (by decide) rfl (fun ls hl => ?_)
        refine lv_lload hx hb dX4_fit_97 (lv_at hl 9 rfl) ?_
        refine lv_lload hx hb dX4_fit_99 (lv_at hl 3 rfl) ?_
        refine lv_lload hx hb dX4_fit_101 (lv_at hl 2 rfl) ?_
        refine lv_lmul hx hb dX4_fit_103 ?_
        refine lv_ladd hx hb dX4_fit_104 ?_
        refine lv_lstore (lv' := [(10, .long (sp + (((z 3 j).toInt64) * ((z 4 j).toInt64)))), (8, .long (sy + ((z 4 j).toInt64))), (6, .long (sx + ((z 3 j).toInt64))), (17, .long ((z 4 j).toInt64)), (15, .long ((z 3 j).toInt64)), (0, .ref (am 0)), (1, .int a), (2, .int b), (3, .int w), (4, .long (lN (ix b + 1 - ix a))), (12, .long sq), (14, .int (nI j))]) hx hb dX4_fit_105 hl (by decide) rfl (fun ls hl => ?_)
        refine lv_lload hx hb dX4_fit_107 (lv_at hl 10 rfl) ?_
        refine lv_lload hx hb dX4_fit_109 (lv_at hl 4 rfl) ?_
        refine lv_lload hx hb dX4_fit_111 (lv_at hl 4 rfl) ?_
        refine lv_lmul hx hb dX4_fit_113 ?_
        refine lv_ladd hx hb dX4_fit_114 ?_
        refine lv_lstore (lv' := [(12, .long (sq + (((z 3 j).toInt64) * ((z 3 j).toInt64)))), (10, .long (sp + (((z 3 j).toInt64) * ((z 4 j).toInt64)))), (8, .long (sy + ((z 4 j).toInt64))), (6, .long (sx + ((z 3 j).toInt64))), (17, .long ((z 4 j).toInt64)), (15, .long ((z 3 j).toInt64)), (0, .ref (am 0)), (1, .int a), (2, .int b), (3, .int w), (4, .long (lN (ix b + 1 - ix a))), (14, .int (nI j))]) hx hb dX4_fit_115 hl (by decide) rfl (fun ls hl => ?_)
        refine lv_iinc (v := nI (j + 1)) (lv' := [(14, .int (nI (j + 1))), (12, .long (sq + (((z 3 j).toInt64) * ((z 3 j).toInt64)))), (10, .long (sp + (((z 3 j).toInt64) * ((z 4 j).toInt64)))), (8, .long (sy + ((z 4 j).toInt64))), (6, .long (sx + ((z 3 j).toInt64))), (17, .long ((z 4 j).toInt64)), (15, .long ((z 3 j).toInt64)), (0, .ref (am 0)), (1, .int a), (2, .int b), (3, .int w), (4, .long (lN (ix b + 1 - ix a)))]) hx hb dX4_fit_117 hl (k := 11) rfl (nI_1 j) (by decide) rfl (fun ls hl => ?_)
        refine lv_goto (tgt := 57) hx hb dX4_fit_120 (by decide) ?_
        exact ih (j + 1) _ _ _ _ hka hkb hsf hw (by omega) (by rw [← hz1]; rfl) (by rw [← hz2]; rfl) (by rw [← hz3]; rfl) (by rw [← hz4]; rfl) _ _ hP hS ls (lv_sub hl [7, 8, 9, 10, 11, 4, 3, 2, 1, 0] rfl)
  refine lv_aload_n hx hb dX4_fit_0 rfl (lv_at hl 0 rfl) ?_
  refine lv_iload_n hx hb dX4_fit_1 rfl (lv_at hl 1 rfl) ?_
  refine qVi (As := [.int a]) (rest := []) hx hb hml hown hts (kX4_isReading l g z r hj hI a) gX4_fit_X4_isReading rfl 1 hdX4_isReading rfl ⟨Nat.le_of_ble_eq_true rfl, Nat.le_of_ble_eq_true rfl⟩ ⟨Nat.zero_le _, Nat.zero_le _⟩ hK hP hS (fun _ h => h) 0 4 rfl rfl rfl hl.1 rfl (Nat.le_of_ble_eq_true rfl) dX4_fit_2 (fun H locs hP hS => ?_)
  refine lv_if_eq (tgt := 30) hx hb dX4_fit_5 (by decide) (fun c_5 => ?_) (fun c_5 => ?_)
  · -- 5 taken
    have c_5 := bI_0 c_5
    refine lv_ldc2 (v := -9223372036854775808) hx hb hown (hts (.constantLong RX4 175 (-9223372036854775808)) (by decide +kernel)) dX4_fit_30 ?_
    exact qRl hx hb hr hlk hP hK hS dX4_fit_33 (by unfold s_fit; rw [if_neg (fun h => absurd h.1 (bn c_5))] <;> rfl) rfl
  · -- 5 not taken
    have c_5 := bI_n c_5
    refine lv_aload_n hx hb dX4_fit_8 rfl (lv_at hl 0 rfl) ?_
    refine lv_iload_n hx hb dX4_fit_9 rfl (lv_at hl 2 rfl) ?_
    refine qVi (As := [.int b]) (rest := []) hx hb hml hown hts (kX4_isReading l g z r hj hI b) gX4_fit_X4_isReading rfl 1 hdX4_isReading rfl ⟨Nat.le_of_ble_eq_true rfl, Nat.le_of_ble_eq_true rfl⟩ ⟨Nat.zero_le _, Nat.zero_le _⟩ hK hP hS (fun _ h => h) 0 4 rfl rfl rfl hl.1 rfl (Nat.le_of_ble_eq_true rfl) dX4_fit_10 (fun H locs hP hS => ?_)
    refine lv_if_eq (tgt := 30) hx hb dX4_fit_13 (by decide) (fun c_13 => ?_) (fun c_13 => ?_)
    · -- 13 taken
      have c_13 := bI_0 c_13
      refine lv_ldc2 (v := -9223372036854775808) hx hb hown (hts (.constantLong RX4 175 (-9223372036854775808)) (by decide +kernel)) dX4_fit_30 ?_
      exact qRl hx hb hr hlk hP hK hS dX4_fit_33 (by unfold s_fit; rw [if_neg (fun h => absurd h.2.1 (bn c_13))] <;> rfl) rfl
    · -- 13 not taken
      have c_13 := bI_n c_13
      refine lv_iload_n hx hb dX4_fit_16 rfl (lv_at hl 1 rfl) ?_
      refine lv_iload_n hx hb dX4_fit_17 rfl (lv_at hl 2 rfl) ?_
      refine lv_icmp_gt (tgt := 30) hx hb dX4_fit_18 (by decide) (fun c_18 => ?_) (fun c_18 => ?_)
      · -- 18 taken
        have c_18n := i_lt_t c_18
        refine lv_ldc2 (v := -9223372036854775808) hx hb hown (hts (.constantLong RX4 175 (-9223372036854775808)) (by decide +kernel)) dX4_fit_30 ?_
        exact qRl hx hb hr hlk hP hK hS dX4_fit_33 (by unfold s_fit; rw [if_neg (fun h => h.2.2.1 c_18)] <;> rfl) rfl
      · -- 18 not taken
        have c_18n := i_lt_f c_18
        refine lv_iload_n hx hb dX4_fit_21 rfl (lv_at hl 3 rfl) ?_
        refine lv_iconst (v := 0) hx hb dX4_fit_22 rfl ?_
        refine lv_iconst (v := 5) hx hb dX4_fit_23 rfl ?_
        refine qSi (As := [.int w, .int 0, .int 5]) (rest := []) hx hb hml hown hts (kX4_within l g (Wd := (WMu g am)) (A := (adOf 18 am)) (z, r) w 0 5) gX4_fit_X4_within rfl 3 hdX4_within rfl ⟨Nat.le_of_ble_eq_true rfl, Nat.le_of_ble_eq_true rfl⟩ ⟨Nat.zero_le _, Nat.zero_le _⟩ hK hP hS (fun _ h => h) hl.1 rfl (Nat.le_of_ble_eq_true rfl) dX4_fit_24 (fun H locs hP hS => ?_)
        refine lv_if_ne (tgt := 34) hx hb dX4_fit_27 (by decide) (fun c_27 => ?_) (fun c_27 => ?_)
        · -- 27 taken
          have c_27 := bI_n c_27
          have hka := has_i hI c_5
          have hkb := has_i hI c_13
          have hle := ix_le hka.2.1 hkb.2.1 hka.1 hkb.1 c_18
          have hsf : s_fit z a b w = fitF z (ix a) (ix b + 1 - ix a) w := by unfold s_fit; rw [if_pos ⟨c_5, c_13, c_18, c_27⟩]
          refine lv_iload_n hx hb dX4_fit_34 rfl (lv_at hl 2 rfl) ?_
          refine lv_iload_n hx hb dX4_fit_35 rfl (lv_at hl 1 rfl) ?_
          refine lv_isub hx hb dX4_fit_36 ?_
          refine lv_iconst (v := 1) hx hb dX4_fit_37 rfl ?_
          refine lv_iadd hx hb dX4_fit_38 ?_
          refine lv_i2l hx hb dX4_fit_39 rfl ?_
          refine lv_nmL (y := lN (ix b + 1 - ix a)) (by have h9 := nlen hle hkb.1; rw [← hka.2.1, ← hkb.2.1] at h9; exact h9) ?_
          refine lv_lstore (lv' := [(4, .long (lN (ix b + 1 - ix a))), (0, .ref (am 0)), (1, .int a), (2, .int b), (3, .int w)]) hx hb dX4_fit_40 hl (by decide) rfl (fun ls hl => ?_)
          refine lv_lconst (v := 0) hx hb dX4_fit_42 rfl ?_
          refine lv_lstore (lv' := [(6, .long 0), (4, .long (lN (ix b + 1 - ix a))), (0, .ref (am 0)), (1, .int a), (2, .int b), (3, .int w)]) hx hb dX4_fit_43 hl (by decide) rfl (fun ls hl => ?_)
          refine lv_lconst (v := 0) hx hb dX4_fit_45 rfl ?_
          refine lv_lstore (lv' := [(8, .long 0), (6, .long 0), (4, .long (lN (ix b + 1 - ix a))), (0, .ref (am 0)), (1, .int a), (2, .int b), (3, .int w)]) hx hb dX4_fit_46 hl (by decide) rfl (fun ls hl => ?_)
          refine lv_lconst (v := 0) hx hb dX4_fit_48 rfl ?_
          refine lv_lstore (lv' := [(10, .long 0), (8, .long 0), (6, .long 0), (4, .long (lN (ix b + 1 - ix a))), (0, .ref (am 0)), (1, .int a), (2, .int b), (3, .int w)]) hx hb dX4_fit_49 hl (by decide) rfl (fun ls hl => ?_)
          refine lv_lconst (v := 0) hx hb dX4_fit_51 rfl ?_
          refine lv_lstore (lv' := [(12, .long 0), (10, .long 0), (8, .long 0), (6, .long 0), (4, .long (lN (ix b + 1 - ix a))), (0, .ref (am 0)), (1, .int a), (2, .int b), (3, .int w)]) hx hb dX4_fit_52 hl (by decide) rfl (fun ls hl => ?_)
          refine lv_iload_n hx hb dX4_fit_54 rfl (lv_at hl 6 rfl) ?_
          refine lv_nm (y := nI (ix a)) (hka.2.1) ?_
          refine lv_istore (lv' := [(14, .int (nI (ix a))), (12, .long 0), (10, .long 0), (8, .long 0), (6, .long 0), (4, .long (lN (ix b + 1 - ix a))), (0, .ref (am 0)), (1, .int a), (2, .int b), (3, .int w)]) hx hb dX4_fit_55 hl (by decide) rfl (fun ls hl => ?_)
          exact loop (ix b + 1 - ix a) (ix a) 0 0 0 0 hka hkb hsf c_27 (by omega) rfl rfl rfl rfl _ _ hP hS ls (lv_sub hl [6, 7, 8, 9, 5, 4, 3, 2, 1, 0] rfl)
        · -- 27 not taken
          have c_27 := bI_0 c_27
          refine lv_ldc2 (v := -9223372036854775808) hx hb hown (hts (.constantLong RX4 175 (-9223372036854775808)) (by decide +kernel)) dX4_fit_30 ?_
          exact qRl hx hb hr hlk hP hK hS dX4_fit_33 (by unfold s_fit; rw [if_neg (fun h => absurd h.2.2.2 (bn c_27))] <;> rfl) rfl
theorem add0 (x : Int32) : x + 0 = x := Int32.add_zero x
set_option maxHeartbeats 4000000 in
set_option maxRecDepth 100000 in
theorem kX4_manyRule (l : Launch) (g : qG) {am : Nat → Nat} (z : zS) (r : Nat → Int32) (hj : adInj 18 am) (q : Int32) (hrc : inR (z 0 3) 0 60 = true) : qMi l yX4_manyRule wsX4_manyRule 0 g (WMu g am) (adOf 18 am) (z, r) [.ref (am 0), .int q] (wrF z q) (z, r) := by
  refine qStart (cc := cX4_manyRule) (maxL := 4) (ret := (some .int)) (plainFor_of_name (by decide)) rfl (Nat.le_of_ble_eq_true rfl) ?_
  intro p e s m args below meth c hx hb hml hown hts hr hlk hP hK ls hl
  have hl : lv_has ls 4 [(0, .ref (am 0)), (1, .int q)] := hl
  have hS : va_S (adOf 18 am) s.heap s.heap [] := va_S.rf
  have hin4 : ∀ w ∈ u_ws RX4 TX4 25, w ∈ wsX4_manyRule := by decide +kernel
  have loop : ∀ (k : Nat) (j : Nat) (t : Int32), j + k = ix (z 0 3) → wrR z q k j t = wrF z q → ∀ (H : Heap) (locs : List Loc), va_P g.1 vwCl ((WMu g am) (z, r)) H → va_S (adOf 18 am) s.heap H locs → ∀ ls : Array Slot, lv_has ls 4 [(0, .ref (am 0)), (1, .int q), (2, .int t), (3, .int (nI j))] → W p l e (rmL 0) s m args below meth c H locs 0 0 (MQ below (va_Qi (fun q9 u9 => q9 = wrF z q ∧ u9 = (z, r)) (qU g (WMu g am)) (adOf 18 am)) args s 0 0 (adOf 18 am)) (F0 m 4 ls []) := by
    intro k
    induction k with
    | zero =>
      intro j t hj2 hz H locs hP hS ls hl
      have hb6 := (inR_ix (n := 60) rfl hrc).1
      refine lv_iload_n hx hb dX4_manyRule_4 rfl (lv_at hl 3 rfl) ?_
      refine lv_aload_n hx hb dX4_manyRule_5 rfl (lv_at hl 0 rfl) ?_
      refine qGet (ci := 4) (v := .int (z 0 3)) (C := RX4) (T := TX4) (N := 25) hx hb hts hin4 hown hK hP 0 rfl rfl 16 (by decide) (hts (.fieldLink RX4 142 "PartCurvesModel" "readings" "I") (by decide +kernel)) rfl dX4_manyRule_6 ?_
      refine lv_icmp_ge (tgt := 36) hx hb dX4_manyRule_9 (by decide) (fun c_9 => ?_) (fun c_9 => ?_)
      · -- 9 taken
        have c_9n := i_le_t c_9
        refine lv_iload_n hx hb dX4_manyRule_36 rfl (lv_at hl 2 rfl) ?_
        exact qRi hx hb hr hlk hP hK hS dX4_manyRule_37 hz rfl
      · -- 9 not taken
        have c_9n := i_le_f c_9
        exact absurd (cnt_lt hrc c_9 (by omega)) (by omega)
    | succ k ih =>
      intro j t hj2 hz H locs hP hS ls hl
      have hb6 := (inR_ix (n := 60) rfl hrc).1
      refine lv_iload_n hx hb dX4_manyRule_4 rfl (lv_at hl 3 rfl) ?_
      refine lv_aload_n hx hb dX4_manyRule_5 rfl (lv_at hl 0 rfl) ?_
      refine qGet (ci := 4) (v := .int (z 0 3)) (C := RX4) (T := TX4) (N := 25) hx hb hts hin4 hown hK hP 0 rfl rfl 16 (by decide) (hts (.fieldLink RX4 142 "PartCurvesModel" "readings" "I") (by decide +kernel)) rfl dX4_manyRule_6 ?_
      refine lv_icmp_ge (tgt := 36) hx hb dX4_manyRule_9 (by decide) (fun c_9 => ?_) (fun c_9 => ?_)
      · -- 9 taken
        have c_9n := i_le_t c_9
        exact absurd (cnt_ge hrc c_9 (by omega)) (by omega)
      · -- 9 not taken
        have c_9n := i_le_f c_9
        refine lv_iload_n hx hb dX4_manyRule_12 rfl (lv_at hl 2 rfl) ?_
        refine lv_aload_n hx hb dX4_manyRule_13 rfl (lv_at hl 0 rfl) ?_
        refine qGet (ci := 4) (v := .ref (am 15)) (C := RX4) (T := TX4) (N := 25) hx hb hts hin4 hown hK hP 0 rfl rfl 20 (by decide) (hts (.fieldLink RX4 57 "PartCurvesModel" "ruleOf" "[I") (by decide +kernel)) rfl dX4_manyRule_14 ?_
        refine lv_iload_n hx hb dX4_manyRule_17 rfl (lv_at hl 3 rfl) ?_
        refine qIld (v := (z 5 j)) hx hb hK hP 15 rfl (vp_in_nI (n := j) (N := 60) (by omega) (by decide)) (congrArg (z 5) (nI_e j (by omega))) dX4_manyRule_18 ?_
        refine lv_iload_n hx hb dX4_manyRule_19 rfl (lv_at hl 1 rfl) ?_
        refine lv_icmp_ne (tgt := 27) hx hb dX4_manyRule_20 (by decide) (fun c_20 => ?_) (fun c_20 => ?_)
        · -- 20 taken
          refine lv_iconst (v := 0) hx hb dX4_manyRule_27 rfl ?_
          refine lv_iadd hx hb dX4_manyRule_28 ?_
          refine lv_istore_n (lv' := [(2, .int (t + 0)), (0, .ref (am 0)), (1, .int q), (3, .int (nI j))]) hx hb dX4_manyRule_29 rfl hl (by decide) rfl (fun ls hl => ?_)
          refine lv_iinc (v := nI (j + 1)) (lv' := [(3, .int (nI (j + 1))), (2, .int (t + 0)), (0, .ref (am 0)), (1, .int q)]) hx hb dX4_manyRule_30 hl (k := 3) rfl (nI_1 j) (by decide) rfl (fun ls hl => ?_)
          refine lv_goto (tgt := 4) hx hb dX4_manyRule_33 (by decide) ?_
          exact ih (j + 1) _ (by omega) (by rw [← hz, wrR, if_neg c_20, add0]) _ _ hP hS ls (lv_sub hl [2, 3, 1, 0] rfl)
        · -- 20 not taken
          refine lv_iconst (v := 1) hx hb dX4_manyRule_23 rfl ?_
          refine lv_goto (tgt := 28) hx hb dX4_manyRule_24 (by decide) ?_
          refine lv_iadd hx hb dX4_manyRule_28 ?_
          refine lv_istore_n (lv' := [(2, .int (t + 1)), (0, .ref (am 0)), (1, .int q), (3, .int (nI j))]) hx hb dX4_manyRule_29 rfl hl (by decide) rfl (fun ls hl => ?_)
          refine lv_iinc (v := nI (j + 1)) (lv' := [(3, .int (nI (j + 1))), (2, .int (t + 1)), (0, .ref (am 0)), (1, .int q)]) hx hb dX4_manyRule_30 hl (k := 3) rfl (nI_1 j) (by decide) rfl (fun ls hl => ?_)
          refine lv_goto (tgt := 4) hx hb dX4_manyRule_33 (by decide) ?_
          exact ih (j + 1) _ (by omega) (by rw [← hz, wrR, if_pos c_20]) _ _ hP hS ls (lv_sub hl [2, 3, 1, 0] rfl)
  refine lv_iconst (v := 0) hx hb dX4_manyRule_0 rfl ?_
  refine lv_istore_n (lv' := [(2, .int 0), (0, .ref (am 0)), (1, .int q)]) hx hb dX4_manyRule_1 rfl hl (by decide) rfl (fun ls hl => ?_)
  refine lv_iconst (v := 0) hx hb dX4_manyRule_2 rfl ?_
  refine lv_istore_n (lv' := [(3, .int 0), (2, .int 0), (0, .ref (am 0)), (1, .int q)]) hx hb dX4_manyRule_3 rfl hl (by decide) rfl (fun ls hl => ?_)
  exact loop (ix (z 0 3)) 0 0 (Nat.zero_add _) rfl _ _ hP hS ls (lv_sub hl [2, 3, 1, 0] rfl)
set_option maxHeartbeats 4000000 in
set_option maxRecDepth 100000 in
theorem kX4_many (l : Launch) (g : qG) {am : Nat → Nat} (z : zS) (r : Nat → Int32) (hj : adInj 18 am) (hI : qInv z) (w : Int32) : qMi l yX4_many wsX4_many 2 g (WMu g am) (adOf 18 am) (z, r) [.ref (am 0), .int w] (s_many z w) (z, r) := by
  refine qStart (cc := cX4_many) (maxL := 7) (ret := (some .int)) (plainFor_of_name (by decide)) rfl (Nat.le_of_ble_eq_true rfl) ?_
  intro p e s m args below meth c hx hb hml hown hts hr hlk hP hK ls hl
  have hl : lv_has ls 7 [(0, .ref (am 0)), (1, .int w)] := hl
  have hS : va_S (adOf 18 am) s.heap s.heap [] := va_S.rf
  have hin4 : ∀ w ∈ u_ws RX4 TX4 25, w ∈ wsX4_many := by decide +kernel
  have inner : ∀ (k : Nat) (j q : Nat) (t1 t2 t3 : Int32), j < 4 → q + k = 8 → (∀ (H : Heap) (locs : List Loc), va_P g.1 vwCl ((WMu g am) (z, r)) H → va_S (adOf 18 am) s.heap H locs → ∀ ls : Array Slot, lv_has ls 7 [(0, .ref (am 0)), (1, .int w), (2, .int t1), (3, .int t2), (4, .int (bcR (z 1 j) k q t3)), (5, .int (nI j))] → W p l e (rmL 2) s m args below meth c H locs 0 0 (MQ below (va_Qi (fun q9 u9 => q9 = s_many z w ∧ u9 = (z, r)) (qU g (WMu g am)) (adOf 18 am)) args s 0 0 (adOf 18 am)) (F0 m 95 ls [])) → ∀ (H : Heap) (locs : List Loc), va_P g.1 vwCl ((WMu g am) (z, r)) H → va_S (adOf 18 am) s.heap H locs → ∀ ls : Array Slot, lv_has ls 7 [(0, .ref (am 0)), (1, .int w), (2, .int t1), (3, .int t2), (4, .int t3), (5, .int (nI j)), (6, .int (nI q))] → W p l e (rmL 2) s m args below meth c H locs 0 0 (MQ below (va_Qi (fun q9 u9 => q9 = s_many z w ∧ u9 = (z, r)) (qU g (WMu g am)) (adOf 18 am)) args s 0 0 (adOf 18 am)) (F0 m 65 ls []) := by
    intro k
    induction k with
    | zero =>
      intro j q t1 t2 t3 hj4 hq2 hc H locs hP hS ls hl
      refine lv_iload hx hb dX4_many_65 (lv_at hl 6 rfl) ?_
      refine lv_bipush (v := 8) hx hb dX4_many_67 (by decide) ?_
      refine lv_icmp_ge (tgt := 95) hx hb dX4_many_69 (by decide) (fun c_69 => ?_) (fun c_69 => ?_)
      · -- 69 taken
        have c_69n := i_le_t c_69
        exact hc _ _ hP hS ls (lv_sub hl [0, 1, 2, 3, 4, 5] rfl)
      · -- 69 not taken
        have c_69n := i_le_f c_69
        exact absurd (nI_lt' (b := 8) (by omega) (by omega) c_69) (by omega)
    | succ k ih =>
      intro j q t1 t2 t3 hj4 hq2 hc H locs hP hS ls hl
      refine lv_iload hx hb dX4_many_65 (lv_at hl 6 rfl) ?_
      refine lv_bipush (v := 8) hx hb dX4_many_67 (by decide) ?_
      refine lv_icmp_ge (tgt := 95) hx hb dX4_many_69 (by decide) (fun c_69 => ?_) (fun c_69 => ?_)
      · -- 69 taken
        have c_69n := i_le_t c_69
        exact absurd (nI_ge' (b := 8) (by omega) (by omega) c_69) (by omega)
      · -- 69 not taken
        have c_69n := i_le_f c_69
        refine lv_iload hx hb dX4_many_72 (lv_at hl 4 rfl) ?_
        refine lv_aload_n hx hb dX4_many_74 rfl (lv_at hl 0 rfl) ?_
        refine qGet (ci := 4) (v := .ref (am 11)) (C := RX4) (T := TX4) (N := 25) hx hb hts hin4 hown hK hP 0 rfl rfl 10 (by decide) (hts (.fieldLink RX4 41 "PartCurvesModel" "pinsOf" "[I") (by decide +kernel)) rfl dX4_many_75 ?_
        refine lv_iload hx hb dX4_many_78 (lv_at hl 5 rfl) ?_
        refine qIld (v := (z 1 j)) hx hb hK hP 11 rfl (vp_in_nI (n := j) (N := 4) (by omega) (by decide)) (congrArg (z 1) (nI_e j (by omega))) dX4_many_80 ?_
        refine lv_iload hx hb dX4_many_81 (lv_at hl 6 rfl) ?_
        refine lv_ishr hx hb dX4_many_83 ?_
        refine lv_iconst (v := 1) hx hb dX4_many_84 rfl ?_
        refine lv_iand hx hb dX4_many_85 ?_
        refine lv_iadd hx hb dX4_many_86 ?_
        refine lv_istore (lv' := [(4, .int (t3 + (((z 1 j) >>> ((nI q) &&& 31)) &&& 1))), (0, .ref (am 0)), (1, .int w), (2, .int t1), (3, .int t2), (5, .int (nI j)), (6, .int (nI q))]) hx hb dX4_many_87 hl (by decide) rfl (fun ls hl => ?_)
        refine lv_iinc (v := nI (q + 1)) (lv' := [(6, .int (nI (q + 1))), (4, .int (t3 + (((z 1 j) >>> ((nI q) &&& 31)) &&& 1))), (0, .ref (am 0)), (1, .int w), (2, .int t1), (3, .int t2), (5, .int (nI j))]) hx hb dX4_many_89 hl (k := 6) rfl (nI_1 q) (by decide) rfl (fun ls hl => ?_)
        refine lv_goto (tgt := 65) hx hb dX4_many_92 (by decide) ?_
        exact ih j (q + 1) t1 t2 _ hj4 (by omega) hc _ _ hP hS ls (lv_sub hl [2, 3, 4, 5, 1, 6, 0] rfl)
  have loop : ∀ (k : Nat) (j : Nat) (t1 t2 t3 : Int32), j + k = 4 → ptR z false k j t1 = ptR z false 4 0 0 → ptR z true k j t2 = ptR z true 4 0 0 → clR z k j t3 = clR z 4 0 0 → ∀ (H : Heap) (locs : List Loc), va_P g.1 vwCl ((WMu g am) (z, r)) H → va_S (adOf 18 am) s.heap H locs → ∀ ls : Array Slot, lv_has ls 7 [(0, .ref (am 0)), (1, .int w), (2, .int t1), (3, .int t2), (4, .int t3), (5, .int (nI j))] → W p l e (rmL 2) s m args below meth c H locs 0 0 (MQ below (va_Qi (fun q9 u9 => q9 = s_many z w ∧ u9 = (z, r)) (qU g (WMu g am)) (adOf 18 am)) args s 0 0 (adOf 18 am)) (F0 m 10 ls []) := by
    intro k
    induction k with
    | zero =>
      intro j t1 t2 t3 hj2 hz1 hz2 hz3 H locs hP hS ls hl
      refine lv_iload hx hb dX4_many_10 (lv_at hl 5 rfl) ?_
      refine lv_iconst (v := 4) hx hb dX4_many_12 rfl ?_
      refine lv_icmp_ge (tgt := 101) hx hb dX4_many_13 (by decide) (fun c_13 => ?_) (fun c_13 => ?_)
      · -- 13 taken
        have c_13n := i_le_t c_13
        refine lv_iload_n hx hb dX4_many_101 rfl (lv_at hl 1 rfl) ?_
        by_cases c_102_is0 : w = 0
        · -- 102 is 0
          refine lv_tableIn (tgt := 140) hx hb dX4_many_102 (by rw [c_102_is0]; decide) (by rw [c_102_is0]; decide) (by rw [c_102_is0]; rfl) (by decide) ?_
          refine lv_iload_n hx hb dX4_many_140 rfl (lv_at hl 2 rfl) ?_
          exact qRi hx hb hr hlk hP hK hS dX4_many_141 (by unfold s_many; rw [if_pos c_102_is0]; exact hz1) rfl
        by_cases c_102_is1 : w = 1
        · -- 102 is 1
          refine lv_tableIn (tgt := 142) hx hb dX4_many_102 (by rw [c_102_is1]; decide) (by rw [c_102_is1]; decide) (by rw [c_102_is1]; rfl) (by decide) ?_
          refine lv_aload_n hx hb dX4_many_142 rfl (lv_at hl 0 rfl) ?_
          refine qGet (ci := 4) (v := .int (z 0 3)) (C := RX4) (T := TX4) (N := 25) hx hb hts hin4 hown hK hP 0 rfl rfl 16 (by decide) (hts (.fieldLink RX4 142 "PartCurvesModel" "readings" "I") (by decide +kernel)) rfl dX4_many_143 ?_
          exact qRi hx hb hr hlk hP hK hS dX4_many_146 (by unfold s_many; rw [if_neg c_102_is0, if_pos c_102_is1]) rfl
        by_cases c_102_is2 : w = 2
        · -- 102 is 2
          refine lv_tableIn (tgt := 147) hx hb dX4_many_102 (by rw [c_102_is2]; decide) (by rw [c_102_is2]; decide) (by rw [c_102_is2]; rfl) (by decide) ?_
          refine lv_iload hx hb dX4_many_147 (lv_at hl 4 rfl) ?_
          exact qRi hx hb hr hlk hP hK hS dX4_many_149 (by unfold s_many; rw [if_neg c_102_is0, if_neg c_102_is1, if_pos c_102_is2]; exact hz3) rfl
        by_cases c_102_is3 : w = 3
        · -- 102 is 3
          refine lv_tableIn (tgt := 150) hx hb dX4_many_102 (by rw [c_102_is3]; decide) (by rw [c_102_is3]; decide) (by rw [c_102_is3]; rfl) (by decide) ?_
          refine lv_iload_n hx hb dX4_many_150 rfl (lv_at hl 3 rfl) ?_
          exact qRi hx hb hr hlk hP hK hS dX4_many_151 (by unfold s_many; rw [if_neg c_102_is0, if_neg c_102_is1, if_neg c_102_is2, if_pos c_102_is3]; exact hz2) rfl
        by_cases c_102_is4 : w = 4
        · -- 102 is 4
          refine lv_tableIn (tgt := 152) hx hb dX4_many_102 (by rw [c_102_is4]; decide) (by rw [c_102_is4]; decide) (by rw [c_102_is4]; rfl) (by decide) ?_
          refine lv_aload_n hx hb dX4_many_152 rfl (lv_at hl 0 rfl) ?_
          refine lv_iload_n hx hb dX4_many_153 rfl (lv_at hl 1 rfl) ?_
          refine lv_iconst (v := 3) hx hb dX4_many_154 rfl ?_
          refine lv_isub hx hb dX4_many_155 ?_
          refine lv_nm (y := 1) (by rw [c_102_is4]; rfl) ?_
          refine qVi (As := [.int 1]) (rest := []) hx hb hml hown hts (kX4_manyRule l g z r hj 1 (inv_rc hI)) gX4_many_X4_manyRule rfl 1 hdX4_manyRule rfl ⟨Nat.le_of_ble_eq_true rfl, Nat.le_of_ble_eq_true rfl⟩ ⟨Nat.zero_le _, Nat.zero_le _⟩ hK hP hS (fun _ h => h) 0 4 rfl rfl rfl hl.1 rfl (Nat.le_of_ble_eq_true rfl) dX4_many_156 (fun H locs hP hS => ?_)
          exact qRi hx hb hr hlk hP hK hS dX4_many_159 (by unfold s_many; rw [if_neg c_102_is0, if_neg c_102_is1, if_neg c_102_is2, if_neg c_102_is3, if_pos c_102_is4]) rfl
        by_cases c_102_is5 : w = 5
        · -- 102 is 5
          refine lv_tableIn (tgt := 152) hx hb dX4_many_102 (by rw [c_102_is5]; decide) (by rw [c_102_is5]; decide) (by rw [c_102_is5]; rfl) (by decide) ?_
          refine lv_aload_n hx hb dX4_many_152 rfl (lv_at hl 0 rfl) ?_
          refine lv_iload_n hx hb dX4_many_153 rfl (lv_at hl 1 rfl) ?_
          refine lv_iconst (v := 3) hx hb dX4_many_154 rfl ?_
          refine lv_isub hx hb dX4_many_155 ?_
          refine lv_nm (y := 2) (by rw [c_102_is5]; rfl) ?_
          refine qVi (As := [.int 2]) (rest := []) hx hb hml hown hts (kX4_manyRule l g z r hj 2 (inv_rc hI)) gX4_many_X4_manyRule rfl 1 hdX4_manyRule rfl ⟨Nat.le_of_ble_eq_true rfl, Nat.le_of_ble_eq_true rfl⟩ ⟨Nat.zero_le _, Nat.zero_le _⟩ hK hP hS (fun _ h => h) 0 4 rfl rfl rfl hl.1 rfl (Nat.le_of_ble_eq_true rfl) dX4_many_156 (fun H locs hP hS => ?_)
          exact qRi hx hb hr hlk hP hK hS dX4_many_159 (by unfold s_many; rw [if_neg c_102_is0, if_neg c_102_is1, if_neg c_102_is2, if_neg c_102_is3, if_neg c_102_is4, if_pos c_102_is5]) rfl
        refine lv_tableOut (tgt := 160) hx hb dX4_many_102 (by have := ne_toInt c_102_is0 (k := 0) rfl; have := ne_toInt c_102_is1 (k := 1) rfl; have := ne_toInt c_102_is2 (k := 2) rfl; have := ne_toInt c_102_is3 (k := 3) rfl; have := ne_toInt c_102_is4 (k := 4) rfl; have := ne_toInt c_102_is5 (k := 5) rfl; omega) (by decide) ?_
        refine lv_bipush (v := -2) hx hb dX4_many_160 (by decide) ?_
        exact qRi hx hb hr hlk hP hK hS dX4_many_162 (by unfold s_many; rw [if_neg c_102_is0, if_neg c_102_is1, if_neg c_102_is2, if_neg c_102_is3, if_neg c_102_is4, if_neg c_102_is5]) rfl
      · -- 13 not taken
        have c_13n := i_le_f c_13
        exact absurd (nI_lt' (b := 4) (by omega) (by omega) c_13) (by omega)
    | succ k ih =>
      intro j t1 t2 t3 hj2 hz1 hz2 hz3 H locs hP hS ls hl
      refine lv_iload hx hb dX4_many_10 (lv_at hl 5 rfl) ?_
      refine lv_iconst (v := 4) hx hb dX4_many_12 rfl ?_
      refine lv_icmp_ge (tgt := 101) hx hb dX4_many_13 (by decide) (fun c_13 => ?_) (fun c_13 => ?_)
      · -- 13 taken
        have c_13n := i_le_t c_13
        exact absurd (nI_ge' (b := 4) (by omega) (by omega) c_13) (by omega)
      · -- 13 not taken
        have c_13n := i_le_f c_13
        refine lv_iload_n hx hb dX4_many_16 rfl (lv_at hl 2 rfl) ?_
        refine lv_aload_n hx hb dX4_many_17 rfl (lv_at hl 0 rfl) ?_
        refine qGet (ci := 4) (v := .ref (am 1)) (C := RX4) (T := TX4) (N := 25) hx hb hts hin4 hown hK hP 0 rfl rfl 0 (by decide) (hts (.fieldLink RX4 7 "PartCurvesModel" "isThere" "[Z") (by decide +kernel)) rfl dX4_many_18 ?_
        refine lv_iload hx hb dX4_many_21 (lv_at hl 5 rfl) ?_
        refine qZld (v := (z (10 + j) 0)) hx hb hK hP 1 rfl (vp_in_nI (n := j) (N := 4) (by omega) (by decide)) (congrArg (fun n9 => z (10 + n9) 0) (nI_e j (by omega))) dX4_many_23 ?_
        refine lv_if_eq (tgt := 31) hx hb dX4_many_24 (by decide) (fun c_24 => ?_) (fun c_24 => ?_)
        · -- 24 taken
          refine lv_iconst (v := 0) hx hb dX4_many_31 rfl ?_
          refine lv_iadd hx hb dX4_many_32 ?_
          refine lv_istore_n (lv' := [(2, .int (t1 + 0)), (0, .ref (am 0)), (1, .int w), (3, .int t2), (4, .int t3), (5, .int (nI j))]) hx hb dX4_many_33 rfl hl (by decide) rfl (fun ls hl => ?_)
          refine lv_iload_n hx hb dX4_many_34 rfl (lv_at hl 3 rfl) ?_
          refine lv_aload_n hx hb dX4_many_35 rfl (lv_at hl 1 rfl) ?_
          refine qGet (ci := 4) (v := .ref (am 1)) (C := RX4) (T := TX4) (N := 25) hx hb hts hin4 hown hK hP 0 rfl rfl 0 (by decide) (hts (.fieldLink RX4 7 "PartCurvesModel" "isThere" "[Z") (by decide +kernel)) rfl dX4_many_36 ?_
          refine lv_iload hx hb dX4_many_39 (lv_at hl 5 rfl) ?_
          refine qZld (v := (z (10 + j) 0)) hx hb hK hP 1 rfl (vp_in_nI (n := j) (N := 4) (by omega) (by decide)) (congrArg (fun n9 => z (10 + n9) 0) (nI_e j (by omega))) dX4_many_41 ?_
          refine lv_if_eq (tgt := 59) hx hb dX4_many_42 (by decide) (fun c_42 => ?_) (fun c_42 => ?_)
          · -- 42 taken
            refine lv_iconst (v := 0) hx hb dX4_many_59 rfl ?_
            refine lv_iadd hx hb dX4_many_60 ?_
            refine lv_istore_n (lv' := [(3, .int (t2 + 0)), (2, .int (t1 + 0)), (0, .ref (am 0)), (1, .int w), (4, .int t3), (5, .int (nI j))]) hx hb dX4_many_61 rfl hl (by decide) rfl (fun ls hl => ?_)
            refine lv_iconst (v := 0) hx hb dX4_many_62 rfl ?_
            refine lv_istore (lv' := [(6, .int 0), (3, .int (t2 + 0)), (2, .int (t1 + 0)), (0, .ref (am 0)), (1, .int w), (4, .int t3), (5, .int (nI j))]) hx hb dX4_many_63 hl (by decide) rfl (fun ls hl => ?_)
            refine inner 8 j 0 _ _ t3 (by omega) rfl ?_ _ _ hP hS ls (lv_sub hl [3, 4, 2, 1, 5, 6, 0] rfl)
            intro H locs hP hS ls hl
            refine lv_iinc (v := nI (j + 1)) (lv' := [(5, .int (nI (j + 1))), (0, .ref (am 0)), (1, .int w), (2, .int (t1 + 0)), (3, .int (t2 + 0)), (4, .int (bcR (z 1 j) 8 0 t3))]) hx hb dX4_many_95 hl (k := 5) rfl (nI_1 j) (by decide) rfl (fun ls hl => ?_)
            refine lv_goto (tgt := 10) hx hb dX4_many_98 (by decide) ?_
            exact ih (j + 1) _ _ _ (by omega) (by rw [← hz1, ptR, if_pos c_24, add0]) (by rw [← hz2, ptR, if_pos c_42, add0]) (by rw [← hz3, clR, bc_eq (inv_pn hI j (by omega))]) _ _ hP hS ls (lv_sub hl [1, 2, 3, 4, 5, 0] rfl)
          · -- 42 not taken
            exact absurd c_24 c_42
        · -- 24 not taken
          refine lv_iconst (v := 1) hx hb dX4_many_27 rfl ?_
          refine lv_goto (tgt := 32) hx hb dX4_many_28 (by decide) ?_
          refine lv_iadd hx hb dX4_many_32 ?_
          refine lv_istore_n (lv' := [(2, .int (t1 + 1)), (0, .ref (am 0)), (1, .int w), (3, .int t2), (4, .int t3), (5, .int (nI j))]) hx hb dX4_many_33 rfl hl (by decide) rfl (fun ls hl => ?_)
          refine lv_iload_n hx hb dX4_many_34 rfl (lv_at hl 3 rfl) ?_
          refine lv_aload_n hx hb dX4_many_35 rfl (lv_at hl 1 rfl) ?_
          refine qGet (ci := 4) (v := .ref (am 1)) (C := RX4) (T := TX4) (N := 25) hx hb hts hin4 hown hK hP 0 rfl rfl 0 (by decide) (hts (.fieldLink RX4 7 "PartCurvesModel" "isThere" "[Z") (by decide +kernel)) rfl dX4_many_36 ?_
          refine lv_iload hx hb dX4_many_39 (lv_at hl 5 rfl) ?_
          refine qZld (v := (z (10 + j) 0)) hx hb hK hP 1 rfl (vp_in_nI (n := j) (N := 4) (by omega) (by decide)) (congrArg (fun n9 => z (10 + n9) 0) (nI_e j (by omega))) dX4_many_41 ?_
          refine lv_if_eq (tgt := 59) hx hb dX4_many_42 (by decide) (fun c_42 => ?_) (fun c_42 => ?_)
          · -- 42 taken
            exact absurd c_42 c_24
          · -- 42 not taken
            refine lv_aload_n hx hb dX4_many_45 rfl (lv_at hl 1 rfl) ?_
            refine qGet (ci := 4) (v := .ref (am 9)) (C := RX4) (T := TX4) (N := 25) hx hb hts hin4 hown hK hP 0 rfl rfl 8 (by decide) (hts (.fieldLink RX4 35 "PartCurvesModel" "isBurnt" "[Z") (by decide +kernel)) rfl dX4_many_46 ?_
            refine lv_iload hx hb dX4_many_49 (lv_at hl 5 rfl) ?_
            refine qZld (v := (z (10 + j) 1)) hx hb hK hP 9 rfl (vp_in_nI (n := j) (N := 4) (by omega) (by decide)) (congrArg (fun n9 => z (10 + n9) 1) (nI_e j (by omega))) dX4_many_51 ?_
            refine lv_if_eq (tgt := 59) hx hb dX4_many_52 (by decide) (fun c_52 => ?_) (fun c_52 => ?_)
            · -- 52 taken
              refine lv_iconst (v := 0) hx hb dX4_many_59 rfl ?_
              refine lv_iadd hx hb dX4_many_60 ?_
              refine lv_istore_n (lv' := [(3, .int (t2 + 0)), (2, .int (t1 + 1)), (0, .ref (am 0)), (1, .int w), (4, .int t3), (5, .int (nI j))]) hx hb dX4_many_61 rfl hl (by decide) rfl (fun ls hl => ?_)
              refine lv_iconst (v := 0) hx hb dX4_many_62 rfl ?_
              refine lv_istore (lv' := [(6, .int 0), (3, .int (t2 + 0)), (2, .int (t1 + 1)), (0, .ref (am 0)), (1, .int w), (4, .int t3), (5, .int (nI j))]) hx hb dX4_many_63 hl (by decide) rfl (fun ls hl => ?_)
              refine inner 8 j 0 _ _ t3 (by omega) rfl ?_ _ _ hP hS ls (lv_sub hl [3, 4, 2, 1, 5, 6, 0] rfl)
              intro H locs hP hS ls hl
              refine lv_iinc (v := nI (j + 1)) (lv' := [(5, .int (nI (j + 1))), (0, .ref (am 0)), (1, .int w), (2, .int (t1 + 1)), (3, .int (t2 + 0)), (4, .int (bcR (z 1 j) 8 0 t3))]) hx hb dX4_many_95 hl (k := 5) rfl (nI_1 j) (by decide) rfl (fun ls hl => ?_)
              refine lv_goto (tgt := 10) hx hb dX4_many_98 (by decide) ?_
              exact ih (j + 1) _ _ _ (by omega) (by rw [← hz1, ptR, if_neg c_24, if_neg (fun h => Bool.noConfusion h.2)]) (by rw [← hz2, ptR, if_neg c_42, if_pos ⟨c_52, rfl⟩, add0]) (by rw [← hz3, clR, bc_eq (inv_pn hI j (by omega))]) _ _ hP hS ls (lv_sub hl [1, 2, 3, 4, 5, 0] rfl)
            · -- 52 not taken
              refine lv_iconst (v := 1) hx hb dX4_many_55 rfl ?_
              refine lv_goto (tgt := 60) hx hb dX4_many_56 (by decide) ?_
              refine lv_iadd hx hb dX4_many_60 ?_
              refine lv_istore_n (lv' := [(3, .int (t2 + 1)), (2, .int (t1 + 1)), (0, .ref (am 0)), (1, .int w), (4, .int t3), (5, .int (nI j))]) hx hb dX4_many_61 rfl hl (by decide) rfl (fun ls hl => ?_)
              refine lv_iconst (v := 0) hx hb dX4_many_62 rfl ?_
              refine lv_istore (lv' := [(6, .int 0), (3, .int (t2 + 1)), (2, .int (t1 + 1)), (0, .ref (am 0)), (1, .int w), (4, .int t3), (5, .int (nI j))]) hx hb dX4_many_63 hl (by decide) rfl (fun ls hl => ?_)
              refine inner 8 j 0 _ _ t3 (by omega) rfl ?_ _ _ hP hS ls (lv_sub hl [3, 4, 2, 1, 5, 6, 0] rfl)
              intro H locs hP hS ls hl
              refine lv_iinc (v := nI (j + 1)) (lv' := [(5, .int (nI (j + 1))), (0, .ref (am 0)), (1, .int w), (2, .int (t1 + 1)), (3, .int (t2 + 1)), (4, .int (bcR (z 1 j) 8 0 t3))]) hx hb dX4_many_95 hl (k := 5) rfl (nI_1 j) (by decide) rfl (fun ls hl => ?_)
              refine lv_goto (tgt := 10) hx hb dX4_many_98 (by decide) ?_
              exact ih (j + 1) _ _ _ (by omega) (by rw [← hz1, ptR, if_neg c_24, if_neg (fun h => Bool.noConfusion h.2)]) (by rw [← hz2, ptR, if_neg c_42, if_neg (fun h => c_52 h.1)]) (by rw [← hz3, clR, bc_eq (inv_pn hI j (by omega))]) _ _ hP hS ls (lv_sub hl [1, 2, 3, 4, 5, 0] rfl)
  refine lv_iconst (v := 0) hx hb dX4_many_0 rfl ?_
  refine lv_istore_n (lv' := [(2, .int 0), (0, .ref (am 0)), (1, .int w)]) hx hb dX4_many_1 rfl hl (by decide) rfl (fun ls hl => ?_)
  refine lv_iconst (v := 0) hx hb dX4_many_2 rfl ?_
  refine lv_istore_n (lv' := [(3, .int 0), (2, .int 0), (0, .ref (am 0)), (1, .int w)]) hx hb dX4_many_3 rfl hl (by decide) rfl (fun ls hl => ?_)
  refine lv_iconst (v := 0) hx hb dX4_many_4 rfl ?_
  refine lv_istore (lv' := [(4, .int 0), (3, .int 0), (2, .int 0), (0, .ref (am 0)), (1, .int w)]) hx hb dX4_many_5 hl (by decide) rfl (fun ls hl => ?_)
  refine lv_iconst (v := 0) hx hb dX4_many_7 rfl ?_
  refine lv_istore (lv' := [(5, .int 0), (4, .int 0), (3, .int 0), (2, .int 0), (0, .ref (am 0)), (1, .int w)]) hx hb dX4_many_8 hl (by decide) rfl (fun ls hl => ?_)
  exact loop 4 0 0 0 0 rfl rfl rfl rfl _ _ hP hS ls (lv_sub hl [4, 5, 3, 2, 1, 0] rfl)
