theorem hdL_cell : yL_cell.cls ≠ "java/lang/invoke/MethodHandle" ∧ yL_cell.cls ≠ "java/lang/invoke/VarHandle" ∧ (parseMethodDescriptor yL_cell.desc).map (fun d => d.parameters.length) = some 2 := by decide +kernel
theorem hdL_low : yL_low.cls ≠ "java/lang/invoke/MethodHandle" ∧ yL_low.cls ≠ "java/lang/invoke/VarHandle" ∧ (parseMethodDescriptor yL_low.desc).map (fun d => d.parameters.length) = some 2 := by decide +kernel
theorem hdL_size : yL_size.cls ≠ "java/lang/invoke/MethodHandle" ∧ yL_size.cls ≠ "java/lang/invoke/VarHandle" ∧ (parseMethodDescriptor yL_size.desc).map (fun d => d.parameters.length) = some 1 := by decide +kernel
theorem hdL_cut : yL_cut.cls ≠ "java/lang/invoke/MethodHandle" ∧ yL_cut.cls ≠ "java/lang/invoke/VarHandle" ∧ (parseMethodDescriptor yL_cut.desc).map (fun d => d.parameters.length) = some 2 := by decide +kernel
theorem hdL_found : yL_found.cls ≠ "java/lang/invoke/MethodHandle" ∧ yL_found.cls ≠ "java/lang/invoke/VarHandle" ∧ (parseMethodDescriptor yL_found.desc).map (fun d => d.parameters.length) = some 2 := by decide +kernel
theorem hdL_pulse : yL_pulse.cls ≠ "java/lang/invoke/MethodHandle" ∧ yL_pulse.cls ≠ "java/lang/invoke/VarHandle" ∧ (parseMethodDescriptor yL_pulse.desc).map (fun d => d.parameters.length) = some 3 := by decide +kernel
theorem hdL_sweep : yL_sweep.cls ≠ "java/lang/invoke/MethodHandle" ∧ yL_sweep.cls ≠ "java/lang/invoke/VarHandle" ∧ (parseMethodDescriptor yL_sweep.desc).map (fun d => d.parameters.length) = some 3 := by decide +kernel
theorem hdL_both : yL_both.cls ≠ "java/lang/invoke/MethodHandle" ∧ yL_both.cls ≠ "java/lang/invoke/VarHandle" ∧ (parseMethodDescriptor yL_both.desc).map (fun d => d.parameters.length) = some 4 := by decide +kernel
theorem hdL_fits : yL_fits.cls ≠ "java/lang/invoke/MethodHandle" ∧ yL_fits.cls ≠ "java/lang/invoke/VarHandle" ∧ (parseMethodDescriptor yL_fits.desc).map (fun d => d.parameters.length) = some 3 := by decide +kernel
theorem hdL_part : yL_part.cls ≠ "java/lang/invoke/MethodHandle" ∧ yL_part.cls ≠ "java/lang/invoke/VarHandle" ∧ (parseMethodDescriptor yL_part.desc).map (fun d => d.parameters.length) = some 2 := by decide +kernel
set_option maxHeartbeats 4000000 in
set_option maxRecDepth 100000 in
theorem kL_size (l : Launch) (g : qG) {S : Type} {Wd : S → va_W} {A : Nat → Prop} (u : S) (v : Int32) : qMi l yL_size wsL_size 0 g Wd A u [.int v] (absI v) u := by
  refine qStart (cc := cL_size) (maxL := 1) (ret := (some .int)) (plainFor_of_name (by decide)) rfl (Nat.le_of_ble_eq_true rfl) ?_
  intro p e s m args below meth c hx hb hml hown hts hr hlk hP hK ls hl
  have hl : lv_has ls 1 [(0, .int v)] := hl
  have hS : va_S A s.heap s.heap [] := va_S.rf
  refine lv_iload_n hx hb dL_size_0 rfl (lv_at hl 0 rfl) ?_
  refine lv_if_ge (tgt := 9) hx hb dL_size_1 (by decide) (fun c_1 => ?_) (fun c_1 => ?_)
  · -- 1 taken
    have c_1n := i_le_t c_1
    refine lv_iload_n hx hb dL_size_9 rfl (lv_at hl 0 rfl) ?_
    exact qRi hx hb hr hlk hP hK hS dL_size_10 (sz_p c_1) rfl
  · -- 1 not taken
    have c_1n := i_le_f c_1
    refine lv_iload_n hx hb dL_size_4 rfl (lv_at hl 0 rfl) ?_
    refine lv_ineg hx hb dL_size_5 ?_
    refine lv_goto (tgt := 10) hx hb dL_size_6 (by decide) ?_
    exact qRi hx hb hr hlk hP hK hS dL_size_10 (sz_abs c_1) rfl
set_option maxHeartbeats 4000000 in
set_option maxRecDepth 100000 in
theorem kL_cut (l : Launch) (g : qG) {S : Type} {Wd : S → va_W} {A : Nat → Prop} (u : S) (x y : Int32) (hy : 0 < y.toInt) : qMi l yL_cut wsL_cut 0 g Wd A u [.int x, .int y] (fdv x y) u := by
  refine qStart (cc := cL_cut) (maxL := 3) (ret := (some .int)) (plainFor_of_name (by decide)) rfl (Nat.le_of_ble_eq_true rfl) ?_
  intro p e s m args below meth c hx hb hml hown hts hr hlk hP hK ls hl
  have hl : lv_has ls 3 [(0, .int x), (1, .int y)] := hl
  have hS : va_S A s.heap s.heap [] := va_S.rf
  refine lv_iload_n hx hb dL_cut_0 rfl (lv_at hl 0 rfl) ?_
  refine lv_iload_n hx hb dL_cut_1 rfl (lv_at hl 1 rfl) ?_
  refine lv_idiv hx hb dL_cut_2 (pos_ne hy) ?_
  refine lv_istore_n (lv' := [(2, .int (x / y)), (0, .int x), (1, .int y)]) hx hb dL_cut_3 rfl hl (by decide) rfl (fun ls hl => ?_)
  refine lv_iload_n hx hb dL_cut_4 rfl (lv_at hl 0 rfl) ?_
  refine lv_iload_n hx hb dL_cut_5 rfl (lv_at hl 2 rfl) ?_
  refine lv_imul hx hb dL_cut_6 ?_
  refine lv_iload_n hx hb dL_cut_7 rfl (lv_at hl 1 rfl) ?_
  refine lv_icmp_le (tgt := 17) hx hb dL_cut_8 (by decide) (fun c_8 => ?_) (fun c_8 => ?_)
  · -- 8 taken
    have c_8n := i_le_t c_8
    refine lv_iload_n hx hb dL_cut_17 rfl (lv_at hl 0 rfl) ?_
    exact qRi hx hb hr hlk hP hK hS dL_cut_18 (cut_a hy c_8) rfl
  · -- 8 not taken
    have c_8n := i_le_f c_8
    refine lv_iload_n hx hb dL_cut_11 rfl (lv_at hl 0 rfl) ?_
    refine lv_iconst (v := 1) hx hb dL_cut_12 rfl ?_
    refine lv_isub hx hb dL_cut_13 ?_
    refine lv_goto (tgt := 18) hx hb dL_cut_14 (by decide) ?_
    exact qRi hx hb hr hlk hP hK hS dL_cut_18 (cut_b hy c_8) rfl
set_option maxHeartbeats 4000000 in
set_option maxRecDepth 100000 in
theorem kL_low (l : Launch) (g : qG) {S : Type} {Wd : S → va_W} {A : Nat → Prop} (u : S) (v n : Int32) (hn : 0 < n.toInt) : qMi l yL_low wsL_low 0 g Wd A u [.int v, .int n] (lowF v n) u := by
  refine qStart (cc := cL_low) (maxL := 2) (ret := (some .int)) (plainFor_of_name (by decide)) rfl (Nat.le_of_ble_eq_true rfl) ?_
  intro p e s m args below meth c hx hb hml hown hts hr hlk hP hK ls hl
  have hl : lv_has ls 2 [(0, .int v), (1, .int n)] := hl
  have hS : va_S A s.heap s.heap [] := va_S.rf
  refine lv_iload_n hx hb dL_low_0 rfl (lv_at hl 0 rfl) ?_
  refine lv_ldc (v := 2147483647) hx hb hown (hts (.constant RL 8 (2147483647)) (by decide +kernel)) dL_low_1 ?_
  refine lv_iand hx hb dL_low_3 ?_
  refine lv_iload_n hx hb dL_low_4 rfl (lv_at hl 1 rfl) ?_
  refine lv_irem hx hb dL_low_5 (pos_ne hn) ?_
  exact qRi hx hb hr hlk hP hK hS dL_low_6 rfl rfl
theorem pt_abs {a : Int64} (h : a.toInt ≠ -9223372036854775808) : (if 0 ≤ a then a else -a).toInt = ((a.toInt.natAbs : Nat) : Int) := by
  have z0 : (0 : Int64).toInt = 0 := rfl
  by_cases c : 0 ≤ a
  · have := Int64.le_iff_toInt_le.mp c
    rw [if_pos c]; omega
  · have : ¬ (0 : Int64).toInt ≤ a.toInt := fun q => c (Int64.le_iff_toInt_le.mpr q)
    rw [if_neg c, fb_negL h]; omega
theorem pt_end {x : Int64} {q g : Nat} (hx : x.toInt = (q : Int)) (h : Nat.gcd q 0 = g) {a b : Int64} (hg : g = Nat.gcd a.toInt.natAbs b.toInt.natAbs) : x = ptF a b := by
  rw [Nat.gcd_zero_right] at h
  unfold ptF
  rw [← hg, ← h, ← hx]
  exact (Int64.ofInt_toInt x).symm
theorem pt_rem {x y : Int64} {m q : Nat} (hx : x.toInt = (m : Int)) (hy : y.toInt = (q : Int)) (h : ¬ y = 0) : (x - x / y * y).toInt = ((m % q : Nat) : Int) ∧ m % q < q ∧ Nat.gcd q (m % q) = Nat.gcd m q := by
  have hq : 0 < q := Nat.pos_of_ne_zero (fun t => h (Int64.toInt_inj.mp (by rw [hy, t]; rfl)))
  refine ⟨by rw [rem_Z h, hx, hy]; rfl, Nat.mod_lt _ hq, ?_⟩
  rw [Nat.gcd_comm m q, Nat.gcd_rec q m, Nat.gcd_comm (m % q) q]
set_option maxHeartbeats 4000000 in
set_option maxRecDepth 100000 in
theorem kL_part (l : Launch) (g : qG) {S : Type} {Wd : S → va_W} {A : Nat → Prop} (u : S) (a b : Int64) (hqa : a.toInt ≠ -9223372036854775808) (hqb : b.toInt ≠ -9223372036854775808) : qMl l yL_part wsL_part 0 g Wd A u [.long a, .long b] (ptF a b) u := by
  refine qStart (cc := cL_part) (maxL := 10) (ret := (some .long)) (plainFor_of_name (by decide)) rfl (Nat.le_of_ble_eq_true rfl) ?_
  intro p e s m args below meth c hx hb hml hown hts hr hlk hP hK ls hl
  have hl : lv_has ls 10 [(0, .long a), (2, .long b)] := hl
  have hS : va_S A s.heap s.heap [] := va_S.rf
  have loop : ∀ (k : Nat) (xx yy : Int64) (m1 q1 : Nat), xx.toInt = (m1 : Int) → yy.toInt = (q1 : Int) → q1 ≤ k → Nat.gcd m1 q1 = Nat.gcd a.toInt.natAbs b.toInt.natAbs → ∀ (H : Heap) (locs : List Loc), va_P g.1 vwCl (Wd u) H → va_S A s.heap H locs → ∀ ls : Array Slot, lv_has ls 10 [(0, .long a), (2, .long b), (4, .long xx), (6, .long yy)] → W p l e (rmL 0) s m args below meth c H locs 0 0 (MQ below (va_Ql (fun q9 u9 => q9 = ptF a b ∧ u9 = u) (qU g Wd) A) args s 0 0 A) (F0 m 28 ls []) := by
    intro k
    induction k with
    | zero =>
      intro xx yy m1 q1 hx1 hy1 hqk hg H locs hP hS ls hl
      refine lv_lload hx hb dL_part_28 (lv_at hl 3 rfl) ?_
      refine lv_lconst (v := 0) hx hb dL_part_30 rfl ?_
      refine W.lcmp hx hb dL_part_31 ?_
      refine lv_if_eq (tgt := 53) hx hb dL_part_32 (by decide) (fun c_32 => ?_) (fun c_32 => ?_)
      · -- 32 taken
        rw [lg_cmp_eq] at c_32
        have hy0 : q1 = 0 := by have h9 := congrArg Int64.toInt c_32; rw [hy1] at h9; have z0 : (0 : Int64).toInt = 0 := rfl; omega
        subst hy0
        refine lv_lload hx hb dL_part_53 (lv_at hl 2 rfl) ?_
        exact qRl hx hb hr hlk hP hK hS dL_part_55 (pt_end hx1 hg rfl) rfl
      · -- 32 not taken
        rw [lg_cmp_eq] at c_32
        exact absurd (Int64.toInt_inj.mp (show yy.toInt = (0 : Int64).toInt by rw [hy1, show q1 = 0 by omega]; rfl)) c_32
    | succ k ih =>
      intro xx yy m1 q1 hx1 hy1 hqk hg H locs hP hS ls hl
      refine lv_lload hx hb dL_part_28 (lv_at hl 3 rfl) ?_
      refine lv_lconst (v := 0) hx hb dL_part_30 rfl ?_
      refine W.lcmp hx hb dL_part_31 ?_
      refine lv_if_eq (tgt := 53) hx hb dL_part_32 (by decide) (fun c_32 => ?_) (fun c_32 => ?_)
      · -- 32 taken
        rw [lg_cmp_eq] at c_32
        have hy0 : q1 = 0 := by have h9 := congrArg Int64.toInt c_32; rw [hy1] at h9; have z0 : (0 : Int64).toInt = 0 := rfl; omega
        subst hy0
        refine lv_lload hx hb dL_part_53 (lv_at hl 2 rfl) ?_
        exact qRl hx hb hr hlk hP hK hS dL_part_55 (pt_end hx1 hg rfl) rfl
      · -- 32 not taken
        rw [lg_cmp_eq] at c_32
        obtain ⟨r1, r2, r3⟩ := pt_rem hx1 hy1 c_32
        refine lv_lload hx hb dL_part_35 (lv_at hl 2 rfl) ?_
        refine lv_lload hx hb dL_part_37 (lv_at hl 3 rfl) ?_
        refine lv_lrem hx hb dL_part_39 c_32 ?_
        refine lv_lstore (lv' := [(8, .long (xx - xx / yy * yy)), (0, .long a), (2, .long b), (4, .long xx), (6, .long yy)]) hx hb dL_part_40 hl (by decide) rfl (fun ls hl => ?_)
        refine lv_lload hx hb dL_part_42 (lv_at hl 4 rfl) ?_
        refine lv_lstore (lv' := [(4, .long yy), (8, .long (xx - xx / yy * yy)), (0, .long a), (2, .long b), (6, .long yy)]) hx hb dL_part_44 hl (by decide) rfl (fun ls hl => ?_)
        refine lv_lload hx hb dL_part_46 (lv_at hl 1 rfl) ?_
        refine lv_lstore (lv' := [(6, .long (xx - xx / yy * yy)), (4, .long yy), (8, .long (xx - xx / yy * yy)), (0, .long a), (2, .long b)]) hx hb dL_part_48 hl (by decide) rfl (fun ls hl => ?_)
        refine lv_goto (tgt := 28) hx hb dL_part_50 (by decide) ?_
        exact ih yy (xx - xx / yy * yy) q1 (m1 % q1) hy1 r1 (by omega) (r3.trans hg) _ _ hP hS ls (lv_sub hl [3, 4, 1, 0] rfl)
  have hX := pt_abs hqa
  have hY := pt_abs hqb
  refine lv_lload_n hx hb dL_part_0 rfl (lv_at hl 0 rfl) ?_
  refine lv_lconst (v := 0) hx hb dL_part_1 rfl ?_
  refine W.lcmp hx hb dL_part_2 ?_
  refine lv_if_ge (tgt := 11) hx hb dL_part_3 (by decide) (fun c_3 => ?_) (fun c_3 => ?_)
  · -- 3 taken
    rw [lg_cmp_ge] at c_3
    refine lv_lload_n hx hb dL_part_11 rfl (lv_at hl 0 rfl) ?_
    refine lv_nmL (y := if 0 ≤ a then a else -a) (by rw [if_pos c_3]) ?_
    refine lv_lstore (lv' := [(4, .long (if 0 ≤ a then a else -a)), (0, .long a), (2, .long b)]) hx hb dL_part_12 hl (by decide) rfl (fun ls hl => ?_)
    refine lv_lload_n hx hb dL_part_14 rfl (lv_at hl 2 rfl) ?_
    refine lv_lconst (v := 0) hx hb dL_part_15 rfl ?_
    refine W.lcmp hx hb dL_part_16 ?_
    refine lv_if_ge (tgt := 25) hx hb dL_part_17 (by decide) (fun c_17 => ?_) (fun c_17 => ?_)
    · -- 17 taken
      rw [lg_cmp_ge] at c_17
      refine lv_lload_n hx hb dL_part_25 rfl (lv_at hl 2 rfl) ?_
      refine lv_nmL (y := if 0 ≤ b then b else -b) (by rw [if_pos c_17]) ?_
      refine lv_lstore (lv' := [(6, .long (if 0 ≤ b then b else -b)), (4, .long (if 0 ≤ a then a else -a)), (0, .long a), (2, .long b)]) hx hb dL_part_26 hl (by decide) rfl (fun ls hl => ?_)
      exact loop (b.toInt.natAbs) (if 0 ≤ a then a else -a) (if 0 ≤ b then b else -b) a.toInt.natAbs b.toInt.natAbs hX hY (Nat.le_refl _) rfl _ _ hP hS ls (lv_sub hl [2, 3, 1, 0] rfl)
    · -- 17 not taken
      rw [lg_cmp_ge] at c_17
      refine lv_lload_n hx hb dL_part_20 rfl (lv_at hl 2 rfl) ?_
      refine lv_lneg hx hb dL_part_21 ?_
      refine lv_goto (tgt := 26) hx hb dL_part_22 (by decide) ?_
      refine lv_nmL (y := if 0 ≤ b then b else -b) (by rw [if_neg c_17]) ?_
      refine lv_lstore (lv' := [(6, .long (if 0 ≤ b then b else -b)), (4, .long (if 0 ≤ a then a else -a)), (0, .long a), (2, .long b)]) hx hb dL_part_26 hl (by decide) rfl (fun ls hl => ?_)
      exact loop (b.toInt.natAbs) (if 0 ≤ a then a else -a) (if 0 ≤ b then b else -b) a.toInt.natAbs b.toInt.natAbs hX hY (Nat.le_refl _) rfl _ _ hP hS ls (lv_sub hl [2, 3, 1, 0] rfl)
  · -- 3 not taken
    rw [lg_cmp_ge] at c_3
    refine lv_lload_n hx hb dL_part_6 rfl (lv_at hl 0 rfl) ?_
    refine lv_lneg hx hb dL_part_7 ?_
    refine lv_goto (tgt := 12) hx hb dL_part_8 (by decide) ?_
    refine lv_nmL (y := if 0 ≤ a then a else -a) (by rw [if_neg c_3]) ?_
    refine lv_lstore (lv' := [(4, .long (if 0 ≤ a then a else -a)), (0, .long a), (2, .long b)]) hx hb dL_part_12 hl (by decide) rfl (fun ls hl => ?_)
    refine lv_lload_n hx hb dL_part_14 rfl (lv_at hl 2 rfl) ?_
    refine lv_lconst (v := 0) hx hb dL_part_15 rfl ?_
    refine W.lcmp hx hb dL_part_16 ?_
    refine lv_if_ge (tgt := 25) hx hb dL_part_17 (by decide) (fun c_17 => ?_) (fun c_17 => ?_)
    · -- 17 taken
      rw [lg_cmp_ge] at c_17
      refine lv_lload_n hx hb dL_part_25 rfl (lv_at hl 2 rfl) ?_
      refine lv_nmL (y := if 0 ≤ b then b else -b) (by rw [if_pos c_17]) ?_
      refine lv_lstore (lv' := [(6, .long (if 0 ≤ b then b else -b)), (4, .long (if 0 ≤ a then a else -a)), (0, .long a), (2, .long b)]) hx hb dL_part_26 hl (by decide) rfl (fun ls hl => ?_)
      exact loop (b.toInt.natAbs) (if 0 ≤ a then a else -a) (if 0 ≤ b then b else -b) a.toInt.natAbs b.toInt.natAbs hX hY (Nat.le_refl _) rfl _ _ hP hS ls (lv_sub hl [2, 3, 1, 0] rfl)
    · -- 17 not taken
      rw [lg_cmp_ge] at c_17
      refine lv_lload_n hx hb dL_part_20 rfl (lv_at hl 2 rfl) ?_
      refine lv_lneg hx hb dL_part_21 ?_
      refine lv_goto (tgt := 26) hx hb dL_part_22 (by decide) ?_
      refine lv_nmL (y := if 0 ≤ b then b else -b) (by rw [if_neg c_17]) ?_
      refine lv_lstore (lv' := [(6, .long (if 0 ≤ b then b else -b)), (4, .long (if 0 ≤ a then a else -a)), (0, .long a), (2, .long b)]) hx hb dL_part_26 hl (by decide) rfl (fun ls hl => ?_)
      exact loop (b.toInt.natAbs) (if 0 ≤ a then a else -a) (if 0 ≤ b then b else -b) a.toInt.natAbs b.toInt.natAbs hX hY (Nat.le_refl _) rfl _ _ hP hS ls (lv_sub hl [2, 3, 1, 0] rfl)
