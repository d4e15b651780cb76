/-! THE LAW'S FIRST AND LAST QUESTIONS. -/
theorem e_now0 : s_now z0 0 = -9 := by decide +kernel
theorem e_now1 : s_now z0 1 = 2 := by decide +kernel
theorem e_inH : inH z0 = -9 := by decide +kernel
theorem e_pow : s_power z0 1 = (-3, z0) := by unfold s_power; rw [if_pos (by decide), if_pos ⟨rfl, e_inH⟩]
theorem e_would : s_would z0 0 0 = -3 := by unfold s_would; rw [if_pos ⟨by decide, by decide⟩, if_pos e_inH]
theorem e_pulse : s_pulse z0 0 1 = (-3, z0) := by unfold s_pulse; rw [if_pos ⟨by decide, by decide⟩, if_pos (show z0 0 0 = 0 from rfl)]
theorem e_cool : coolA z0 5 = z0 := by
  funext a c
  rw [cool_A]
  split
  · rename_i h
    obtain ⟨h1, h2, h3⟩ := h
    rw [h1, show a = 10 + (a - 10) by omega, z0_hi]
    decide +kernel
  · rfl
theorem e_rest : s_rest z0 5 = (0, z0) := by
  unfold s_rest
  rw [if_pos (by decide), show ix (5 : Int32) = 5 from rfl, e_cool]
  have : mxR z0 4 0 0 = 0 := by decide +kernel
  rw [this]
theorem e_why : s_why z0 0 0 = -9 := by decide +kernel
theorem e_knee : s_knee z0 0 0 = -1 := by decide +kernel
theorem e_fit : s_fit z0 0 0 0 = -9223372036854775808 := by decide +kernel
theorem e_clear : s_clear z0 = (0, z0) := by
  unfold s_clear
  have e : z0 0 3 = 0 := rfl
  have e2 : zu z0 0 3 0 = z0 := by
    have := zu_self z0 0 3
    rw [e] at this; exact this
  rw [e2, e]
theorem e_LB : LB 0 z0 z0 := ⟨z0_inv, z0_inv, ⟨rfl, fun _ _ => rfl, rfl, rfl, rfl⟩, rfl, fun n _ _ => by rw [z0_hi], fun n h => absurd h (Nat.not_lt_zero n)⟩
-- the last ones
theorem f_1 (z : zS) : s_part z 4 0 1 0 = (-1, z) := by unfold s_part; rw [if_neg (by decide)]
theorem f_2 (z : zS) : s_part z 0 8 1 0 = (-1, z) := by unfold s_part; rw [if_neg (by decide)]
theorem f_3 (z : zS) : s_part z 0 0 1 4 = (-2, z) := by unfold s_part; rw [if_pos (by decide), if_neg (by decide)]
theorem f_4 (z : zS) : s_part z 0 1 1 0 = (-3, z) := by unfold s_part; rw [if_pos (by decide), if_pos (by decide), if_pos (Or.inl rfl)]
theorem f_ok {z : zS} (h : z (10 + 0) 0 = 1) : pOk z 0 = true := by
  unfold pOk
  rw [show ix (0 : Int32) = 0 from rfl, h]; rfl
theorem f_5 {z : zS} (h : z (10 + 0) 0 = 1) : s_set z 0 0 0 = (-2, z) := by unfold s_set; rw [if_pos (f_ok h), if_neg (by decide)]
theorem f_6 {z : zS} (h : z (10 + 0) 0 = 1) : s_set z 0 4 6 = (-2, z) := by unfold s_set; rw [if_pos (f_ok h), if_neg (by decide)]
theorem f_7 (z : zS) : s_limit z 0 = (-2, z) := by unfold s_limit; rw [if_neg (by decide)]
theorem f_8 (z : zS) : s_leads z 201 = (-2, z) := by unfold s_leads; rw [if_neg (by decide)]
theorem f_9 (z : zS) : s_sweep z 0 0 0 1 0 0 = (-2, z) := by unfold s_sweep; rw [if_neg (by decide)]
theorem f_10 {z : zS} (h : z 0 0 = 0) : s_sweep z 0 0 1 1 0 0 = (-3, z) := by unfold s_sweep; rw [if_pos (by decide), if_pos h]
theorem f_11 (z : zS) : s_rest z 101 = (-2, z) := by unfold s_rest; rw [if_neg (by decide)]
theorem f_12 {z : zS} (h : z (10 + 0) 0 = 1) : s_amps z 0 3001 = -2 := by unfold s_amps; rw [if_pos (f_ok h), if_neg (by decide)]
-- the shape of a stretch of the law
def lawC (p : Program) (s : State) (m : MethodId) (meth : Method) (c : Code) (b L : Nat) (xs : Nat → Int32) (g : qG) (ad : Nat → Nat) : Prop := p.tables.exec = Jvm.exec ∧ c.code = code ∧ c.maxLocals = 15 ∧ s.vm.findClass RL = some m.cls ∧ (∀ w ∈ wsL_law, w.before #[Value.ref b] s = true) ∧ meth.sig.returnType = ret ∧ meth.locks = false ∧ va_X b L xs s s.heap ∧ b < s.heap.size ∧ L ≤ 260 ∧ adInj 30 ad ∧ (∀ q, adOf 30 ad q → s.heap.size ≤ q) ∧ va_K g.1 vwCl (qTys g) s ∧ qT (fun q => s.heap.size ≤ q) s
/-- from here, with these locals, this stack and these two houses, the law ends with true -/
def lawAt (p : Program) (l : Launch) (e : Env) (s : State) (m : MethodId) (below : List Frame) (meth : Method) (c : Code) (b : Nat) (g : qG) (ad : Nat → Nat) (pc : Nat) (st : List Value) (vs : List (Nat × Value)) (zo zp : zS) : Prop := ∀ (H : Heap) (locs : List Loc), va_P g.1 vwCl (WX g ad zo) H → va_P g.1 vwCl (WX g (aP ad) zp) H → va_S (fun q => s.heap.size ≤ q) s.heap H locs → ∀ ls : Array Slot, lv_has ls 15 vs → W p l e room_1 s m #[Value.ref b] below meth c H locs 30 634 (lw_Z below #[Value.ref b] s) (F0 m pc ls st)
theorem idx_1 (k e : Nat) : nI k + 20 * nI e = nI (k + 20 * e) := by rw [show (20 : Int32) = nI 20 from rfl, pk_mul, nI_add]
