/-! THE SCRIPT'S CELLS. -/
theorem xBlind {b L : Nat} {xs : Nat → Int32} {as : List Value} : FrameBlind (va_Pc as (fun U => va_X b L xs U U.heap ∧ b < U.heap.size)) := fun a U g' mk q => ⟨q.1, q.2.1.moved (u := U) (U := U.calling g' mk a) (Vm.Alike.refl U.vm), q.2.2⟩
set_option maxHeartbeats 4000000 in
set_option maxRecDepth 100000 in
theorem kL_cell (l : Launch) {b L : Nat} (xs : Nat → Int32) {i : Nat} (hi : i < 2 ^ 31) (hL : L < 2 ^ 31) : Met l yL_cell wsL_cell (rmL 0) (va_Pc [.ref b, .int (nI i)] (fun U => va_X b L xs U U.heap ∧ b < U.heap.size)) (va_Qi (fun r (_ : Unit) => r = cellF L xs (nI i)) (fun _ _ => True) (fun _ => False)) 0 0 (fun _ => False) := by
  refine va_MetF (cc := cL_cell) (maxL := 2) (ret := (some .int)) (plainFor_of_name (by decide)) rfl ?_
  intro p e s m args below meth c s₁ B hml hv
  obtain ⟨rfl, hX, hbl⟩ := hv
  rw [lg_entry_eq]
  have hx := B.exec
  have hb := B.bytes
  have hown : s.vm.findClass RL = some m.cls := findClass_of_methodNamed B.named
  have hts := atoms_spec (ws := wsL_cell) B.pre
  have hr := B.returns
  have hlk := B.notSynchronized
  have hS : va_S (fun _ : Nat => False) s.heap s.heap [] := va_S.rf
  have key : ∀ ls : Array Slot, lv_has ls 2 (lv_args 0 [.ref b, .int (nI i)]) → W p l e (rmL 0) s m ([.ref b, .int (nI i)] : List Value).toArray below meth c s.heap [] 0 0 (MQ below (va_Qi (fun r (_ : Unit) => r = cellF L xs (nI i)) (fun _ _ => True) (fun _ => False)) ([.ref b, .int (nI i)] : List Value).toArray s 0 0 (fun _ => False)) (F0 m 0 ls []) := by
    intro ls hl
    have hl : lv_has ls 2 [(0, .ref b), (1, .int (nI i))] := hl
    have fin : ∀ v : Int32, v = cellF L xs (nI i) → W p l e (rmL 0) s m ([.ref b, .int (nI i)] : List Value).toArray below meth c s.heap [] 0 0 (MQ below (va_Qi (fun r (_ : Unit) => r = cellF L xs (nI i)) (fun _ _ => True) (fun _ => False)) ([.ref b, .int (nI i)] : List Value).toArray s 0 0 (fun _ => False)) (F0 m 19 ls [.int v]) := fun v hv => W.iret (v := v) hx hb hr (fun t ht hW => ⟨⟨v, (), rfl, hv, trivial⟩, hS.F ht⟩) hS.2.2 dL_cell_19 hlk
    refine lv_iload_n hx hb dL_cell_0 rfl (lv_at hl 1 rfl) ?_
    refine lv_aload_n hx hb dL_cell_1 rfl (lv_at hl 0 rfl) ?_
    refine va_slen hx hb hX hbl (fun t => t) hS dL_cell_2 ?_
    refine lv_icmp_ge (tgt := 12) hx hb dL_cell_3 (by decide) (fun c_3 => ?_) (fun c_3 => ?_)
    · refine lv_ldc (v := 390109) hx hb hown (hts (.constant RL 7 (390109)) (by decide +kernel)) dL_cell_12 ?_
      refine lv_iload_n hx hb dL_cell_14 rfl (lv_at hl 1 rfl) ?_
      refine lv_imul hx hb dL_cell_15 ?_
      refine lv_bipush (v := 61) hx hb dL_cell_16 (by decide) ?_
      refine lv_iadd hx hb dL_cell_18 ?_
      exact fin _ (by unfold cellF; rw [if_pos c_3])
    · refine lv_aload_n hx hb dL_cell_6 rfl (lv_at hl 0 rfl) ?_
      refine lv_iload_n hx hb dL_cell_7 rfl (lv_at hl 1 rfl) ?_
      refine va_sld hx hb hX hbl (fun t => t) hS (vp_in_nI (n := i) (N := L) (nI_lt' (b := L) hi hL c_3) hL) dL_cell_8 ?_
      refine lv_goto (tgt := 19) hx hb dL_cell_9 (by decide) ?_
      exact fin _ (by unfold cellF; rw [if_neg c_3])
  exact key _ (lv_entry _ (Nat.le_of_ble_eq_true rfl))
theorem qCell {p : Program} {l : Launch} {e : Env} {R : Room} {s : State} {m : MethodId} {args : Array Value} {below : List Frame} {meth : Method} {c : Code} {H : Heap} {locs : List Loc} {cells slots : Nat} {Q : State → Prop} {pc : Nat} {ls : Array Slot} {A0 : Nat → Prop} {index nL b L : Nat} {xs : Nat → Int32} {i : Nat} {rest : List Value} (hx : p.tables.exec = Jvm.exec) (hb : c.code = code) (hml : c.maxLocals = nL) (hown : s.vm.findClass RL = some m.cls) (hts : ∀ w ∈ wsL_law, w.before args s = true) (hG : GoodIn wsL_law (va_wsS RL index yL_cell wsL_cell)) (hX : va_X b L xs s s.heap) (hbl : b < s.heap.size) (hbA : ¬ A0 b) (hi : i < 2 ^ 31) (hL : L < 2 ^ 31) (hR : (rmL 0).frames + 1 ≤ R.frames ∧ 8 + (2 + 11) + (rmL 0).locals ≤ R.locals) (hcs : cells + 0 ≤ R.cells ∧ slots + 0 ≤ R.slots) (hS : va_S A0 s.heap H locs) (hl : ls.size = nL) (hcat : (rest.map fun v => v.category).sum ≤ 8) (hdg : decode code pc = .ok (.invokestatic index, 3))
    (kk : ∀ (H1 : Heap) (locs1 : List Loc), H.size ≤ H1.size → (∀ q : Nat, q < H.size → ¬ False → H1[q]? = H[q]?) → va_S A0 s.heap H1 locs1 → W p l e R s m args below meth c H1 locs1 cells slots Q (F0 m (pc + 3) ls (.int (cellF L xs (nI i)) :: rest))) : W p l e R s m args below meth c H locs cells slots Q (F0 m pc ls (.int (nI i) :: .ref b :: rest)) := by
  refine va_calli (va_runS (As := [.ref b, .int (nI i)]) (rest := rest) ⟨hx, hb, hml, hown, hts⟩ (kL_cell l xs hi hL) (va_cwS 2 hts hG rfl rfl rfl hdL_cell hR) ⟨xBlind, fun U2 hU hW => ⟨rfl, (hX.moved hW.alike).kept (by rw [hU]; exact hS.2.1 b hbl hbA), by rw [hU]; exact Nat.lt_of_lt_of_le hbl hS.1⟩⟩ rfl rfl hl rfl (lv_room hcat) hdg hcs) hS (fun q _ h => h.elim) (fun q h => h.elim) (fun r u2 t H1 locs1 ht hvm hw2 hB hz hk hS1 => ?_)
  subst hw2
  exact kk H1 locs1 hz hk hS1
