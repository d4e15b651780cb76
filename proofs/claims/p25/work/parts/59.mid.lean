/-! THE CLAIM OUT OF ONE WALK OF THE LAW'S BODY. Your part is whole_start (and what it stands on); all else here is the same for every law, but numbers. -/
def R_law : String := "PartCurvesLaw"
def lw_P (b : Addr) (xs : List Int32) (args : Array Value) (s : State) : Prop := args = #[.ref b] ∧ s.IntsAt b xs ∧ xs.length ≤ 260 ∧ (Jvm.Cond.and given_1 narrow_1).before args s = true
def lw_Q (_ : Array Value) (s : State) (o : Outcome) (t : State) : Prop := o = .returned (some (.int 1)) ∧ Framed s o t [] 600000 7302250
def lw_Z (below : List Frame) (a : Array Value) (s : State) : State → Prop := fun t => ∃ o, t.status = .running ∧ Ended t below o ∧ lw_Q a s o t
/-- the law's own end, with 1 on the stack, nothing written that was there before, its room as the claim has it -/
theorem lw_ret {p : Program} {l : Launch} {e : Env} {s : State} {m : MethodId} {below : List Frame} {meth : Method} {c : Code} {b : Nat} (hx : p.tables.exec = Jvm.exec) (hb : c.code = code) (hr : meth.sig.returnType = ret) (hlocks : meth.locks = false) {pc : Nat} {H : Heap} {ls : Array Slot} (hdg : decode code pc = .ok (.ireturn, 1)) : W p l e room_1 s m #[Value.ref b] below meth c H [] 600000 7302250 (lw_Z below #[Value.ref b] s) (F0 m pc ls [.int 1]) := by
  intro T hT X
  obtain ⟨fs, hret, hrun, hended, hW, hframe⟩ := X.leave (v := some (.int 1)) (hlocks := hlocks) (fun h => by rw [hr] at h; cases h)
  have hmeth' : T.vm.method? m = some meth := X.method'
  refine ⟨T.setFrames fs, ?_, .returned (some (.int 1)), hrun, hended, rfl, ⟨_, rfl⟩, hW, hframe⟩
  jvm_step X.here [X.here.top, hx, hb, hdg, hmeth', hr, ret, narrow_b1]
  (try refine ⟨rfl, ?_⟩); (try refine ⟨rfl, ?_⟩)
  first | (intro acts; rw [hret _ acts rfl rfl rfl]) | rw [hret _ _ rfl rfl rfl]
  exact Steps.refl _
/-- what holds at the law's entry: the machine, the code, the tables' words (any of lw_tbl by 'hts w (by decide +kernel)'), the script of L ints xs at the cell b, what the Statement gives of the start (any of its parts by flat_of_before) -/
def lw_At (p : Program) (s : State) (m : MethodId) (meth : Method) (c : Code) (b L : Nat) (xs : Nat → Int32) : Prop :=
  p.tables.exec = Jvm.exec ∧ c.code = code ∧ meth.sig.returnType = ret ∧ c.maxLocals = 15 ∧ s.vm.findClass R_law = some m.cls ∧ (∀ w ∈ lw_tbl, w.before #[Value.ref b] s = true) ∧ va_X b L xs s s.heap ∧ b < s.heap.size ∧ meth.locks = false ∧ (Jvm.Cond.and given_1 narrow_1).before #[Value.ref b] s = true
def z0 : zS := fun i => match i with
  | 0 => fun j => if j = 1 then 1000 else 0
  | _ => fun _ => 0
theorem z0_hi (n : Nat) : z0 (10 + n) = fun _ => 0 := by
  rw [show 10 + n = (9 + n) + 1 by omega]; rfl
theorem z0_inv : qInv z0 := by
  refine ⟨Or.inl rfl, by decide, by decide, by decide, by decide, fun t _ => ?_, fun n _ => ?_, fun q => absurd rfl q⟩
  · show inR 0 0 255 = true
    decide
  · rw [z0_hi]
    exact ⟨Or.inl rfl, Or.inl rfl, Or.inl rfl, by decide, by decide, by decide, by decide, by decide, by decide, by decide, by decide, by decide⟩
theorem D_inj {A : Nat → Prop} {ws : va_W} {n : Nat} {ad : Nat → Nat} (h : ws.map Prod.fst = (List.range n).map ad) (hD : va_D A ws) : adInj n ad ∧ ∀ q, adOf n ad q → A q := by
  have at' : ∀ i, i < n → ∃ e, ws[i]? = some (ad i, e) := by
    intro i hi
    have hl : ws.length = n := by
      have := congrArg List.length h
      simpa using this
    have h1 : (ws.map Prod.fst)[i]? = some (ad i) := by rw [h, List.getElem?_map, List.getElem?_range hi]; rfl
    rw [List.getElem?_map] at h1
    cases hw : ws[i]? with
    | none => rw [hw] at h1; cases h1
    | some x =>
      rw [hw] at h1
      exact ⟨x.2, by rw [← Option.some.inj h1]⟩
  refine ⟨fun i j hi hj e => ?_, ?_⟩
  · obtain ⟨a, ha⟩ := at' i hi
    obtain ⟨b, hb⟩ := at' j hj
    exact hD.1 i j _ _ ha hb e
  · rintro q ⟨i, hi, rfl⟩
    obtain ⟨a, ha⟩ := at' i hi
    exact hD.2 i _ ha
def adL (l : List Nat) : Nat → Nat := fun i => l.getD i 0
theorem qT_of {s : State} {b : Nat} (hts : ∀ w ∈ lw_tbl, w.before #[Value.ref b] s = true) (hgv : (Jvm.Cond.and given_1 narrow_1).before #[Value.ref b] s = true) : qT (fun q => s.heap.size ≤ q) s := by
  have hs := flat_of_before _ hgv
  have hA : ∀ a : Nat, a < s.heap.size → ¬ (fun q : Nat => s.heap.size ≤ q) a := fun a h => Nat.not_le.mpr h
  obtain ⟨t1, e1, T1⟩ := va_Tof (args := #[Value.ref b]) (s := s) (tm := .static "PartCurves$Part" "LEAST" "[I") (ty := .int) (N := 5) (f := fun j => .int (leastN j)) (A := fun q : Nat => s.heap.size ≤ q) (by decide) (hs _ (by decide +kernel)) (va_eqt (hs (.eq (.length (.static "PartCurves$Part" "LEAST" "[I")) (.int 5)) (by decide +kernel))) (fun j hj => by
    rcases (show j = 0 ∨ j = 1 ∨ j = 2 ∨ j = 3 ∨ j = 4 by omega) with rfl | rfl | rfl | rfl | rfl
    · exact va_eqt (hs (.eq (.elem (.static "PartCurves$Part" "LEAST" "[I") (.int 0)) (.int 1)) (by decide +kernel))
    · exact va_eqt (hs (.eq (.elem (.static "PartCurves$Part" "LEAST" "[I") (.int 1)) (.int 1)) (by decide +kernel))
    · exact va_eqt (hs (.eq (.elem (.static "PartCurves$Part" "LEAST" "[I") (.int 2)) (.int 0)) (by decide +kernel))
    · exact va_eqt (hs (.eq (.elem (.static "PartCurves$Part" "LEAST" "[I") (.int 3)) (.int 0)) (by decide +kernel))
    · exact va_eqt (hs (.eq (.elem (.static "PartCurves$Part" "LEAST" "[I") (.int 4)) (.int 0)) (by decide +kernel))) hA
  obtain ⟨t2, e2, T2⟩ := va_Tof (args := #[Value.ref b]) (s := s) (tm := .static "PartCurves$Part" "MOST" "[I") (ty := .int) (N := 5) (f := fun j => .int (mostN j)) (A := fun q : Nat => s.heap.size ≤ q) (by decide) (hs _ (by decide +kernel)) (va_eqt (hs (.eq (.length (.static "PartCurves$Part" "MOST" "[I")) (.int 5)) (by decide +kernel))) (fun j hj => by
    rcases (show j = 0 ∨ j = 1 ∨ j = 2 ∨ j = 3 ∨ j = 4 by omega) with rfl | rfl | rfl | rfl | rfl
    · exact va_eqt (hs (.eq (.elem (.static "PartCurves$Part" "MOST" "[I") (.int 0)) (.int 5000)) (by decide +kernel))
    · exact va_eqt (hs (.eq (.elem (.static "PartCurves$Part" "MOST" "[I") (.int 1)) (.int 2000)) (by decide +kernel))
    · exact va_eqt (hs (.eq (.elem (.static "PartCurves$Part" "MOST" "[I") (.int 2)) (.int 2000)) (by decide +kernel))
    · exact va_eqt (hs (.eq (.elem (.static "PartCurves$Part" "MOST" "[I") (.int 3)) (.int 5000)) (by decide +kernel))
    · exact va_eqt (hs (.eq (.elem (.static "PartCurves$Part" "MOST" "[I") (.int 4)) (.int 5)) (by decide +kernel))) hA
  exact ⟨⟨t1, va_Zref (hts (.laysStatic "PartCurves$Part" "LEAST" "[I") (by decide +kernel)) (hts (.initialized "PartCurves$Part") (by decide +kernel)) e1 hA, T1⟩, t2, va_Zref (hts (.laysStatic "PartCurves$Part" "MOST" "[I") (by decide +kernel)) (hts (.initialized "PartCurves$Part") (by decide +kernel)) e2 hA, T2⟩
theorem qN_of {s : State} {b : Nat} (hts : ∀ w ∈ lw_tbl, w.before #[Value.ref b] s = true) : qN s :=
  ⟨va_AO.of (hts (.arrayOver (.object "PartCurves$Part")) (by decide +kernel)), va_Nw.of rfl (hts (.methodLinkNest RX3 23 yX2_init "PartCurves") (by decide +kernel)), va_Nw.of rfl (hts (.methodLinkNest RX3 30 yX0_init "PartCurves") (by decide +kernel)), va_Nw.of rfl (hts (.methodLinkNest RX3 46 yX1_init "PartCurves") (by decide +kernel))⟩
theorem D_fst {A : Nat → Prop} {ws ws' : va_W} (hD : va_D A ws) (h : ws.map Prod.fst = ws'.map Prod.fst) : va_D A ws' := by
  have key : ∀ (k : Nat) (q : Nat × va_E), ws'[k]? = some q → ∃ e, ws[k]? = some (q.1, e) := by
    intro k q hq
    have h1 : (ws'.map Prod.fst)[k]? = some q.1 := by rw [List.getElem?_map, hq]; rfl
    rw [← h, List.getElem?_map] at h1
    cases hw : ws[k]? with
    | none => rw [hw] at h1; cases h1
    | some x => rw [hw] at h1; exact ⟨x.2, by rw [← Option.some.inj h1]⟩
  refine ⟨fun i j p q hi hj e => ?_, fun k q hk => ?_⟩
  · obtain ⟨a, ha⟩ := key i p hi
    obtain ⟨b, hb⟩ := key j q hj
    exact hD.1 i j _ _ ha hb e
  · obtain ⟨a, ha⟩ := key k q hk
    exact hD.2 k (q.1, a) ha
theorem cell_q {cA : ClassId} {n : Nat} {f f' : Nat → Option Nat} (h : ∀ j, j < n → f j = f' j) : vp_cell cA (n, .inr (.inr (.inr (.inr f)))) = vp_cell cA (n, .inr (.inr (.inr (.inr f')))) := by
  rw [vp_cell_q, vp_cell_q]; exact arrV_ext (fun j hj => by rw [h j hj])
theorem cell_i {cA : ClassId} {n : Nat} {f f' : Nat → Int32} (h : ∀ j, j < n → f j = f' j) : vp_cell cA (n, .inl f) = vp_cell cA (n, .inl f') := by
  rw [vp_cell_i, vp_cell_i]; exact arrV_ext (fun j hj => by rw [h j hj])
theorem g_of {s : State} {b : Nat} (hts : ∀ w ∈ lw_tbl, w.before #[Value.ref b] s = true) : ∃ g : qG, va_K g.1 vwCl (qTys g) s := by
  obtain ⟨c0, i0', hk0⟩ := u_known (C := RX0) (T := TX0) (N := 3) (n := 3) hts inX0 (hts (.instantiable RX0 3) (by decide +kernel))
  obtain ⟨c1, i1', hk1⟩ := u_known (C := RX1) (T := TX1) (N := 12) (n := 12) hts inX1 (hts (.instantiable RX1 12) (by decide +kernel))
  obtain ⟨c2, i2', hk2⟩ := u_known (C := RX2) (T := TX2) (N := 5) (n := 5) hts inX2 (hts (.instantiable RX2 5) (by decide +kernel))
  obtain ⟨c3, i3', hk3⟩ := u_known (C := RX3) (T := TX3) (N := 7) (n := 7) hts inX3 (hts (.instantiable RX3 7) (by decide +kernel))
  obtain ⟨a1, k1, o1, n1, h1, d1⟩ := Cond.arrayClass_spec (hts (.arrayClass .int) (by decide +kernel))
  obtain ⟨o3, a3, k3, f3, -, h3, d3, n3⟩ := Cond.arrayOver_spec (hts (.arrayOver (.object "PartCurves$Part")) (by decide +kernel))
  refine ⟨((fun k => match k with | 0 => c0 | 1 => c1 | 2 => c2 | _ => c3, fun k => match k with | 0 => i0' | 1 => i1' | 2 => i2' | _ => i3'), a1, a1, a3), ?_, ?_⟩
  · intro k q hq
    match k, hq with
    | 0, hq => cases hq; exact hk0
    | 1, hq => cases hq; exact hk1
    | 2, hq => cases hq; exact hk2
    | 3, hq => cases hq; exact hk3
    | k + 4, hq => simp [vwCl] at hq
  · intro k q hq
    match k, hq with
    | 0, hq => cases hq; exact ⟨fun n z => ⟨fun k h => (by cases h), k1, h1, o1, d1⟩, n1⟩
    | 1, hq => cases hq; exact ⟨fun n z => ⟨fun k h => (by cases h), k1, h1, o1, d1⟩, n1⟩
    | 2, hq => cases hq; exact ⟨fun n z => ⟨fun k h => (by cases h), k3, h3, o3, d3⟩, k3, o3, h3, d3, f3, n3⟩
    | k + 3, hq => simp [qTys] at hq
