/-! THE CLAIM OUT OF ONE WALK OF THE LAW'S BODY. Your part is whole_start (and what it stands on); all else here is the same for every law, but numbers. -/
def R_law : String := "PartCurvesLaw"
def lw_P (b : Addr) (xs : List Int32) (args : Array Value) (s : State) : Prop := args = #[.ref b] ∧ s.IntsAt b xs ∧ xs.length ≤ 3584 ∧ (Jvm.Cond.and given_1 narrow_1).before args s = true
def lw_Q (_ : Array Value) (s : State) (o : Outcome) (t : State) : Prop := o = .returned (some (.int 1)) ∧ Framed s o t [] 600000 7302250
def lw_Z (below : List Frame) (a : Array Value) (s : State) : State → Prop := fun t => ∃ o, t.status = .running ∧ Ended t below o ∧ lw_Q a s o t
/-- the law's own end, with 1 on the stack, nothing written that was there before, its room as the claim has it -/
theorem lw_ret {p : Program} {l : Launch} {e : Env} {s : State} {m : MethodId} {below : List Frame} {meth : Method} {c : Code} {b : Nat} (hx : p.tables.exec = Jvm.exec) (hb : c.code = code) (hr : meth.sig.returnType = ret) (hlocks : meth.locks = false) {pc : Nat} {H : Heap} {ls : Array Slot} (hdg : decode code pc = .ok (.ireturn, 1)) : W p l e room_1 s m #[Value.ref b] below meth c H [] 600000 7302250 (lw_Z below #[Value.ref b] s) (F0 m pc ls [.int 1]) := by
  intro T hT X
  obtain ⟨fs, hret, hrun, hended, hW, hframe⟩ := X.leave (v := some (.int 1)) (hlocks := hlocks) (fun h => by rw [hr] at h; cases h)
  have hmeth' : T.vm.method? m = some meth := X.method'
  refine ⟨T.setFrames fs, ?_, .returned (some (.int 1)), hrun, hended, rfl, ⟨_, rfl⟩, hW, hframe⟩
  jvm_step X.here [X.here.top, hx, hb, hdg, hmeth', hr, ret, narrow_b1]
  (try refine ⟨rfl, ?_⟩); (try refine ⟨rfl, ?_⟩)
  first | (intro acts; rw [hret _ acts rfl rfl rfl]) | rw [hret _ _ rfl rfl rfl]
  exact Steps.refl _
/-- what holds at the law's entry: the machine, the code, the tables' words (any of lw_tbl by 'hts w (by decide +kernel)'), the script of L ints xs at the cell b, what the Statement gives of the start (any of its parts by flat_of_before) -/
def lw_At (p : Program) (s : State) (m : MethodId) (meth : Method) (c : Code) (b L : Nat) (xs : Nat → Int32) : Prop :=
  p.tables.exec = Jvm.exec ∧ c.code = code ∧ meth.sig.returnType = ret ∧ c.maxLocals = 4 ∧ s.vm.findClass R_law = some m.cls ∧ (∀ w ∈ lw_tbl, w.before #[Value.ref b] s = true) ∧ va_X b L xs s s.heap ∧ b < s.heap.size ∧ meth.locks = false ∧ (Jvm.Cond.and given_1 narrow_1).before #[Value.ref b] s = true
section QSTL
variable {p : Program} {l : Launch} {e : Env} {R : Room} {s : State} {m : MethodId} {args : Array Value} {below : List Frame} {meth : Method} {c : Code} {H : Heap} {locs : List Loc} {cells slots : Nat} {Q : State → Prop}
variable {g : qG} {cc : ByteArray} {pc : Nat} {ls : Array Slot}
theorem qViTF {S : Type} {Wd : S → va_W} {A : Nat → Prop} {A0 : Nat → Prop} (hT : qT A0 s) {u U : S} {E : Int32} {y : MethodName} {ws ws' Ts : List Cond} {d nL index maxL : Nat} {own C : String} {bytes : ByteArray} {ret : Option FieldType} {b : Nat} {As rest st : List Value} (hx : p.tables.exec = Jvm.exec) (hb : c.code = cc) (hml : c.maxLocals = nL) (hown : s.vm.findClass own = some m.cls) (hts : ∀ w ∈ Ts, w.before args s = true)
    (hM : qMiT l y ws d g Wd A u (.ref b :: As) E U) (hG : GoodIn Ts (wsV own index C y ws)) (hw : ws = .code y bytes maxL ret :: ws') (n : Nat) (hd : y.cls = C ∧ y.cls ≠ "java/lang/invoke/MethodHandle" ∧ y.cls ≠ "java/lang/invoke/VarHandle" ∧ (parseMethodDescriptor y.desc).map (fun d => d.parameters.length) = some n) (hn : As.length = n) (hR : (rmL d).frames + 1 ≤ R.frames ∧ 8 + (maxL + 11) + (rmL d).locals ≤ R.locals) (hcs : cells + 0 ≤ R.cells ∧ slots + 0 ≤ R.slots) (hK : va_K g.1 vwCl (qTys g) s) (hP : va_P g.1 vwCl (Wd u) H) (hS : va_S A0 s.heap H locs) (hA : ∀ q, A q → A0 q) (q0 ci : Nat) {fs : List Value} {r : vw_C} (hc : vwCl[ci]? = some r) (hrC : r.1 = C) (he : (Wd u)[q0]? = some (b, .inr (ci, fs))) (hl : ls.size = nL) (hst : st = As.reverse ++ .ref b :: rest) (hcat : (rest.map fun v => v.category).sum ≤ 8) (hdg : decode cc pc = .ok (.invokevirtual index, 3))
    (kk : ∀ (H1 : Heap) (locs1 : List Loc), H.size ≤ H1.size → (∀ q : Nat, q < H.size → ¬ A q → H1[q]? = H[q]?) → va_P g.1 vwCl (Wd U) H1 → va_S A0 s.heap H1 locs1 → W p l e R s m args below meth c H1 locs1 cells slots Q (F0 m (pc + 3) ls (.int E :: rest))) : W p l e R s m args below meth c H locs cells slots Q (F0 m pc ls st) := by
  subst hrC
  refine va_calli (va_runV (As := As) (rest := rest) ⟨hx, hb, hml, hown, hts⟩ hM (cwV n hts hG hw rfl rfl hd hR) ⟨qBlindT, va_recv hK hP hc he, fun U2 hU hW => ⟨rfl, ⟨by rw [hU]; exact hP, va_K.moved hW.alike hK⟩, (hT.at hW.alike (fun a ha hn => by rw [hU]; exact hS.2.1 a ha hn)).narrow hA⟩⟩ rfl hn hl hst (lv_room hcat) hdg hcs) hS (fun q _ h => hA q h) (fun q h => hA q h) (fun r u2 t H1 locs1 ht hvm hw2 hB hz hk hS1 => ?_)
  obtain ⟨rfl, rfl⟩ := hw2
  exact kk H1 locs1 hz hk (by rw [← ht]; exact hB.1) hS1
theorem qViEF {Wd : zS × (Nat → Int32) → va_W} {A : Nat → Prop} {A0 : Nat → Prop} {H0 : Heap} {u : zS × (Nat → Int32)} {Z : zS} {E : Int32} {y : MethodName} {ws ws' Ts : List Cond} {d nL index maxL : Nat} {own C : String} {bytes : ByteArray} {ret : Option FieldType} {b : Nat} {As rest st : List Value} (hx : p.tables.exec = Jvm.exec) (hb : c.code = cc) (hml : c.maxLocals = nL) (hown : s.vm.findClass own = some m.cls) (hts : ∀ w ∈ Ts, w.before args s = true)
    (hM : qMiE l y ws d g Wd A u (.ref b :: As) E Z) (hG : GoodIn Ts (wsV own index C y ws)) (hw : ws = .code y bytes maxL ret :: ws') (n : Nat) (hd : y.cls = C ∧ y.cls ≠ "java/lang/invoke/MethodHandle" ∧ y.cls ≠ "java/lang/invoke/VarHandle" ∧ (parseMethodDescriptor y.desc).map (fun d => d.parameters.length) = some n) (hn : As.length = n) (hR : (rmL d).frames + 1 ≤ R.frames ∧ 8 + (maxL + 11) + (rmL d).locals ≤ R.locals) (hcs : cells + 0 ≤ R.cells ∧ slots + 0 ≤ R.slots) (hK : va_K g.1 vwCl (qTys g) s) (hP : va_P g.1 vwCl (Wd u) H) (hS : va_S A0 H0 H locs) (hA : ∀ q, A q → A0 q) (q0 ci : Nat) {fs : List Value} {r : vw_C} (hc : vwCl[ci]? = some r) (hrC : r.1 = C) (he : (Wd u)[q0]? = some (b, .inr (ci, fs))) (hl : ls.size = nL) (hst : st = As.reverse ++ .ref b :: rest) (hcat : (rest.map fun v => v.category).sum ≤ 8) (hdg : decode cc pc = .ok (.invokevirtual index, 3))
    (kk : ∀ (r' : Nat → Int32) (H1 : Heap) (locs1 : List Loc), H.size ≤ H1.size → (∀ q : Nat, q < H.size → ¬ A q → H1[q]? = H[q]?) → va_P g.1 vwCl (Wd (Z, r')) H1 → va_S A0 H0 H1 locs1 → W p l e R s m args below meth c H1 locs1 cells slots Q (F0 m (pc + 3) ls (.int E :: rest))) : W p l e R s m args below meth c H locs cells slots Q (F0 m pc ls st) := by
  subst hrC
  refine va_calli (va_runV (As := As) (rest := rest) ⟨hx, hb, hml, hown, hts⟩ hM (cwV n hts hG hw rfl rfl hd hR) ⟨qBlind, va_recv hK hP hc he, fun U2 hU hW => ⟨rfl, by rw [hU]; exact hP, va_K.moved hW.alike hK⟩⟩ rfl hn hl hst (lv_room hcat) hdg hcs) hS (fun q _ h => hA q h) (fun q h => hA q h) (fun r u2 t H1 locs1 ht hvm hw2 hB hz hk hS1 => ?_)
  obtain ⟨rfl, h2⟩ := hw2
  obtain ⟨z2, r2⟩ := u2
  obtain rfl : z2 = Z := h2
  exact kk r2 H1 locs1 hz hk (by rw [← ht]; exact hB.1) hS1
end QSTL
theorem PM_kept {g : qG} {ad am : Nat → Nat} {z : zS} {r : Nat → Int32} {H H1 : Heap} (hdj : ∀ i j, i < 15 → j < 18 → ad i ≠ am j) (h : va_P g.1 vwCl (WMu g am (z, r)) H) (hk : ∀ q : Nat, q < H.size → ¬ adOf 15 ad q → H1[q]? = H[q]?) : va_P g.1 vwCl (WMu g am (z, r)) H1 :=
  h.kept (fun k q hq => by
    obtain ⟨h1, h2⟩ := q_dom (WM_dom g am z r) hq
    exact hk q.1 (h k q hq).lt (by rw [h2]; rintro ⟨i, hi, e⟩; exact hdj i k hi h1 e.symm))
theorem PX_kept {g : qG} {ad am : Nat → Nat} {z : zS} {H H1 : Heap} (hdj : ∀ i j, i < 15 → j < 18 → ad i ≠ am j) (h : va_P g.1 vwCl (WX g ad z) H) (hk : ∀ q : Nat, q < H.size → ¬ adOf 18 am q → H1[q]? = H[q]?) : va_P g.1 vwCl (WX g ad z) H1 :=
  h.kept (fun k q hq => by
    obtain ⟨h1, h2⟩ := q_dom (WX_dom g ad z) hq
    exact hk q.1 (h k q hq).lt (by rw [h2]; rintro ⟨i, hi, e⟩; exact hdj k i h1 hi e))
def lawCx (p : Program) (s : State) (m : MethodId) (c : Code) (b L : Nat) (xs : Nat → Int32) (g : qG) (ad am : Nat → Nat) (j : Nat) : Prop := p.tables.exec = Jvm.exec ∧ c.code = code ∧ c.maxLocals = 4 ∧ s.vm.findClass RL = some m.cls ∧ (∀ w ∈ wsL_law, w.before #[Value.ref b] s = true) ∧ va_X b L xs s s.heap ∧ b < s.heap.size ∧ adInj 15 ad ∧ adInj 18 am ∧ (∀ i j, i < 15 → j < 18 → ad i ≠ am j) ∧ (∀ q, adOf 15 ad q → s.heap.size ≤ q) ∧ (∀ q, adOf 18 am q → s.heap.size ≤ q) ∧ va_K g.1 vwCl (qTys g) s ∧ qT (fun q => s.heap.size ≤ q) s ∧ j + 7 ≤ L ∧ L ≤ 3584
def lawLs (b : Nat) (ad am : Nat → Nat) (j : Nat) : List (Nat × Value) := [(0, .ref b), (1, .ref (ad 0)), (2, .ref (am 0)), (3, .int (nI j))]
def nxtT (p : Program) (l : Launch) (e : Env) (s : State) (m : MethodId) (below : List Frame) (meth : Method) (c : Code) (b : Nat) (g : qG) (ad am : Nat → Nat) (j : Nat) : Prop := ∀ (z' : zS) (r' : Nat → Int32), qInv z' → ∀ (H : Heap) (locs : List Loc), va_P g.1 vwCl (WX g ad z') H → va_P g.1 vwCl (WMu g am (z', r')) H → va_S (fun q => s.heap.size ≤ q) s.heap H locs → ∀ ls : Array Slot, lv_has ls 4 (lawLs b ad am j) → W p l e room_1 s m #[Value.ref b] below meth c H locs 33 650 (lw_Z below #[Value.ref b] s) (F0 m 855 ls [])
theorem lawLd {p : Program} {l : Launch} {e : Env} {s : State} {m : MethodId} {below : List Frame} {meth : Method} {c : Code} {b L : Nat} {xs : Nat → Int32} {g : qG} {ad am : Nat → Nat} {j : Nat} (C0 : lawCx p s m c b L xs g ad am j) {H : Heap} {locs : List Loc} (hS : va_S (fun q => s.heap.size ≤ q) s.heap H locs) {ls : Array Slot} (hl : lv_has ls 4 (lawLs b ad am j)) {pc : Nat} {k : Nat} {n : Int} (hk : k < 7) (hv : Int32.ofInt n = nI k) (d0 : decode code pc = .ok (.aload_n 0, 1)) (d1 : decode code (pc + 1) = .ok (.iload_n 3, 1)) (d2 : decode code (pc + 2) = .ok (.iconst n, 1)) (d3 : decode code (pc + 2 + 1) = .ok (.iadd, 1)) (d4 : decode code (pc + 2 + 1 + 1) = .ok (.iaload, 1)) {rest : List Value}
    (kk : W p l e room_1 s m #[Value.ref b] below meth c H locs 33 650 (lw_Z below #[Value.ref b] s) (F0 m (pc + 2 + 1 + 1 + 1) ls (.int (xs (j + k)) :: rest))) : W p l e room_1 s m #[Value.ref b] below meth c H locs 33 650 (lw_Z below #[Value.ref b] s) (F0 m pc ls rest) := by
  obtain ⟨hx, hb, hml, hown, hts, hX, hbl, hjx, hjm, hdj, hgx, hgm, hK, hT, hj, hL⟩ := C0
  refine lv_aload_n hx hb d0 rfl (lv_at hl 0 rfl) ?_
  refine lv_iload_n hx hb d1 rfl (lv_at hl 3 rfl) ?_
  refine lv_iconst (v := nI k) hx hb d2 hv ?_
  refine lv_iadd hx hb d3 ?_
  refine lv_nm (y := nI (j + k)) (nI_add j k) ?_
  refine va_sld hx hb hX hbl (Nat.not_le.mpr hbl) hS (vp_in_nI (by omega) (by omega)) d4 ?_
  refine lv_nm (y := xs (j + k)) (congrArg xs (nI_e (j + k) (by omega))) ?_
  exact kk
theorem lawLd6 {p : Program} {l : Launch} {e : Env} {s : State} {m : MethodId} {below : List Frame} {meth : Method} {c : Code} {b L : Nat} {xs : Nat → Int32} {g : qG} {ad am : Nat → Nat} {j : Nat} (C0 : lawCx p s m c b L xs g ad am j) {H : Heap} {locs : List Loc} (hS : va_S (fun q => s.heap.size ≤ q) s.heap H locs) {ls : Array Slot} (hl : lv_has ls 4 (lawLs b ad am j)) {pc : Nat} {k : Nat} {n : Int} (hk : k < 7) (hv : (Int8.ofInt n).toInt32 = nI k) (d0 : decode code pc = .ok (.aload_n 0, 1)) (d1 : decode code (pc + 1) = .ok (.iload_n 3, 1)) (d2 : decode code (pc + 2) = .ok (.bipush n, 2)) (d3 : decode code (pc + 2 + 2) = .ok (.iadd, 1)) (d4 : decode code (pc + 2 + 2 + 1) = .ok (.iaload, 1)) {rest : List Value}
    (kk : W p l e room_1 s m #[Value.ref b] below meth c H locs 33 650 (lw_Z below #[Value.ref b] s) (F0 m (pc + 2 + 2 + 1 + 1) ls (.int (xs (j + k)) :: rest))) : W p l e room_1 s m #[Value.ref b] below meth c H locs 33 650 (lw_Z below #[Value.ref b] s) (F0 m pc ls rest) := by
  obtain ⟨hx, hb, hml, hown, hts, hX, hbl, hjx, hjm, hdj, hgx, hgm, hK, hT, hj, hL⟩ := C0
  refine lv_aload_n hx hb d0 rfl (lv_at hl 0 rfl) ?_
  refine lv_iload_n hx hb d1 rfl (lv_at hl 3 rfl) ?_
  refine lv_bipush (v := nI k) hx hb d2 hv ?_
  refine lv_iadd hx hb d3 ?_
  refine lv_nm (y := nI (j + k)) (nI_add j k) ?_
  refine va_sld hx hb hX hbl (Nat.not_le.mpr hbl) hS (vp_in_nI (by omega) (by omega)) d4 ?_
  refine lv_nm (y := xs (j + k)) (congrArg xs (nI_e (j + k) (by omega))) ?_
  exact kk
set_option maxHeartbeats 4000000 in
set_option maxRecDepth 100000 in
theorem law_part {p : Program} {l : Launch} {e : Env} {s : State} {m : MethodId} {below : List Frame} {meth : Method} {c : Code} {b L : Nat} {xs : Nat → Int32} {g : qG} {ad am : Nat → Nat} {j : Nat} (C0 : lawCx p s m c b L xs g ad am j) (nxt : nxtT p l e s m below meth c b g ad am j) {z : zS} {r : Nat → Int32} (hI : qInv z) {H : Heap} {locs : List Loc} (hPX : va_P g.1 vwCl (WX g ad z) H) (hPM : va_P g.1 vwCl (WMu g am (z, r)) H) (hS : va_S (fun q => s.heap.size ≤ q) s.heap H locs) {ls : Array Slot} (hl : lv_has ls 4 (lawLs b ad am j)) : W p l e room_1 s m #[Value.ref b] below meth c H locs 33 650 (lw_Z below #[Value.ref b] s) (F0 m 136 ls []) := by
  obtain ⟨hx, hb, hml, hown, hts, hX, hbl, hjx, hjm, hdj, hgx, hgm, hK, hT, hj, hL⟩ := id C0
  refine lv_aload_n hx hb dL_law_136 rfl (lv_at hl 1 rfl) ?_
  refine lawLd C0 hS hl (k := 1) (by decide) (by decide) dL_law_137 dL_law_138 dL_law_139 dL_law_140 dL_law_141 ?_
  refine lawLd C0 hS hl (k := 2) (by decide) (by decide) dL_law_142 dL_law_143 dL_law_144 dL_law_145 dL_law_146 ?_
  refine lawLd C0 hS hl (k := 3) (by decide) (by decide) dL_law_147 dL_law_148 dL_law_149 dL_law_150 dL_law_151 ?_
  refine lawLd C0 hS hl (k := 4) (by decide) (by decide) dL_law_152 dL_law_153 dL_law_154 dL_law_155 dL_law_156 ?_
  refine qViF (As := [.int (xs (j + 1)), .int (xs (j + 2)), .int (xs (j + 3)), .int (xs (j + 4))]) (rest := []) hx hb hml hown hts (kX3_part l g z hjx (xs (j + 1)) (xs (j + 2)) (xs (j + 3)) (xs (j + 4))) gL_law_X3_part rfl 4 hdX3_part rfl ⟨Nat.le_of_ble_eq_true rfl, Nat.le_of_ble_eq_true rfl⟩ ⟨Nat.le_of_ble_eq_true rfl, Nat.le_of_ble_eq_true rfl⟩ hK hPX hS hgx 0 3 rfl rfl rfl hl.1 rfl (Nat.le_of_ble_eq_true rfl) dL_law_157 (fun H locs hz hk hPX hS => ?_)
  have hPM := PM_kept hdj hPM hk
  refine lv_aload_n hx hb dL_law_160 rfl (lv_at hl 2 rfl) ?_
  refine lawLd C0 hS hl (k := 1) (by decide) (by decide) dL_law_161 dL_law_162 dL_law_163 dL_law_164 dL_law_165 ?_
  refine lawLd C0 hS hl (k := 2) (by decide) (by decide) dL_law_166 dL_law_167 dL_law_168 dL_law_169 dL_law_170 ?_
  refine lawLd C0 hS hl (k := 3) (by decide) (by decide) dL_law_171 dL_law_172 dL_law_173 dL_law_174 dL_law_175 ?_
  refine lawLd C0 hS hl (k := 4) (by decide) (by decide) dL_law_176 dL_law_177 dL_law_178 dL_law_179 dL_law_180 ?_
  refine qViF (As := [.int (xs (j + 1)), .int (xs (j + 2)), .int (xs (j + 3)), .int (xs (j + 4))]) (rest := [.int ((s_part z (xs (j + 1)) (xs (j + 2)) (xs (j + 3)) (xs (j + 4))).1)]) hx hb hml hown hts (kX4_part l g z r hjm (xs (j + 1)) (xs (j + 2)) (xs (j + 3)) (xs (j + 4))) gL_law_X4_part rfl 4 hdX4_part rfl ⟨Nat.le_of_ble_eq_true rfl, Nat.le_of_ble_eq_true rfl⟩ ⟨Nat.le_of_ble_eq_true rfl, Nat.le_of_ble_eq_true rfl⟩ hK hPM hS hgm 0 4 rfl rfl rfl hl.1 rfl (Nat.le_of_ble_eq_true rfl) dL_law_181 (fun H locs hz hk hPM hS => ?_)
  have hPX := PX_kept hdj hPX hk
  refine lv_icmp_eq (tgt := 855) hx hb dL_law_184 (by decide) (fun _ => ?_) (fun c9 => absurd rfl c9)
  exact nxt ((s_part z (xs (j + 1)) (xs (j + 2)) (xs (j + 3)) (xs (j + 4))).2) r (inv_part hI (xs (j + 1)) (xs (j + 2)) (xs (j + 3)) (xs (j + 4))) _ _ hPX hPM hS _ hl
set_option maxHeartbeats 4000000 in
set_option maxRecDepth 100000 in
theorem law_remove {p : Program} {l : Launch} {e : Env} {s : State} {m : MethodId} {below : List Frame} {meth : Method} {c : Code} {b L : Nat} {xs : Nat → Int32} {g : qG} {ad am : Nat → Nat} {j : Nat} (C0 : lawCx p s m c b L xs g ad am j) (nxt : nxtT p l e s m below meth c b g ad am j) {z : zS} {r : Nat → Int32} (hI : qInv z) {H : Heap} {locs : List Loc} (hPX : va_P g.1 vwCl (WX g ad z) H) (hPM : va_P g.1 vwCl (WMu g am (z, r)) H) (hS : va_S (fun q => s.heap.size ≤ q) s.heap H locs) {ls : Array Slot} (hl : lv_has ls 4 (lawLs b ad am j)) : W p l e room_1 s m #[Value.ref b] below meth c H locs 33 650 (lw_Z below #[Value.ref b] s) (F0 m 189 ls []) := by
  obtain ⟨hx, hb, hml, hown, hts, hX, hbl, hjx, hjm, hdj, hgx, hgm, hK, hT, hj, hL⟩ := id C0
  refine lv_aload_n hx hb dL_law_189 rfl (lv_at hl 1 rfl) ?_
  refine lawLd C0 hS hl (k := 1) (by decide) (by decide) dL_law_190 dL_law_191 dL_law_192 dL_law_193 dL_law_194 ?_
  refine qViF (As := [.int (xs (j + 1))]) (rest := []) hx hb hml hown hts (kX3_remove l g z hjx (xs (j + 1))) gL_law_X3_remove rfl 1 hdX3_remove rfl ⟨Nat.le_of_ble_eq_true rfl, Nat.le_of_ble_eq_true rfl⟩ ⟨Nat.le_of_ble_eq_true rfl, Nat.le_of_ble_eq_true rfl⟩ hK hPX hS hgx 0 3 rfl rfl rfl hl.1 rfl (Nat.le_of_ble_eq_true rfl) dL_law_195 (fun H locs hz hk hPX hS => ?_)
  have hPM := PM_kept hdj hPM hk
  refine lv_aload_n hx hb dL_law_198 rfl (lv_at hl 2 rfl) ?_
  refine lawLd C0 hS hl (k := 1) (by decide) (by decide) dL_law_199 dL_law_200 dL_law_201 dL_law_202 dL_law_203 ?_
  refine qViF (As := [.int (xs (j + 1))]) (rest := [.int ((s_remove z (xs (j + 1))).1)]) hx hb hml hown hts (kX4_remove l g z r hjm (xs (j + 1))) gL_law_X4_remove rfl 1 hdX4_remove rfl ⟨Nat.le_of_ble_eq_true rfl, Nat.le_of_ble_eq_true rfl⟩ ⟨Nat.le_of_ble_eq_true rfl, Nat.le_of_ble_eq_true rfl⟩ hK hPM hS hgm 0 4 rfl rfl rfl hl.1 rfl (Nat.le_of_ble_eq_true rfl) dL_law_204 (fun H locs hz hk hPM hS => ?_)
  have hPX := PX_kept hdj hPX hk
  refine lv_icmp_eq (tgt := 855) hx hb dL_law_207 (by decide) (fun _ => ?_) (fun c9 => absurd rfl c9)
  exact nxt ((s_remove z (xs (j + 1))).2) r (inv_remove hI (xs (j + 1))) _ _ hPX hPM hS _ hl
set_option maxHeartbeats 4000000 in
set_option maxRecDepth 100000 in
theorem law_set {p : Program} {l : Launch} {e : Env} {s : State} {m : MethodId} {below : List Frame} {meth : Method} {c : Code} {b L : Nat} {xs : Nat → Int32} {g : qG} {ad am : Nat → Nat} {j : Nat} (C0 : lawCx p s m c b L xs g ad am j) (nxt : nxtT p l e s m below meth c b g ad am j) {z : zS} {r : Nat → Int32} (hI : qInv z) {H : Heap} {locs : List Loc} (hPX : va_P g.1 vwCl (WX g ad z) H) (hPM : va_P g.1 vwCl (WMu g am (z, r)) H) (hS : va_S (fun q => s.heap.size ≤ q) s.heap H locs) {ls : Array Slot} (hl : lv_has ls 4 (lawLs b ad am j)) : W p l e room_1 s m #[Value.ref b] below meth c H locs 33 650 (lw_Z below #[Value.ref b] s) (F0 m 212 ls []) := by
  obtain ⟨hx, hb, hml, hown, hts, hX, hbl, hjx, hjm, hdj, hgx, hgm, hK, hT, hj, hL⟩ := id C0
  refine lv_aload_n hx hb dL_law_212 rfl (lv_at hl 1 rfl) ?_
  refine lawLd C0 hS hl (k := 1) (by decide) (by decide) dL_law_213 dL_law_214 dL_law_215 dL_law_216 dL_law_217 ?_
  refine lawLd C0 hS hl (k := 2) (by decide) (by decide) dL_law_218 dL_law_219 dL_law_220 dL_law_221 dL_law_222 ?_
  refine lawLd C0 hS hl (k := 3) (by decide) (by decide) dL_law_223 dL_law_224 dL_law_225 dL_law_226 dL_law_227 ?_
  refine qViTF hT (As := [.int (xs (j + 1)), .int (xs (j + 2)), .int (xs (j + 3))]) (rest := []) hx hb hml hown hts (kX3_set l g z hjx (xs (j + 1)) (xs (j + 2)) (xs (j + 3))) gL_law_X3_set rfl 3 hdX3_set rfl ⟨Nat.le_of_ble_eq_true rfl, Nat.le_of_ble_eq_true rfl⟩ ⟨Nat.le_of_ble_eq_true rfl, Nat.le_of_ble_eq_true rfl⟩ hK hPX hS hgx 0 3 rfl rfl rfl hl.1 rfl (Nat.le_of_ble_eq_true rfl) dL_law_228 (fun H locs hz hk hPX hS => ?_)
  have hPM := PM_kept hdj hPM hk
  refine lv_aload_n hx hb dL_law_231 rfl (lv_at hl 2 rfl) ?_
  refine lawLd C0 hS hl (k := 1) (by decide) (by decide) dL_law_232 dL_law_233 dL_law_234 dL_law_235 dL_law_236 ?_
  refine lawLd C0 hS hl (k := 2) (by decide) (by decide) dL_law_237 dL_law_238 dL_law_239 dL_law_240 dL_law_241 ?_
  refine lawLd C0 hS hl (k := 3) (by decide) (by decide) dL_law_242 dL_law_243 dL_law_244 dL_law_245 dL_law_246 ?_
  refine qViF (As := [.int (xs (j + 1)), .int (xs (j + 2)), .int (xs (j + 3))]) (rest := [.int ((s_set z (xs (j + 1)) (xs (j + 2)) (xs (j + 3))).1)]) hx hb hml hown hts (kX4_set l g z r hjm (xs (j + 1)) (xs (j + 2)) (xs (j + 3))) gL_law_X4_set rfl 3 hdX4_set rfl ⟨Nat.le_of_ble_eq_true rfl, Nat.le_of_ble_eq_true rfl⟩ ⟨Nat.le_of_ble_eq_true rfl, Nat.le_of_ble_eq_true rfl⟩ hK hPM hS hgm 0 4 rfl rfl rfl hl.1 rfl (Nat.le_of_ble_eq_true rfl) dL_law_247 (fun H locs hz hk hPM hS => ?_)
  have hPX := PX_kept hdj hPX hk
  refine lv_icmp_eq (tgt := 855) hx hb dL_law_250 (by decide) (fun _ => ?_) (fun c9 => absurd rfl c9)
  exact nxt ((s_set z (xs (j + 1)) (xs (j + 2)) (xs (j + 3))).2) r (inv_set hI (xs (j + 1)) (xs (j + 2)) (xs (j + 3))) _ _ hPX hPM hS _ hl
set_option maxHeartbeats 4000000 in
set_option maxRecDepth 100000 in
theorem law_ofPart {p : Program} {l : Launch} {e : Env} {s : State} {m : MethodId} {below : List Frame} {meth : Method} {c : Code} {b L : Nat} {xs : Nat → Int32} {g : qG} {ad am : Nat → Nat} {j : Nat} (C0 : lawCx p s m c b L xs g ad am j) (nxt : nxtT p l e s m below meth c b g ad am j) {z : zS} {r : Nat → Int32} (hI : qInv z) {H : Heap} {locs : List Loc} (hPX : va_P g.1 vwCl (WX g ad z) H) (hPM : va_P g.1 vwCl (WMu g am (z, r)) H) (hS : va_S (fun q => s.heap.size ≤ q) s.heap H locs) {ls : Array Slot} (hl : lv_has ls 4 (lawLs b ad am j)) : W p l e room_1 s m #[Value.ref b] below meth c H locs 33 650 (lw_Z below #[Value.ref b] s) (F0 m 255 ls []) := by
  obtain ⟨hx, hb, hml, hown, hts, hX, hbl, hjx, hjm, hdj, hgx, hgm, hK, hT, hj, hL⟩ := id C0
  refine lv_aload_n hx hb dL_law_255 rfl (lv_at hl 1 rfl) ?_
  refine lawLd C0 hS hl (k := 1) (by decide) (by decide) dL_law_256 dL_law_257 dL_law_258 dL_law_259 dL_law_260 ?_
  refine lawLd C0 hS hl (k := 2) (by decide) (by decide) dL_law_261 dL_law_262 dL_law_263 dL_law_264 dL_law_265 ?_
  refine qViF (As := [.int (xs (j + 1)), .int (xs (j + 2))]) (rest := []) hx hb hml hown hts (kX3_ofPart l g z hjx (xs (j + 1)) (xs (j + 2))) gL_law_X3_ofPart rfl 2 hdX3_ofPart rfl ⟨Nat.le_of_ble_eq_true rfl, Nat.le_of_ble_eq_true rfl⟩ ⟨Nat.le_of_ble_eq_true rfl, Nat.le_of_ble_eq_true rfl⟩ hK hPX hS hgx 0 3 rfl rfl rfl hl.1 rfl (Nat.le_of_ble_eq_true rfl) dL_law_266 (fun H locs hz hk hPX hS => ?_)
  have hPM := PM_kept hdj hPM hk
  refine lv_aload_n hx hb dL_law_269 rfl (lv_at hl 2 rfl) ?_
  refine lawLd C0 hS hl (k := 1) (by decide) (by decide) dL_law_270 dL_law_271 dL_law_272 dL_law_273 dL_law_274 ?_
  refine lawLd C0 hS hl (k := 2) (by decide) (by decide) dL_law_275 dL_law_276 dL_law_277 dL_law_278 dL_law_279 ?_
  refine qViF (As := [.int (xs (j + 1)), .int (xs (j + 2))]) (rest := [.int (s_ofPart z (xs (j + 1)) (xs (j + 2)))]) hx hb hml hown hts (kX4_ofPart l g z r hjm (xs (j + 1)) (xs (j + 2))) gL_law_X4_ofPart rfl 2 hdX4_ofPart rfl ⟨Nat.le_of_ble_eq_true rfl, Nat.le_of_ble_eq_true rfl⟩ ⟨Nat.le_of_ble_eq_true rfl, Nat.le_of_ble_eq_true rfl⟩ hK hPM hS hgm 0 4 rfl rfl rfl hl.1 rfl (Nat.le_of_ble_eq_true rfl) dL_law_280 (fun H locs hz hk hPM hS => ?_)
  have hPX := PX_kept hdj hPX hk
  refine lv_icmp_eq (tgt := 855) hx hb dL_law_283 (by decide) (fun _ => ?_) (fun c9 => absurd rfl c9)
  exact nxt z r hI _ _ hPX hPM hS _ hl
set_option maxHeartbeats 4000000 in
set_option maxRecDepth 100000 in
theorem law_relay {p : Program} {l : Launch} {e : Env} {s : State} {m : MethodId} {below : List Frame} {meth : Method} {c : Code} {b L : Nat} {xs : Nat → Int32} {g : qG} {ad am : Nat → Nat} {j : Nat} (C0 : lawCx p s m c b L xs g ad am j) (nxt : nxtT p l e s m below meth c b g ad am j) {z : zS} {r : Nat → Int32} (hI : qInv z) {H : Heap} {locs : List Loc} (hPX : va_P g.1 vwCl (WX g ad z) H) (hPM : va_P g.1 vwCl (WMu g am (z, r)) H) (hS : va_S (fun q => s.heap.size ≤ q) s.heap H locs) {ls : Array Slot} (hl : lv_has ls 4 (lawLs b ad am j)) : W p l e room_1 s m #[Value.ref b] below meth c H locs 33 650 (lw_Z below #[Value.ref b] s) (F0 m 288 ls []) := by
  obtain ⟨hx, hb, hml, hown, hts, hX, hbl, hjx, hjm, hdj, hgx, hgm, hK, hT, hj, hL⟩ := id C0
  refine lv_aload_n hx hb dL_law_288 rfl (lv_at hl 1 rfl) ?_
  refine lawLd C0 hS hl (k := 1) (by decide) (by decide) dL_law_289 dL_law_290 dL_law_291 dL_law_292 dL_law_293 ?_
  refine lawLd C0 hS hl (k := 2) (by decide) (by decide) dL_law_294 dL_law_295 dL_law_296 dL_law_297 dL_law_298 ?_
  refine lawLd C0 hS hl (k := 3) (by decide) (by decide) dL_law_299 dL_law_300 dL_law_301 dL_law_302 dL_law_303 ?_
  refine qViF (As := [.int (xs (j + 1)), .int (xs (j + 2)), .int (xs (j + 3))]) (rest := []) hx hb hml hown hts (kX3_relay l g z hjx (xs (j + 1)) (xs (j + 2)) (xs (j + 3))) gL_law_X3_relay rfl 3 hdX3_relay rfl ⟨Nat.le_of_ble_eq_true rfl, Nat.le_of_ble_eq_true rfl⟩ ⟨Nat.le_of_ble_eq_true rfl, Nat.le_of_ble_eq_true rfl⟩ hK hPX hS hgx 0 3 rfl rfl rfl hl.1 rfl (Nat.le_of_ble_eq_true rfl) dL_law_304 (fun H locs hz hk hPX hS => ?_)
  have hPM := PM_kept hdj hPM hk
  refine lv_aload_n hx hb dL_law_307 rfl (lv_at hl 2 rfl) ?_
  refine lawLd C0 hS hl (k := 1) (by decide) (by decide) dL_law_308 dL_law_309 dL_law_310 dL_law_311 dL_law_312 ?_
  refine lawLd C0 hS hl (k := 2) (by decide) (by decide) dL_law_313 dL_law_314 dL_law_315 dL_law_316 dL_law_317 ?_
  refine lawLd C0 hS hl (k := 3) (by decide) (by decide) dL_law_318 dL_law_319 dL_law_320 dL_law_321 dL_law_322 ?_
  refine qViF (As := [.int (xs (j + 1)), .int (xs (j + 2)), .int (xs (j + 3))]) (rest := [.int ((s_relay z (xs (j + 1)) (xs (j + 2)) (xs (j + 3))).1)]) hx hb hml hown hts (kX4_relay l g z r hjm hI (xs (j + 1)) (xs (j + 2)) (xs (j + 3))) gL_law_X4_relay rfl 3 hdX4_relay rfl ⟨Nat.le_of_ble_eq_true rfl, Nat.le_of_ble_eq_true rfl⟩ ⟨Nat.le_of_ble_eq_true rfl, Nat.le_of_ble_eq_true rfl⟩ hK hPM hS hgm 0 4 rfl rfl rfl hl.1 rfl (Nat.le_of_ble_eq_true rfl) dL_law_323 (fun H locs hz hk hPM hS => ?_)
  have hPX := PX_kept hdj hPX hk
  refine lv_icmp_eq (tgt := 855) hx hb dL_law_326 (by decide) (fun _ => ?_) (fun c9 => absurd rfl c9)
  exact nxt ((s_relay z (xs (j + 1)) (xs (j + 2)) (xs (j + 3))).2) r (inv_relay hI (xs (j + 1)) (xs (j + 2)) (xs (j + 3))) _ _ hPX hPM hS _ hl
set_option maxHeartbeats 4000000 in
set_option maxRecDepth 100000 in
theorem law_pins {p : Program} {l : Launch} {e : Env} {s : State} {m : MethodId} {below : List Frame} {meth : Method} {c : Code} {b L : Nat} {xs : Nat → Int32} {g : qG} {ad am : Nat → Nat} {j : Nat} (C0 : lawCx p s m c b L xs g ad am j) (nxt : nxtT p l e s m below meth c b g ad am j) {z : zS} {r : Nat → Int32} (hI : qInv z) {H : Heap} {locs : List Loc} (hPX : va_P g.1 vwCl (WX g ad z) H) (hPM : va_P g.1 vwCl (WMu g am (z, r)) H) (hS : va_S (fun q => s.heap.size ≤ q) s.heap H locs) {ls : Array Slot} (hl : lv_has ls 4 (lawLs b ad am j)) : W p l e room_1 s m #[Value.ref b] below meth c H locs 33 650 (lw_Z below #[Value.ref b] s) (F0 m 331 ls []) := by
  obtain ⟨hx, hb, hml, hown, hts, hX, hbl, hjx, hjm, hdj, hgx, hgm, hK, hT, hj, hL⟩ := id C0
  refine lv_aload_n hx hb dL_law_331 rfl (lv_at hl 1 rfl) ?_
  refine lawLd C0 hS hl (k := 1) (by decide) (by decide) dL_law_332 dL_law_333 dL_law_334 dL_law_335 dL_law_336 ?_
  refine qViF (As := [.int (xs (j + 1))]) (rest := []) hx hb hml hown hts (kX3_pins l g z hjx (xs (j + 1))) gL_law_X3_pins rfl 1 hdX3_pins rfl ⟨Nat.le_of_ble_eq_true rfl, Nat.le_of_ble_eq_true rfl⟩ ⟨Nat.le_of_ble_eq_true rfl, Nat.le_of_ble_eq_true rfl⟩ hK hPX hS hgx 0 3 rfl rfl rfl hl.1 rfl (Nat.le_of_ble_eq_true rfl) dL_law_337 (fun H locs hz hk hPX hS => ?_)
  have hPM := PM_kept hdj hPM hk
  refine lv_aload_n hx hb dL_law_340 rfl (lv_at hl 2 rfl) ?_
  refine lawLd C0 hS hl (k := 1) (by decide) (by decide) dL_law_341 dL_law_342 dL_law_343 dL_law_344 dL_law_345 ?_
  refine qViF (As := [.int (xs (j + 1))]) (rest := [.int (s_pins z (xs (j + 1)))]) hx hb hml hown hts (kX4_pins l g z r hjm (xs (j + 1))) gL_law_X4_pins rfl 1 hdX4_pins rfl ⟨Nat.le_of_ble_eq_true rfl, Nat.le_of_ble_eq_true rfl⟩ ⟨Nat.le_of_ble_eq_true rfl, Nat.le_of_ble_eq_true rfl⟩ hK hPM hS hgm 0 4 rfl rfl rfl hl.1 rfl (Nat.le_of_ble_eq_true rfl) dL_law_346 (fun H locs hz hk hPM hS => ?_)
  have hPX := PX_kept hdj hPX hk
  refine lv_icmp_eq (tgt := 855) hx hb dL_law_349 (by decide) (fun _ => ?_) (fun c9 => absurd rfl c9)
  exact nxt z r hI _ _ hPX hPM hS _ hl
set_option maxHeartbeats 4000000 in
set_option maxRecDepth 100000 in
theorem law_power {p : Program} {l : Launch} {e : Env} {s : State} {m : MethodId} {below : List Frame} {meth : Method} {c : Code} {b L : Nat} {xs : Nat → Int32} {g : qG} {ad am : Nat → Nat} {j : Nat} (C0 : lawCx p s m c b L xs g ad am j) (nxt : nxtT p l e s m below meth c b g ad am j) {z : zS} {r : Nat → Int32} (hI : qInv z) {H : Heap} {locs : List Loc} (hPX : va_P g.1 vwCl (WX g ad z) H) (hPM : va_P g.1 vwCl (WMu g am (z, r)) H) (hS : va_S (fun q => s.heap.size ≤ q) s.heap H locs) {ls : Array Slot} (hl : lv_has ls 4 (lawLs b ad am j)) : W p l e room_1 s m #[Value.ref b] below meth c H locs 33 650 (lw_Z below #[Value.ref b] s) (F0 m 354 ls []) := by
  obtain ⟨hx, hb, hml, hown, hts, hX, hbl, hjx, hjm, hdj, hgx, hgm, hK, hT, hj, hL⟩ := id C0
  refine lv_aload_n hx hb dL_law_354 rfl (lv_at hl 1 rfl) ?_
  refine lawLd C0 hS hl (k := 1) (by decide) (by decide) dL_law_355 dL_law_356 dL_law_357 dL_law_358 dL_law_359 ?_
  refine qViF (As := [.int (xs (j + 1))]) (rest := []) hx hb hml hown hts (kX3_power l g z hjx (xs (j + 1))) gL_law_X3_power rfl 1 hdX3_power rfl ⟨Nat.le_of_ble_eq_true rfl, Nat.le_of_ble_eq_true rfl⟩ ⟨Nat.le_of_ble_eq_true rfl, Nat.le_of_ble_eq_true rfl⟩ hK hPX hS hgx 0 3 rfl rfl rfl hl.1 rfl (Nat.le_of_ble_eq_true rfl) dL_law_360 (fun H locs hz hk hPX hS => ?_)
  have hPM := PM_kept hdj hPM hk
  refine lv_aload_n hx hb dL_law_363 rfl (lv_at hl 2 rfl) ?_
  refine lawLd C0 hS hl (k := 1) (by decide) (by decide) dL_law_364 dL_law_365 dL_law_366 dL_law_367 dL_law_368 ?_
  refine qViF (As := [.int (xs (j + 1))]) (rest := [.int ((s_power z (xs (j + 1))).1)]) hx hb hml hown hts (kX4_power l g z r hjm hI (xs (j + 1))) gL_law_X4_power rfl 1 hdX4_power rfl ⟨Nat.le_of_ble_eq_true rfl, Nat.le_of_ble_eq_true rfl⟩ ⟨Nat.le_of_ble_eq_true rfl, Nat.le_of_ble_eq_true rfl⟩ hK hPM hS hgm 0 4 rfl rfl rfl hl.1 rfl (Nat.le_of_ble_eq_true rfl) dL_law_369 (fun H locs hz hk hPM hS => ?_)
  have hPX := PX_kept hdj hPX hk
  refine lv_icmp_eq (tgt := 855) hx hb dL_law_372 (by decide) (fun _ => ?_) (fun c9 => absurd rfl c9)
  exact nxt ((s_power z (xs (j + 1))).2) r (inv_power hI (xs (j + 1))) _ _ hPX hPM hS _ hl
set_option maxHeartbeats 4000000 in
set_option maxRecDepth 100000 in
theorem law_limit {p : Program} {l : Launch} {e : Env} {s : State} {m : MethodId} {below : List Frame} {meth : Method} {c : Code} {b L : Nat} {xs : Nat → Int32} {g : qG} {ad am : Nat → Nat} {j : Nat} (C0 : lawCx p s m c b L xs g ad am j) (nxt : nxtT p l e s m below meth c b g ad am j) {z : zS} {r : Nat → Int32} (hI : qInv z) {H : Heap} {locs : List Loc} (hPX : va_P g.1 vwCl (WX g ad z) H) (hPM : va_P g.1 vwCl (WMu g am (z, r)) H) (hS : va_S (fun q => s.heap.size ≤ q) s.heap H locs) {ls : Array Slot} (hl : lv_has ls 4 (lawLs b ad am j)) : W p l e room_1 s m #[Value.ref b] below meth c H locs 33 650 (lw_Z below #[Value.ref b] s) (F0 m 377 ls []) := by
  obtain ⟨hx, hb, hml, hown, hts, hX, hbl, hjx, hjm, hdj, hgx, hgm, hK, hT, hj, hL⟩ := id C0
  refine lv_aload_n hx hb dL_law_377 rfl (lv_at hl 1 rfl) ?_
  refine lawLd C0 hS hl (k := 1) (by decide) (by decide) dL_law_378 dL_law_379 dL_law_380 dL_law_381 dL_law_382 ?_
  refine qViF (As := [.int (xs (j + 1))]) (rest := []) hx hb hml hown hts (kX3_limit l g z hjx (xs (j + 1))) gL_law_X3_limit rfl 1 hdX3_limit rfl ⟨Nat.le_of_ble_eq_true rfl, Nat.le_of_ble_eq_true rfl⟩ ⟨Nat.le_of_ble_eq_true rfl, Nat.le_of_ble_eq_true rfl⟩ hK hPX hS hgx 0 3 rfl rfl rfl hl.1 rfl (Nat.le_of_ble_eq_true rfl) dL_law_383 (fun H locs hz hk hPX hS => ?_)
  have hPM := PM_kept hdj hPM hk
  refine lv_aload_n hx hb dL_law_386 rfl (lv_at hl 2 rfl) ?_
  refine lawLd C0 hS hl (k := 1) (by decide) (by decide) dL_law_387 dL_law_388 dL_law_389 dL_law_390 dL_law_391 ?_
  refine qViF (As := [.int (xs (j + 1))]) (rest := [.int ((s_limit z (xs (j + 1))).1)]) hx hb hml hown hts (kX4_limit l g z r hjm (xs (j + 1))) gL_law_X4_limit rfl 1 hdX4_limit rfl ⟨Nat.le_of_ble_eq_true rfl, Nat.le_of_ble_eq_true rfl⟩ ⟨Nat.le_of_ble_eq_true rfl, Nat.le_of_ble_eq_true rfl⟩ hK hPM hS hgm 0 4 rfl rfl rfl hl.1 rfl (Nat.le_of_ble_eq_true rfl) dL_law_392 (fun H locs hz hk hPM hS => ?_)
  have hPX := PX_kept hdj hPX hk
  refine lv_icmp_eq (tgt := 855) hx hb dL_law_395 (by decide) (fun _ => ?_) (fun c9 => absurd rfl c9)
  exact nxt ((s_limit z (xs (j + 1))).2) r (inv_limit hI (xs (j + 1))) _ _ hPX hPM hS _ hl
set_option maxHeartbeats 4000000 in
set_option maxRecDepth 100000 in
theorem law_leads {p : Program} {l : Launch} {e : Env} {s : State} {m : MethodId} {below : List Frame} {meth : Method} {c : Code} {b L : Nat} {xs : Nat → Int32} {g : qG} {ad am : Nat → Nat} {j : Nat} (C0 : lawCx p s m c b L xs g ad am j) (nxt : nxtT p l e s m below meth c b g ad am j) {z : zS} {r : Nat → Int32} (hI : qInv z) {H : Heap} {locs : List Loc} (hPX : va_P g.1 vwCl (WX g ad z) H) (hPM : va_P g.1 vwCl (WMu g am (z, r)) H) (hS : va_S (fun q => s.heap.size ≤ q) s.heap H locs) {ls : Array Slot} (hl : lv_has ls 4 (lawLs b ad am j)) : W p l e room_1 s m #[Value.ref b] below meth c H locs 33 650 (lw_Z below #[Value.ref b] s) (F0 m 400 ls []) := by
  obtain ⟨hx, hb, hml, hown, hts, hX, hbl, hjx, hjm, hdj, hgx, hgm, hK, hT, hj, hL⟩ := id C0
  refine lv_aload_n hx hb dL_law_400 rfl (lv_at hl 1 rfl) ?_
  refine lawLd C0 hS hl (k := 1) (by decide) (by decide) dL_law_401 dL_law_402 dL_law_403 dL_law_404 dL_law_405 ?_
  refine qViF (As := [.int (xs (j + 1))]) (rest := []) hx hb hml hown hts (kX3_leads l g z hjx (xs (j + 1))) gL_law_X3_leads rfl 1 hdX3_leads rfl ⟨Nat.le_of_ble_eq_true rfl, Nat.le_of_ble_eq_true rfl⟩ ⟨Nat.le_of_ble_eq_true rfl, Nat.le_of_ble_eq_true rfl⟩ hK hPX hS hgx 0 3 rfl rfl rfl hl.1 rfl (Nat.le_of_ble_eq_true rfl) dL_law_406 (fun H locs hz hk hPX hS => ?_)
  have hPM := PM_kept hdj hPM hk
  refine lv_aload_n hx hb dL_law_409 rfl (lv_at hl 2 rfl) ?_
  refine lawLd C0 hS hl (k := 1) (by decide) (by decide) dL_law_410 dL_law_411 dL_law_412 dL_law_413 dL_law_414 ?_
  refine qViF (As := [.int (xs (j + 1))]) (rest := [.int ((s_leads z (xs (j + 1))).1)]) hx hb hml hown hts (kX4_leads l g z r hjm (xs (j + 1))) gL_law_X4_leads rfl 1 hdX4_leads rfl ⟨Nat.le_of_ble_eq_true rfl, Nat.le_of_ble_eq_true rfl⟩ ⟨Nat.le_of_ble_eq_true rfl, Nat.le_of_ble_eq_true rfl⟩ hK hPM hS hgm 0 4 rfl rfl rfl hl.1 rfl (Nat.le_of_ble_eq_true rfl) dL_law_415 (fun H locs hz hk hPM hS => ?_)
  have hPX := PX_kept hdj hPX hk
  refine lv_icmp_eq (tgt := 855) hx hb dL_law_418 (by decide) (fun _ => ?_) (fun c9 => absurd rfl c9)
  exact nxt ((s_leads z (xs (j + 1))).2) r (inv_leads hI (xs (j + 1))) _ _ hPX hPM hS _ hl
set_option maxHeartbeats 4000000 in
set_option maxRecDepth 100000 in
theorem law_now {p : Program} {l : Launch} {e : Env} {s : State} {m : MethodId} {below : List Frame} {meth : Method} {c : Code} {b L : Nat} {xs : Nat → Int32} {g : qG} {ad am : Nat → Nat} {j : Nat} (C0 : lawCx p s m c b L xs g ad am j) (nxt : nxtT p l e s m below meth c b g ad am j) {z : zS} {r : Nat → Int32} (hI : qInv z) {H : Heap} {locs : List Loc} (hPX : va_P g.1 vwCl (WX g ad z) H) (hPM : va_P g.1 vwCl (WMu g am (z, r)) H) (hS : va_S (fun q => s.heap.size ≤ q) s.heap H locs) {ls : Array Slot} (hl : lv_has ls 4 (lawLs b ad am j)) : W p l e room_1 s m #[Value.ref b] below meth c H locs 33 650 (lw_Z below #[Value.ref b] s) (F0 m 423 ls []) := by
  obtain ⟨hx, hb, hml, hown, hts, hX, hbl, hjx, hjm, hdj, hgx, hgm, hK, hT, hj, hL⟩ := id C0
  refine lv_aload_n hx hb dL_law_423 rfl (lv_at hl 1 rfl) ?_
  refine lawLd C0 hS hl (k := 1) (by decide) (by decide) dL_law_424 dL_law_425 dL_law_426 dL_law_427 dL_law_428 ?_
  refine qViF (As := [.int (xs (j + 1))]) (rest := []) hx hb hml hown hts (kX3_now l g z hjx (xs (j + 1))) gL_law_X3_now rfl 1 hdX3_now rfl ⟨Nat.le_of_ble_eq_true rfl, Nat.le_of_ble_eq_true rfl⟩ ⟨Nat.le_of_ble_eq_true rfl, Nat.le_of_ble_eq_true rfl⟩ hK hPX hS hgx 0 3 rfl rfl rfl hl.1 rfl (Nat.le_of_ble_eq_true rfl) dL_law_429 (fun H locs hz hk hPX hS => ?_)
  have hPM := PM_kept hdj hPM hk
  refine lv_aload_n hx hb dL_law_432 rfl (lv_at hl 2 rfl) ?_
  refine lawLd C0 hS hl (k := 1) (by decide) (by decide) dL_law_433 dL_law_434 dL_law_435 dL_law_436 dL_law_437 ?_
  refine qViF (As := [.int (xs (j + 1))]) (rest := [.int (s_now z (xs (j + 1)))]) hx hb hml hown hts (kX4_now l g z r hjm hI (xs (j + 1))) gL_law_X4_now rfl 1 hdX4_now rfl ⟨Nat.le_of_ble_eq_true rfl, Nat.le_of_ble_eq_true rfl⟩ ⟨Nat.le_of_ble_eq_true rfl, Nat.le_of_ble_eq_true rfl⟩ hK hPM hS hgm 0 4 rfl rfl rfl hl.1 rfl (Nat.le_of_ble_eq_true rfl) dL_law_438 (fun H locs hz hk hPM hS => ?_)
  have hPX := PX_kept hdj hPX hk
  refine lv_icmp_eq (tgt := 855) hx hb dL_law_441 (by decide) (fun _ => ?_) (fun c9 => absurd rfl c9)
  exact nxt z r hI _ _ hPX hPM hS _ hl
set_option maxHeartbeats 4000000 in
set_option maxRecDepth 100000 in
theorem law_amps {p : Program} {l : Launch} {e : Env} {s : State} {m : MethodId} {below : List Frame} {meth : Method} {c : Code} {b L : Nat} {xs : Nat → Int32} {g : qG} {ad am : Nat → Nat} {j : Nat} (C0 : lawCx p s m c b L xs g ad am j) (nxt : nxtT p l e s m below meth c b g ad am j) {z : zS} {r : Nat → Int32} (hI : qInv z) {H : Heap} {locs : List Loc} (hPX : va_P g.1 vwCl (WX g ad z) H) (hPM : va_P g.1 vwCl (WMu g am (z, r)) H) (hS : va_S (fun q => s.heap.size ≤ q) s.heap H locs) {ls : Array Slot} (hl : lv_has ls 4 (lawLs b ad am j)) : W p l e room_1 s m #[Value.ref b] below meth c H locs 33 650 (lw_Z below #[Value.ref b] s) (F0 m 446 ls []) := by
  obtain ⟨hx, hb, hml, hown, hts, hX, hbl, hjx, hjm, hdj, hgx, hgm, hK, hT, hj, hL⟩ := id C0
  refine lv_aload_n hx hb dL_law_446 rfl (lv_at hl 1 rfl) ?_
  refine lawLd C0 hS hl (k := 1) (by decide) (by decide) dL_law_447 dL_law_448 dL_law_449 dL_law_450 dL_law_451 ?_
  refine lawLd C0 hS hl (k := 2) (by decide) (by decide) dL_law_452 dL_law_453 dL_law_454 dL_law_455 dL_law_456 ?_
  refine qViF (As := [.int (xs (j + 1)), .int (xs (j + 2))]) (rest := []) hx hb hml hown hts (kX3_amps l g z hjx (xs (j + 1)) (xs (j + 2))) gL_law_X3_amps rfl 2 hdX3_amps rfl ⟨Nat.le_of_ble_eq_true rfl, Nat.le_of_ble_eq_true rfl⟩ ⟨Nat.le_of_ble_eq_true rfl, Nat.le_of_ble_eq_true rfl⟩ hK hPX hS hgx 0 3 rfl rfl rfl hl.1 rfl (Nat.le_of_ble_eq_true rfl) dL_law_457 (fun H locs hz hk hPX hS => ?_)
  have hPM := PM_kept hdj hPM hk
  refine lv_aload_n hx hb dL_law_460 rfl (lv_at hl 2 rfl) ?_
  refine lawLd C0 hS hl (k := 1) (by decide) (by decide) dL_law_461 dL_law_462 dL_law_463 dL_law_464 dL_law_465 ?_
  refine lawLd C0 hS hl (k := 2) (by decide) (by decide) dL_law_466 dL_law_467 dL_law_468 dL_law_469 dL_law_470 ?_
  refine qViF (As := [.int (xs (j + 1)), .int (xs (j + 2))]) (rest := [.int (s_amps z (xs (j + 1)) (xs (j + 2)))]) hx hb hml hown hts (kX4_amps l g z r hjm hI (xs (j + 1)) (xs (j + 2))) gL_law_X4_amps rfl 2 hdX4_amps rfl ⟨Nat.le_of_ble_eq_true rfl, Nat.le_of_ble_eq_true rfl⟩ ⟨Nat.le_of_ble_eq_true rfl, Nat.le_of_ble_eq_true rfl⟩ hK hPM hS hgm 0 4 rfl rfl rfl hl.1 rfl (Nat.le_of_ble_eq_true rfl) dL_law_471 (fun H locs hz hk hPM hS => ?_)
  have hPX := PX_kept hdj hPX hk
  refine lv_icmp_eq (tgt := 855) hx hb dL_law_474 (by decide) (fun _ => ?_) (fun c9 => absurd rfl c9)
  exact nxt z r hI _ _ hPX hPM hS _ hl
set_option maxHeartbeats 4000000 in
set_option maxRecDepth 100000 in
theorem law_would {p : Program} {l : Launch} {e : Env} {s : State} {m : MethodId} {below : List Frame} {meth : Method} {c : Code} {b L : Nat} {xs : Nat → Int32} {g : qG} {ad am : Nat → Nat} {j : Nat} (C0 : lawCx p s m c b L xs g ad am j) (nxt : nxtT p l e s m below meth c b g ad am j) {z : zS} {r : Nat → Int32} (hI : qInv z) {H : Heap} {locs : List Loc} (hPX : va_P g.1 vwCl (WX g ad z) H) (hPM : va_P g.1 vwCl (WMu g am (z, r)) H) (hS : va_S (fun q => s.heap.size ≤ q) s.heap H locs) {ls : Array Slot} (hl : lv_has ls 4 (lawLs b ad am j)) : W p l e room_1 s m #[Value.ref b] below meth c H locs 33 650 (lw_Z below #[Value.ref b] s) (F0 m 479 ls []) := by
  obtain ⟨hx, hb, hml, hown, hts, hX, hbl, hjx, hjm, hdj, hgx, hgm, hK, hT, hj, hL⟩ := id C0
  refine lv_aload_n hx hb dL_law_479 rfl (lv_at hl 1 rfl) ?_
  refine lawLd C0 hS hl (k := 1) (by decide) (by decide) dL_law_480 dL_law_481 dL_law_482 dL_law_483 dL_law_484 ?_
  refine lawLd C0 hS hl (k := 2) (by decide) (by decide) dL_law_485 dL_law_486 dL_law_487 dL_law_488 dL_law_489 ?_
  refine qViF (As := [.int (xs (j + 1)), .int (xs (j + 2))]) (rest := []) hx hb hml hown hts (kX3_would l g z hjx hI (xs (j + 1)) (xs (j + 2))) gL_law_X3_would rfl 2 hdX3_would rfl ⟨Nat.le_of_ble_eq_true rfl, Nat.le_of_ble_eq_true rfl⟩ ⟨Nat.le_of_ble_eq_true rfl, Nat.le_of_ble_eq_true rfl⟩ hK hPX hS hgx 0 3 rfl rfl rfl hl.1 rfl (Nat.le_of_ble_eq_true rfl) dL_law_490 (fun H locs hz hk hPX hS => ?_)
  have hPM := PM_kept hdj hPM hk
  refine lv_aload_n hx hb dL_law_493 rfl (lv_at hl 2 rfl) ?_
  refine lawLd C0 hS hl (k := 1) (by decide) (by decide) dL_law_494 dL_law_495 dL_law_496 dL_law_497 dL_law_498 ?_
  refine lawLd C0 hS hl (k := 2) (by decide) (by decide) dL_law_499 dL_law_500 dL_law_501 dL_law_502 dL_law_503 ?_
  refine qViEF (As := [.int (xs (j + 1)), .int (xs (j + 2))]) (rest := [.int (s_would z (xs (j + 1)) (xs (j + 2)))]) hx hb hml hown hts (kX4_would l g z r hjm hI (xs (j + 1)) (xs (j + 2))) gL_law_X4_would rfl 2 hdX4_would rfl ⟨Nat.le_of_ble_eq_true rfl, Nat.le_of_ble_eq_true rfl⟩ ⟨Nat.le_of_ble_eq_true rfl, Nat.le_of_ble_eq_true rfl⟩ hK hPM hS hgm 0 4 rfl rfl rfl hl.1 rfl (Nat.le_of_ble_eq_true rfl) dL_law_504 (fun r2 H locs hz hk hPM hS => ?_)
  have hPX := PX_kept hdj hPX hk
  refine lv_icmp_eq (tgt := 855) hx hb dL_law_507 (by decide) (fun _ => ?_) (fun c9 => absurd rfl c9)
  exact nxt z r2 hI _ _ hPX hPM hS _ hl
set_option maxHeartbeats 4000000 in
set_option maxRecDepth 100000 in
theorem law_pulse {p : Program} {l : Launch} {e : Env} {s : State} {m : MethodId} {below : List Frame} {meth : Method} {c : Code} {b L : Nat} {xs : Nat → Int32} {g : qG} {ad am : Nat → Nat} {j : Nat} (C0 : lawCx p s m c b L xs g ad am j) (nxt : nxtT p l e s m below meth c b g ad am j) {z : zS} {r : Nat → Int32} (hI : qInv z) {H : Heap} {locs : List Loc} (hPX : va_P g.1 vwCl (WX g ad z) H) (hPM : va_P g.1 vwCl (WMu g am (z, r)) H) (hS : va_S (fun q => s.heap.size ≤ q) s.heap H locs) {ls : Array Slot} (hl : lv_has ls 4 (lawLs b ad am j)) : W p l e room_1 s m #[Value.ref b] below meth c H locs 33 650 (lw_Z below #[Value.ref b] s) (F0 m 512 ls []) := by
  obtain ⟨hx, hb, hml, hown, hts, hX, hbl, hjx, hjm, hdj, hgx, hgm, hK, hT, hj, hL⟩ := id C0
  refine lv_aload_n hx hb dL_law_512 rfl (lv_at hl 1 rfl) ?_
  refine lawLd C0 hS hl (k := 1) (by decide) (by decide) dL_law_513 dL_law_514 dL_law_515 dL_law_516 dL_law_517 ?_
  refine lawLd C0 hS hl (k := 2) (by decide) (by decide) dL_law_518 dL_law_519 dL_law_520 dL_law_521 dL_law_522 ?_
  refine qViF (As := [.int (xs (j + 1)), .int (xs (j + 2))]) (rest := []) hx hb hml hown hts (kX3_pulse l g z hjx hI (xs (j + 1)) (xs (j + 2))) gL_law_X3_pulse rfl 2 hdX3_pulse rfl ⟨Nat.le_of_ble_eq_true rfl, Nat.le_of_ble_eq_true rfl⟩ ⟨Nat.le_of_ble_eq_true rfl, Nat.le_of_ble_eq_true rfl⟩ hK hPX hS hgx 0 3 rfl rfl rfl hl.1 rfl (Nat.le_of_ble_eq_true rfl) dL_law_523 (fun H locs hz hk hPX hS => ?_)
  have hPM := PM_kept hdj hPM hk
  refine lv_aload_n hx hb dL_law_526 rfl (lv_at hl 2 rfl) ?_
  refine lawLd C0 hS hl (k := 1) (by decide) (by decide) dL_law_527 dL_law_528 dL_law_529 dL_law_530 dL_law_531 ?_
  refine lawLd C0 hS hl (k := 2) (by decide) (by decide) dL_law_532 dL_law_533 dL_law_534 dL_law_535 dL_law_536 ?_
  refine qViEF (As := [.int (xs (j + 1)), .int (xs (j + 2))]) (rest := [.int ((s_pulse z (xs (j + 1)) (xs (j + 2))).1)]) hx hb hml hown hts (kX4_pulse l g z r hjm hI (xs (j + 1)) (xs (j + 2))) gL_law_X4_pulse rfl 2 hdX4_pulse rfl ⟨Nat.le_of_ble_eq_true rfl, Nat.le_of_ble_eq_true rfl⟩ ⟨Nat.le_of_ble_eq_true rfl, Nat.le_of_ble_eq_true rfl⟩ hK hPM hS hgm 0 4 rfl rfl rfl hl.1 rfl (Nat.le_of_ble_eq_true rfl) dL_law_537 (fun r2 H locs hz hk hPM hS => ?_)
  have hPX := PX_kept hdj hPX hk
  refine lv_icmp_eq (tgt := 855) hx hb dL_law_540 (by decide) (fun _ => ?_) (fun c9 => absurd rfl c9)
  exact nxt ((s_pulse z (xs (j + 1)) (xs (j + 2))).2) r2 (inv_pulse hI (xs (j + 1)) (xs (j + 2))) _ _ hPX hPM hS _ hl
set_option maxHeartbeats 4000000 in
set_option maxRecDepth 100000 in
theorem law_rest {p : Program} {l : Launch} {e : Env} {s : State} {m : MethodId} {below : List Frame} {meth : Method} {c : Code} {b L : Nat} {xs : Nat → Int32} {g : qG} {ad am : Nat → Nat} {j : Nat} (C0 : lawCx p s m c b L xs g ad am j) (nxt : nxtT p l e s m below meth c b g ad am j) {z : zS} {r : Nat → Int32} (hI : qInv z) {H : Heap} {locs : List Loc} (hPX : va_P g.1 vwCl (WX g ad z) H) (hPM : va_P g.1 vwCl (WMu g am (z, r)) H) (hS : va_S (fun q => s.heap.size ≤ q) s.heap H locs) {ls : Array Slot} (hl : lv_has ls 4 (lawLs b ad am j)) : W p l e room_1 s m #[Value.ref b] below meth c H locs 33 650 (lw_Z below #[Value.ref b] s) (F0 m 545 ls []) := by
  obtain ⟨hx, hb, hml, hown, hts, hX, hbl, hjx, hjm, hdj, hgx, hgm, hK, hT, hj, hL⟩ := id C0
  refine lv_aload_n hx hb dL_law_545 rfl (lv_at hl 1 rfl) ?_
  refine lawLd C0 hS hl (k := 1) (by decide) (by decide) dL_law_546 dL_law_547 dL_law_548 dL_law_549 dL_law_550 ?_
  refine qViF (As := [.int (xs (j + 1))]) (rest := []) hx hb hml hown hts (kX3_rest l g z hjx (xs (j + 1))) gL_law_X3_rest rfl 1 hdX3_rest rfl ⟨Nat.le_of_ble_eq_true rfl, Nat.le_of_ble_eq_true rfl⟩ ⟨Nat.le_of_ble_eq_true rfl, Nat.le_of_ble_eq_true rfl⟩ hK hPX hS hgx 0 3 rfl rfl rfl hl.1 rfl (Nat.le_of_ble_eq_true rfl) dL_law_551 (fun H locs hz hk hPX hS => ?_)
  have hPM := PM_kept hdj hPM hk
  refine lv_aload_n hx hb dL_law_554 rfl (lv_at hl 2 rfl) ?_
  refine lawLd C0 hS hl (k := 1) (by decide) (by decide) dL_law_555 dL_law_556 dL_law_557 dL_law_558 dL_law_559 ?_
  refine qViF (As := [.int (xs (j + 1))]) (rest := [.int ((s_rest z (xs (j + 1))).1)]) hx hb hml hown hts (kX4_rest l g z r hjm (xs (j + 1))) gL_law_X4_rest rfl 1 hdX4_rest rfl ⟨Nat.le_of_ble_eq_true rfl, Nat.le_of_ble_eq_true rfl⟩ ⟨Nat.le_of_ble_eq_true rfl, Nat.le_of_ble_eq_true rfl⟩ hK hPM hS hgm 0 4 rfl rfl rfl hl.1 rfl (Nat.le_of_ble_eq_true rfl) dL_law_560 (fun H locs hz hk hPM hS => ?_)
  have hPX := PX_kept hdj hPX hk
  refine lv_icmp_eq (tgt := 855) hx hb dL_law_563 (by decide) (fun _ => ?_) (fun c9 => absurd rfl c9)
  exact nxt ((s_rest z (xs (j + 1))).2) r (inv_rest hI (xs (j + 1))) _ _ hPX hPM hS _ hl
set_option maxHeartbeats 4000000 in
set_option maxRecDepth 100000 in
theorem law_sweep {p : Program} {l : Launch} {e : Env} {s : State} {m : MethodId} {below : List Frame} {meth : Method} {c : Code} {b L : Nat} {xs : Nat → Int32} {g : qG} {ad am : Nat → Nat} {j : Nat} (C0 : lawCx p s m c b L xs g ad am j) (nxt : nxtT p l e s m below meth c b g ad am j) {z : zS} {r : Nat → Int32} (hI : qInv z) {H : Heap} {locs : List Loc} (hPX : va_P g.1 vwCl (WX g ad z) H) (hPM : va_P g.1 vwCl (WMu g am (z, r)) H) (hS : va_S (fun q => s.heap.size ≤ q) s.heap H locs) {ls : Array Slot} (hl : lv_has ls 4 (lawLs b ad am j)) : W p l e room_1 s m #[Value.ref b] below meth c H locs 33 650 (lw_Z below #[Value.ref b] s) (F0 m 568 ls []) := by
  obtain ⟨hx, hb, hml, hown, hts, hX, hbl, hjx, hjm, hdj, hgx, hgm, hK, hT, hj, hL⟩ := id C0
  refine lv_aload_n hx hb dL_law_568 rfl (lv_at hl 1 rfl) ?_
  refine lawLd C0 hS hl (k := 1) (by decide) (by decide) dL_law_569 dL_law_570 dL_law_571 dL_law_572 dL_law_573 ?_
  refine lawLd C0 hS hl (k := 2) (by decide) (by decide) dL_law_574 dL_law_575 dL_law_576 dL_law_577 dL_law_578 ?_
  refine lawLd C0 hS hl (k := 3) (by decide) (by decide) dL_law_579 dL_law_580 dL_law_581 dL_law_582 dL_law_583 ?_
  refine lawLd C0 hS hl (k := 4) (by decide) (by decide) dL_law_584 dL_law_585 dL_law_586 dL_law_587 dL_law_588 ?_
  refine lawLd C0 hS hl (k := 5) (by decide) (by decide) dL_law_589 dL_law_590 dL_law_591 dL_law_592 dL_law_593 ?_
  refine lawLd6 C0 hS hl (k := 6) (by decide) (by decide) dL_law_594 dL_law_595 dL_law_596 dL_law_598 dL_law_599 ?_
  refine qViF (As := [.int (xs (j + 1)), .int (xs (j + 2)), .int (xs (j + 3)), .int (xs (j + 4)), .int (xs (j + 5)), .int (xs (j + 6))]) (rest := []) hx hb hml hown hts (kX3_sweep l g z hjx hI (xs (j + 1)) (xs (j + 2)) (xs (j + 3)) (xs (j + 4)) (xs (j + 5)) (xs (j + 6))) gL_law_X3_sweep rfl 6 hdX3_sweep rfl ⟨Nat.le_of_ble_eq_true rfl, Nat.le_of_ble_eq_true rfl⟩ ⟨Nat.le_of_ble_eq_true rfl, Nat.le_of_ble_eq_true rfl⟩ hK hPX hS hgx 0 3 rfl rfl rfl hl.1 rfl (Nat.le_of_ble_eq_true rfl) dL_law_600 (fun H locs hz hk hPX hS => ?_)
  have hPM := PM_kept hdj hPM hk
  refine lv_aload_n hx hb dL_law_603 rfl (lv_at hl 2 rfl) ?_
  refine lawLd C0 hS hl (k := 1) (by decide) (by decide) dL_law_604 dL_law_605 dL_law_606 dL_law_607 dL_law_608 ?_
  refine lawLd C0 hS hl (k := 2) (by decide) (by decide) dL_law_609 dL_law_610 dL_law_611 dL_law_612 dL_law_613 ?_
  refine lawLd C0 hS hl (k := 3) (by decide) (by decide) dL_law_614 dL_law_615 dL_law_616 dL_law_617 dL_law_618 ?_
  refine lawLd C0 hS hl (k := 4) (by decide) (by decide) dL_law_619 dL_law_620 dL_law_621 dL_law_622 dL_law_623 ?_
  refine lawLd C0 hS hl (k := 5) (by decide) (by decide) dL_law_624 dL_law_625 dL_law_626 dL_law_627 dL_law_628 ?_
  refine lawLd6 C0 hS hl (k := 6) (by decide) (by decide) dL_law_629 dL_law_630 dL_law_631 dL_law_633 dL_law_634 ?_
  refine qViEF (As := [.int (xs (j + 1)), .int (xs (j + 2)), .int (xs (j + 3)), .int (xs (j + 4)), .int (xs (j + 5)), .int (xs (j + 6))]) (rest := [.int ((s_sweep z (xs (j + 1)) (xs (j + 2)) (xs (j + 3)) (xs (j + 4)) (xs (j + 5)) (xs (j + 6))).1)]) hx hb hml hown hts (kX4_sweep l g z r hjm hI (xs (j + 1)) (xs (j + 2)) (xs (j + 3)) (xs (j + 4)) (xs (j + 5)) (xs (j + 6))) gL_law_X4_sweep rfl 6 hdX4_sweep rfl ⟨Nat.le_of_ble_eq_true rfl, Nat.le_of_ble_eq_true rfl⟩ ⟨Nat.le_of_ble_eq_true rfl, Nat.le_of_ble_eq_true rfl⟩ hK hPM hS hgm 0 4 rfl rfl rfl hl.1 rfl (Nat.le_of_ble_eq_true rfl) dL_law_635 (fun r2 H locs hz hk hPM hS => ?_)
  have hPX := PX_kept hdj hPX hk
  refine lv_icmp_eq (tgt := 855) hx hb dL_law_638 (by decide) (fun _ => ?_) (fun c9 => absurd rfl c9)
  exact nxt ((s_sweep z (xs (j + 1)) (xs (j + 2)) (xs (j + 3)) (xs (j + 4)) (xs (j + 5)) (xs (j + 6))).2) r2 (inv_sweep hI (xs (j + 1)) (xs (j + 2)) (xs (j + 3)) (xs (j + 4)) (xs (j + 5)) (xs (j + 6))) _ _ hPX hPM hS _ hl
set_option maxHeartbeats 4000000 in
set_option maxRecDepth 100000 in
theorem law_why {p : Program} {l : Launch} {e : Env} {s : State} {m : MethodId} {below : List Frame} {meth : Method} {c : Code} {b L : Nat} {xs : Nat → Int32} {g : qG} {ad am : Nat → Nat} {j : Nat} (C0 : lawCx p s m c b L xs g ad am j) (nxt : nxtT p l e s m below meth c b g ad am j) {z : zS} {r : Nat → Int32} (hI : qInv z) {H : Heap} {locs : List Loc} (hPX : va_P g.1 vwCl (WX g ad z) H) (hPM : va_P g.1 vwCl (WMu g am (z, r)) H) (hS : va_S (fun q => s.heap.size ≤ q) s.heap H locs) {ls : Array Slot} (hl : lv_has ls 4 (lawLs b ad am j)) : W p l e room_1 s m #[Value.ref b] below meth c H locs 33 650 (lw_Z below #[Value.ref b] s) (F0 m 643 ls []) := by
  obtain ⟨hx, hb, hml, hown, hts, hX, hbl, hjx, hjm, hdj, hgx, hgm, hK, hT, hj, hL⟩ := id C0
  refine lv_aload_n hx hb dL_law_643 rfl (lv_at hl 1 rfl) ?_
  refine lawLd C0 hS hl (k := 1) (by decide) (by decide) dL_law_644 dL_law_645 dL_law_646 dL_law_647 dL_law_648 ?_
  refine lawLd C0 hS hl (k := 2) (by decide) (by decide) dL_law_649 dL_law_650 dL_law_651 dL_law_652 dL_law_653 ?_
  refine qViF (As := [.int (xs (j + 1)), .int (xs (j + 2))]) (rest := []) hx hb hml hown hts (kX3_why l g z hjx (xs (j + 1)) (xs (j + 2))) gL_law_X3_why rfl 2 hdX3_why rfl ⟨Nat.le_of_ble_eq_true rfl, Nat.le_of_ble_eq_true rfl⟩ ⟨Nat.le_of_ble_eq_true rfl, Nat.le_of_ble_eq_true rfl⟩ hK hPX hS hgx 0 3 rfl rfl rfl hl.1 rfl (Nat.le_of_ble_eq_true rfl) dL_law_654 (fun H locs hz hk hPX hS => ?_)
  have hPM := PM_kept hdj hPM hk
  refine lv_aload_n hx hb dL_law_657 rfl (lv_at hl 2 rfl) ?_
  refine lawLd C0 hS hl (k := 1) (by decide) (by decide) dL_law_658 dL_law_659 dL_law_660 dL_law_661 dL_law_662 ?_
  refine lawLd C0 hS hl (k := 2) (by decide) (by decide) dL_law_663 dL_law_664 dL_law_665 dL_law_666 dL_law_667 ?_
  refine qViF (As := [.int (xs (j + 1)), .int (xs (j + 2))]) (rest := [.int (s_why z (xs (j + 1)) (xs (j + 2)))]) hx hb hml hown hts (kX4_why l g z r hjm (xs (j + 1)) (xs (j + 2))) gL_law_X4_why rfl 2 hdX4_why rfl ⟨Nat.le_of_ble_eq_true rfl, Nat.le_of_ble_eq_true rfl⟩ ⟨Nat.le_of_ble_eq_true rfl, Nat.le_of_ble_eq_true rfl⟩ hK hPM hS hgm 0 4 rfl rfl rfl hl.1 rfl (Nat.le_of_ble_eq_true rfl) dL_law_668 (fun H locs hz hk hPM hS => ?_)
  have hPX := PX_kept hdj hPX hk
  refine lv_icmp_eq (tgt := 855) hx hb dL_law_671 (by decide) (fun _ => ?_) (fun c9 => absurd rfl c9)
  exact nxt z r hI _ _ hPX hPM hS _ hl
set_option maxHeartbeats 4000000 in
set_option maxRecDepth 100000 in
theorem law_reading {p : Program} {l : Launch} {e : Env} {s : State} {m : MethodId} {below : List Frame} {meth : Method} {c : Code} {b L : Nat} {xs : Nat → Int32} {g : qG} {ad am : Nat → Nat} {j : Nat} (C0 : lawCx p s m c b L xs g ad am j) (nxt : nxtT p l e s m below meth c b g ad am j) {z : zS} {r : Nat → Int32} (hI : qInv z) {H : Heap} {locs : List Loc} (hPX : va_P g.1 vwCl (WX g ad z) H) (hPM : va_P g.1 vwCl (WMu g am (z, r)) H) (hS : va_S (fun q => s.heap.size ≤ q) s.heap H locs) {ls : Array Slot} (hl : lv_has ls 4 (lawLs b ad am j)) : W p l e room_1 s m #[Value.ref b] below meth c H locs 33 650 (lw_Z below #[Value.ref b] s) (F0 m 676 ls []) := by
  obtain ⟨hx, hb, hml, hown, hts, hX, hbl, hjx, hjm, hdj, hgx, hgm, hK, hT, hj, hL⟩ := id C0
  refine lv_aload_n hx hb dL_law_676 rfl (lv_at hl 1 rfl) ?_
  refine lawLd C0 hS hl (k := 1) (by decide) (by decide) dL_law_677 dL_law_678 dL_law_679 dL_law_680 dL_law_681 ?_
  refine lawLd C0 hS hl (k := 2) (by decide) (by decide) dL_law_682 dL_law_683 dL_law_684 dL_law_685 dL_law_686 ?_
  refine qViF (As := [.int (xs (j + 1)), .int (xs (j + 2))]) (rest := []) hx hb hml hown hts (kX3_reading l g z hjx hI (xs (j + 1)) (xs (j + 2))) gL_law_X3_reading rfl 2 hdX3_reading rfl ⟨Nat.le_of_ble_eq_true rfl, Nat.le_of_ble_eq_true rfl⟩ ⟨Nat.le_of_ble_eq_true rfl, Nat.le_of_ble_eq_true rfl⟩ hK hPX hS hgx 0 3 rfl rfl rfl hl.1 rfl (Nat.le_of_ble_eq_true rfl) dL_law_687 (fun H locs hz hk hPX hS => ?_)
  have hPM := PM_kept hdj hPM hk
  refine lv_aload_n hx hb dL_law_690 rfl (lv_at hl 2 rfl) ?_
  refine lawLd C0 hS hl (k := 1) (by decide) (by decide) dL_law_691 dL_law_692 dL_law_693 dL_law_694 dL_law_695 ?_
  refine lawLd C0 hS hl (k := 2) (by decide) (by decide) dL_law_696 dL_law_697 dL_law_698 dL_law_699 dL_law_700 ?_
  refine qViF (As := [.int (xs (j + 1)), .int (xs (j + 2))]) (rest := [.int (s_reading z (xs (j + 1)) (xs (j + 2)))]) hx hb hml hown hts (kX4_reading l g z r hjm hI (xs (j + 1)) (xs (j + 2))) gL_law_X4_reading rfl 2 hdX4_reading rfl ⟨Nat.le_of_ble_eq_true rfl, Nat.le_of_ble_eq_true rfl⟩ ⟨Nat.le_of_ble_eq_true rfl, Nat.le_of_ble_eq_true rfl⟩ hK hPM hS hgm 0 4 rfl rfl rfl hl.1 rfl (Nat.le_of_ble_eq_true rfl) dL_law_701 (fun H locs hz hk hPM hS => ?_)
  have hPX := PX_kept hdj hPX hk
  refine lv_icmp_eq (tgt := 855) hx hb dL_law_704 (by decide) (fun _ => ?_) (fun c9 => absurd rfl c9)
  exact nxt z r hI _ _ hPX hPM hS _ hl
set_option maxHeartbeats 4000000 in
set_option maxRecDepth 100000 in
theorem law_clear {p : Program} {l : Launch} {e : Env} {s : State} {m : MethodId} {below : List Frame} {meth : Method} {c : Code} {b L : Nat} {xs : Nat → Int32} {g : qG} {ad am : Nat → Nat} {j : Nat} (C0 : lawCx p s m c b L xs g ad am j) (nxt : nxtT p l e s m below meth c b g ad am j) {z : zS} {r : Nat → Int32} (hI : qInv z) {H : Heap} {locs : List Loc} (hPX : va_P g.1 vwCl (WX g ad z) H) (hPM : va_P g.1 vwCl (WMu g am (z, r)) H) (hS : va_S (fun q => s.heap.size ≤ q) s.heap H locs) {ls : Array Slot} (hl : lv_has ls 4 (lawLs b ad am j)) : W p l e room_1 s m #[Value.ref b] below meth c H locs 33 650 (lw_Z below #[Value.ref b] s) (F0 m 709 ls []) := by
  obtain ⟨hx, hb, hml, hown, hts, hX, hbl, hjx, hjm, hdj, hgx, hgm, hK, hT, hj, hL⟩ := id C0
  refine lv_aload_n hx hb dL_law_709 rfl (lv_at hl 1 rfl) ?_
  refine qViF (As := []) (rest := []) hx hb hml hown hts (kX3_clear l g z hjx) gL_law_X3_clear rfl 0 hdX3_clear rfl ⟨Nat.le_of_ble_eq_true rfl, Nat.le_of_ble_eq_true rfl⟩ ⟨Nat.le_of_ble_eq_true rfl, Nat.le_of_ble_eq_true rfl⟩ hK hPX hS hgx 0 3 rfl rfl rfl hl.1 rfl (Nat.le_of_ble_eq_true rfl) dL_law_710 (fun H locs hz hk hPX hS => ?_)
  have hPM := PM_kept hdj hPM hk
  refine lv_aload_n hx hb dL_law_713 rfl (lv_at hl 2 rfl) ?_
  refine qViF (As := []) (rest := [.int ((s_clear z).1)]) hx hb hml hown hts (kX4_clear l g z r hjm) gL_law_X4_clear rfl 0 hdX4_clear rfl ⟨Nat.le_of_ble_eq_true rfl, Nat.le_of_ble_eq_true rfl⟩ ⟨Nat.le_of_ble_eq_true rfl, Nat.le_of_ble_eq_true rfl⟩ hK hPM hS hgm 0 4 rfl rfl rfl hl.1 rfl (Nat.le_of_ble_eq_true rfl) dL_law_714 (fun H locs hz hk hPM hS => ?_)
  have hPX := PX_kept hdj hPX hk
  refine lv_icmp_eq (tgt := 855) hx hb dL_law_717 (by decide) (fun _ => ?_) (fun c9 => absurd rfl c9)
  exact nxt ((s_clear z).2) r (inv_clear hI) _ _ hPX hPM hS _ hl
set_option maxHeartbeats 4000000 in
set_option maxRecDepth 100000 in
theorem law_knee {p : Program} {l : Launch} {e : Env} {s : State} {m : MethodId} {below : List Frame} {meth : Method} {c : Code} {b L : Nat} {xs : Nat → Int32} {g : qG} {ad am : Nat → Nat} {j : Nat} (C0 : lawCx p s m c b L xs g ad am j) (nxt : nxtT p l e s m below meth c b g ad am j) {z : zS} {r : Nat → Int32} (hI : qInv z) {H : Heap} {locs : List Loc} (hPX : va_P g.1 vwCl (WX g ad z) H) (hPM : va_P g.1 vwCl (WMu g am (z, r)) H) (hS : va_S (fun q => s.heap.size ≤ q) s.heap H locs) {ls : Array Slot} (hl : lv_has ls 4 (lawLs b ad am j)) : W p l e room_1 s m #[Value.ref b] below meth c H locs 33 650 (lw_Z below #[Value.ref b] s) (F0 m 722 ls []) := by
  obtain ⟨hx, hb, hml, hown, hts, hX, hbl, hjx, hjm, hdj, hgx, hgm, hK, hT, hj, hL⟩ := id C0
  refine lv_aload_n hx hb dL_law_722 rfl (lv_at hl 1 rfl) ?_
  refine lawLd C0 hS hl (k := 1) (by decide) (by decide) dL_law_723 dL_law_724 dL_law_725 dL_law_726 dL_law_727 ?_
  refine lawLd C0 hS hl (k := 2) (by decide) (by decide) dL_law_728 dL_law_729 dL_law_730 dL_law_731 dL_law_732 ?_
  refine qViF (As := [.int (xs (j + 1)), .int (xs (j + 2))]) (rest := []) hx hb hml hown hts (kX3_knee l g z hjx hI (xs (j + 1)) (xs (j + 2))) gL_law_X3_knee rfl 2 hdX3_knee rfl ⟨Nat.le_of_ble_eq_true rfl, Nat.le_of_ble_eq_true rfl⟩ ⟨Nat.le_of_ble_eq_true rfl, Nat.le_of_ble_eq_true rfl⟩ hK hPX hS hgx 0 3 rfl rfl rfl hl.1 rfl (Nat.le_of_ble_eq_true rfl) dL_law_733 (fun H locs hz hk hPX hS => ?_)
  have hPM := PM_kept hdj hPM hk
  refine lv_aload_n hx hb dL_law_736 rfl (lv_at hl 2 rfl) ?_
  refine lawLd C0 hS hl (k := 1) (by decide) (by decide) dL_law_737 dL_law_738 dL_law_739 dL_law_740 dL_law_741 ?_
  refine lawLd C0 hS hl (k := 2) (by decide) (by decide) dL_law_742 dL_law_743 dL_law_744 dL_law_745 dL_law_746 ?_
  refine qViF (As := [.int (xs (j + 1)), .int (xs (j + 2))]) (rest := [.int (s_knee z (xs (j + 1)) (xs (j + 2)))]) hx hb hml hown hts (kX4_knee l g z r hjm hI (xs (j + 1)) (xs (j + 2))) gL_law_X4_knee rfl 2 hdX4_knee rfl ⟨Nat.le_of_ble_eq_true rfl, Nat.le_of_ble_eq_true rfl⟩ ⟨Nat.le_of_ble_eq_true rfl, Nat.le_of_ble_eq_true rfl⟩ hK hPM hS hgm 0 4 rfl rfl rfl hl.1 rfl (Nat.le_of_ble_eq_true rfl) dL_law_747 (fun H locs hz hk hPM hS => ?_)
  have hPX := PX_kept hdj hPX hk
  refine lv_icmp_eq (tgt := 855) hx hb dL_law_750 (by decide) (fun _ => ?_) (fun c9 => absurd rfl c9)
  exact nxt z r hI _ _ hPX hPM hS _ hl
set_option maxHeartbeats 4000000 in
set_option maxRecDepth 100000 in
theorem law_fit {p : Program} {l : Launch} {e : Env} {s : State} {m : MethodId} {below : List Frame} {meth : Method} {c : Code} {b L : Nat} {xs : Nat → Int32} {g : qG} {ad am : Nat → Nat} {j : Nat} (C0 : lawCx p s m c b L xs g ad am j) (nxt : nxtT p l e s m below meth c b g ad am j) {z : zS} {r : Nat → Int32} (hI : qInv z) {H : Heap} {locs : List Loc} (hPX : va_P g.1 vwCl (WX g ad z) H) (hPM : va_P g.1 vwCl (WMu g am (z, r)) H) (hS : va_S (fun q => s.heap.size ≤ q) s.heap H locs) {ls : Array Slot} (hl : lv_has ls 4 (lawLs b ad am j)) : W p l e room_1 s m #[Value.ref b] below meth c H locs 33 650 (lw_Z below #[Value.ref b] s) (F0 m 755 ls []) := by
  obtain ⟨hx, hb, hml, hown, hts, hX, hbl, hjx, hjm, hdj, hgx, hgm, hK, hT, hj, hL⟩ := id C0
  refine lv_aload_n hx hb dL_law_755 rfl (lv_at hl 1 rfl) ?_
  refine lawLd C0 hS hl (k := 1) (by decide) (by decide) dL_law_756 dL_law_757 dL_law_758 dL_law_759 dL_law_760 ?_
  refine lawLd C0 hS hl (k := 2) (by decide) (by decide) dL_law_761 dL_law_762 dL_law_763 dL_law_764 dL_law_765 ?_
  refine lawLd C0 hS hl (k := 3) (by decide) (by decide) dL_law_766 dL_law_767 dL_law_768 dL_law_769 dL_law_770 ?_
  refine qVlF (As := [.int (xs (j + 1)), .int (xs (j + 2)), .int (xs (j + 3))]) (rest := []) hx hb hml hown hts (kX3_fit l g z hjx hI (xs (j + 1)) (xs (j + 2)) (xs (j + 3))) gL_law_X3_fit rfl 3 hdX3_fit rfl ⟨Nat.le_of_ble_eq_true rfl, Nat.le_of_ble_eq_true rfl⟩ ⟨Nat.le_of_ble_eq_true rfl, Nat.le_of_ble_eq_true rfl⟩ hK hPX hS hgx 0 3 rfl rfl rfl hl.1 rfl (Nat.le_of_ble_eq_true rfl) dL_law_771 (fun H locs hz hk hPX hS => ?_)
  have hPM := PM_kept hdj hPM hk
  refine lv_aload_n hx hb dL_law_774 rfl (lv_at hl 2 rfl) ?_
  refine lawLd C0 hS hl (k := 1) (by decide) (by decide) dL_law_775 dL_law_776 dL_law_777 dL_law_778 dL_law_779 ?_
  refine lawLd C0 hS hl (k := 2) (by decide) (by decide) dL_law_780 dL_law_781 dL_law_782 dL_law_783 dL_law_784 ?_
  refine lawLd C0 hS hl (k := 3) (by decide) (by decide) dL_law_785 dL_law_786 dL_law_787 dL_law_788 dL_law_789 ?_
  refine qVlF (As := [.int (xs (j + 1)), .int (xs (j + 2)), .int (xs (j + 3))]) (rest := [.long (s_fit z (xs (j + 1)) (xs (j + 2)) (xs (j + 3)))]) hx hb hml hown hts (kX4_fit l g z r hjm hI (xs (j + 1)) (xs (j + 2)) (xs (j + 3))) gL_law_X4_fit rfl 3 hdX4_fit rfl ⟨Nat.le_of_ble_eq_true rfl, Nat.le_of_ble_eq_true rfl⟩ ⟨Nat.le_of_ble_eq_true rfl, Nat.le_of_ble_eq_true rfl⟩ hK hPM hS hgm 0 4 rfl rfl rfl hl.1 rfl (Nat.le_of_ble_eq_true rfl) dL_law_790 (fun H locs hz hk hPM hS => ?_)
  have hPX := PX_kept hdj hPX hk
  refine W.lcmp hx hb dL_law_793 ?_
  refine lv_if_eq (tgt := 855) hx hb dL_law_794 (by decide) (fun _ => ?_) (fun c9 => absurd ((lg_cmp_eq _ _).mpr rfl) c9)
  exact nxt z r hI _ _ hPX hPM hS _ hl
set_option maxHeartbeats 4000000 in
set_option maxRecDepth 100000 in
theorem law_gap {p : Program} {l : Launch} {e : Env} {s : State} {m : MethodId} {below : List Frame} {meth : Method} {c : Code} {b L : Nat} {xs : Nat → Int32} {g : qG} {ad am : Nat → Nat} {j : Nat} (C0 : lawCx p s m c b L xs g ad am j) (nxt : nxtT p l e s m below meth c b g ad am j) {z : zS} {r : Nat → Int32} (hI : qInv z) {H : Heap} {locs : List Loc} (hPX : va_P g.1 vwCl (WX g ad z) H) (hPM : va_P g.1 vwCl (WMu g am (z, r)) H) (hS : va_S (fun q => s.heap.size ≤ q) s.heap H locs) {ls : Array Slot} (hl : lv_has ls 4 (lawLs b ad am j)) : W p l e room_1 s m #[Value.ref b] below meth c H locs 33 650 (lw_Z below #[Value.ref b] s) (F0 m 799 ls []) := by
  obtain ⟨hx, hb, hml, hown, hts, hX, hbl, hjx, hjm, hdj, hgx, hgm, hK, hT, hj, hL⟩ := id C0
  refine lv_aload_n hx hb dL_law_799 rfl (lv_at hl 1 rfl) ?_
  refine lawLd C0 hS hl (k := 1) (by decide) (by decide) dL_law_800 dL_law_801 dL_law_802 dL_law_803 dL_law_804 ?_
  refine lawLd C0 hS hl (k := 2) (by decide) (by decide) dL_law_805 dL_law_806 dL_law_807 dL_law_808 dL_law_809 ?_
  refine qViF (As := [.int (xs (j + 1)), .int (xs (j + 2))]) (rest := []) hx hb hml hown hts (kX3_gap l g z hjx hI (xs (j + 1)) (xs (j + 2))) gL_law_X3_gap rfl 2 hdX3_gap rfl ⟨Nat.le_of_ble_eq_true rfl, Nat.le_of_ble_eq_true rfl⟩ ⟨Nat.le_of_ble_eq_true rfl, Nat.le_of_ble_eq_true rfl⟩ hK hPX hS hgx 0 3 rfl rfl rfl hl.1 rfl (Nat.le_of_ble_eq_true rfl) dL_law_810 (fun H locs hz hk hPX hS => ?_)
  have hPM := PM_kept hdj hPM hk
  refine lv_aload_n hx hb dL_law_813 rfl (lv_at hl 2 rfl) ?_
  refine lawLd C0 hS hl (k := 1) (by decide) (by decide) dL_law_814 dL_law_815 dL_law_816 dL_law_817 dL_law_818 ?_
  refine lawLd C0 hS hl (k := 2) (by decide) (by decide) dL_law_819 dL_law_820 dL_law_821 dL_law_822 dL_law_823 ?_
  refine qViF (As := [.int (xs (j + 1)), .int (xs (j + 2))]) (rest := [.int (s_gap z (xs (j + 1)) (xs (j + 2)))]) hx hb hml hown hts (kX4_gap l g z r hjm hI (xs (j + 1)) (xs (j + 2))) gL_law_X4_gap rfl 2 hdX4_gap rfl ⟨Nat.le_of_ble_eq_true rfl, Nat.le_of_ble_eq_true rfl⟩ ⟨Nat.le_of_ble_eq_true rfl, Nat.le_of_ble_eq_true rfl⟩ hK hPM hS hgm 0 4 rfl rfl rfl hl.1 rfl (Nat.le_of_ble_eq_true rfl) dL_law_824 (fun H locs hz hk hPM hS => ?_)
  have hPX := PX_kept hdj hPX hk
  refine lv_icmp_eq (tgt := 855) hx hb dL_law_827 (by decide) (fun _ => ?_) (fun c9 => absurd rfl c9)
  exact nxt z r hI _ _ hPX hPM hS _ hl
set_option maxHeartbeats 4000000 in
set_option maxRecDepth 100000 in
theorem law_many {p : Program} {l : Launch} {e : Env} {s : State} {m : MethodId} {below : List Frame} {meth : Method} {c : Code} {b L : Nat} {xs : Nat → Int32} {g : qG} {ad am : Nat → Nat} {j : Nat} (C0 : lawCx p s m c b L xs g ad am j) (nxt : nxtT p l e s m below meth c b g ad am j) {z : zS} {r : Nat → Int32} (hI : qInv z) {H : Heap} {locs : List Loc} (hPX : va_P g.1 vwCl (WX g ad z) H) (hPM : va_P g.1 vwCl (WMu g am (z, r)) H) (hS : va_S (fun q => s.heap.size ≤ q) s.heap H locs) {ls : Array Slot} (hl : lv_has ls 4 (lawLs b ad am j)) : W p l e room_1 s m #[Value.ref b] below meth c H locs 33 650 (lw_Z below #[Value.ref b] s) (F0 m 832 ls []) := by
  obtain ⟨hx, hb, hml, hown, hts, hX, hbl, hjx, hjm, hdj, hgx, hgm, hK, hT, hj, hL⟩ := id C0
  refine lv_aload_n hx hb dL_law_832 rfl (lv_at hl 1 rfl) ?_
  refine lawLd C0 hS hl (k := 1) (by decide) (by decide) dL_law_833 dL_law_834 dL_law_835 dL_law_836 dL_law_837 ?_
  refine qViF (As := [.int (xs (j + 1))]) (rest := []) hx hb hml hown hts (kX3_many l g z hjx hI (xs (j + 1))) gL_law_X3_many rfl 1 hdX3_many rfl ⟨Nat.le_of_ble_eq_true rfl, Nat.le_of_ble_eq_true rfl⟩ ⟨Nat.le_of_ble_eq_true rfl, Nat.le_of_ble_eq_true rfl⟩ hK hPX hS hgx 0 3 rfl rfl rfl hl.1 rfl (Nat.le_of_ble_eq_true rfl) dL_law_838 (fun H locs hz hk hPX hS => ?_)
  have hPM := PM_kept hdj hPM hk
  refine lv_aload_n hx hb dL_law_841 rfl (lv_at hl 2 rfl) ?_
  refine lawLd C0 hS hl (k := 1) (by decide) (by decide) dL_law_842 dL_law_843 dL_law_844 dL_law_845 dL_law_846 ?_
  refine qViF (As := [.int (xs (j + 1))]) (rest := [.int (s_many z (xs (j + 1)))]) hx hb hml hown hts (kX4_many l g z r hjm hI (xs (j + 1))) gL_law_X4_many rfl 1 hdX4_many rfl ⟨Nat.le_of_ble_eq_true rfl, Nat.le_of_ble_eq_true rfl⟩ ⟨Nat.le_of_ble_eq_true rfl, Nat.le_of_ble_eq_true rfl⟩ hK hPM hS hgm 0 4 rfl rfl rfl hl.1 rfl (Nat.le_of_ble_eq_true rfl) dL_law_847 (fun H locs hz hk hPM hS => ?_)
  have hPX := PX_kept hdj hPX hk
  refine lv_icmp_eq (tgt := 855) hx hb dL_law_850 (by decide) (fun _ => ?_) (fun c9 => absurd rfl c9)
  exact nxt z r hI _ _ hPX hPM hS _ hl
