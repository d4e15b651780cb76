theorem bn {b : Bool} (h : b = false) : ¬ b = true := by rw [h]; decide
theorem pOk_inH {z : zS} (h : ¬ inH z = -9) : pOk z (inH z) = true := by
  obtain ⟨a, -, -, -, b, -⟩ := inH_lt h
  simp [pOk, a, b]
theorem inH_pOk {z : zS} (h : pOk z (inH z) = true) : ¬ inH z = -9 := fun q => by
  have := (pOk_in h).1
  rw [q] at this
  exact absurd this (by decide)
theorem vp5 {w : Int32} (h1 : ¬ w < 0) (h2 : ¬ 5 ≤ w) : vp_in w 5 := by
  have h3 : ¬ w.toInt < 0 := fun q => h1 ((fb_sgnI w).mpr q)
  have h4 : ¬ 5 ≤ w.toInt := fun q => h2 (Int32.le_iff_toInt_le.mpr q)
  exact vp_in_iff.mpr ⟨by omega, by omega⟩
theorem has_i {z : zS} (hI : qInv z) {k : Int32} (h : hasB z k = true) : ix k < 60 ∧ k = nI (ix k) ∧ vp_in k 60 := by
  unfold hasB at h
  rw [Bool.and_eq_true, decide_eq_true_eq, decide_eq_true_eq] at h
  have h1 := Int32.le_iff_toInt_le.mp h.1
  have h2 := Int32.lt_iff_toInt_lt.mp h.2
  have h3 := inR_b (inv_rc hI) (x := 0) (y := 60) rfl rfl
  rw [i0] at h1
  have h4 : inR k 0 59 = true := by rw [inR_iff, i0, show (59 : Int32).toInt = 59 from rfl]; omega
  obtain ⟨a, b, c⟩ := inR_ix (n := 59) rfl h4
  exact ⟨by omega, b, vp_in_iff.mpr ⟨by omega, by omega⟩⟩
theorem ix_le {a b : Int32} (ha : a = nI (ix a)) (hb : b = nI (ix b)) (h1 : ix a < 60) (h2 : ix b < 60) (h : ¬ b < a) : ix a ≤ ix b := by
  rw [ha, hb] at h
  exact nI_gtf (by omega) (by omega) h
theorem st_ne0 {st : Int32} (h : inR st 1 1000 = true) : st ≠ 0 := fun q => by rw [q] at h; exact absurd h (by decide)
theorem all_2 (a b st back : Int32) : allF a b st back ≤ 2 * lastF a b st + 1 := by unfold allF; split <;> omega
theorem all_t {a b st back : Int32} (h : back = 1) : 2 * nI (lastF a b st) + 1 = nI (allF a b st back) := by
  unfold allF
  rw [if_pos h, show (2 : Int32) = nI 2 from rfl, pk_mul, nI_1]
theorem all_f {a b st back : Int32} (h : ¬ back = 1) : nI (lastF a b st) + 1 = nI (allF a b st back) := by
  unfold allF
  rw [if_neg h, nI_1]
theorem stp_f {j L : Nat} (h : j ≤ L) : nI j = nI (if j ≤ L then j else 2 * L - j) := by rw [if_pos h]
theorem stp_t {j L : Nat} (h : L < j) (h2 : j ≤ 2 * L) : 2 * nI L - nI j = nI (if j ≤ L then j else 2 * L - j) := by
  rw [if_neg (by omega), show (2 : Int32) = nI 2 from rfl, pk_mul, pk_sub h2]
theorem room_iff {x : Int32} {n : Nat} (hx : inR x 0 60 = true) (hn : n ≤ 12001) : (nI n ≤ 60 - x) ↔ ¬ 60 < x + nI n := by
  obtain ⟨h1, h2, h3⟩ := inR_ix (n := 60) rfl hx
  have e6 : (60 : Int32).toInt = 60 := rfl
  have en : (nI n).toInt = n := nI_toInt (by omega)
  have e1 : (60 - x).toInt = 60 - x.toInt := by rw [fb_subI (by rw [e6]; omega) (by rw [e6]; omega), e6]
  have e2 : (x + nI n).toInt = x.toInt + n := by rw [fb_addI (by rw [en]; omega) (by rw [en]; omega), en]
  rw [Int32.le_iff_toInt_le, Int32.lt_iff_toInt_lt, e1, e2, e6, en]
  omega
-- with the two tables of the class beside the world
def qT (A : Nat → Prop) (U : State) : Prop := (∃ t : Nat, va_Z "PartCurves$Part" "LEAST" "[I" (.ref t) A U U.heap ∧ va_T .int t 5 (fun j => .int (leastN j)) A U U.heap) ∧ ∃ t : Nat, va_Z "PartCurves$Part" "MOST" "[I" (.ref t) A U U.heap ∧ va_T .int t 5 (fun j => .int (mostN j)) A U U.heap
theorem qT.at {A : Nat → Prop} {s U : State} (hvm : s.vm.Alike U.vm) (hq : ∀ a : Nat, a < s.heap.size → ¬ A a → U.heap[a]? = s.heap[a]?) (h : qT A s) : qT A U := by
  obtain ⟨⟨t, h1, h2⟩, q, h3, h4⟩ := h
  exact ⟨⟨t, (h1.moved hvm).kept hq, (h2.moved hvm).kept hq⟩, q, (h3.moved hvm).kept hq, (h4.moved hvm).kept hq⟩
theorem qT.narrow {A B : Nat → Prop} {U : State} (h : qT A U) (hAB : ∀ q, B q → A q) : qT B U := by
  obtain ⟨⟨t, h1, h2⟩, q, h3, h4⟩ := h
  exact ⟨⟨t, h1.narrow hAB, h2.narrow hAB⟩, q, h3.narrow hAB, h4.narrow hAB⟩
def qMiT {S : Type} (l : Launch) (y : MethodName) (ws : List Cond) (d : Nat) (g : qG) (Wd : S → va_W) (A : Nat → Prop) (u : S) (as : List Value) (E : Int32) (U : S) : Prop := Met l y ws (rmL d) (va_Pc as (fun V => qU g Wd u V ∧ qT A V)) (va_Qi (fun r u' => r = E ∧ u' = U) (qU g Wd) A) 0 0 A
theorem qBlindT {S : Type} {g : qG} {Wd : S → va_W} {A : Nat → Prop} {u : S} {as : List Value} : FrameBlind (va_Pc as (fun V => qU g Wd u V ∧ qT A V)) := fun a U g' mk q => ⟨q.1, ⟨q.2.1.1, va_K.moved (u := U) (U := U.calling g' mk a) (Vm.Alike.refl U.vm) q.2.1.2⟩, qT.at (s := U) (U := U.calling g' mk a) (Vm.Alike.refl U.vm) (fun _ _ _ => rfl) q.2.2⟩
theorem qStartT {S : Type} {l : Launch} {y : MethodName} {ws ws' : List Cond} {d : Nat} {g : qG} {Wd : S → va_W} {A : Nat → Prop} {u : S} {as : List Value} {Qc : Array Value → State → Outcome → State → Prop} {cc : ByteArray} {maxL : Nat} {ret : Option FieldType} (hy : plainFor y = true) (hw : ws = .code y cc maxL ret :: ws') (hlen : (lg_sl as).length ≤ maxL)
    (body : ∀ (p : Program) (e : Env) (s : State) (m : MethodId) (args : Array Value) (below : List Frame) (meth : Method) (c : Code), p.tables.exec = Jvm.exec → c.code = cc → c.maxLocals = maxL → s.vm.findClass y.cls = some m.cls → (∀ w ∈ ws, w.before args s = true) → meth.sig.returnType = ret → meth.locks = false → va_P g.1 vwCl (Wd u) s.heap → va_K g.1 vwCl (qTys g) s → qT A s → ∀ ls : Array Slot, lv_has ls maxL (lv_args 0 as) → W p l e (rmL d) s m args below meth c s.heap [] 0 0 (MQ below Qc args s 0 0 A) (F0 m 0 ls [])) : Met l y ws (rmL d) (va_Pc as (fun V => qU g Wd u V ∧ qT A V)) Qc 0 0 A := by
  refine va_MetF (cc := cc) (maxL := maxL) (ret := ret) hy hw ?_
  intro p e s m args below meth c s₁ B hml hv
  obtain ⟨rfl, ⟨hP, hK⟩, hT⟩ := hv
  rw [lg_entry_eq]
  exact body p e s m _ below meth c B.exec B.bytes hml (findClass_of_methodNamed B.named) (atoms_spec (ws := ws) B.pre) B.returns B.notSynchronized hP hK hT _ (lv_entry as hlen)
section QSTT
variable {p : Program} {l : Launch} {e : Env} {R : Room} {s : State} {m : MethodId} {args : Array Value} {below : List Frame} {meth : Method} {c : Code} {H : Heap} {locs : List Loc} {cells slots : Nat} {Q : State → Prop}
variable {S : Type} {g : qG} {Wd : S → va_W} {A : Nat → Prop} {cc : ByteArray} {pc : Nat} {ls : Array Slot}
theorem qSiT {A0 : Nat → Prop} (hT : qT A0 s) {u U : S} {E : Int32} {y : MethodName} {ws ws' Ts : List Cond} {d nL index maxL : Nat} {own : String} {bytes : ByteArray} {ret : Option FieldType} {As rest st : List Value} (hx : p.tables.exec = Jvm.exec) (hb : c.code = cc) (hml : c.maxLocals = nL) (hown : s.vm.findClass own = some m.cls) (hts : ∀ w ∈ Ts, w.before args s = true)
    (hM : qMiT l y ws d g Wd A u As E U) (hG : GoodIn Ts (va_wsS own index y ws)) (hw : ws = .code y bytes maxL ret :: ws') (n : Nat) (hd : y.cls ≠ "java/lang/invoke/MethodHandle" ∧ y.cls ≠ "java/lang/invoke/VarHandle" ∧ (parseMethodDescriptor y.desc).map (fun d => d.parameters.length) = some n) (hn : As.length = n) (hR : (rmL d).frames + 1 ≤ R.frames ∧ 8 + (maxL + 11) + (rmL d).locals ≤ R.locals) (hcs : cells + 0 ≤ R.cells ∧ slots + 0 ≤ R.slots) (hK : va_K g.1 vwCl (qTys g) s) (hP : va_P g.1 vwCl (Wd u) H) (hS : va_S A0 s.heap H locs) (hA : ∀ q, A q → A0 q) (hl : ls.size = nL) (hst : st = As.reverse ++ rest) (hcat : (rest.map fun v => v.category).sum ≤ 8) (hdg : decode cc pc = .ok (.invokestatic index, 3))
    (kk : ∀ (H1 : Heap) (locs1 : List Loc), va_P g.1 vwCl (Wd U) H1 → va_S A0 s.heap H1 locs1 → W p l e R s m args below meth c H1 locs1 cells slots Q (F0 m (pc + 3) ls (.int E :: rest))) : W p l e R s m args below meth c H locs cells slots Q (F0 m pc ls st) := by
  refine va_calli (va_runS (As := As) (rest := rest) ⟨hx, hb, hml, hown, hts⟩ hM (va_cwS n hts hG hw rfl rfl hd hR) ⟨qBlindT, fun U2 hU hW => ⟨rfl, ⟨by rw [hU]; exact hP, va_K.moved hW.alike hK⟩, (hT.at hW.alike (fun a ha hn => by rw [hU]; exact hS.2.1 a ha hn)).narrow hA⟩⟩ rfl hn hl hst (lv_room hcat) hdg hcs) hS (fun q _ h => hA q h) (fun q h => hA q h) (fun r u2 t H1 locs1 ht hvm hw2 hB hz hk hS1 => ?_)
  obtain ⟨rfl, rfl⟩ := hw2
  exact kk H1 locs1 (by rw [← ht]; exact hB.1) hS1
end QSTT
theorem inR_10 {w : Int32} (h : inR w 10 14 = true) : inR (w - 10) 0 4 = true := by
  have h1 := inR_b h (x := 10) (y := 14) rfl rfl
  have e : (10 : Int32).toInt = 10 := rfl
  rw [inR_iff, fb_subI (by rw [e]; omega) (by rw [e]; omega), e, i0, show (4 : Int32).toInt = 4 from rfl]
  omega
set_option maxHeartbeats 4000000 in
set_option maxRecDepth 100000 in
theorem kX1_takes (l : Launch) (g : qG) {S : Type} {Wd : S → va_W} {A : Nat → Prop} (u : S) (w v : Int32) : qMiT l yX1_takes wsX1_takes 0 g Wd A u [.int w, .int v] (bI (takesB w v)) u := by
  refine qStartT (cc := cX1_takes) (maxL := 2) (ret := (some .boolean)) (plainFor_of_name (by decide)) rfl (Nat.le_of_ble_eq_true rfl) ?_
  intro p e s m args below meth c hx hb hml hown hts hr hlk hP hK hT ls hl
  have hl : lv_has ls 2 [(0, .int w), (1, .int v)] := hl
  have hS : va_S A s.heap s.heap [] := va_S.rf
  obtain ⟨⟨tL, hZ1, hT1⟩, tM, hZ2, hT2⟩ := id hT
  refine lv_iload_n hx hb dX1_takes_0 rfl (lv_at hl 0 rfl) ?_
  refine lv_if_lt (tgt := 31) hx hb dX1_takes_1 (by decide) (fun c_1 => ?_) (fun c_1 => ?_)
  · -- 1 taken
    have c_1n := i_lt_t c_1
    refine lv_iconst (v := 0) hx hb dX1_takes_31 rfl ?_
    exact qRz hx hb hr hlk rfl hP hK hS dX1_takes_32 (by first | rfl | simp [bI, takesB, c_1, c_1n]) (by first | rfl | simp [bI, takesB, c_1, c_1n])
  · -- 1 not taken
    have c_1n := i_lt_f c_1
    refine lv_iload_n hx hb dX1_takes_4 rfl (lv_at hl 0 rfl) ?_
    refine lv_iconst (v := 5) hx hb dX1_takes_5 rfl ?_
    refine lv_icmp_ge (tgt := 31) hx hb dX1_takes_6 (by decide) (fun c_6 => ?_) (fun c_6 => ?_)
    · -- 6 taken
      have c_6n := i_le_t c_6
      refine lv_iconst (v := 0) hx hb dX1_takes_31 rfl ?_
      exact qRz hx hb hr hlk rfl hP hK hS dX1_takes_32 (by first | rfl | simp [bI, takesB, c_1, c_1n, c_6, c_6n]) (by first | rfl | simp [bI, takesB, c_1, c_1n, c_6, c_6n])
    · -- 6 not taken
      have c_6n := i_le_f c_6
      refine lv_iload_n hx hb dX1_takes_9 rfl (lv_at hl 1 rfl) ?_
      refine va_gets hx hb hZ1 hS hown (hts (.fieldLink RX1 9 "PartCurves$Part" "LEAST" "[I") (by decide +kernel)) (fun _ h => h) dX1_takes_10 ?_
      refine lv_iload_n hx hb dX1_takes_13 rfl (lv_at hl 0 rfl) ?_
      refine va_ti hx hb hT1 hS (vp5 c_1 c_6) (v := .int (leastN (ix w))) rfl dX1_takes_14 ?_
      refine lv_icmp_lt (tgt := 31) hx hb dX1_takes_15 (by decide) (fun c_15 => ?_) (fun c_15 => ?_)
      · -- 15 taken
        have c_15n := i_lt_t c_15
        refine lv_iconst (v := 0) hx hb dX1_takes_31 rfl ?_
        exact qRz hx hb hr hlk rfl hP hK hS dX1_takes_32 (by first | rfl | simp [bI, takesB, c_1, c_1n, c_6, c_6n, c_15, c_15n]) (by first | rfl | simp [bI, takesB, c_1, c_1n, c_6, c_6n, c_15, c_15n])
      · -- 15 not taken
        have c_15n := i_lt_f c_15
        refine lv_iload_n hx hb dX1_takes_18 rfl (lv_at hl 1 rfl) ?_
        refine va_gets hx hb hZ2 hS hown (hts (.fieldLink RX1 13 "PartCurves$Part" "MOST" "[I") (by decide +kernel)) (fun _ h => h) dX1_takes_19 ?_
        refine lv_iload_n hx hb dX1_takes_22 rfl (lv_at hl 0 rfl) ?_
        refine va_ti hx hb hT2 hS (vp5 c_1 c_6) (v := .int (mostN (ix w))) rfl dX1_takes_23 ?_
        refine lv_icmp_gt (tgt := 31) hx hb dX1_takes_24 (by decide) (fun c_24 => ?_) (fun c_24 => ?_)
        · -- 24 taken
          have c_24n := i_lt_t c_24
          refine lv_iconst (v := 0) hx hb dX1_takes_31 rfl ?_
          exact qRz hx hb hr hlk rfl hP hK hS dX1_takes_32 (by first | rfl | simp [bI, takesB, c_1, c_1n, c_6, c_6n, c_15, c_15n, c_24, c_24n]) (by first | rfl | simp [bI, takesB, c_1, c_1n, c_6, c_6n, c_15, c_15n, c_24, c_24n])
        · -- 24 not taken
          have c_24n := i_lt_f c_24
          refine lv_iconst (v := 1) hx hb dX1_takes_27 rfl ?_
          refine lv_goto (tgt := 32) hx hb dX1_takes_28 (by decide) ?_
          exact qRz hx hb hr hlk rfl hP hK hS dX1_takes_32 (by first | rfl | simp [bI, takesB, c_1, c_1n, c_6, c_6n, c_15, c_15n, c_24, c_24n]) (by first | rfl | simp [bI, takesB, c_1, c_1n, c_6, c_6n, c_15, c_15n, c_24, c_24n])
set_option maxHeartbeats 4000000 in
set_option maxRecDepth 100000 in
theorem kX3_readPulse (l : Launch) (g : qG) {ad : Nat → Nat} (z : zS) (hj : adInj 15 ad) (hI : qInv z) {i : Nat} (hi : i < 4) (v w : Int32) (hv : inR v (-3000) 3000 = true) (hn0 : ¬ z 0 3 = 60) : qMi l yX3_readPulse wsX3_readPulse 6 g (WX g ad) (adOf 15 ad) z [.ref (ad 0), .ref (ad (10 + i)), .int v, .int w] ((pulS z (10 + i) v w).1) ((pulS z (10 + i) v w).2) := by
  refine qStart (cc := cX3_readPulse) (maxL := 8) (ret := (some .int)) (plainFor_of_name (by decide)) rfl (Nat.le_of_ble_eq_true rfl) ?_
  intro p e s m args below meth c hx hb hml hown hts hr hlk hP hK ls hl
  have hl : lv_has ls 8 [(0, .ref (ad 0)), (1, .ref (ad (10 + i))), (2, .int v), (3, .int w)] := hl
  have hS : va_S (adOf 15 ad) s.heap s.heap [] := va_S.rf
  have hin1 : ∀ w ∈ u_ws RX1 TX1 12, w ∈ wsX3_readPulse := by decide +kernel
  have hin3 : ∀ w ∈ u_ws RX3 TX3 7, w ∈ wsX3_readPulse := by decide +kernel
  have tail : ∀ (y : zS), qInv y → ¬ y 0 3 = 60 → opS z (10 + i) v = y → ∀ (H : Heap) (locs : List Loc), va_P g.1 vwCl ((WX g ad) y) H → va_S (adOf 15 ad) s.heap H locs → ∀ ls : Array Slot, lv_has ls 8 [(0, .ref (ad 0)), (1, .ref (ad (10 + i))), (2, .int v), (3, .int w), (4, .int (uF y (10 + i) v))] → W p l e (rmL 6) s m args below meth c H locs 0 0 (MQ below (va_Qi (fun q9 u9 => q9 = (pulS z (10 + i) v w).1 ∧ u9 = (pulS z (10 + i) v w).2) (qU g (WX g ad)) (adOf 15 ad)) args s 0 0 (adOf 15 ad)) (F0 m 35 ls []) := by
    intro y hIy hnf hyo H locs hP hS ls hl
    have hrc := inv_rc hIy
    refine lv_aload_n hx hb dX3_readPulse_35 rfl (lv_at hl 0 rfl) ?_
    refine lv_aload_n hx hb dX3_readPulse_36 rfl (lv_at hl 1 rfl) ?_
    refine lv_iload hx hb dX3_readPulse_37 (lv_at hl 4 rfl) ?_
    refine qVi (As := [.ref (ad (10 + i)), .int (uF y (10 + i) v)]) (rest := []) hx hb hml hown hts (kX3_ampsAt l g y hj hi (uF y (10 + i) v)) gX3_readPulse_X3_ampsAt rfl 2 hdX3_ampsAt rfl ⟨Nat.le_of_ble_eq_true rfl, Nat.le_of_ble_eq_true rfl⟩ ⟨Nat.zero_le _, Nat.zero_le _⟩ hK hP hS (fun _ h => h) 0 3 rfl rfl rfl hl.1 rfl (Nat.le_of_ble_eq_true rfl) dX3_readPulse_39 (fun H locs hP hS => ?_)
    refine lv_istore (lv' := [(5, .int (ampF y (10 + i) (uF y (10 + i) v))), (0, .ref (ad 0)), (1, .ref (ad (10 + i))), (2, .int v), (3, .int w), (4, .int (uF y (10 + i) v))]) hx hb dX3_readPulse_42 hl (by decide) rfl (fun ls hl => ?_)
    refine lv_aload_n hx hb dX3_readPulse_44 rfl (lv_at hl 1 rfl) ?_
    refine qVi (As := []) (rest := []) hx hb hml hown hts (kX3_fourWires l g y hj) gX3_readPulse_X3_fourWires rfl 0 hdX3_fourWires rfl ⟨Nat.le_of_ble_eq_true rfl, Nat.le_of_ble_eq_true rfl⟩ ⟨Nat.zero_le _, Nat.zero_le _⟩ hK hP hS (fun _ h => h) 0 3 rfl rfl rfl hl.1 rfl (Nat.le_of_ble_eq_true rfl) dX3_readPulse_45 (fun H locs hP hS => ?_)
    refine lv_if_eq (tgt := 56) hx hb dX3_readPulse_48 (by decide) (fun c_48 => ?_) (fun c_48 => ?_)
    · -- 48 taken
      have c_48 := bI_0 c_48
      refine lv_iload hx hb dX3_readPulse_56 (lv_at hl 5 rfl) ?_
      refine lv_aload_n hx hb dX3_readPulse_58 rfl (lv_at hl 1 rfl) ?_
      refine lv_iload hx hb dX3_readPulse_59 (lv_at hl 0 rfl) ?_
      refine qVi (As := [.int (ampF y (10 + i) (uF y (10 + i) v))]) (rest := [.int (uF y (10 + i) v)]) hx hb hml hown hts (kX3_drop l g y hj (ampF y (10 + i) (uF y (10 + i) v))) gX3_readPulse_X3_drop rfl 1 hdX3_drop rfl ⟨Nat.le_of_ble_eq_true rfl, Nat.le_of_ble_eq_true rfl⟩ ⟨Nat.zero_le _, Nat.zero_le _⟩ hK hP hS (fun _ h => h) 0 3 rfl rfl rfl hl.1 rfl (Nat.le_of_ble_eq_true rfl) dX3_readPulse_61 (fun H locs hP hS => ?_)
      refine lv_iadd hx hb dX3_readPulse_64 ?_
      refine lv_topi (fun y65 e65 => ?_)
      obtain rfl := e65.trans (show _ = tldF y (uF y (10 + i) v) (ampF y (10 + i) (uF y (10 + i) v)) by simp [tldF, c_48])
      refine lv_istore (lv' := [(6, .int (tldF y (uF y (10 + i) v) (ampF y (10 + i) (uF y (10 + i) v)))), (5, .int (ampF y (10 + i) (uF y (10 + i) v))), (0, .ref (ad 0)), (1, .ref (ad (10 + i))), (2, .int v), (3, .int w), (4, .int (uF y (10 + i) v))]) hx hb dX3_readPulse_65 hl (by decide) rfl (fun ls hl => ?_)
      refine lv_aload_n hx hb dX3_readPulse_67 rfl (lv_at hl 2 rfl) ?_
      refine qGet (ci := 3) (v := .ref (ad 9)) (C := RX3) (T := TX3) (N := 7) hx hb hts hin3 hown hK hP 0 rfl rfl 2 (by decide) (hts (.fieldLink RX3 24 "PartCurves" "readings" "LPartCurves$Readings;") (by decide +kernel)) rfl dX3_readPulse_68 ?_
      refine lv_iload_n hx hb dX3_readPulse_71 rfl (lv_at hl 4 rfl) ?_
      refine lv_iload hx hb dX3_readPulse_72 (lv_at hl 0 rfl) ?_
      refine lv_iload hx hb dX3_readPulse_74 (lv_at hl 1 rfl) ?_
      refine lv_aload_n hx hb dX3_readPulse_76 rfl (lv_at hl 2 rfl) ?_
      refine lv_aload_n hx hb dX3_readPulse_77 rfl (lv_at hl 3 rfl) ?_
      refine lv_iload hx hb dX3_readPulse_78 (lv_at hl 6 rfl) ?_
      refine lv_iload_n hx hb dX3_readPulse_80 rfl (lv_at hl 4 rfl) ?_
      refine qVi (As := [.ref (ad (10 + i)), .int (uF y (10 + i) v), .int v]) (rest := [.int (ampF y (10 + i) (uF y (10 + i) v)), .int (tldF y (uF y (10 + i) v) (ampF y (10 + i) (uF y (10 + i) v))), .int v, .ref (ad 9)]) hx hb hml hown hts (kX3_ruleAt l g y hj hi (uF y (10 + i) v) v) gX3_readPulse_X3_ruleAt rfl 3 hdX3_ruleAt rfl ⟨Nat.le_of_ble_eq_true rfl, Nat.le_of_ble_eq_true rfl⟩ ⟨Nat.zero_le _, Nat.zero_le _⟩ hK hP hS (fun _ h => h) 0 3 rfl rfl rfl hl.1 rfl (Nat.le_of_ble_eq_true rfl) dX3_readPulse_81 (fun H locs hP hS => ?_)
      refine qVv (As := [.int v, .int (tldF y (uF y (10 + i) v) (ampF y (10 + i) (uF y (10 + i) v))), .int (ampF y (10 + i) (uF y (10 + i) v)), .int (ruF y (10 + i) (uF y (10 + i) v) v)]) (rest := []) hx hb hml hown hts (kX2_add l g y hj v (tldF y (uF y (10 + i) v) (ampF y (10 + i) (uF y (10 + i) v))) (ampF y (10 + i) (uF y (10 + i) v)) (ruF y (10 + i) (uF y (10 + i) v) v) hrc hnf) gX3_readPulse_X2_add rfl 4 hdX2_add rfl ⟨Nat.le_of_ble_eq_true rfl, Nat.le_of_ble_eq_true rfl⟩ ⟨Nat.zero_le _, Nat.zero_le _⟩ hK hP hS (fun _ h => h) 9 2 rfl rfl rfl hl.1 rfl (Nat.le_of_ble_eq_true rfl) dX3_readPulse_84 (fun H locs hP hS => ?_)
      refine lv_aload_n hx hb dX3_readPulse_87 rfl (lv_at hl 3 rfl) ?_
      refine lv_iload hx hb dX3_readPulse_88 (lv_at hl 6 rfl) ?_
      refine lv_iload hx hb dX3_readPulse_90 (lv_at hl 1 rfl) ?_
      refine lv_iload_n hx hb dX3_readPulse_92 rfl (lv_at hl 5 rfl) ?_
      refine qVi (As := [.int (uF y (10 + i) v), .int (ampF y (10 + i) (uF y (10 + i) v)), .int w]) (rest := []) hx hb hml hown hts (kX1_warm l g (addS y v (tldF y (uF y (10 + i) v) (ampF y (10 + i) (uF y (10 + i) v))) (ampF y (10 + i) (uF y (10 + i) v)) (ruF y (10 + i) (uF y (10 + i) v) v)) hj hi (uF y (10 + i) v) (ampF y (10 + i) (uF y (10 + i) v)) w) gX3_readPulse_X1_warm rfl 3 hdX1_warm rfl ⟨Nat.le_of_ble_eq_true rfl, Nat.le_of_ble_eq_true rfl⟩ ⟨Nat.zero_le _, Nat.zero_le _⟩ hK hP hS (fun _ h => h) (10 + i) 1 rfl rfl (WX_p g ad (addS y v (tldF y (uF y (10 + i) v) (ampF y (10 + i) (uF y (10 + i) v))) (ampF y (10 + i) (uF y (10 + i) v)) (ruF y (10 + i) (uF y (10 + i) v) v)) hi) hl.1 rfl (Nat.le_of_ble_eq_true rfl) dX3_readPulse_93 (fun H locs hP hS => ?_)
      have hP : va_P g.1 vwCl (WX g ad (rdS y (10 + i) v w).2) H := hP
      refine lv_istore (lv' := [(7, .int ((rdS y (10 + i) v w).1)), (6, .int (tldF y (uF y (10 + i) v) (ampF y (10 + i) (uF y (10 + i) v)))), (5, .int (ampF y (10 + i) (uF y (10 + i) v))), (0, .ref (ad 0)), (1, .ref (ad (10 + i))), (2, .int v), (3, .int w), (4, .int (uF y (10 + i) v))]) hx hb dX3_readPulse_96 hl (by decide) rfl (fun ls hl => ?_)
      refine lv_aload_n hx hb dX3_readPulse_98 rfl (lv_at hl 4 rfl) ?_
      refine lv_aload_n hx hb dX3_readPulse_99 rfl (lv_at hl 3 rfl) ?_
      refine lv_aload_n hx hb dX3_readPulse_100 rfl (lv_at hl 4 rfl) ?_
      refine lv_iload hx hb dX3_readPulse_101 (lv_at hl 2 rfl) ?_
      refine qVi (As := [.ref (ad (10 + i)), .int (ampF y (10 + i) (uF y (10 + i) v))]) (rest := [.ref (ad (10 + i))]) hx hb hml hown hts (kX3_owned l g ((rdS y (10 + i) v w).2) hj hi (ampF y (10 + i) (uF y (10 + i) v))) gX3_readPulse_X3_owned rfl 2 hdX3_owned rfl ⟨Nat.le_of_ble_eq_true rfl, Nat.le_of_ble_eq_true rfl⟩ ⟨Nat.zero_le _, Nat.zero_le _⟩ hK hP hS (fun _ h => h) 0 3 rfl rfl rfl hl.1 rfl (Nat.le_of_ble_eq_true rfl) dX3_readPulse_103 (fun H locs hP hS => ?_)
      refine qVv (As := [.int (ownd ((rdS y (10 + i) v w).2) (10 + i) (ampF y (10 + i) (uF y (10 + i) v)))]) (rest := []) hx hb hml hown hts (kX1_shutBelow l g ((rdS y (10 + i) v w).2) hj hi (ownd ((rdS y (10 + i) v w).2) (10 + i) (ampF y (10 + i) (uF y (10 + i) v)))) gX3_readPulse_X1_shutBelow rfl 1 hdX1_shutBelow rfl ⟨Nat.le_of_ble_eq_true rfl, Nat.le_of_ble_eq_true rfl⟩ ⟨Nat.zero_le _, Nat.zero_le _⟩ hK hP hS (fun _ h => h) (10 + i) 1 rfl rfl (WX_p g ad ((rdS y (10 + i) v w).2) hi) hl.1 rfl (Nat.le_of_ble_eq_true rfl) dX3_readPulse_106 (fun H locs hP hS => ?_)
      refine lv_iload hx hb dX3_readPulse_109 (lv_at hl 0 rfl) ?_
      exact qRi hx hb hr hlk hP hK hS dX3_readPulse_111 (by subst hyo; rfl) (by subst hyo; rfl)
    · -- 48 not taken
      have c_48 := bI_n c_48
      refine lv_iload hx hb dX3_readPulse_51 (lv_at hl 5 rfl) ?_
      refine lv_goto (tgt := 65) hx hb dX3_readPulse_53 (by decide) ?_
      refine lv_topi (fun y65 e65 => ?_)
      obtain rfl := e65.trans (show _ = tldF y (uF y (10 + i) v) (ampF y (10 + i) (uF y (10 + i) v)) by simp [tldF, c_48])
      refine lv_istore (lv' := [(6, .int (tldF y (uF y (10 + i) v) (ampF y (10 + i) (uF y (10 + i) v)))), (5, .int (ampF y (10 + i) (uF y (10 + i) v))), (0, .ref (ad 0)), (1, .ref (ad (10 + i))), (2, .int v), (3, .int w), (4, .int (uF y (10 + i) v))]) hx hb dX3_readPulse_65 hl (by decide) rfl (fun ls hl => ?_)
      refine lv_aload_n hx hb dX3_readPulse_67 rfl (lv_at hl 2 rfl) ?_
      refine qGet (ci := 3) (v := .ref (ad 9)) (C := RX3) (T := TX3) (N := 7) hx hb hts hin3 hown hK hP 0 rfl rfl 2 (by decide) (hts (.fieldLink RX3 24 "PartCurves" "readings" "LPartCurves$Readings;") (by decide +kernel)) rfl dX3_readPulse_68 ?_
      refine lv_iload_n hx hb dX3_readPulse_71 rfl (lv_at hl 4 rfl) ?_
      refine lv_iload hx hb dX3_readPulse_72 (lv_at hl 0 rfl) ?_
      refine lv_iload hx hb dX3_readPulse_74 (lv_at hl 1 rfl) ?_
      refine lv_aload_n hx hb dX3_readPulse_76 rfl (lv_at hl 2 rfl) ?_
      refine lv_aload_n hx hb dX3_readPulse_77 rfl (lv_at hl 3 rfl) ?_
      refine lv_iload hx hb dX3_readPulse_78 (lv_at hl 6 rfl) ?_
      refine lv_iload_n hx hb dX3_readPulse_80 rfl (lv_at hl 4 rfl) ?_
      refine qVi (As := [.ref (ad (10 + i)), .int (uF y (10 + i) v), .int v]) (rest := [.int (ampF y (10 + i) (uF y (10 + i) v)), .int (tldF y (uF y (10 + i) v) (ampF y (10 + i) (uF y (10 + i) v))), .int v, .ref (ad 9)]) hx hb hml hown hts (kX3_ruleAt l g y hj hi (uF y (10 + i) v) v) gX3_readPulse_X3_ruleAt rfl 3 hdX3_ruleAt rfl ⟨Nat.le_of_ble_eq_true rfl, Nat.le_of_ble_eq_true rfl⟩ ⟨Nat.zero_le _, Nat.zero_le _⟩ hK hP hS (fun _ h => h) 0 3 rfl rfl rfl hl.1 rfl (Nat.le_of_ble_eq_true rfl) dX3_readPulse_81 (fun H locs hP hS => ?_)
      refine qVv (As := [.int v, .int (tldF y (uF y (10 + i) v) (ampF y (10 + i) (uF y (10 + i) v))), .int (ampF y (10 + i) (uF y (10 + i) v)), .int (ruF y (10 + i) (uF y (10 + i) v) v)]) (rest := []) hx hb hml hown hts (kX2_add l g y hj v (tldF y (uF y (10 + i) v) (ampF y (10 + i) (uF y (10 + i) v))) (ampF y (10 + i) (uF y (10 + i) v)) (ruF y (10 + i) (uF y (10 + i) v) v) hrc hnf) gX3_readPulse_X2_add rfl 4 hdX2_add rfl ⟨Nat.le_of_ble_eq_true rfl, Nat.le_of_ble_eq_true rfl⟩ ⟨Nat.zero_le _, Nat.zero_le _⟩ hK hP hS (fun _ h => h) 9 2 rfl rfl rfl hl.1 rfl (Nat.le_of_ble_eq_true rfl) dX3_readPulse_84 (fun H locs hP hS => ?_)
      refine lv_aload_n hx hb dX3_readPulse_87 rfl (lv_at hl 3 rfl) ?_
      refine lv_iload hx hb dX3_readPulse_88 (lv_at hl 6 rfl) ?_
      refine lv_iload hx hb dX3_readPulse_90 (lv_at hl 1 rfl) ?_
      refine lv_iload_n hx hb dX3_readPulse_92 rfl (lv_at hl 5 rfl) ?_
      refine qVi (As := [.int (uF y (10 + i) v), .int (ampF y (10 + i) (uF y (10 + i) v)), .int w]) (rest := []) hx hb hml hown hts (kX1_warm l g (addS y v (tldF y (uF y (10 + i) v) (ampF y (10 + i) (uF y (10 + i) v))) (ampF y (10 + i) (uF y (10 + i) v)) (ruF y (10 + i) (uF y (10 + i) v) v)) hj hi (uF y (10 + i) v) (ampF y (10 + i) (uF y (10 + i) v)) w) gX3_readPulse_X1_warm rfl 3 hdX1_warm rfl ⟨Nat.le_of_ble_eq_true rfl, Nat.le_of_ble_eq_true rfl⟩ ⟨Nat.zero_le _, Nat.zero_le _⟩ hK hP hS (fun _ h => h) (10 + i) 1 rfl rfl (WX_p g ad (addS y v (tldF y (uF y (10 + i) v) (ampF y (10 + i) (uF y (10 + i) v))) (ampF y (10 + i) (uF y (10 + i) v)) (ruF y (10 + i) (uF y (10 + i) v) v)) hi) hl.1 rfl (Nat.le_of_ble_eq_true rfl) dX3_readPulse_93 (fun H locs hP hS => ?_)
      have hP : va_P g.1 vwCl (WX g ad (rdS y (10 + i) v w).2) H := hP
      refine lv_istore (lv' := [(7, .int ((rdS y (10 + i) v w).1)), (6, .int (tldF y (uF y (10 + i) v) (ampF y (10 + i) (uF y (10 + i) v)))), (5, .int (ampF y (10 + i) (uF y (10 + i) v))), (0, .ref (ad 0)), (1, .ref (ad (10 + i))), (2, .int v), (3, .int w), (4, .int (uF y (10 + i) v))]) hx hb dX3_readPulse_96 hl (by decide) rfl (fun ls hl => ?_)
      refine lv_aload_n hx hb dX3_readPulse_98 rfl (lv_at hl 4 rfl) ?_
      refine lv_aload_n hx hb dX3_readPulse_99 rfl (lv_at hl 3 rfl) ?_
      refine lv_aload_n hx hb dX3_readPulse_100 rfl (lv_at hl 4 rfl) ?_
      refine lv_iload hx hb dX3_readPulse_101 (lv_at hl 2 rfl) ?_
      refine qVi (As := [.ref (ad (10 + i)), .int (ampF y (10 + i) (uF y (10 + i) v))]) (rest := [.ref (ad (10 + i))]) hx hb hml hown hts (kX3_owned l g ((rdS y (10 + i) v w).2) hj hi (ampF y (10 + i) (uF y (10 + i) v))) gX3_readPulse_X3_owned rfl 2 hdX3_owned rfl ⟨Nat.le_of_ble_eq_true rfl, Nat.le_of_ble_eq_true rfl⟩ ⟨Nat.zero_le _, Nat.zero_le _⟩ hK hP hS (fun _ h => h) 0 3 rfl rfl rfl hl.1 rfl (Nat.le_of_ble_eq_true rfl) dX3_readPulse_103 (fun H locs hP hS => ?_)
      refine qVv (As := [.int (ownd ((rdS y (10 + i) v w).2) (10 + i) (ampF y (10 + i) (uF y (10 + i) v)))]) (rest := []) hx hb hml hown hts (kX1_shutBelow l g ((rdS y (10 + i) v w).2) hj hi (ownd ((rdS y (10 + i) v w).2) (10 + i) (ampF y (10 + i) (uF y (10 + i) v)))) gX3_readPulse_X1_shutBelow rfl 1 hdX1_shutBelow rfl ⟨Nat.le_of_ble_eq_true rfl, Nat.le_of_ble_eq_true rfl⟩ ⟨Nat.zero_le _, Nat.zero_le _⟩ hK hP hS (fun _ h => h) (10 + i) 1 rfl rfl (WX_p g ad ((rdS y (10 + i) v w).2) hi) hl.1 rfl (Nat.le_of_ble_eq_true rfl) dX3_readPulse_106 (fun H locs hP hS => ?_)
      refine lv_iload hx hb dX3_readPulse_109 (lv_at hl 0 rfl) ?_
      exact qRi hx hb hr hlk hP hK hS dX3_readPulse_111 (by subst hyo; rfl) (by subst hyo; rfl)
  refine lv_aload_n hx hb dX3_readPulse_0 rfl (lv_at hl 0 rfl) ?_
  refine lv_aload_n hx hb dX3_readPulse_1 rfl (lv_at hl 1 rfl) ?_
  refine lv_iload_n hx hb dX3_readPulse_2 rfl (lv_at hl 2 rfl) ?_
  refine qVi (As := [.ref (ad (10 + i)), .int v]) (rest := []) hx hb hml hown hts (kX3_farthest l g z hj hI hi v hv) gX3_readPulse_X3_farthest rfl 2 hdX3_farthest rfl ⟨Nat.le_of_ble_eq_true rfl, Nat.le_of_ble_eq_true rfl⟩ ⟨Nat.zero_le _, Nat.zero_le _⟩ hK hP hS (fun _ h => h) 0 3 rfl rfl rfl hl.1 rfl (Nat.le_of_ble_eq_true rfl) dX3_readPulse_3 (fun H locs hP hS => ?_)
  refine lv_istore (lv' := [(4, .int (uF z (10 + i) v)), (0, .ref (ad 0)), (1, .ref (ad (10 + i))), (2, .int v), (3, .int w)]) hx hb dX3_readPulse_6 hl (by decide) rfl (fun ls hl => ?_)
  refine lv_aload_n hx hb dX3_readPulse_8 rfl (lv_at hl 2 rfl) ?_
  refine lv_aload_n hx hb dX3_readPulse_9 rfl (lv_at hl 1 rfl) ?_
  refine lv_aload_n hx hb dX3_readPulse_10 rfl (lv_at hl 2 rfl) ?_
  refine lv_iload hx hb dX3_readPulse_11 (lv_at hl 0 rfl) ?_
  refine qVi (As := [.ref (ad (10 + i)), .int (uF z (10 + i) v)]) (rest := [.ref (ad (10 + i))]) hx hb hml hown hts (kX3_owned l g z hj hi (uF z (10 + i) v)) gX3_readPulse_X3_owned rfl 2 hdX3_owned rfl ⟨Nat.le_of_ble_eq_true rfl, Nat.le_of_ble_eq_true rfl⟩ ⟨Nat.zero_le _, Nat.zero_le _⟩ hK hP hS (fun _ h => h) 0 3 rfl rfl rfl hl.1 rfl (Nat.le_of_ble_eq_true rfl) dX3_readPulse_13 (fun H locs hP hS => ?_)
  refine qVi (As := [.int (ownd z (10 + i) (uF z (10 + i) v))]) (rest := []) hx hb hml hown hts (kX1_snapsOpenAt l g z hj hi (ownd z (10 + i) (uF z (10 + i) v))) gX3_readPulse_X1_snapsOpenAt rfl 1 hdX1_snapsOpenAt rfl ⟨Nat.le_of_ble_eq_true rfl, Nat.le_of_ble_eq_true rfl⟩ ⟨Nat.zero_le _, Nat.zero_le _⟩ hK hP hS (fun _ h => h) (10 + i) 1 rfl rfl (WX_p g ad z hi) hl.1 rfl (Nat.le_of_ble_eq_true rfl) dX3_readPulse_16 (fun H locs hP hS => ?_)
  refine lv_if_eq (tgt := 35) hx hb dX3_readPulse_19 (by decide) (fun c_19 => ?_) (fun c_19 => ?_)
  · -- 19 taken
    have c_19 := bI_0 c_19
    exact tail z hI hn0 (by unfold opS; rw [if_neg (bn c_19)]) _ _ hP hS ls (lv_sub hl [1, 2, 3, 4, 0] rfl)
  · -- 19 not taken
    have c_19 := bI_n c_19
    have hI2 : qInv (zu z (10 + i) 2 1) := inv_zup hI hi (by decide) (pinv_2 (inv_p hI i hi) (Or.inr rfl))
    have hn2 : ¬ zu z (10 + i) 2 1 0 3 = 60 := by rw [zu_row z (10 + i) 2 0 1 (by omega)]; exact hn0
    refine lv_aload_n hx hb dX3_readPulse_22 rfl (lv_at hl 2 rfl) ?_
    refine lv_iconst (v := 1) hx hb dX3_readPulse_23 rfl ?_
    refine qPut (ci := 1) (ty := .boolean) (C := RX1) (T := TX1) (N := 12) (u' := zu z (10 + i) 2 1) hx hb hts hin1 tyX1 tyX1_ok nmX1 hown hK hP (WX_D g z hj) hS (10 + i) (WX_p g ad z hi) rfl 2 (by decide) (hts (.fieldLink RX3 89 "PartCurves$Part" "open" "Z") (by decide +kernel)) rfl (by decide +kernel) rfl rfl (Nat.le_of_ble_eq_true rfl) (WX_part g ad z hi 1 (k := 2) (by decide)) dX3_readPulse_24 (fun H locs hP hS => ?_)
    refine lv_aload_n hx hb dX3_readPulse_27 rfl (lv_at hl 1 rfl) ?_
    refine lv_aload_n hx hb dX3_readPulse_28 rfl (lv_at hl 2 rfl) ?_
    refine lv_iload_n hx hb dX3_readPulse_29 rfl (lv_at hl 3 rfl) ?_
    refine qVi (As := [.ref (ad (10 + i)), .int v]) (rest := []) hx hb hml hown hts (kX3_farthest l g (zu z (10 + i) 2 1) hj hI2 hi v hv) gX3_readPulse_X3_farthest rfl 2 hdX3_farthest rfl ⟨Nat.le_of_ble_eq_true rfl, Nat.le_of_ble_eq_true rfl⟩ ⟨Nat.zero_le _, Nat.zero_le _⟩ hK hP hS (fun _ h => h) 0 3 rfl rfl rfl hl.1 rfl (Nat.le_of_ble_eq_true rfl) dX3_readPulse_30 (fun H locs hP hS => ?_)
    refine lv_istore (lv' := [(4, .int (uF (zu z (10 + i) 2 1) (10 + i) v)), (0, .ref (ad 0)), (1, .ref (ad (10 + i))), (2, .int v), (3, .int w)]) hx hb dX3_readPulse_33 hl (by decide) rfl (fun ls hl => ?_)
    exact tail (zu z (10 + i) 2 1) hI2 hn2 (by unfold opS; rw [if_pos c_19]) _ _ hP hS ls (lv_sub hl [1, 2, 3, 4, 0] rfl)
set_option maxHeartbeats 4000000 in
set_option maxRecDepth 100000 in
theorem kX3_part (l : Launch) (g : qG) {ad : Nat → Nat} (z : zS) (hj : adInj 15 ad) (n first other kind : Int32) : qMi l yX3_part wsX3_part 1 g (WX g ad) (adOf 15 ad) z [.ref (ad 0), .int n, .int first, .int other, .int kind] ((s_part z n first other kind).1) ((s_part z n first other kind).2) := by
  refine qStart (cc := cX3_part) (maxL := 6) (ret := (some .int)) (plainFor_of_name (by decide)) rfl (Nat.le_of_ble_eq_true rfl) ?_
  intro p e s m args below meth c hx hb hml hown hts hr hlk hP hK ls hl
  have hl : lv_has ls 6 [(0, .ref (ad 0)), (1, .int n), (2, .int first), (3, .int other), (4, .int kind)] := hl
  have hS : va_S (adOf 15 ad) s.heap s.heap [] := va_S.rf
  have hin1 : ∀ w ∈ u_ws RX1 TX1 12, w ∈ wsX3_part := by decide +kernel
  have hin3 : ∀ w ∈ u_ws RX3 TX3 7, w ∈ wsX3_part := by decide +kernel
  refine lv_iload_n hx hb dX3_part_0 rfl (lv_at hl 1 rfl) ?_
  refine lv_iconst (v := 0) hx hb dX3_part_1 rfl ?_
  refine lv_iconst (v := 3) hx hb dX3_part_2 rfl ?_
  refine qSi (As := [.int n, .int 0, .int 3]) (rest := []) hx hb hml hown hts (kX3_within l g (Wd := (WX g ad)) (A := (adOf 15 ad)) z n 0 3) gX3_part_X3_within rfl 3 hdX3_within rfl ⟨Nat.le_of_ble_eq_true rfl, Nat.le_of_ble_eq_true rfl⟩ ⟨Nat.zero_le _, Nat.zero_le _⟩ hK hP hS (fun _ h => h) hl.1 rfl (Nat.le_of_ble_eq_true rfl) dX3_part_3 (fun H locs hP hS => ?_)
  refine lv_if_eq (tgt := 29) hx hb dX3_part_6 (by decide) (fun c_6 => ?_) (fun c_6 => ?_)
  · -- 6 taken
    have c_6 := bI_0 c_6
    refine lv_iconst (v := -1) hx hb dX3_part_29 rfl ?_
    exact qRi hx hb hr hlk hP hK hS dX3_part_30 (by unfold s_part; rw [if_neg (fun h => absurd h.1 (bn c_6))]) (by unfold s_part; rw [if_neg (fun h => absurd h.1 (bn c_6))])
  · -- 6 not taken
    have c_6 := bI_n c_6
    have hn4 : ix n < 4 := pOk_n c_6
    refine lv_iload_n hx hb dX3_part_9 rfl (lv_at hl 2 rfl) ?_
    refine lv_iconst (v := 0) hx hb dX3_part_10 rfl ?_
    refine lv_bipush (v := 7) hx hb dX3_part_11 (by decide) ?_
    refine qSi (As := [.int first, .int 0, .int 7]) (rest := []) hx hb hml hown hts (kX3_within l g (Wd := (WX g ad)) (A := (adOf 15 ad)) z first 0 7) gX3_part_X3_within rfl 3 hdX3_within rfl ⟨Nat.le_of_ble_eq_true rfl, Nat.le_of_ble_eq_true rfl⟩ ⟨Nat.zero_le _, Nat.zero_le _⟩ hK hP hS (fun _ h => h) hl.1 rfl (Nat.le_of_ble_eq_true rfl) dX3_part_13 (fun H locs hP hS => ?_)
    refine lv_if_eq (tgt := 29) hx hb dX3_part_16 (by decide) (fun c_16 => ?_) (fun c_16 => ?_)
    · -- 16 taken
      have c_16 := bI_0 c_16
      refine lv_iconst (v := -1) hx hb dX3_part_29 rfl ?_
      exact qRi hx hb hr hlk hP hK hS dX3_part_30 (by unfold s_part; rw [if_neg (fun h => absurd h.2.1 (bn c_16))]) (by unfold s_part; rw [if_neg (fun h => absurd h.2.1 (bn c_16))])
    · -- 16 not taken
      have c_16 := bI_n c_16
      refine lv_iload_n hx hb dX3_part_19 rfl (lv_at hl 3 rfl) ?_
      refine lv_iconst (v := 0) hx hb dX3_part_20 rfl ?_
      refine lv_bipush (v := 7) hx hb dX3_part_21 (by decide) ?_
      refine qSi (As := [.int other, .int 0, .int 7]) (rest := []) hx hb hml hown hts (kX3_within l g (Wd := (WX g ad)) (A := (adOf 15 ad)) z other 0 7) gX3_part_X3_within rfl 3 hdX3_within rfl ⟨Nat.le_of_ble_eq_true rfl, Nat.le_of_ble_eq_true rfl⟩ ⟨Nat.zero_le _, Nat.zero_le _⟩ hK hP hS (fun _ h => h) hl.1 rfl (Nat.le_of_ble_eq_true rfl) dX3_part_23 (fun H locs hP hS => ?_)
      refine lv_if_ne (tgt := 31) hx hb dX3_part_26 (by decide) (fun c_26 => ?_) (fun c_26 => ?_)
      · -- 26 taken
        have c_26 := bI_n c_26
        refine lv_iload hx hb dX3_part_31 (lv_at hl 4 rfl) ?_
        refine lv_iconst (v := 0) hx hb dX3_part_33 rfl ?_
        refine lv_iconst (v := 3) hx hb dX3_part_34 rfl ?_
        refine qSi (As := [.int kind, .int 0, .int 3]) (rest := []) hx hb hml hown hts (kX3_within l g (Wd := (WX g ad)) (A := (adOf 15 ad)) z kind 0 3) gX3_part_X3_within rfl 3 hdX3_within rfl ⟨Nat.le_of_ble_eq_true rfl, Nat.le_of_ble_eq_true rfl⟩ ⟨Nat.zero_le _, Nat.zero_le _⟩ hK hP hS (fun _ h => h) hl.1 rfl (Nat.le_of_ble_eq_true rfl) dX3_part_35 (fun H locs hP hS => ?_)
        refine lv_if_ne (tgt := 44) hx hb dX3_part_38 (by decide) (fun c_38 => ?_) (fun c_38 => ?_)
        · -- 38 taken
          have c_38 := bI_n c_38
          refine lv_iload_n hx hb dX3_part_44 rfl (lv_at hl 2 rfl) ?_
          refine lv_iload_n hx hb dX3_part_45 rfl (lv_at hl 3 rfl) ?_
          refine lv_icmp_eq (tgt := 56) hx hb dX3_part_46 (by decide) (fun c_46 => ?_) (fun c_46 => ?_)
          · -- 46 taken
            refine lv_bipush (v := -3) hx hb dX3_part_56 (by decide) ?_
            exact qRi hx hb hr hlk hP hK hS dX3_part_58 (by unfold s_part; rw [if_pos ⟨c_6, c_16, c_26⟩, if_pos c_38, if_pos (Or.inl c_46)]) (by unfold s_part; rw [if_pos ⟨c_6, c_16, c_26⟩, if_pos c_38, if_pos (Or.inl c_46)])
          · -- 46 not taken
            refine lv_aload_n hx hb dX3_part_49 rfl (lv_at hl 0 rfl) ?_
            refine qGet (ci := 3) (v := .int (z 0 0)) (C := RX3) (T := TX3) (N := 7) hx hb hts hin3 hown hK hP 0 rfl rfl 4 (by decide) (hts (.fieldLink RX3 35 "PartCurves" "powerOn" "Z") (by decide +kernel)) rfl dX3_part_50 ?_
            refine lv_if_eq (tgt := 59) hx hb dX3_part_53 (by decide) (fun c_53 => ?_) (fun c_53 => ?_)
            · -- 53 taken
              refine lv_aload_n hx hb dX3_part_59 rfl (lv_at hl 0 rfl) ?_
              refine qGet (ci := 3) (v := .ref (ad 8)) (C := RX3) (T := TX3) (N := 7) hx hb hts hin3 hown hK hP 0 rfl rfl 0 (by decide) (hts (.fieldLink RX3 13 "PartCurves" "parts" "[LPartCurves$Part;") (by decide +kernel)) rfl dX3_part_60 ?_
              refine lv_iload_n hx hb dX3_part_63 rfl (lv_at hl 1 rfl) ?_
              refine qQld (v := (ad (10 + ix n))) hx hb hK hP 8 rfl (inR_vp (n := 3) rfl c_6 4 (by decide)) rfl dX3_part_64 ?_
              refine qGet (ci := 1) (v := .int (z (10 + ix n) 0)) (C := RX1) (T := TX1) (N := 12) hx hb hts hin1 hown hK hP (10 + ix n) (WX_p g ad z hn4) rfl 0 (by decide) (hts (.fieldLink RX3 51 "PartCurves$Part" "there" "Z") (by decide +kernel)) rfl dX3_part_65 ?_
              refine lv_if_eq (tgt := 75) hx hb dX3_part_68 (by decide) (fun c_68 => ?_) (fun c_68 => ?_)
              · -- 68 taken
                refine lv_iconst (v := 0) hx hb dX3_part_75 rfl ?_
                refine lv_istore (lv' := [(5, .int 0), (0, .ref (ad 0)), (1, .int n), (2, .int first), (3, .int other), (4, .int kind)]) hx hb dX3_part_76 hl (by decide) rfl (fun ls hl => ?_)
                refine lv_aload_n hx hb dX3_part_78 rfl (lv_at hl 1 rfl) ?_
                refine qGet (ci := 3) (v := .ref (ad 8)) (C := RX3) (T := TX3) (N := 7) hx hb hts hin3 hown hK hP 0 rfl rfl 0 (by decide) (hts (.fieldLink RX3 13 "PartCurves" "parts" "[LPartCurves$Part;") (by decide +kernel)) rfl dX3_part_79 ?_
                refine lv_iload_n hx hb dX3_part_82 rfl (lv_at hl 2 rfl) ?_
                refine qQld (v := (ad (10 + ix n))) hx hb hK hP 8 rfl (inR_vp (n := 3) rfl c_6 4 (by decide)) rfl dX3_part_83 ?_
                refine lv_iload_n hx hb dX3_part_84 rfl (lv_at hl 3 rfl) ?_
                refine lv_iload_n hx hb dX3_part_85 rfl (lv_at hl 4 rfl) ?_
                refine lv_iload hx hb dX3_part_86 (lv_at hl 5 rfl) ?_
                refine qVv (As := [.int first, .int other, .int kind]) (rest := []) hx hb hml hown hts (kX1_renew l g z hj hn4 first other kind) gX3_part_X1_renew rfl 3 hdX1_renew rfl ⟨Nat.le_of_ble_eq_true rfl, Nat.le_of_ble_eq_true rfl⟩ ⟨Nat.zero_le _, Nat.zero_le _⟩ hK hP hS (fun _ h => h) (10 + ix n) 1 rfl rfl (WX_p g ad z hn4) hl.1 rfl (Nat.le_of_ble_eq_true rfl) dX3_part_88 (fun H locs hP hS => ?_)
                refine lv_iload hx hb dX3_part_91 (lv_at hl 0 rfl) ?_
                exact qRi hx hb hr hlk hP hK hS dX3_part_93 (by unfold s_part; rw [if_pos ⟨c_6, c_16, c_26⟩, if_pos c_38, if_neg (fun h => h.elim c_46 (fun q => q c_53)), if_pos c_68]) (by unfold s_part; rw [if_pos ⟨c_6, c_16, c_26⟩, if_pos c_38, if_neg (fun h => h.elim c_46 (fun q => q c_53)), if_pos c_68])
              · -- 68 not taken
                refine lv_iconst (v := 1) hx hb dX3_part_71 rfl ?_
                refine lv_goto (tgt := 76) hx hb dX3_part_72 (by decide) ?_
                refine lv_istore (lv' := [(5, .int 1), (0, .ref (ad 0)), (1, .int n), (2, .int first), (3, .int other), (4, .int kind)]) hx hb dX3_part_76 hl (by decide) rfl (fun ls hl => ?_)
                refine lv_aload_n hx hb dX3_part_78 rfl (lv_at hl 1 rfl) ?_
                refine qGet (ci := 3) (v := .ref (ad 8)) (C := RX3) (T := TX3) (N := 7) hx hb hts hin3 hown hK hP 0 rfl rfl 0 (by decide) (hts (.fieldLink RX3 13 "PartCurves" "parts" "[LPartCurves$Part;") (by decide +kernel)) rfl dX3_part_79 ?_
                refine lv_iload_n hx hb dX3_part_82 rfl (lv_at hl 2 rfl) ?_
                refine qQld (v := (ad (10 + ix n))) hx hb hK hP 8 rfl (inR_vp (n := 3) rfl c_6 4 (by decide)) rfl dX3_part_83 ?_
                refine lv_iload_n hx hb dX3_part_84 rfl (lv_at hl 3 rfl) ?_
                refine lv_iload_n hx hb dX3_part_85 rfl (lv_at hl 4 rfl) ?_
                refine lv_iload hx hb dX3_part_86 (lv_at hl 5 rfl) ?_
                refine qVv (As := [.int first, .int other, .int kind]) (rest := []) hx hb hml hown hts (kX1_renew l g z hj hn4 first other kind) gX3_part_X1_renew rfl 3 hdX1_renew rfl ⟨Nat.le_of_ble_eq_true rfl, Nat.le_of_ble_eq_true rfl⟩ ⟨Nat.zero_le _, Nat.zero_le _⟩ hK hP hS (fun _ h => h) (10 + ix n) 1 rfl rfl (WX_p g ad z hn4) hl.1 rfl (Nat.le_of_ble_eq_true rfl) dX3_part_88 (fun H locs hP hS => ?_)
                refine lv_iload hx hb dX3_part_91 (lv_at hl 0 rfl) ?_
                exact qRi hx hb hr hlk hP hK hS dX3_part_93 (by unfold s_part; rw [if_pos ⟨c_6, c_16, c_26⟩, if_pos c_38, if_neg (fun h => h.elim c_46 (fun q => q c_53)), if_neg c_68]) (by unfold s_part; rw [if_pos ⟨c_6, c_16, c_26⟩, if_pos c_38, if_neg (fun h => h.elim c_46 (fun q => q c_53)), if_neg c_68])
            · -- 53 not taken
              refine lv_bipush (v := -3) hx hb dX3_part_56 (by decide) ?_
              exact qRi hx hb hr hlk hP hK hS dX3_part_58 (by unfold s_part; rw [if_pos ⟨c_6, c_16, c_26⟩, if_pos c_38, if_pos (Or.inr c_53)]) (by unfold s_part; rw [if_pos ⟨c_6, c_16, c_26⟩, if_pos c_38, if_pos (Or.inr c_53)])
        · -- 38 not taken
          have c_38 := bI_0 c_38
          refine lv_bipush (v := -2) hx hb dX3_part_41 (by decide) ?_
          exact qRi hx hb hr hlk hP hK hS dX3_part_43 (by unfold s_part; rw [if_pos ⟨c_6, c_16, c_26⟩, if_neg (bn c_38)]) (by unfold s_part; rw [if_pos ⟨c_6, c_16, c_26⟩, if_neg (bn c_38)])
      · -- 26 not taken
        have c_26 := bI_0 c_26
        refine lv_iconst (v := -1) hx hb dX3_part_29 rfl ?_
        exact qRi hx hb hr hlk hP hK hS dX3_part_30 (by unfold s_part; rw [if_neg (fun h => absurd h.2.2 (bn c_26))]) (by unfold s_part; rw [if_neg (fun h => absurd h.2.2 (bn c_26))])
set_option maxHeartbeats 4000000 in
set_option maxRecDepth 100000 in
theorem kX3_remove (l : Launch) (g : qG) {ad : Nat → Nat} (z : zS) (hj : adInj 15 ad) (n : Int32) : qMi l yX3_remove wsX3_remove 2 g (WX g ad) (adOf 15 ad) z [.ref (ad 0), .int n] ((s_remove z n).1) ((s_remove z n).2) := by
  refine qStart (cc := cX3_remove) (maxL := 3) (ret := (some .int)) (plainFor_of_name (by decide)) rfl (Nat.le_of_ble_eq_true rfl) ?_
  intro p e s m args below meth c hx hb hml hown hts hr hlk hP hK ls hl
  have hl : lv_has ls 3 [(0, .ref (ad 0)), (1, .int n)] := hl
  have hS : va_S (adOf 15 ad) s.heap s.heap [] := va_S.rf
  have hin1 : ∀ w ∈ u_ws RX1 TX1 12, w ∈ wsX3_remove := by decide +kernel
  have hin3 : ∀ w ∈ u_ws RX3 TX3 7, w ∈ wsX3_remove := by decide +kernel
  refine lv_aload_n hx hb dX3_remove_0 rfl (lv_at hl 0 rfl) ?_
  refine lv_iload_n hx hb dX3_remove_1 rfl (lv_at hl 1 rfl) ?_
  by_cases hp : pOk z n = true
  · -- it holds
    have hp4 := pOk_lt hp
    refine qVq (As := [.int n]) (rest := []) (vv := .ref (ad (10 + ix n))) hx hb hml hown hts (kX3_partAt_t l g z hj n hp) gX3_remove_X3_partAt rfl 1 hdX3_partAt rfl ⟨Nat.le_of_ble_eq_true rfl, Nat.le_of_ble_eq_true rfl⟩ ⟨Nat.zero_le _, Nat.zero_le _⟩ hK hP hS (fun _ h => h) 0 3 rfl rfl rfl hl.1 rfl (Nat.le_of_ble_eq_true rfl) rfl dX3_remove_2 (fun H locs hP hS => ?_)
    refine lv_astore_n (lv' := [(2, .ref (ad (10 + ix n))), (0, .ref (ad 0)), (1, .int n)]) hx hb dX3_remove_5 rfl hl (by decide) rfl (fun ls hl => ?_)
    refine lv_aload_n hx hb dX3_remove_6 rfl (lv_at hl 0 rfl) ?_
    refine lv_ifnonnull (tgt := 12) hx hb dX3_remove_7 (by decide) ?_
    refine lv_aload_n hx hb dX3_remove_12 rfl (lv_at hl 1 rfl) ?_
    refine qGet (ci := 3) (v := .int (z 0 0)) (C := RX3) (T := TX3) (N := 7) hx hb hts hin3 hown hK hP 0 rfl rfl 4 (by decide) (hts (.fieldLink RX3 35 "PartCurves" "powerOn" "Z") (by decide +kernel)) rfl dX3_remove_13 ?_
    refine lv_if_eq (tgt := 22) hx hb dX3_remove_16 (by decide) (fun c_16 => ?_) (fun c_16 => ?_)
    · -- 16 taken
      refine lv_aload_n hx hb dX3_remove_22 rfl (lv_at hl 0 rfl) ?_
      refine lv_iconst (v := 0) hx hb dX3_remove_23 rfl ?_
      refine qPut (ci := 1) (ty := .boolean) (C := RX1) (T := TX1) (N := 12) (u' := zu z (10 + ix n) 0 0) hx hb hts hin1 tyX1 tyX1_ok nmX1 hown hK hP (WX_D g z hj) hS (10 + ix n) (WX_p g ad z hp4) rfl 0 (by decide) (hts (.fieldLink RX3 51 "PartCurves$Part" "there" "Z") (by decide +kernel)) rfl (by decide +kernel) rfl rfl (Nat.le_of_ble_eq_true rfl) (WX_part g ad z hp4 0 (k := 0) (by decide)) dX3_remove_24 (fun H locs hP hS => ?_)
      refine lv_iconst (v := 1) hx hb dX3_remove_27 rfl ?_
      exact qRi hx hb hr hlk hP hK hS dX3_remove_28 (by unfold s_remove; rw [if_pos hp, if_pos c_16]) (by unfold s_remove; rw [if_pos hp, if_pos c_16])
    · -- 16 not taken
      refine lv_bipush (v := -3) hx hb dX3_remove_19 (by decide) ?_
      exact qRi hx hb hr hlk hP hK hS dX3_remove_21 (by unfold s_remove; rw [if_pos hp, if_neg c_16]) (by unfold s_remove; rw [if_pos hp, if_neg c_16])
  · -- it doesn't
    refine qVq (As := [.int n]) (rest := []) (vv := .null) hx hb hml hown hts (kX3_partAt_f l g z hj n hp) gX3_remove_X3_partAt rfl 1 hdX3_partAt rfl ⟨Nat.le_of_ble_eq_true rfl, Nat.le_of_ble_eq_true rfl⟩ ⟨Nat.zero_le _, Nat.zero_le _⟩ hK hP hS (fun _ h => h) 0 3 rfl rfl rfl hl.1 rfl (Nat.le_of_ble_eq_true rfl) rfl dX3_remove_2 (fun H locs hP hS => ?_)
    refine lv_astore_nN (lv' := [(2, .null), (0, .ref (ad 0)), (1, .int n)]) hx hb dX3_remove_5 rfl hl (by decide) rfl (fun ls hl => ?_)
    refine lv_aload_nN hx hb dX3_remove_6 rfl (lv_at hl 0 rfl) ?_
    refine lv_ifnonnullN hx hb dX3_remove_7 ?_
    refine lv_iconst (v := -1) hx hb dX3_remove_10 rfl ?_
    exact qRi hx hb hr hlk hP hK hS dX3_remove_11 (by unfold s_remove; rw [if_neg hp]) (by unfold s_remove; rw [if_neg hp])
set_option maxHeartbeats 4000000 in
set_option maxRecDepth 100000 in
theorem kX3_set (l : Launch) (g : qG) {ad : Nat → Nat} (z : zS) (hj : adInj 15 ad) (n w v : Int32) : qMiT l yX3_set wsX3_set 2 g (WX g ad) (adOf 15 ad) z [.ref (ad 0), .int n, .int w, .int v] ((s_set z n w v).1) ((s_set z n w v).2) := by
  refine qStartT (cc := cX3_set) (maxL := 6) (ret := (some .int)) (plainFor_of_name (by decide)) rfl (Nat.le_of_ble_eq_true rfl) ?_
  intro p e s m args below meth c hx hb hml hown hts hr hlk hP hK hT ls hl
  have hl : lv_has ls 6 [(0, .ref (ad 0)), (1, .int n), (2, .int w), (3, .int v)] := hl
  have hS : va_S (adOf 15 ad) s.heap s.heap [] := va_S.rf
  refine lv_aload_n hx hb dX3_set_0 rfl (lv_at hl 0 rfl) ?_
  refine lv_iload_n hx hb dX3_set_1 rfl (lv_at hl 1 rfl) ?_
  by_cases hp : pOk z n = true
  · -- it holds
    have hp4 := pOk_lt hp
    refine qVq (As := [.int n]) (rest := []) (vv := .ref (ad (10 + ix n))) hx hb hml hown hts (kX3_partAt_t l g z hj n hp) gX3_set_X3_partAt rfl 1 hdX3_partAt rfl ⟨Nat.le_of_ble_eq_true rfl, Nat.le_of_ble_eq_true rfl⟩ ⟨Nat.zero_le _, Nat.zero_le _⟩ hK hP hS (fun _ h => h) 0 3 rfl rfl rfl hl.1 rfl (Nat.le_of_ble_eq_true rfl) rfl dX3_set_2 (fun H locs hP hS => ?_)
    refine lv_astore (lv' := [(4, .ref (ad (10 + ix n))), (0, .ref (ad 0)), (1, .int n), (2, .int w), (3, .int v)]) hx hb dX3_set_5 hl (by decide) rfl (fun ls hl => ?_)
    refine lv_aload hx hb dX3_set_7 (lv_at hl 0 rfl) ?_
    refine lv_ifnonnull (tgt := 14) hx hb dX3_set_9 (by decide) ?_
    refine lv_iload_n hx hb dX3_set_14 rfl (lv_at hl 3 rfl) ?_
    refine lv_iload_n hx hb dX3_set_15 rfl (lv_at hl 4 rfl) ?_
    refine qSiT hT (As := [.int w, .int v]) (rest := []) hx hb hml hown hts (kX1_takes l g (Wd := (WX g ad)) (A := (adOf 15 ad)) z w v) gX3_set_X1_takes rfl 2 hdX1_takes rfl ⟨Nat.le_of_ble_eq_true rfl, Nat.le_of_ble_eq_true rfl⟩ ⟨Nat.zero_le _, Nat.zero_le _⟩ hK hP hS (fun _ h => h) hl.1 rfl (Nat.le_of_ble_eq_true rfl) dX3_set_16 (fun H locs hP hS => ?_)
    refine lv_if_ne (tgt := 25) hx hb dX3_set_19 (by decide) (fun c_19 => ?_) (fun c_19 => ?_)
    · -- 19 taken
      have c_19 := bI_n c_19
      have hw4 := (takes_ix c_19).2.1
      refine lv_aload hx hb dX3_set_25 (lv_at hl 0 rfl) ?_
      refine lv_iload_n hx hb dX3_set_27 rfl (lv_at hl 3 rfl) ?_
      refine qVi (As := [.int w]) (rest := []) hx hb hml hown hts (kX1_number l g z hj hp4 w hw4) gX3_set_X1_number rfl 1 hdX1_number rfl ⟨Nat.le_of_ble_eq_true rfl, Nat.le_of_ble_eq_true rfl⟩ ⟨Nat.zero_le _, Nat.zero_le _⟩ hK hP hS (fun _ h => h) (10 + ix n) 1 rfl rfl (WX_p g ad z hp4) hl.1 rfl (Nat.le_of_ble_eq_true rfl) dX3_set_28 (fun H locs hP hS => ?_)
      refine lv_istore (lv' := [(5, .int (z (10 + ix n) (7 + ix w))), (4, .ref (ad (10 + ix n))), (0, .ref (ad 0)), (1, .int n), (2, .int w), (3, .int v)]) hx hb dX3_set_31 hl (by decide) rfl (fun ls hl => ?_)
      refine lv_aload hx hb dX3_set_33 (lv_at hl 1 rfl) ?_
      refine lv_iload_n hx hb dX3_set_35 rfl (lv_at hl 4 rfl) ?_
      refine lv_iload_n hx hb dX3_set_36 rfl (lv_at hl 5 rfl) ?_
      refine qVv (As := [.int w, .int v]) (rest := []) hx hb hml hown hts (kX1_putNumber l g z hj hp4 w v hw4) gX3_set_X1_putNumber rfl 2 hdX1_putNumber rfl ⟨Nat.le_of_ble_eq_true rfl, Nat.le_of_ble_eq_true rfl⟩ ⟨Nat.zero_le _, Nat.zero_le _⟩ hK hP hS (fun _ h => h) (10 + ix n) 1 rfl rfl (WX_p g ad z hp4) hl.1 rfl (Nat.le_of_ble_eq_true rfl) dX3_set_37 (fun H locs hP hS => ?_)
      refine lv_iload hx hb dX3_set_40 (lv_at hl 0 rfl) ?_
      exact qRi hx hb hr hlk hP hK hS dX3_set_42 (by unfold s_set; rw [if_pos hp, if_pos c_19]) (by unfold s_set; rw [if_pos hp, if_pos c_19])
    · -- 19 not taken
      have c_19 := bI_0 c_19
      refine lv_bipush (v := -2) hx hb dX3_set_22 (by decide) ?_
      exact qRi hx hb hr hlk hP hK hS dX3_set_24 (by unfold s_set; rw [if_pos hp, if_neg (bn c_19)]) (by unfold s_set; rw [if_pos hp, if_neg (bn c_19)])
  · -- it doesn't
    refine qVq (As := [.int n]) (rest := []) (vv := .null) hx hb hml hown hts (kX3_partAt_f l g z hj n hp) gX3_set_X3_partAt rfl 1 hdX3_partAt rfl ⟨Nat.le_of_ble_eq_true rfl, Nat.le_of_ble_eq_true rfl⟩ ⟨Nat.zero_le _, Nat.zero_le _⟩ hK hP hS (fun _ h => h) 0 3 rfl rfl rfl hl.1 rfl (Nat.le_of_ble_eq_true rfl) rfl dX3_set_2 (fun H locs hP hS => ?_)
    refine lv_astoreN (lv' := [(4, .null), (0, .ref (ad 0)), (1, .int n), (2, .int w), (3, .int v)]) hx hb dX3_set_5 hl (by decide) rfl (fun ls hl => ?_)
    refine lv_aloadN hx hb dX3_set_7 (lv_at hl 0 rfl) ?_
    refine lv_ifnonnullN hx hb dX3_set_9 ?_
    refine lv_iconst (v := -1) hx hb dX3_set_12 rfl ?_
    exact qRi hx hb hr hlk hP hK hS dX3_set_13 (by unfold s_set; rw [if_neg hp]) (by unfold s_set; rw [if_neg hp])
set_option maxHeartbeats 4000000 in
set_option maxRecDepth 100000 in
theorem kX3_ofPart (l : Launch) (g : qG) {ad : Nat → Nat} (z : zS) (hj : adInj 15 ad) (n w : Int32) : qMi l yX3_ofPart wsX3_ofPart 2 g (WX g ad) (adOf 15 ad) z [.ref (ad 0), .int n, .int w] (s_ofPart z n w) z := by
  refine qStart (cc := cX3_ofPart) (maxL := 4) (ret := (some .int)) (plainFor_of_name (by decide)) rfl (Nat.le_of_ble_eq_true rfl) ?_
  intro p e s m args below meth c hx hb hml hown hts hr hlk hP hK ls hl
  have hl : lv_has ls 4 [(0, .ref (ad 0)), (1, .int n), (2, .int w)] := hl
  have hS : va_S (adOf 15 ad) s.heap s.heap [] := va_S.rf
  have hin1 : ∀ w ∈ u_ws RX1 TX1 12, w ∈ wsX3_ofPart := by decide +kernel
  refine lv_aload_n hx hb dX3_ofPart_0 rfl (lv_at hl 0 rfl) ?_
  refine lv_iload_n hx hb dX3_ofPart_1 rfl (lv_at hl 1 rfl) ?_
  by_cases hp : pOk z n = true
  · -- it holds
    have hp4 := pOk_lt hp
    refine qVq (As := [.int n]) (rest := []) (vv := .ref (ad (10 + ix n))) hx hb hml hown hts (kX3_partAt_t l g z hj n hp) gX3_ofPart_X3_partAt rfl 1 hdX3_partAt rfl ⟨Nat.le_of_ble_eq_true rfl, Nat.le_of_ble_eq_true rfl⟩ ⟨Nat.zero_le _, Nat.zero_le _⟩ hK hP hS (fun _ h => h) 0 3 rfl rfl rfl hl.1 rfl (Nat.le_of_ble_eq_true rfl) rfl dX3_ofPart_2 (fun H locs hP hS => ?_)
    refine lv_astore_n (lv' := [(3, .ref (ad (10 + ix n))), (0, .ref (ad 0)), (1, .int n), (2, .int w)]) hx hb dX3_ofPart_5 rfl hl (by decide) rfl (fun ls hl => ?_)
    refine lv_aload_n hx hb dX3_ofPart_6 rfl (lv_at hl 0 rfl) ?_
    refine lv_ifnonnull (tgt := 12) hx hb dX3_ofPart_7 (by decide) ?_
    refine lv_iload_n hx hb dX3_ofPart_12 rfl (lv_at hl 3 rfl) ?_
    refine lv_bipush (v := 10) hx hb dX3_ofPart_13 (by decide) ?_
    refine lv_bipush (v := 14) hx hb dX3_ofPart_15 (by decide) ?_
    refine qSi (As := [.int w, .int 10, .int 14]) (rest := []) hx hb hml hown hts (kX3_within l g (Wd := (WX g ad)) (A := (adOf 15 ad)) z w 10 14) gX3_ofPart_X3_within rfl 3 hdX3_within rfl ⟨Nat.le_of_ble_eq_true rfl, Nat.le_of_ble_eq_true rfl⟩ ⟨Nat.zero_le _, Nat.zero_le _⟩ hK hP hS (fun _ h => h) hl.1 rfl (Nat.le_of_ble_eq_true rfl) dX3_ofPart_17 (fun H locs hP hS => ?_)
    refine lv_if_eq (tgt := 32) hx hb dX3_ofPart_20 (by decide) (fun c_20 => ?_) (fun c_20 => ?_)
    · -- 20 taken
      have c_20 := bI_0 c_20
      refine lv_iload_n hx hb dX3_ofPart_32 rfl (lv_at hl 3 rfl) ?_
      by_cases c_33_is0 : w = 0
      · -- 33 is 0
        refine lv_tableIn (tgt := 72) hx hb dX3_ofPart_33 (by rw [c_33_is0]; decide) (by rw [c_33_is0]; decide) (by rw [c_33_is0]; rfl) (by decide) ?_
        refine lv_aload_n hx hb dX3_ofPart_72 rfl (lv_at hl 0 rfl) ?_
        refine qGet (ci := 1) (v := .int (z (10 + ix n) 3)) (C := RX1) (T := TX1) (N := 12) hx hb hts hin1 hown hK hP (10 + ix n) (WX_p g ad z hp4) rfl 3 (by decide) (hts (.fieldLink RX3 74 "PartCurves$Part" "first" "I") (by decide +kernel)) rfl dX3_ofPart_73 ?_
        exact qRi hx hb hr hlk hP hK hS dX3_ofPart_76 (by unfold s_ofPart; rw [if_pos hp, if_neg (bn c_20), if_pos c_33_is0]) rfl
      by_cases c_33_is1 : w = 1
      · -- 33 is 1
        refine lv_tableIn (tgt := 77) hx hb dX3_ofPart_33 (by rw [c_33_is1]; decide) (by rw [c_33_is1]; decide) (by rw [c_33_is1]; rfl) (by decide) ?_
        refine lv_aload_n hx hb dX3_ofPart_77 rfl (lv_at hl 0 rfl) ?_
        refine qGet (ci := 1) (v := .int (z (10 + ix n) 4)) (C := RX1) (T := TX1) (N := 12) hx hb hts hin1 hown hK hP (10 + ix n) (WX_p g ad z hp4) rfl 4 (by decide) (hts (.fieldLink RX3 77 "PartCurves$Part" "other" "I") (by decide +kernel)) rfl dX3_ofPart_78 ?_
        exact qRi hx hb hr hlk hP hK hS dX3_ofPart_81 (by unfold s_ofPart; rw [if_pos hp, if_neg (bn c_20), if_neg c_33_is0, if_pos c_33_is1]) rfl
      by_cases c_33_is2 : w = 2
      · -- 33 is 2
        refine lv_tableIn (tgt := 82) hx hb dX3_ofPart_33 (by rw [c_33_is2]; decide) (by rw [c_33_is2]; decide) (by rw [c_33_is2]; rfl) (by decide) ?_
        refine lv_aload_n hx hb dX3_ofPart_82 rfl (lv_at hl 0 rfl) ?_
        refine qGet (ci := 1) (v := .int (z (10 + ix n) 5)) (C := RX1) (T := TX1) (N := 12) hx hb hts hin1 hown hK hP (10 + ix n) (WX_p g ad z hp4) rfl 5 (by decide) (hts (.fieldLink RX3 80 "PartCurves$Part" "kind" "I") (by decide +kernel)) rfl dX3_ofPart_83 ?_
        exact qRi hx hb hr hlk hP hK hS dX3_ofPart_86 (by unfold s_ofPart; rw [if_pos hp, if_neg (bn c_20), if_neg c_33_is0, if_neg c_33_is1, if_pos c_33_is2]) rfl
      by_cases c_33_is3 : w = 3
      · -- 33 is 3
        refine lv_tableIn (tgt := 87) hx hb dX3_ofPart_33 (by rw [c_33_is3]; decide) (by rw [c_33_is3]; decide) (by rw [c_33_is3]; rfl) (by decide) ?_
        refine lv_aload_n hx hb dX3_ofPart_87 rfl (lv_at hl 0 rfl) ?_
        refine qGet (ci := 1) (v := .int (z (10 + ix n) 6)) (C := RX1) (T := TX1) (N := 12) hx hb hts hin1 hown hK hP (10 + ix n) (WX_p g ad z hp4) rfl 6 (by decide) (hts (.fieldLink RX3 83 "PartCurves$Part" "heat" "I") (by decide +kernel)) rfl dX3_ofPart_88 ?_
        exact qRi hx hb hr hlk hP hK hS dX3_ofPart_91 (by unfold s_ofPart; rw [if_pos hp, if_neg (bn c_20), if_neg c_33_is0, if_neg c_33_is1, if_neg c_33_is2, if_pos c_33_is3]) rfl
      by_cases c_33_is4 : w = 4
      · -- 33 is 4
        refine lv_tableIn (tgt := 92) hx hb dX3_ofPart_33 (by rw [c_33_is4]; decide) (by rw [c_33_is4]; decide) (by rw [c_33_is4]; rfl) (by decide) ?_
        refine lv_aload_n hx hb dX3_ofPart_92 rfl (lv_at hl 0 rfl) ?_
        refine qGet (ci := 1) (v := .int (z (10 + ix n) 1)) (C := RX1) (T := TX1) (N := 12) hx hb hts hin1 hown hK hP (10 + ix n) (WX_p g ad z hp4) rfl 1 (by decide) (hts (.fieldLink RX3 86 "PartCurves$Part" "burnt" "Z") (by decide +kernel)) rfl dX3_ofPart_93 ?_
        refine lv_if_eq (tgt := 103) hx hb dX3_ofPart_96 (by decide) (fun c_96 => ?_) (fun c_96 => ?_)
        · -- 96 taken
          refine lv_iconst (v := 0) hx hb dX3_ofPart_103 rfl ?_
          exact qRi hx hb hr hlk hP hK hS dX3_ofPart_104 (by unfold s_ofPart; rw [if_pos hp, if_neg (bn c_20), if_neg c_33_is0, if_neg c_33_is1, if_neg c_33_is2, if_neg c_33_is3, if_pos c_33_is4, if_pos c_96]) rfl
        · -- 96 not taken
          refine lv_iconst (v := 1) hx hb dX3_ofPart_99 rfl ?_
          refine lv_goto (tgt := 104) hx hb dX3_ofPart_100 (by decide) ?_
          exact qRi hx hb hr hlk hP hK hS dX3_ofPart_104 (by unfold s_ofPart; rw [if_pos hp, if_neg (bn c_20), if_neg c_33_is0, if_neg c_33_is1, if_neg c_33_is2, if_neg c_33_is3, if_pos c_33_is4, if_neg c_96]) rfl
      by_cases c_33_is5 : w = 5
      · -- 33 is 5
        refine lv_tableIn (tgt := 105) hx hb dX3_ofPart_33 (by rw [c_33_is5]; decide) (by rw [c_33_is5]; decide) (by rw [c_33_is5]; rfl) (by decide) ?_
        refine lv_aload_n hx hb dX3_ofPart_105 rfl (lv_at hl 0 rfl) ?_
        refine qGet (ci := 1) (v := .int (z (10 + ix n) 2)) (C := RX1) (T := TX1) (N := 12) hx hb hts hin1 hown hK hP (10 + ix n) (WX_p g ad z hp4) rfl 2 (by decide) (hts (.fieldLink RX3 89 "PartCurves$Part" "open" "Z") (by decide +kernel)) rfl dX3_ofPart_106 ?_
        refine lv_if_eq (tgt := 116) hx hb dX3_ofPart_109 (by decide) (fun c_109 => ?_) (fun c_109 => ?_)
        · -- 109 taken
          refine lv_iconst (v := 0) hx hb dX3_ofPart_116 rfl ?_
          exact qRi hx hb hr hlk hP hK hS dX3_ofPart_117 (by unfold s_ofPart; rw [if_pos hp, if_neg (bn c_20), if_neg c_33_is0, if_neg c_33_is1, if_neg c_33_is2, if_neg c_33_is3, if_neg c_33_is4, if_pos c_33_is5, if_pos c_109]) rfl
        · -- 109 not taken
          refine lv_iconst (v := 1) hx hb dX3_ofPart_112 rfl ?_
          refine lv_goto (tgt := 117) hx hb dX3_ofPart_113 (by decide) ?_
          exact qRi hx hb hr hlk hP hK hS dX3_ofPart_117 (by unfold s_ofPart; rw [if_pos hp, if_neg (bn c_20), if_neg c_33_is0, if_neg c_33_is1, if_neg c_33_is2, if_neg c_33_is3, if_neg c_33_is4, if_pos c_33_is5, if_neg c_109]) rfl
      refine lv_tableOut (tgt := 118) hx hb dX3_ofPart_33 (by have := ne_toInt c_33_is0 (k := 0) rfl; have := ne_toInt c_33_is1 (k := 1) rfl; have := ne_toInt c_33_is2 (k := 2) rfl; have := ne_toInt c_33_is3 (k := 3) rfl; have := ne_toInt c_33_is4 (k := 4) rfl; have := ne_toInt c_33_is5 (k := 5) rfl; omega) (by decide) ?_
      refine lv_bipush (v := -2) hx hb dX3_ofPart_118 (by decide) ?_
      exact qRi hx hb hr hlk hP hK hS dX3_ofPart_120 (by unfold s_ofPart; rw [if_pos hp, if_neg (bn c_20), if_neg c_33_is0, if_neg c_33_is1, if_neg c_33_is2, if_neg c_33_is3, if_neg c_33_is4, if_neg c_33_is5]) rfl
    · -- 20 not taken
      have c_20 := bI_n c_20
      refine lv_aload_n hx hb dX3_ofPart_23 rfl (lv_at hl 0 rfl) ?_
      refine lv_iload_n hx hb dX3_ofPart_24 rfl (lv_at hl 3 rfl) ?_
      refine lv_bipush (v := 10) hx hb dX3_ofPart_25 (by decide) ?_
      refine lv_isub hx hb dX3_ofPart_27 ?_
      refine qVi (As := [.int (w - 10)]) (rest := []) hx hb hml hown hts (kX1_number l g z hj hp4 (w - 10) (inR_10 c_20)) gX3_ofPart_X1_number rfl 1 hdX1_number rfl ⟨Nat.le_of_ble_eq_true rfl, Nat.le_of_ble_eq_true rfl⟩ ⟨Nat.zero_le _, Nat.zero_le _⟩ hK hP hS (fun _ h => h) (10 + ix n) 1 rfl rfl (WX_p g ad z hp4) hl.1 rfl (Nat.le_of_ble_eq_true rfl) dX3_ofPart_28 (fun H locs hP hS => ?_)
      exact qRi hx hb hr hlk hP hK hS dX3_ofPart_31 (by unfold s_ofPart; rw [if_pos hp, if_pos c_20]) rfl
  · -- it doesn't
    refine qVq (As := [.int n]) (rest := []) (vv := .null) hx hb hml hown hts (kX3_partAt_f l g z hj n hp) gX3_ofPart_X3_partAt rfl 1 hdX3_partAt rfl ⟨Nat.le_of_ble_eq_true rfl, Nat.le_of_ble_eq_true rfl⟩ ⟨Nat.zero_le _, Nat.zero_le _⟩ hK hP hS (fun _ h => h) 0 3 rfl rfl rfl hl.1 rfl (Nat.le_of_ble_eq_true rfl) rfl dX3_ofPart_2 (fun H locs hP hS => ?_)
    refine lv_astore_nN (lv' := [(3, .null), (0, .ref (ad 0)), (1, .int n), (2, .int w)]) hx hb dX3_ofPart_5 rfl hl (by decide) rfl (fun ls hl => ?_)
    refine lv_aload_nN hx hb dX3_ofPart_6 rfl (lv_at hl 0 rfl) ?_
    refine lv_ifnonnullN hx hb dX3_ofPart_7 ?_
    refine lv_iconst (v := -1) hx hb dX3_ofPart_10 rfl ?_
    exact qRi hx hb hr hlk hP hK hS dX3_ofPart_11 (by unfold s_ofPart; rw [if_neg hp]) rfl
set_option maxHeartbeats 4000000 in
set_option maxRecDepth 100000 in
theorem kX3_relay (l : Launch) (g : qG) {ad : Nat → Nat} (z : zS) (hj : adInj 15 ad) (t q v : Int32) : qMi l yX3_relay wsX3_relay 1 g (WX g ad) (adOf 15 ad) z [.ref (ad 0), .int t, .int q, .int v] ((s_relay z t q v).1) ((s_relay z t q v).2) := by
  refine qStart (cc := cX3_relay) (maxL := 6) (ret := (some .int)) (plainFor_of_name (by decide)) rfl (Nat.le_of_ble_eq_true rfl) ?_
  intro p e s m args below meth c hx hb hml hown hts hr hlk hP hK ls hl
  have hl : lv_has ls 6 [(0, .ref (ad 0)), (1, .int t), (2, .int q), (3, .int v)] := hl
  have hS : va_S (adOf 15 ad) s.heap s.heap [] := va_S.rf
  have hin3 : ∀ w ∈ u_ws RX3 TX3 7, w ∈ wsX3_relay := by decide +kernel
  refine lv_iload_n hx hb dX3_relay_0 rfl (lv_at hl 1 rfl) ?_
  refine lv_iconst (v := 0) hx hb dX3_relay_1 rfl ?_
  refine lv_iconst (v := 3) hx hb dX3_relay_2 rfl ?_
  refine qSi (As := [.int t, .int 0, .int 3]) (rest := []) hx hb hml hown hts (kX3_within l g (Wd := (WX g ad)) (A := (adOf 15 ad)) z t 0 3) gX3_relay_X3_within rfl 3 hdX3_within rfl ⟨Nat.le_of_ble_eq_true rfl, Nat.le_of_ble_eq_true rfl⟩ ⟨Nat.zero_le _, Nat.zero_le _⟩ hK hP hS (fun _ h => h) hl.1 rfl (Nat.le_of_ble_eq_true rfl) dX3_relay_3 (fun H locs hP hS => ?_)
  refine lv_if_eq (tgt := 19) hx hb dX3_relay_6 (by decide) (fun c_6 => ?_) (fun c_6 => ?_)
  · -- 6 taken
    have c_6 := bI_0 c_6
    refine lv_iconst (v := -1) hx hb dX3_relay_19 rfl ?_
    exact qRi hx hb hr hlk hP hK hS dX3_relay_20 (by unfold s_relay; rw [if_neg (fun h => absurd h.1 (bn c_6))]) (by unfold s_relay; rw [if_neg (fun h => absurd h.1 (bn c_6))])
  · -- 6 not taken
    have c_6 := bI_n c_6
    refine lv_iload_n hx hb dX3_relay_9 rfl (lv_at hl 2 rfl) ?_
    refine lv_iconst (v := 0) hx hb dX3_relay_10 rfl ?_
    refine lv_bipush (v := 7) hx hb dX3_relay_11 (by decide) ?_
    refine qSi (As := [.int q, .int 0, .int 7]) (rest := []) hx hb hml hown hts (kX3_within l g (Wd := (WX g ad)) (A := (adOf 15 ad)) z q 0 7) gX3_relay_X3_within rfl 3 hdX3_within rfl ⟨Nat.le_of_ble_eq_true rfl, Nat.le_of_ble_eq_true rfl⟩ ⟨Nat.zero_le _, Nat.zero_le _⟩ hK hP hS (fun _ h => h) hl.1 rfl (Nat.le_of_ble_eq_true rfl) dX3_relay_13 (fun H locs hP hS => ?_)
    refine lv_if_ne (tgt := 21) hx hb dX3_relay_16 (by decide) (fun c_16 => ?_) (fun c_16 => ?_)
    · -- 16 taken
      have c_16 := bI_n c_16
      refine lv_iload_n hx hb dX3_relay_21 rfl (lv_at hl 3 rfl) ?_
      refine lv_iconst (v := 0) hx hb dX3_relay_22 rfl ?_
      refine lv_iconst (v := 1) hx hb dX3_relay_23 rfl ?_
      refine qSi (As := [.int v, .int 0, .int 1]) (rest := []) hx hb hml hown hts (kX3_within l g (Wd := (WX g ad)) (A := (adOf 15 ad)) z v 0 1) gX3_relay_X3_within rfl 3 hdX3_within rfl ⟨Nat.le_of_ble_eq_true rfl, Nat.le_of_ble_eq_true rfl⟩ ⟨Nat.zero_le _, Nat.zero_le _⟩ hK hP hS (fun _ h => h) hl.1 rfl (Nat.le_of_ble_eq_true rfl) dX3_relay_24 (fun H locs hP hS => ?_)
      refine lv_if_ne (tgt := 33) hx hb dX3_relay_27 (by decide) (fun c_27 => ?_) (fun c_27 => ?_)
      · -- 27 taken
        have c_27 := bI_n c_27
        refine lv_iconst (v := 1) hx hb dX3_relay_33 rfl ?_
        refine lv_iload_n hx hb dX3_relay_34 rfl (lv_at hl 2 rfl) ?_
        refine lv_ishl hx hb dX3_relay_35 ?_
        refine lv_istore (lv' := [(4, .int (sh q)), (0, .ref (ad 0)), (1, .int t), (2, .int q), (3, .int v)]) hx hb dX3_relay_36 hl (by decide) rfl (fun ls hl => ?_)
        refine lv_aload_n hx hb dX3_relay_38 rfl (lv_at hl 1 rfl) ?_
        refine qGet (ci := 3) (v := .int (z 0 0)) (C := RX3) (T := TX3) (N := 7) hx hb hts hin3 hown hK hP 0 rfl rfl 4 (by decide) (hts (.fieldLink RX3 35 "PartCurves" "powerOn" "Z") (by decide +kernel)) rfl dX3_relay_39 ?_
        refine lv_if_ne (tgt := 60) hx hb dX3_relay_42 (by decide) (fun c_42 => ?_) (fun c_42 => ?_)
        · -- 42 taken
          refine lv_bipush (v := -3) hx hb dX3_relay_60 (by decide) ?_
          exact qRi hx hb hr hlk hP hK hS dX3_relay_62 (by unfold s_relay; rw [if_pos ⟨c_6, c_16⟩, if_pos c_27, if_neg (fun h => c_42 h.1)]) (by unfold s_relay; rw [if_pos ⟨c_6, c_16⟩, if_pos c_27, if_neg (fun h => c_42 h.1)])
        · -- 42 not taken
          refine lv_iload_n hx hb dX3_relay_45 rfl (lv_at hl 4 rfl) ?_
          refine lv_iconst (v := 1) hx hb dX3_relay_46 rfl ?_
          refine lv_icmp_ne (tgt := 63) hx hb dX3_relay_47 (by decide) (fun c_47 => ?_) (fun c_47 => ?_)
          · -- 47 taken
            refine lv_aload_n hx hb dX3_relay_63 rfl (lv_at hl 1 rfl) ?_
            refine qGet (ci := 3) (v := .ref (ad 1)) (C := RX3) (T := TX3) (N := 7) hx hb hts hin3 hown hK hP 0 rfl rfl 1 (by decide) (hts (.fieldLink RX3 17 "PartCurves" "pinSets" "[I") (by decide +kernel)) rfl dX3_relay_64 ?_
            refine lv_iload_n hx hb dX3_relay_67 rfl (lv_at hl 2 rfl) ?_
            refine qIld (v := (z 1 (ix t))) hx hb hK hP 1 rfl (inR_vp (n := 3) rfl c_6 4 (by decide)) rfl dX3_relay_68 ?_
            refine lv_iload hx hb dX3_relay_69 (lv_at hl 0 rfl) ?_
            refine lv_iand hx hb dX3_relay_71 ?_
            refine lv_if_eq (tgt := 79) hx hb dX3_relay_72 (by decide) (fun c_72 => ?_) (fun c_72 => ?_)
            · -- 72 taken
              refine lv_iconst (v := 0) hx hb dX3_relay_79 rfl ?_
              refine lv_istore (lv' := [(5, .int 0), (4, .int (sh q)), (0, .ref (ad 0)), (1, .int t), (2, .int q), (3, .int v)]) hx hb dX3_relay_80 hl (by decide) rfl (fun ls hl => ?_)
              refine lv_aload_n hx hb dX3_relay_82 rfl (lv_at hl 2 rfl) ?_
              refine qGet (ci := 3) (v := .ref (ad 1)) (C := RX3) (T := TX3) (N := 7) hx hb hts hin3 hown hK hP 0 rfl rfl 1 (by decide) (hts (.fieldLink RX3 17 "PartCurves" "pinSets" "[I") (by decide +kernel)) rfl dX3_relay_83 ?_
              refine lv_iload_n hx hb dX3_relay_86 rfl (lv_at hl 3 rfl) ?_
              refine lv_iload_n hx hb dX3_relay_87 rfl (lv_at hl 5 rfl) ?_
              refine lv_iconst (v := 1) hx hb dX3_relay_88 rfl ?_
              refine lv_icmp_ne (tgt := 104) hx hb dX3_relay_89 (by decide) (fun c_89 => ?_) (fun c_89 => ?_)
              · -- 89 taken
                refine lv_aload_n hx hb dX3_relay_104 rfl (lv_at hl 2 rfl) ?_
                refine qGet (ci := 3) (v := .ref (ad 1)) (C := RX3) (T := TX3) (N := 7) hx hb hts hin3 hown hK hP 0 rfl rfl 1 (by decide) (hts (.fieldLink RX3 17 "PartCurves" "pinSets" "[I") (by decide +kernel)) rfl dX3_relay_105 ?_
                refine lv_iload_n hx hb dX3_relay_108 rfl (lv_at hl 3 rfl) ?_
                refine qIld (v := (z 1 (ix t))) hx hb hK hP 1 rfl (inR_vp (n := 3) rfl c_6 4 (by decide)) rfl dX3_relay_109 ?_
                refine lv_iload hx hb dX3_relay_110 (lv_at hl 1 rfl) ?_
                refine lv_iconst (v := -1) hx hb dX3_relay_112 rfl ?_
                refine lv_ixor hx hb dX3_relay_113 ?_
                refine lv_iand hx hb dX3_relay_114 ?_
                refine qIst (j := (ix t)) (u' := zu z 1 (ix t) ((z 1 (ix t)) &&& ((sh q) ^^^ (-1)))) hx hb hK hP (WX_D g z hj) hS 1 rfl (inR_vp (n := 3) rfl c_6 4 (by decide)) rfl (WX_1 g ad z (ix t) ((z 1 (ix t)) &&& ((sh q) ^^^ (-1)))) dX3_relay_115 (fun H locs hP hS => ?_)
                refine lv_iload hx hb dX3_relay_116 (lv_at hl 0 rfl) ?_
                exact qRi hx hb hr hlk hP hK hS dX3_relay_118 (by unfold s_relay; rw [if_pos ⟨c_6, c_16⟩, if_pos c_27, if_pos ⟨c_42, fun q => c_47 q.1⟩, if_pos c_72, if_neg c_89]) (by unfold s_relay; rw [if_pos ⟨c_6, c_16⟩, if_pos c_27, if_pos ⟨c_42, fun q => c_47 q.1⟩, if_pos c_72, if_neg c_89])
              · -- 89 not taken
                exact absurd c_89 c_47
            · -- 72 not taken
              refine lv_iconst (v := 1) hx hb dX3_relay_75 rfl ?_
              refine lv_goto (tgt := 80) hx hb dX3_relay_76 (by decide) ?_
              refine lv_istore (lv' := [(5, .int 1), (4, .int (sh q)), (0, .ref (ad 0)), (1, .int t), (2, .int q), (3, .int v)]) hx hb dX3_relay_80 hl (by decide) rfl (fun ls hl => ?_)
              refine lv_aload_n hx hb dX3_relay_82 rfl (lv_at hl 2 rfl) ?_
              refine qGet (ci := 3) (v := .ref (ad 1)) (C := RX3) (T := TX3) (N := 7) hx hb hts hin3 hown hK hP 0 rfl rfl 1 (by decide) (hts (.fieldLink RX3 17 "PartCurves" "pinSets" "[I") (by decide +kernel)) rfl dX3_relay_83 ?_
              refine lv_iload_n hx hb dX3_relay_86 rfl (lv_at hl 3 rfl) ?_
              refine lv_iload_n hx hb dX3_relay_87 rfl (lv_at hl 5 rfl) ?_
              refine lv_iconst (v := 1) hx hb dX3_relay_88 rfl ?_
              refine lv_icmp_ne (tgt := 104) hx hb dX3_relay_89 (by decide) (fun c_89 => ?_) (fun c_89 => ?_)
              · -- 89 taken
                refine lv_aload_n hx hb dX3_relay_104 rfl (lv_at hl 2 rfl) ?_
                refine qGet (ci := 3) (v := .ref (ad 1)) (C := RX3) (T := TX3) (N := 7) hx hb hts hin3 hown hK hP 0 rfl rfl 1 (by decide) (hts (.fieldLink RX3 17 "PartCurves" "pinSets" "[I") (by decide +kernel)) rfl dX3_relay_105 ?_
                refine lv_iload_n hx hb dX3_relay_108 rfl (lv_at hl 3 rfl) ?_
                refine qIld (v := (z 1 (ix t))) hx hb hK hP 1 rfl (inR_vp (n := 3) rfl c_6 4 (by decide)) rfl dX3_relay_109 ?_
                refine lv_iload hx hb dX3_relay_110 (lv_at hl 1 rfl) ?_
                refine lv_iconst (v := -1) hx hb dX3_relay_112 rfl ?_
                refine lv_ixor hx hb dX3_relay_113 ?_
                refine lv_iand hx hb dX3_relay_114 ?_
                refine qIst (j := (ix t)) (u' := zu z 1 (ix t) ((z 1 (ix t)) &&& ((sh q) ^^^ (-1)))) hx hb hK hP (WX_D g z hj) hS 1 rfl (inR_vp (n := 3) rfl c_6 4 (by decide)) rfl (WX_1 g ad z (ix t) ((z 1 (ix t)) &&& ((sh q) ^^^ (-1)))) dX3_relay_115 (fun H locs hP hS => ?_)
                refine lv_iload hx hb dX3_relay_116 (lv_at hl 0 rfl) ?_
                exact qRi hx hb hr hlk hP hK hS dX3_relay_118 (by unfold s_relay; rw [if_pos ⟨c_6, c_16⟩, if_pos c_27, if_pos ⟨c_42, fun q => c_47 q.1⟩, if_neg c_72, if_neg c_89]) (by unfold s_relay; rw [if_pos ⟨c_6, c_16⟩, if_pos c_27, if_pos ⟨c_42, fun q => c_47 q.1⟩, if_neg c_72, if_neg c_89])
              · -- 89 not taken
                exact absurd c_89 c_47
          · -- 47 not taken
            refine lv_aload_n hx hb dX3_relay_50 rfl (lv_at hl 1 rfl) ?_
            refine lv_iload_n hx hb dX3_relay_51 rfl (lv_at hl 2 rfl) ?_
            refine lv_iload hx hb dX3_relay_52 (lv_at hl 0 rfl) ?_
            refine qVi (As := [.int t, .int (sh q)]) (rest := []) hx hb hml hown hts (kX3_wouldShort l g z hj t (sh q)) gX3_relay_X3_wouldShort rfl 2 hdX3_wouldShort rfl ⟨Nat.le_of_ble_eq_true rfl, Nat.le_of_ble_eq_true rfl⟩ ⟨Nat.zero_le _, Nat.zero_le _⟩ hK hP hS (fun _ h => h) 0 3 rfl rfl rfl hl.1 rfl (Nat.le_of_ble_eq_true rfl) dX3_relay_54 (fun H locs hP hS => ?_)
            refine lv_if_eq (tgt := 63) hx hb dX3_relay_57 (by decide) (fun c_57 => ?_) (fun c_57 => ?_)
            · -- 57 taken
              have c_57 := bI_0 c_57
              refine lv_aload_n hx hb dX3_relay_63 rfl (lv_at hl 1 rfl) ?_
              refine qGet (ci := 3) (v := .ref (ad 1)) (C := RX3) (T := TX3) (N := 7) hx hb hts hin3 hown hK hP 0 rfl rfl 1 (by decide) (hts (.fieldLink RX3 17 "PartCurves" "pinSets" "[I") (by decide +kernel)) rfl dX3_relay_64 ?_
              refine lv_iload_n hx hb dX3_relay_67 rfl (lv_at hl 2 rfl) ?_
              refine qIld (v := (z 1 (ix t))) hx hb hK hP 1 rfl (inR_vp (n := 3) rfl c_6 4 (by decide)) rfl dX3_relay_68 ?_
              refine lv_iload hx hb dX3_relay_69 (lv_at hl 0 rfl) ?_
              refine lv_iand hx hb dX3_relay_71 ?_
              refine lv_if_eq (tgt := 79) hx hb dX3_relay_72 (by decide) (fun c_72 => ?_) (fun c_72 => ?_)
              · -- 72 taken
                refine lv_iconst (v := 0) hx hb dX3_relay_79 rfl ?_
                refine lv_istore (lv' := [(5, .int 0), (4, .int (sh q)), (0, .ref (ad 0)), (1, .int t), (2, .int q), (3, .int v)]) hx hb dX3_relay_80 hl (by decide) rfl (fun ls hl => ?_)
                refine lv_aload_n hx hb dX3_relay_82 rfl (lv_at hl 2 rfl) ?_
                refine qGet (ci := 3) (v := .ref (ad 1)) (C := RX3) (T := TX3) (N := 7) hx hb hts hin3 hown hK hP 0 rfl rfl 1 (by decide) (hts (.fieldLink RX3 17 "PartCurves" "pinSets" "[I") (by decide +kernel)) rfl dX3_relay_83 ?_
                refine lv_iload_n hx hb dX3_relay_86 rfl (lv_at hl 3 rfl) ?_
                refine lv_iload_n hx hb dX3_relay_87 rfl (lv_at hl 5 rfl) ?_
                refine lv_iconst (v := 1) hx hb dX3_relay_88 rfl ?_
                refine lv_icmp_ne (tgt := 104) hx hb dX3_relay_89 (by decide) (fun c_89 => ?_) (fun c_89 => ?_)
                · -- 89 taken
                  exact absurd c_47 c_89
                · -- 89 not taken
                  refine lv_aload_n hx hb dX3_relay_92 rfl (lv_at hl 2 rfl) ?_
                  refine qGet (ci := 3) (v := .ref (ad 1)) (C := RX3) (T := TX3) (N := 7) hx hb hts hin3 hown hK hP 0 rfl rfl 1 (by decide) (hts (.fieldLink RX3 17 "PartCurves" "pinSets" "[I") (by decide +kernel)) rfl dX3_relay_93 ?_
                  refine lv_iload_n hx hb dX3_relay_96 rfl (lv_at hl 3 rfl) ?_
                  refine qIld (v := (z 1 (ix t))) hx hb hK hP 1 rfl (inR_vp (n := 3) rfl c_6 4 (by decide)) rfl dX3_relay_97 ?_
                  refine lv_iload hx hb dX3_relay_98 (lv_at hl 1 rfl) ?_
                  refine lv_ior hx hb dX3_relay_100 ?_
                  refine lv_goto (tgt := 115) hx hb dX3_relay_101 (by decide) ?_
                  refine qIst (j := (ix t)) (u' := zu z 1 (ix t) ((z 1 (ix t)) ||| (sh q))) hx hb hK hP (WX_D g z hj) hS 1 rfl (inR_vp (n := 3) rfl c_6 4 (by decide)) rfl (WX_1 g ad z (ix t) ((z 1 (ix t)) ||| (sh q))) dX3_relay_115 (fun H locs hP hS => ?_)
                  refine lv_iload hx hb dX3_relay_116 (lv_at hl 0 rfl) ?_
                  exact qRi hx hb hr hlk hP hK hS dX3_relay_118 (by unfold s_relay; rw [if_pos ⟨c_6, c_16⟩, if_pos c_27, if_pos ⟨c_42, fun q => absurd q.2 (bn c_57)⟩, if_pos c_72, if_pos c_89]) (by unfold s_relay; rw [if_pos ⟨c_6, c_16⟩, if_pos c_27, if_pos ⟨c_42, fun q => absurd q.2 (bn c_57)⟩, if_pos c_72, if_pos c_89])
              · -- 72 not taken
                refine lv_iconst (v := 1) hx hb dX3_relay_75 rfl ?_
                refine lv_goto (tgt := 80) hx hb dX3_relay_76 (by decide) ?_
                refine lv_istore (lv' := [(5, .int 1), (4, .int (sh q)), (0, .ref (ad 0)), (1, .int t), (2, .int q), (3, .int v)]) hx hb dX3_relay_80 hl (by decide) rfl (fun ls hl => ?_)
                refine lv_aload_n hx hb dX3_relay_82 rfl (lv_at hl 2 rfl) ?_
                refine qGet (ci := 3) (v := .ref (ad 1)) (C := RX3) (T := TX3) (N := 7) hx hb hts hin3 hown hK hP 0 rfl rfl 1 (by decide) (hts (.fieldLink RX3 17 "PartCurves" "pinSets" "[I") (by decide +kernel)) rfl dX3_relay_83 ?_
                refine lv_iload_n hx hb dX3_relay_86 rfl (lv_at hl 3 rfl) ?_
                refine lv_iload_n hx hb dX3_relay_87 rfl (lv_at hl 5 rfl) ?_
                refine lv_iconst (v := 1) hx hb dX3_relay_88 rfl ?_
                refine lv_icmp_ne (tgt := 104) hx hb dX3_relay_89 (by decide) (fun c_89 => ?_) (fun c_89 => ?_)
                · -- 89 taken
                  exact absurd c_47 c_89
                · -- 89 not taken
                  refine lv_aload_n hx hb dX3_relay_92 rfl (lv_at hl 2 rfl) ?_
                  refine qGet (ci := 3) (v := .ref (ad 1)) (C := RX3) (T := TX3) (N := 7) hx hb hts hin3 hown hK hP 0 rfl rfl 1 (by decide) (hts (.fieldLink RX3 17 "PartCurves" "pinSets" "[I") (by decide +kernel)) rfl dX3_relay_93 ?_
                  refine lv_iload_n hx hb dX3_relay_96 rfl (lv_at hl 3 rfl) ?_
                  refine qIld (v := (z 1 (ix t))) hx hb hK hP 1 rfl (inR_vp (n := 3) rfl c_6 4 (by decide)) rfl dX3_relay_97 ?_
                  refine lv_iload hx hb dX3_relay_98 (lv_at hl 1 rfl) ?_
                  refine lv_ior hx hb dX3_relay_100 ?_
                  refine lv_goto (tgt := 115) hx hb dX3_relay_101 (by decide) ?_
                  refine qIst (j := (ix t)) (u' := zu z 1 (ix t) ((z 1 (ix t)) ||| (sh q))) hx hb hK hP (WX_D g z hj) hS 1 rfl (inR_vp (n := 3) rfl c_6 4 (by decide)) rfl (WX_1 g ad z (ix t) ((z 1 (ix t)) ||| (sh q))) dX3_relay_115 (fun H locs hP hS => ?_)
                  refine lv_iload hx hb dX3_relay_116 (lv_at hl 0 rfl) ?_
                  exact qRi hx hb hr hlk hP hK hS dX3_relay_118 (by unfold s_relay; rw [if_pos ⟨c_6, c_16⟩, if_pos c_27, if_pos ⟨c_42, fun q => absurd q.2 (bn c_57)⟩, if_neg c_72, if_pos c_89]) (by unfold s_relay; rw [if_pos ⟨c_6, c_16⟩, if_pos c_27, if_pos ⟨c_42, fun q => absurd q.2 (bn c_57)⟩, if_neg c_72, if_pos c_89])
            · -- 57 not taken
              have c_57 := bI_n c_57
              refine lv_bipush (v := -3) hx hb dX3_relay_60 (by decide) ?_
              exact qRi hx hb hr hlk hP hK hS dX3_relay_62 (by unfold s_relay; rw [if_pos ⟨c_6, c_16⟩, if_pos c_27, if_neg (fun h => h.2 ⟨c_47, c_57⟩)]) (by unfold s_relay; rw [if_pos ⟨c_6, c_16⟩, if_pos c_27, if_neg (fun h => h.2 ⟨c_47, c_57⟩)])
      · -- 27 not taken
        have c_27 := bI_0 c_27
        refine lv_bipush (v := -2) hx hb dX3_relay_30 (by decide) ?_
        exact qRi hx hb hr hlk hP hK hS dX3_relay_32 (by unfold s_relay; rw [if_pos ⟨c_6, c_16⟩, if_neg (bn c_27)]) (by unfold s_relay; rw [if_pos ⟨c_6, c_16⟩, if_neg (bn c_27)])
    · -- 16 not taken
      have c_16 := bI_0 c_16
      refine lv_iconst (v := -1) hx hb dX3_relay_19 rfl ?_
      exact qRi hx hb hr hlk hP hK hS dX3_relay_20 (by unfold s_relay; rw [if_neg (fun h => absurd h.2 (bn c_16))]) (by unfold s_relay; rw [if_neg (fun h => absurd h.2 (bn c_16))])
set_option maxHeartbeats 4000000 in
set_option maxRecDepth 100000 in
theorem kX3_pins (l : Launch) (g : qG) {ad : Nat → Nat} (z : zS) (hj : adInj 15 ad) (t : Int32) : qMi l yX3_pins wsX3_pins 1 g (WX g ad) (adOf 15 ad) z [.ref (ad 0), .int t] (s_pins z t) z := by
  refine qStart (cc := cX3_pins) (maxL := 2) (ret := (some .int)) (plainFor_of_name (by decide)) rfl (Nat.le_of_ble_eq_true rfl) ?_
  intro p e s m args below meth c hx hb hml hown hts hr hlk hP hK ls hl
  have hl : lv_has ls 2 [(0, .ref (ad 0)), (1, .int t)] := hl
  have hS : va_S (adOf 15 ad) s.heap s.heap [] := va_S.rf
  have hin3 : ∀ w ∈ u_ws RX3 TX3 7, w ∈ wsX3_pins := by decide +kernel
  refine lv_iload_n hx hb dX3_pins_0 rfl (lv_at hl 1 rfl) ?_
  refine lv_iconst (v := 0) hx hb dX3_pins_1 rfl ?_
  refine lv_iconst (v := 3) hx hb dX3_pins_2 rfl ?_
  refine qSi (As := [.int t, .int 0, .int 3]) (rest := []) hx hb hml hown hts (kX3_within l g (Wd := (WX g ad)) (A := (adOf 15 ad)) z t 0 3) gX3_pins_X3_within rfl 3 hdX3_within rfl ⟨Nat.le_of_ble_eq_true rfl, Nat.le_of_ble_eq_true rfl⟩ ⟨Nat.zero_le _, Nat.zero_le _⟩ hK hP hS (fun _ h => h) hl.1 rfl (Nat.le_of_ble_eq_true rfl) dX3_pins_3 (fun H locs hP hS => ?_)
  refine lv_if_eq (tgt := 18) hx hb dX3_pins_6 (by decide) (fun c_6 => ?_) (fun c_6 => ?_)
  · -- 6 taken
    have c_6 := bI_0 c_6
    refine lv_iconst (v := -1) hx hb dX3_pins_18 rfl ?_
    exact qRi hx hb hr hlk hP hK hS dX3_pins_19 (by unfold s_pins; rw [if_neg (bn c_6)]) rfl
  · -- 6 not taken
    have c_6 := bI_n c_6
    refine lv_aload_n hx hb dX3_pins_9 rfl (lv_at hl 0 rfl) ?_
    refine qGet (ci := 3) (v := .ref (ad 1)) (C := RX3) (T := TX3) (N := 7) hx hb hts hin3 hown hK hP 0 rfl rfl 1 (by decide) (hts (.fieldLink RX3 17 "PartCurves" "pinSets" "[I") (by decide +kernel)) rfl dX3_pins_10 ?_
    refine lv_iload_n hx hb dX3_pins_13 rfl (lv_at hl 1 rfl) ?_
    refine qIld (v := (z 1 (ix t))) hx hb hK hP 1 rfl (inR_vp (n := 3) rfl c_6 4 (by decide)) rfl dX3_pins_14 ?_
    refine lv_goto (tgt := 19) hx hb dX3_pins_15 (by decide) ?_
    exact qRi hx hb hr hlk hP hK hS dX3_pins_19 (by unfold s_pins; rw [if_pos c_6]) rfl
set_option maxHeartbeats 4000000 in
set_option maxRecDepth 100000 in
theorem kX3_power (l : Launch) (g : qG) {ad : Nat → Nat} (z : zS) (hj : adInj 15 ad) (v : Int32) : qMi l yX3_power wsX3_power 3 g (WX g ad) (adOf 15 ad) z [.ref (ad 0), .int v] ((s_power z v).1) ((s_power z v).2) := by
  refine qStart (cc := cX3_power) (maxL := 3) (ret := (some .int)) (plainFor_of_name (by decide)) rfl (Nat.le_of_ble_eq_true rfl) ?_
  intro p e s m args below meth c hx hb hml hown hts hr hlk hP hK ls hl
  have hl : lv_has ls 3 [(0, .ref (ad 0)), (1, .int v)] := hl
  have hS : va_S (adOf 15 ad) s.heap s.heap [] := va_S.rf
  have hin3 : ∀ w ∈ u_ws RX3 TX3 7, w ∈ wsX3_power := by decide +kernel
  refine lv_iload_n hx hb dX3_power_0 rfl (lv_at hl 1 rfl) ?_
  refine lv_iconst (v := 0) hx hb dX3_power_1 rfl ?_
  refine lv_iconst (v := 1) hx hb dX3_power_2 rfl ?_
  refine qSi (As := [.int v, .int 0, .int 1]) (rest := []) hx hb hml hown hts (kX3_within l g (Wd := (WX g ad)) (A := (adOf 15 ad)) z v 0 1) gX3_power_X3_within rfl 3 hdX3_within rfl ⟨Nat.le_of_ble_eq_true rfl, Nat.le_of_ble_eq_true rfl⟩ ⟨Nat.zero_le _, Nat.zero_le _⟩ hK hP hS (fun _ h => h) hl.1 rfl (Nat.le_of_ble_eq_true rfl) dX3_power_3 (fun H locs hP hS => ?_)
  refine lv_if_ne (tgt := 12) hx hb dX3_power_6 (by decide) (fun c_6 => ?_) (fun c_6 => ?_)
  · -- 6 taken
    have c_6 := bI_n c_6
    refine lv_iload_n hx hb dX3_power_12 rfl (lv_at hl 1 rfl) ?_
    refine lv_iconst (v := 1) hx hb dX3_power_13 rfl ?_
    refine lv_icmp_ne (tgt := 29) hx hb dX3_power_14 (by decide) (fun c_14 => ?_) (fun c_14 => ?_)
    · -- 14 taken
      refine lv_aload_n hx hb dX3_power_29 rfl (lv_at hl 0 rfl) ?_
      refine qGet (ci := 3) (v := .int (z 0 0)) (C := RX3) (T := TX3) (N := 7) hx hb hts hin3 hown hK hP 0 rfl rfl 4 (by decide) (hts (.fieldLink RX3 35 "PartCurves" "powerOn" "Z") (by decide +kernel)) rfl dX3_power_30 ?_
      refine lv_if_eq (tgt := 40) hx hb dX3_power_33 (by decide) (fun c_33 => ?_) (fun c_33 => ?_)
      · -- 33 taken
        refine lv_iconst (v := 0) hx hb dX3_power_40 rfl ?_
        refine lv_istore_n (lv' := [(2, .int 0), (0, .ref (ad 0)), (1, .int v)]) hx hb dX3_power_41 rfl hl (by decide) rfl (fun ls hl => ?_)
        refine lv_aload_n hx hb dX3_power_42 rfl (lv_at hl 1 rfl) ?_
        refine lv_iload_n hx hb dX3_power_43 rfl (lv_at hl 2 rfl) ?_
        refine lv_iconst (v := 1) hx hb dX3_power_44 rfl ?_
        refine lv_icmp_ne (tgt := 52) hx hb dX3_power_45 (by decide) (fun c_45 => ?_) (fun c_45 => ?_)
        · -- 45 taken
          refine lv_iconst (v := 0) hx hb dX3_power_52 rfl ?_
          refine qPut (ci := 3) (ty := .boolean) (C := RX3) (T := TX3) (N := 7) (u' := zu z 0 0 0) hx hb hts hin3 tyX3 tyX3_ok nmX3 hown hK hP (WX_D g z hj) hS 0 rfl rfl 4 (by decide) (hts (.fieldLink RX3 35 "PartCurves" "powerOn" "Z") (by decide +kernel)) rfl (by decide +kernel) rfl rfl (Nat.le_of_ble_eq_true rfl) (WX_on g ad z 0) dX3_power_53 (fun H locs hP hS => ?_)
          refine lv_iload_n hx hb dX3_power_56 rfl (lv_at hl 0 rfl) ?_
          exact qRi hx hb hr hlk hP hK hS dX3_power_57 (by unfold s_power; rw [if_pos c_6, if_neg (fun h => c_14 h.1), if_pos c_33, if_neg c_45]) (by unfold s_power; rw [if_pos c_6, if_neg (fun h => c_14 h.1), if_pos c_33, if_neg c_45])
        · -- 45 not taken
          exact absurd c_45 c_14
      · -- 33 not taken
        refine lv_iconst (v := 1) hx hb dX3_power_36 rfl ?_
        refine lv_goto (tgt := 41) hx hb dX3_power_37 (by decide) ?_
        refine lv_istore_n (lv' := [(2, .int 1), (0, .ref (ad 0)), (1, .int v)]) hx hb dX3_power_41 rfl hl (by decide) rfl (fun ls hl => ?_)
        refine lv_aload_n hx hb dX3_power_42 rfl (lv_at hl 1 rfl) ?_
        refine lv_iload_n hx hb dX3_power_43 rfl (lv_at hl 2 rfl) ?_
        refine lv_iconst (v := 1) hx hb dX3_power_44 rfl ?_
        refine lv_icmp_ne (tgt := 52) hx hb dX3_power_45 (by decide) (fun c_45 => ?_) (fun c_45 => ?_)
        · -- 45 taken
          refine lv_iconst (v := 0) hx hb dX3_power_52 rfl ?_
          refine qPut (ci := 3) (ty := .boolean) (C := RX3) (T := TX3) (N := 7) (u' := zu z 0 0 0) hx hb hts hin3 tyX3 tyX3_ok nmX3 hown hK hP (WX_D g z hj) hS 0 rfl rfl 4 (by decide) (hts (.fieldLink RX3 35 "PartCurves" "powerOn" "Z") (by decide +kernel)) rfl (by decide +kernel) rfl rfl (Nat.le_of_ble_eq_true rfl) (WX_on g ad z 0) dX3_power_53 (fun H locs hP hS => ?_)
          refine lv_iload_n hx hb dX3_power_56 rfl (lv_at hl 0 rfl) ?_
          exact qRi hx hb hr hlk hP hK hS dX3_power_57 (by unfold s_power; rw [if_pos c_6, if_neg (fun h => c_14 h.1), if_neg c_33, if_neg c_45]) (by unfold s_power; rw [if_pos c_6, if_neg (fun h => c_14 h.1), if_neg c_33, if_neg c_45])
        · -- 45 not taken
          exact absurd c_45 c_14
    · -- 14 not taken
      refine lv_aload_n hx hb dX3_power_17 rfl (lv_at hl 0 rfl) ?_
      refine qVi (As := []) (rest := []) hx hb hml hown hts (kX3_inHand l g z hj) gX3_power_X3_inHand rfl 0 hdX3_inHand rfl ⟨Nat.le_of_ble_eq_true rfl, Nat.le_of_ble_eq_true rfl⟩ ⟨Nat.zero_le _, Nat.zero_le _⟩ hK hP hS (fun _ h => h) 0 3 rfl rfl rfl hl.1 rfl (Nat.le_of_ble_eq_true rfl) dX3_power_18 (fun H locs hP hS => ?_)
      refine lv_bipush (v := -9) hx hb dX3_power_21 (by decide) ?_
      refine lv_icmp_ne (tgt := 29) hx hb dX3_power_23 (by decide) (fun c_23 => ?_) (fun c_23 => ?_)
      · -- 23 taken
        refine lv_aload_n hx hb dX3_power_29 rfl (lv_at hl 0 rfl) ?_
        refine qGet (ci := 3) (v := .int (z 0 0)) (C := RX3) (T := TX3) (N := 7) hx hb hts hin3 hown hK hP 0 rfl rfl 4 (by decide) (hts (.fieldLink RX3 35 "PartCurves" "powerOn" "Z") (by decide +kernel)) rfl dX3_power_30 ?_
        refine lv_if_eq (tgt := 40) hx hb dX3_power_33 (by decide) (fun c_33 => ?_) (fun c_33 => ?_)
        · -- 33 taken
          refine lv_iconst (v := 0) hx hb dX3_power_40 rfl ?_
          refine lv_istore_n (lv' := [(2, .int 0), (0, .ref (ad 0)), (1, .int v)]) hx hb dX3_power_41 rfl hl (by decide) rfl (fun ls hl => ?_)
          refine lv_aload_n hx hb dX3_power_42 rfl (lv_at hl 1 rfl) ?_
          refine lv_iload_n hx hb dX3_power_43 rfl (lv_at hl 2 rfl) ?_
          refine lv_iconst (v := 1) hx hb dX3_power_44 rfl ?_
          refine lv_icmp_ne (tgt := 52) hx hb dX3_power_45 (by decide) (fun c_45 => ?_) (fun c_45 => ?_)
          · -- 45 taken
            exact absurd c_14 c_45
          · -- 45 not taken
            refine lv_iconst (v := 1) hx hb dX3_power_48 rfl ?_
            refine lv_goto (tgt := 53) hx hb dX3_power_49 (by decide) ?_
            refine qPut (ci := 3) (ty := .boolean) (C := RX3) (T := TX3) (N := 7) (u' := zu z 0 0 1) hx hb hts hin3 tyX3 tyX3_ok nmX3 hown hK hP (WX_D g z hj) hS 0 rfl rfl 4 (by decide) (hts (.fieldLink RX3 35 "PartCurves" "powerOn" "Z") (by decide +kernel)) rfl (by decide +kernel) rfl rfl (Nat.le_of_ble_eq_true rfl) (WX_on g ad z 1) dX3_power_53 (fun H locs hP hS => ?_)
            refine lv_iload_n hx hb dX3_power_56 rfl (lv_at hl 0 rfl) ?_
            exact qRi hx hb hr hlk hP hK hS dX3_power_57 (by unfold s_power; rw [if_pos c_6, if_neg (fun h => c_23 h.2), if_pos c_33, if_pos c_45]) (by unfold s_power; rw [if_pos c_6, if_neg (fun h => c_23 h.2), if_pos c_33, if_pos c_45])
        · -- 33 not taken
          refine lv_iconst (v := 1) hx hb dX3_power_36 rfl ?_
          refine lv_goto (tgt := 41) hx hb dX3_power_37 (by decide) ?_
          refine lv_istore_n (lv' := [(2, .int 1), (0, .ref (ad 0)), (1, .int v)]) hx hb dX3_power_41 rfl hl (by decide) rfl (fun ls hl => ?_)
          refine lv_aload_n hx hb dX3_power_42 rfl (lv_at hl 1 rfl) ?_
          refine lv_iload_n hx hb dX3_power_43 rfl (lv_at hl 2 rfl) ?_
          refine lv_iconst (v := 1) hx hb dX3_power_44 rfl ?_
          refine lv_icmp_ne (tgt := 52) hx hb dX3_power_45 (by decide) (fun c_45 => ?_) (fun c_45 => ?_)
          · -- 45 taken
            exact absurd c_14 c_45
          · -- 45 not taken
            refine lv_iconst (v := 1) hx hb dX3_power_48 rfl ?_
            refine lv_goto (tgt := 53) hx hb dX3_power_49 (by decide) ?_
            refine qPut (ci := 3) (ty := .boolean) (C := RX3) (T := TX3) (N := 7) (u' := zu z 0 0 1) hx hb hts hin3 tyX3 tyX3_ok nmX3 hown hK hP (WX_D g z hj) hS 0 rfl rfl 4 (by decide) (hts (.fieldLink RX3 35 "PartCurves" "powerOn" "Z") (by decide +kernel)) rfl (by decide +kernel) rfl rfl (Nat.le_of_ble_eq_true rfl) (WX_on g ad z 1) dX3_power_53 (fun H locs hP hS => ?_)
            refine lv_iload_n hx hb dX3_power_56 rfl (lv_at hl 0 rfl) ?_
            exact qRi hx hb hr hlk hP hK hS dX3_power_57 (by unfold s_power; rw [if_pos c_6, if_neg (fun h => c_23 h.2), if_neg c_33, if_pos c_45]) (by unfold s_power; rw [if_pos c_6, if_neg (fun h => c_23 h.2), if_neg c_33, if_pos c_45])
      · -- 23 not taken
        refine lv_bipush (v := -3) hx hb dX3_power_26 (by decide) ?_
        exact qRi hx hb hr hlk hP hK hS dX3_power_28 (by unfold s_power; rw [if_pos c_6, if_pos ⟨c_14, c_23⟩]) (by unfold s_power; rw [if_pos c_6, if_pos ⟨c_14, c_23⟩])
  · -- 6 not taken
    have c_6 := bI_0 c_6
    refine lv_bipush (v := -2) hx hb dX3_power_9 (by decide) ?_
    exact qRi hx hb hr hlk hP hK hS dX3_power_11 (by unfold s_power; rw [if_neg (bn c_6)]) (by unfold s_power; rw [if_neg (bn c_6)])
set_option maxHeartbeats 4000000 in
set_option maxRecDepth 100000 in
theorem kX3_limit (l : Launch) (g : qG) {ad : Nat → Nat} (z : zS) (hj : adInj 15 ad) (v : Int32) : qMi l yX3_limit wsX3_limit 1 g (WX g ad) (adOf 15 ad) z [.ref (ad 0), .int v] ((s_limit z v).1) ((s_limit z v).2) := by
  refine qStart (cc := cX3_limit) (maxL := 3) (ret := (some .int)) (plainFor_of_name (by decide)) rfl (Nat.le_of_ble_eq_true rfl) ?_
  intro p e s m args below meth c hx hb hml hown hts hr hlk hP hK ls hl
  have hl : lv_has ls 3 [(0, .ref (ad 0)), (1, .int v)] := hl
  have hS : va_S (adOf 15 ad) s.heap s.heap [] := va_S.rf
  have hin3 : ∀ w ∈ u_ws RX3 TX3 7, w ∈ wsX3_limit := by decide +kernel
  refine lv_iload_n hx hb dX3_limit_0 rfl (lv_at hl 1 rfl) ?_
  refine lv_iconst (v := 1) hx hb dX3_limit_1 rfl ?_
  refine lv_sipush (v := 20000) hx hb dX3_limit_2 (by decide) ?_
  refine qSi (As := [.int v, .int 1, .int 20000]) (rest := []) hx hb hml hown hts (kX3_within l g (Wd := (WX g ad)) (A := (adOf 15 ad)) z v 1 20000) gX3_limit_X3_within rfl 3 hdX3_within rfl ⟨Nat.le_of_ble_eq_true rfl, Nat.le_of_ble_eq_true rfl⟩ ⟨Nat.zero_le _, Nat.zero_le _⟩ hK hP hS (fun _ h => h) hl.1 rfl (Nat.le_of_ble_eq_true rfl) dX3_limit_5 (fun H locs hP hS => ?_)
  refine lv_if_ne (tgt := 14) hx hb dX3_limit_8 (by decide) (fun c_8 => ?_) (fun c_8 => ?_)
  · -- 8 taken
    have c_8 := bI_n c_8
    refine lv_aload_n hx hb dX3_limit_14 rfl (lv_at hl 0 rfl) ?_
    refine qGet (ci := 3) (v := .int (z 0 1)) (C := RX3) (T := TX3) (N := 7) hx hb hts hin3 hown hK hP 0 rfl rfl 5 (by decide) (hts (.fieldLink RX3 39 "PartCurves" "mostAmps" "I") (by decide +kernel)) rfl dX3_limit_15 ?_
    refine lv_istore_n (lv' := [(2, .int (z 0 1)), (0, .ref (ad 0)), (1, .int v)]) hx hb dX3_limit_18 rfl hl (by decide) rfl (fun ls hl => ?_)
    refine lv_aload_n hx hb dX3_limit_19 rfl (lv_at hl 1 rfl) ?_
    refine lv_iload_n hx hb dX3_limit_20 rfl (lv_at hl 2 rfl) ?_
    refine qPut (ci := 3) (ty := .int) (C := RX3) (T := TX3) (N := 7) (u' := zu z 0 1 v) hx hb hts hin3 tyX3 tyX3_ok nmX3 hown hK hP (WX_D g z hj) hS 0 rfl rfl 5 (by decide) (hts (.fieldLink RX3 39 "PartCurves" "mostAmps" "I") (by decide +kernel)) rfl (by decide +kernel) rfl rfl (Nat.le_of_ble_eq_true rfl) (WX_lim g ad z v) dX3_limit_21 (fun H locs hP hS => ?_)
    refine lv_iload_n hx hb dX3_limit_24 rfl (lv_at hl 0 rfl) ?_
    exact qRi hx hb hr hlk hP hK hS dX3_limit_25 (by unfold s_limit; rw [if_pos c_8]) (by unfold s_limit; rw [if_pos c_8])
  · -- 8 not taken
    have c_8 := bI_0 c_8
    refine lv_bipush (v := -2) hx hb dX3_limit_11 (by decide) ?_
    exact qRi hx hb hr hlk hP hK hS dX3_limit_13 (by unfold s_limit; rw [if_neg (bn c_8)]) (by unfold s_limit; rw [if_neg (bn c_8)])
set_option maxHeartbeats 4000000 in
set_option maxRecDepth 100000 in
theorem kX3_leads (l : Launch) (g : qG) {ad : Nat → Nat} (z : zS) (hj : adInj 15 ad) (v : Int32) : qMi l yX3_leads wsX3_leads 1 g (WX g ad) (adOf 15 ad) z [.ref (ad 0), .int v] ((s_leads z v).1) ((s_leads z v).2) := by
  refine qStart (cc := cX3_leads) (maxL := 3) (ret := (some .int)) (plainFor_of_name (by decide)) rfl (Nat.le_of_ble_eq_true rfl) ?_
  intro p e s m args below meth c hx hb hml hown hts hr hlk hP hK ls hl
  have hl : lv_has ls 3 [(0, .ref (ad 0)), (1, .int v)] := hl
  have hS : va_S (adOf 15 ad) s.heap s.heap [] := va_S.rf
  have hin3 : ∀ w ∈ u_ws RX3 TX3 7, w ∈ wsX3_leads := by decide +kernel
  refine lv_iload_n hx hb dX3_leads_0 rfl (lv_at hl 1 rfl) ?_
  refine lv_iconst (v := 0) hx hb dX3_leads_1 rfl ?_
  refine lv_sipush (v := 200) hx hb dX3_leads_2 (by decide) ?_
  refine qSi (As := [.int v, .int 0, .int 200]) (rest := []) hx hb hml hown hts (kX3_within l g (Wd := (WX g ad)) (A := (adOf 15 ad)) z v 0 200) gX3_leads_X3_within rfl 3 hdX3_within rfl ⟨Nat.le_of_ble_eq_true rfl, Nat.le_of_ble_eq_true rfl⟩ ⟨Nat.zero_le _, Nat.zero_le _⟩ hK hP hS (fun _ h => h) hl.1 rfl (Nat.le_of_ble_eq_true rfl) dX3_leads_5 (fun H locs hP hS => ?_)
  refine lv_if_ne (tgt := 14) hx hb dX3_leads_8 (by decide) (fun c_8 => ?_) (fun c_8 => ?_)
  · -- 8 taken
    have c_8 := bI_n c_8
    refine lv_aload_n hx hb dX3_leads_14 rfl (lv_at hl 0 rfl) ?_
    refine qGet (ci := 3) (v := .int (z 0 2)) (C := RX3) (T := TX3) (N := 7) hx hb hts hin3 hown hK hP 0 rfl rfl 6 (by decide) (hts (.fieldLink RX3 43 "PartCurves" "leadOhms" "I") (by decide +kernel)) rfl dX3_leads_15 ?_
    refine lv_istore_n (lv' := [(2, .int (z 0 2)), (0, .ref (ad 0)), (1, .int v)]) hx hb dX3_leads_18 rfl hl (by decide) rfl (fun ls hl => ?_)
    refine lv_aload_n hx hb dX3_leads_19 rfl (lv_at hl 1 rfl) ?_
    refine lv_iload_n hx hb dX3_leads_20 rfl (lv_at hl 2 rfl) ?_
    refine qPut (ci := 3) (ty := .int) (C := RX3) (T := TX3) (N := 7) (u' := zu z 0 2 v) hx hb hts hin3 tyX3 tyX3_ok nmX3 hown hK hP (WX_D g z hj) hS 0 rfl rfl 6 (by decide) (hts (.fieldLink RX3 43 "PartCurves" "leadOhms" "I") (by decide +kernel)) rfl (by decide +kernel) rfl rfl (Nat.le_of_ble_eq_true rfl) (WX_lds g ad z v) dX3_leads_21 (fun H locs hP hS => ?_)
    refine lv_iload_n hx hb dX3_leads_24 rfl (lv_at hl 0 rfl) ?_
    exact qRi hx hb hr hlk hP hK hS dX3_leads_25 (by unfold s_leads; rw [if_pos c_8]) (by unfold s_leads; rw [if_pos c_8])
  · -- 8 not taken
    have c_8 := bI_0 c_8
    refine lv_bipush (v := -2) hx hb dX3_leads_11 (by decide) ?_
    exact qRi hx hb hr hlk hP hK hS dX3_leads_13 (by unfold s_leads; rw [if_neg (bn c_8)]) (by unfold s_leads; rw [if_neg (bn c_8)])
set_option maxHeartbeats 4000000 in
set_option maxRecDepth 100000 in
theorem kX3_now (l : Launch) (g : qG) {ad : Nat → Nat} (z : zS) (hj : adInj 15 ad) (w : Int32) : qMi l yX3_now wsX3_now 3 g (WX g ad) (adOf 15 ad) z [.ref (ad 0), .int w] (s_now z w) z := by
  refine qStart (cc := cX3_now) (maxL := 2) (ret := (some .int)) (plainFor_of_name (by decide)) rfl (Nat.le_of_ble_eq_true rfl) ?_
  intro p e s m args below meth c hx hb hml hown hts hr hlk hP hK ls hl
  have hl : lv_has ls 2 [(0, .ref (ad 0)), (1, .int w)] := hl
  have hS : va_S (adOf 15 ad) s.heap s.heap [] := va_S.rf
  have hin3 : ∀ w ∈ u_ws RX3 TX3 7, w ∈ wsX3_now := by decide +kernel
  refine lv_iload_n hx hb dX3_now_0 rfl (lv_at hl 1 rfl) ?_
  by_cases c_1_is0 : w = 0
  · -- 1 is 0
    refine lv_tableIn (tgt := 36) hx hb dX3_now_1 (by rw [c_1_is0]; decide) (by rw [c_1_is0]; decide) (by rw [c_1_is0]; rfl) (by decide) ?_
    refine lv_aload_n hx hb dX3_now_36 rfl (lv_at hl 0 rfl) ?_
    refine qVi (As := []) (rest := []) hx hb hml hown hts (kX3_inHand l g z hj) gX3_now_X3_inHand rfl 0 hdX3_inHand rfl ⟨Nat.le_of_ble_eq_true rfl, Nat.le_of_ble_eq_true rfl⟩ ⟨Nat.zero_le _, Nat.zero_le _⟩ hK hP hS (fun _ h => h) 0 3 rfl rfl rfl hl.1 rfl (Nat.le_of_ble_eq_true rfl) dX3_now_37 (fun H locs hP hS => ?_)
    exact qRi hx hb hr hlk hP hK hS dX3_now_40 (by unfold s_now; rw [if_pos c_1_is0]) rfl
  by_cases c_1_is1 : w = 1
  · -- 1 is 1
    refine lv_tableIn (tgt := 41) hx hb dX3_now_1 (by rw [c_1_is1]; decide) (by rw [c_1_is1]; decide) (by rw [c_1_is1]; rfl) (by decide) ?_
    refine lv_aload_n hx hb dX3_now_41 rfl (lv_at hl 0 rfl) ?_
    refine qVi (As := []) (rest := []) hx hb hml hown hts (kX3_fourWires l g z hj) gX3_now_X3_fourWires rfl 0 hdX3_fourWires rfl ⟨Nat.le_of_ble_eq_true rfl, Nat.le_of_ble_eq_true rfl⟩ ⟨Nat.zero_le _, Nat.zero_le _⟩ hK hP hS (fun _ h => h) 0 3 rfl rfl rfl hl.1 rfl (Nat.le_of_ble_eq_true rfl) dX3_now_42 (fun H locs hP hS => ?_)
    refine lv_if_eq (tgt := 52) hx hb dX3_now_45 (by decide) (fun c_45 => ?_) (fun c_45 => ?_)
    · -- 45 taken
      have c_45 := bI_0 c_45
      refine lv_iconst (v := 2) hx hb dX3_now_52 rfl ?_
      exact qRi hx hb hr hlk hP hK hS dX3_now_53 (by unfold s_now; rw [if_neg c_1_is0, if_pos c_1_is1, if_neg (bn c_45)]) rfl
    · -- 45 not taken
      have c_45 := bI_n c_45
      refine lv_iconst (v := 4) hx hb dX3_now_48 rfl ?_
      refine lv_goto (tgt := 53) hx hb dX3_now_49 (by decide) ?_
      exact qRi hx hb hr hlk hP hK hS dX3_now_53 (by unfold s_now; rw [if_neg c_1_is0, if_pos c_1_is1, if_pos c_45]) rfl
  by_cases c_1_is2 : w = 2
  · -- 1 is 2
    refine lv_tableIn (tgt := 54) hx hb dX3_now_1 (by rw [c_1_is2]; decide) (by rw [c_1_is2]; decide) (by rw [c_1_is2]; rfl) (by decide) ?_
    refine lv_aload_n hx hb dX3_now_54 rfl (lv_at hl 0 rfl) ?_
    refine qGet (ci := 3) (v := .int (z 0 0)) (C := RX3) (T := TX3) (N := 7) hx hb hts hin3 hown hK hP 0 rfl rfl 4 (by decide) (hts (.fieldLink RX3 35 "PartCurves" "powerOn" "Z") (by decide +kernel)) rfl dX3_now_55 ?_
    refine lv_if_eq (tgt := 65) hx hb dX3_now_58 (by decide) (fun c_58 => ?_) (fun c_58 => ?_)
    · -- 58 taken
      refine lv_iconst (v := 0) hx hb dX3_now_65 rfl ?_
      exact qRi hx hb hr hlk hP hK hS dX3_now_66 (by unfold s_now; rw [if_neg c_1_is0, if_neg c_1_is1, if_pos c_1_is2, if_pos c_58]) rfl
    · -- 58 not taken
      refine lv_iconst (v := 1) hx hb dX3_now_61 rfl ?_
      refine lv_goto (tgt := 66) hx hb dX3_now_62 (by decide) ?_
      exact qRi hx hb hr hlk hP hK hS dX3_now_66 (by unfold s_now; rw [if_neg c_1_is0, if_neg c_1_is1, if_pos c_1_is2, if_neg c_58]) rfl
  by_cases c_1_is3 : w = 3
  · -- 1 is 3
    refine lv_tableIn (tgt := 67) hx hb dX3_now_1 (by rw [c_1_is3]; decide) (by rw [c_1_is3]; decide) (by rw [c_1_is3]; rfl) (by decide) ?_
    refine lv_aload_n hx hb dX3_now_67 rfl (lv_at hl 0 rfl) ?_
    refine qGet (ci := 3) (v := .int (z 0 1)) (C := RX3) (T := TX3) (N := 7) hx hb hts hin3 hown hK hP 0 rfl rfl 5 (by decide) (hts (.fieldLink RX3 39 "PartCurves" "mostAmps" "I") (by decide +kernel)) rfl dX3_now_68 ?_
    exact qRi hx hb hr hlk hP hK hS dX3_now_71 (by unfold s_now; rw [if_neg c_1_is0, if_neg c_1_is1, if_neg c_1_is2, if_pos c_1_is3]) rfl
  by_cases c_1_is4 : w = 4
  · -- 1 is 4
    refine lv_tableIn (tgt := 72) hx hb dX3_now_1 (by rw [c_1_is4]; decide) (by rw [c_1_is4]; decide) (by rw [c_1_is4]; rfl) (by decide) ?_
    refine lv_aload_n hx hb dX3_now_72 rfl (lv_at hl 0 rfl) ?_
    refine qGet (ci := 3) (v := .int (z 0 2)) (C := RX3) (T := TX3) (N := 7) hx hb hts hin3 hown hK hP 0 rfl rfl 6 (by decide) (hts (.fieldLink RX3 43 "PartCurves" "leadOhms" "I") (by decide +kernel)) rfl dX3_now_73 ?_
    exact qRi hx hb hr hlk hP hK hS dX3_now_76 (by unfold s_now; rw [if_neg c_1_is0, if_neg c_1_is1, if_neg c_1_is2, if_neg c_1_is3, if_pos c_1_is4]) rfl
  refine lv_tableOut (tgt := 77) hx hb dX3_now_1 (by have := ne_toInt c_1_is0 (k := 0) rfl; have := ne_toInt c_1_is1 (k := 1) rfl; have := ne_toInt c_1_is2 (k := 2) rfl; have := ne_toInt c_1_is3 (k := 3) rfl; have := ne_toInt c_1_is4 (k := 4) rfl; omega) (by decide) ?_
  refine lv_bipush (v := -2) hx hb dX3_now_77 (by decide) ?_
  exact qRi hx hb hr hlk hP hK hS dX3_now_79 (by unfold s_now; rw [if_neg c_1_is0, if_neg c_1_is1, if_neg c_1_is2, if_neg c_1_is3, if_neg c_1_is4]) rfl
set_option maxHeartbeats 4000000 in
set_option maxRecDepth 100000 in
theorem kX3_amps (l : Launch) (g : qG) {ad : Nat → Nat} (z : zS) (hj : adInj 15 ad) (n v : Int32) : qMi l yX3_amps wsX3_amps 3 g (WX g ad) (adOf 15 ad) z [.ref (ad 0), .int n, .int v] (s_amps z n v) z := by
  refine qStart (cc := cX3_amps) (maxL := 4) (ret := (some .int)) (plainFor_of_name (by decide)) rfl (Nat.le_of_ble_eq_true rfl) ?_
  intro p e s m args below meth c hx hb hml hown hts hr hlk hP hK ls hl
  have hl : lv_has ls 4 [(0, .ref (ad 0)), (1, .int n), (2, .int v)] := hl
  have hS : va_S (adOf 15 ad) s.heap s.heap [] := va_S.rf
  refine lv_aload_n hx hb dX3_amps_0 rfl (lv_at hl 0 rfl) ?_
  refine lv_iload_n hx hb dX3_amps_1 rfl (lv_at hl 1 rfl) ?_
  by_cases hp : pOk z n = true
  · -- it holds
    have hp4 := pOk_lt hp
    refine qVq (As := [.int n]) (rest := []) (vv := .ref (ad (10 + ix n))) hx hb hml hown hts (kX3_partAt_t l g z hj n hp) gX3_amps_X3_partAt rfl 1 hdX3_partAt rfl ⟨Nat.le_of_ble_eq_true rfl, Nat.le_of_ble_eq_true rfl⟩ ⟨Nat.zero_le _, Nat.zero_le _⟩ hK hP hS (fun _ h => h) 0 3 rfl rfl rfl hl.1 rfl (Nat.le_of_ble_eq_true rfl) rfl dX3_amps_2 (fun H locs hP hS => ?_)
    refine lv_astore_n (lv' := [(3, .ref (ad (10 + ix n))), (0, .ref (ad 0)), (1, .int n), (2, .int v)]) hx hb dX3_amps_5 rfl hl (by decide) rfl (fun ls hl => ?_)
    refine lv_aload_n hx hb dX3_amps_6 rfl (lv_at hl 0 rfl) ?_
    refine lv_ifnonnull (tgt := 12) hx hb dX3_amps_7 (by decide) ?_
    refine lv_iload_n hx hb dX3_amps_12 rfl (lv_at hl 3 rfl) ?_
    refine qSi (As := [.int v]) (rest := []) hx hb hml hown hts (kX3_isVolts l g (Wd := (WX g ad)) (A := (adOf 15 ad)) z v) gX3_amps_X3_isVolts rfl 1 hdX3_isVolts rfl ⟨Nat.le_of_ble_eq_true rfl, Nat.le_of_ble_eq_true rfl⟩ ⟨Nat.zero_le _, Nat.zero_le _⟩ hK hP hS (fun _ h => h) hl.1 rfl (Nat.le_of_ble_eq_true rfl) dX3_amps_13 (fun H locs hP hS => ?_)
    refine lv_if_eq (tgt := 30) hx hb dX3_amps_16 (by decide) (fun c_16 => ?_) (fun c_16 => ?_)
    · -- 16 taken
      have c_16 := bI_0 c_16
      refine lv_bipush (v := -2) hx hb dX3_amps_30 (by decide) ?_
      exact qRi hx hb hr hlk hP hK hS dX3_amps_32 (by unfold s_amps; rw [if_pos hp, if_neg (bn c_16)]) rfl
    · -- 16 not taken
      have c_16 := bI_n c_16
      refine lv_aload_n hx hb dX3_amps_19 rfl (lv_at hl 0 rfl) ?_
      refine lv_iload_n hx hb dX3_amps_20 rfl (lv_at hl 3 rfl) ?_
      refine qVi (As := [.int v]) (rest := []) hx hb hml hown hts (kX1_ownAmps l g z hj hp4 v) gX3_amps_X1_ownAmps rfl 1 hdX1_ownAmps rfl ⟨Nat.le_of_ble_eq_true rfl, Nat.le_of_ble_eq_true rfl⟩ ⟨Nat.zero_le _, Nat.zero_le _⟩ hK hP hS (fun _ h => h) (10 + ix n) 1 rfl rfl (WX_p g ad z hp4) hl.1 rfl (Nat.le_of_ble_eq_true rfl) dX3_amps_21 (fun H locs hP hS => ?_)
      refine lv_ldc (v := 50000) hx hb hown (hts (.constant RX3 110 (50000)) (by decide +kernel)) dX3_amps_24 ?_
      refine lv_iadd hx hb dX3_amps_26 ?_
      refine lv_goto (tgt := 32) hx hb dX3_amps_27 (by decide) ?_
      exact qRi hx hb hr hlk hP hK hS dX3_amps_32 (by unfold s_amps; rw [if_pos hp, if_pos c_16]) rfl
  · -- it doesn't
    refine qVq (As := [.int n]) (rest := []) (vv := .null) hx hb hml hown hts (kX3_partAt_f l g z hj n hp) gX3_amps_X3_partAt rfl 1 hdX3_partAt rfl ⟨Nat.le_of_ble_eq_true rfl, Nat.le_of_ble_eq_true rfl⟩ ⟨Nat.zero_le _, Nat.zero_le _⟩ hK hP hS (fun _ h => h) 0 3 rfl rfl rfl hl.1 rfl (Nat.le_of_ble_eq_true rfl) rfl dX3_amps_2 (fun H locs hP hS => ?_)
    refine lv_astore_nN (lv' := [(3, .null), (0, .ref (ad 0)), (1, .int n), (2, .int v)]) hx hb dX3_amps_5 rfl hl (by decide) rfl (fun ls hl => ?_)
    refine lv_aload_nN hx hb dX3_amps_6 rfl (lv_at hl 0 rfl) ?_
    refine lv_ifnonnullN hx hb dX3_amps_7 ?_
    refine lv_iconst (v := -1) hx hb dX3_amps_10 rfl ?_
    exact qRi hx hb hr hlk hP hK hS dX3_amps_11 (by unfold s_amps; rw [if_neg hp]) rfl
set_option maxHeartbeats 4000000 in
set_option maxRecDepth 100000 in
theorem kX3_would (l : Launch) (g : qG) {ad : Nat → Nat} (z : zS) (hj : adInj 15 ad) (hI : qInv z) (v w : Int32) : qMi l yX3_would wsX3_would 6 g (WX g ad) (adOf 15 ad) z [.ref (ad 0), .int v, .int w] (s_would z v w) z := by
  refine qStart (cc := cX3_would) (maxL := 5) (ret := (some .int)) (plainFor_of_name (by decide)) rfl (Nat.le_of_ble_eq_true rfl) ?_
  intro p e s m args below meth c hx hb hml hown hts hr hlk hP hK ls hl
  have hl : lv_has ls 5 [(0, .ref (ad 0)), (1, .int v), (2, .int w)] := hl
  have hS : va_S (adOf 15 ad) s.heap s.heap [] := va_S.rf
  refine lv_iload_n hx hb dX3_would_0 rfl (lv_at hl 1 rfl) ?_
  refine qSi (As := [.int v]) (rest := []) hx hb hml hown hts (kX3_isVolts l g (Wd := (WX g ad)) (A := (adOf 15 ad)) z v) gX3_would_X3_isVolts rfl 1 hdX3_isVolts rfl ⟨Nat.le_of_ble_eq_true rfl, Nat.le_of_ble_eq_true rfl⟩ ⟨Nat.zero_le _, Nat.zero_le _⟩ hK hP hS (fun _ h => h) hl.1 rfl (Nat.le_of_ble_eq_true rfl) dX3_would_1 (fun H locs hP hS => ?_)
  refine lv_if_eq (tgt := 16) hx hb dX3_would_4 (by decide) (fun c_4 => ?_) (fun c_4 => ?_)
  · -- 4 taken
    have c_4 := bI_0 c_4
    refine lv_bipush (v := -2) hx hb dX3_would_16 (by decide) ?_
    exact qRi hx hb hr hlk hP hK hS dX3_would_18 (by unfold s_would; rw [if_neg (fun h => absurd h.1 (bn c_4))]) rfl
  · -- 4 not taken
    have c_4 := bI_n c_4
    refine lv_iload_n hx hb dX3_would_7 rfl (lv_at hl 2 rfl) ?_
    refine lv_iconst (v := 0) hx hb dX3_would_8 rfl ?_
    refine lv_iconst (v := 2) hx hb dX3_would_9 rfl ?_
    refine qSi (As := [.int w, .int 0, .int 2]) (rest := []) hx hb hml hown hts (kX3_within l g (Wd := (WX g ad)) (A := (adOf 15 ad)) z w 0 2) gX3_would_X3_within rfl 3 hdX3_within rfl ⟨Nat.le_of_ble_eq_true rfl, Nat.le_of_ble_eq_true rfl⟩ ⟨Nat.zero_le _, Nat.zero_le _⟩ hK hP hS (fun _ h => h) hl.1 rfl (Nat.le_of_ble_eq_true rfl) dX3_would_10 (fun H locs hP hS => ?_)
    refine lv_if_ne (tgt := 19) hx hb dX3_would_13 (by decide) (fun c_13 => ?_) (fun c_13 => ?_)
    · -- 13 taken
      have c_13 := bI_n c_13
      refine lv_aload_n hx hb dX3_would_19 rfl (lv_at hl 0 rfl) ?_
      refine lv_aload_n hx hb dX3_would_20 rfl (lv_at hl 0 rfl) ?_
      refine qVi (As := []) (rest := [.ref (ad 0)]) hx hb hml hown hts (kX3_inHand l g z hj) gX3_would_X3_inHand rfl 0 hdX3_inHand rfl ⟨Nat.le_of_ble_eq_true rfl, Nat.le_of_ble_eq_true rfl⟩ ⟨Nat.zero_le _, Nat.zero_le _⟩ hK hP hS (fun _ h => h) 0 3 rfl rfl rfl hl.1 rfl (Nat.le_of_ble_eq_true rfl) dX3_would_21 (fun H locs hP hS => ?_)
      by_cases hp : pOk z (inH z) = true
      · -- it holds
        have hp4 := pOk_lt hp
        refine qVq (As := [.int (inH z)]) (rest := []) (vv := .ref (ad (10 + ix (inH z)))) hx hb hml hown hts (kX3_partAt_t l g z hj (inH z) hp) gX3_would_X3_partAt rfl 1 hdX3_partAt rfl ⟨Nat.le_of_ble_eq_true rfl, Nat.le_of_ble_eq_true rfl⟩ ⟨Nat.zero_le _, Nat.zero_le _⟩ hK hP hS (fun _ h => h) 0 3 rfl rfl rfl hl.1 rfl (Nat.le_of_ble_eq_true rfl) rfl dX3_would_24 (fun H locs hP hS => ?_)
        refine lv_astore_n (lv' := [(3, .ref (ad (10 + ix (inH z)))), (0, .ref (ad 0)), (1, .int v), (2, .int w)]) hx hb dX3_would_27 rfl hl (by decide) rfl (fun ls hl => ?_)
        refine lv_aload_n hx hb dX3_would_28 rfl (lv_at hl 0 rfl) ?_
        refine lv_ifnonnull (tgt := 35) hx hb dX3_would_29 (by decide) ?_
        refine lv_aload_n hx hb dX3_would_35 rfl (lv_at hl 1 rfl) ?_
        refine lv_aload_n hx hb dX3_would_36 rfl (lv_at hl 0 rfl) ?_
        refine lv_iload_n hx hb dX3_would_37 rfl (lv_at hl 2 rfl) ?_
        refine qVi (As := [.ref (ad (10 + ix (inH z))), .int v]) (rest := []) hx hb hml hown hts (kX3_farthest l g z hj hI hp4 v c_4) gX3_would_X3_farthest rfl 2 hdX3_farthest rfl ⟨Nat.le_of_ble_eq_true rfl, Nat.le_of_ble_eq_true rfl⟩ ⟨Nat.zero_le _, Nat.zero_le _⟩ hK hP hS (fun _ h => h) 0 3 rfl rfl rfl hl.1 rfl (Nat.le_of_ble_eq_true rfl) dX3_would_38 (fun H locs hP hS => ?_)
        refine lv_istore (lv' := [(4, .int (uF z (10 + ix (inH z)) v)), (3, .ref (ad (10 + ix (inH z)))), (0, .ref (ad 0)), (1, .int v), (2, .int w)]) hx hb dX3_would_41 hl (by decide) rfl (fun ls hl => ?_)
        refine lv_iload_n hx hb dX3_would_43 rfl (lv_at hl 4 rfl) ?_
        by_cases c_44_is0 : w = 0
        · -- 44 is 0
          refine lv_lookup (tgt := 72) hx hb dX3_would_44 (by decide) (by rw [c_44_is0] <;> rfl) (by decide) ?_
          refine lv_iload hx hb dX3_would_72 (lv_at hl 0 rfl) ?_
          refine lv_sipush (v := 10000) hx hb dX3_would_74 (by decide) ?_
          refine lv_iadd hx hb dX3_would_77 ?_
          exact qRi hx hb hr hlk hP hK hS dX3_would_78 (by unfold s_would; rw [if_pos ⟨c_4, c_13⟩, if_neg (inH_pOk hp), if_pos c_44_is0]) rfl
        by_cases c_44_is1 : w = 1
        · -- 44 is 1
          refine lv_lookup (tgt := 79) hx hb dX3_would_44 (by decide) (by rw [c_44_is1] <;> rfl) (by decide) ?_
          refine lv_aload_n hx hb dX3_would_79 rfl (lv_at hl 2 rfl) ?_
          refine lv_aload_n hx hb dX3_would_80 rfl (lv_at hl 1 rfl) ?_
          refine lv_iload hx hb dX3_would_81 (lv_at hl 0 rfl) ?_
          refine qVi (As := [.ref (ad (10 + ix (inH z))), .int (uF z (10 + ix (inH z)) v)]) (rest := []) hx hb hml hown hts (kX3_ampsAt l g z hj hp4 (uF z (10 + ix (inH z)) v)) gX3_would_X3_ampsAt rfl 2 hdX3_ampsAt rfl ⟨Nat.le_of_ble_eq_true rfl, Nat.le_of_ble_eq_true rfl⟩ ⟨Nat.zero_le _, Nat.zero_le _⟩ hK hP hS (fun _ h => h) 0 3 rfl rfl rfl hl.1 rfl (Nat.le_of_ble_eq_true rfl) dX3_would_83 (fun H locs hP hS => ?_)
          refine lv_ldc (v := 50000) hx hb hown (hts (.constant RX3 110 (50000)) (by decide +kernel)) dX3_would_86 ?_
          refine lv_iadd hx hb dX3_would_88 ?_
          exact qRi hx hb hr hlk hP hK hS dX3_would_89 (by unfold s_would; rw [if_pos ⟨c_4, c_13⟩, if_neg (inH_pOk hp), if_neg c_44_is0, if_pos c_44_is1]) rfl
        refine lv_lookup (off := 46) (tgt := 90) hx hb dX3_would_44 (by decide) (by have h0 := ne_toInt c_44_is0 (k := 0) rfl; have h1 := ne_toInt c_44_is1 (k := 1) rfl; show (if (0 : Int) = (w).toInt then (28 : Int) else if (1 : Int) = (w).toInt then (35 : Int) else (46 : Int)) = 46; rw [if_neg (fun q => h0 q.symm), if_neg (fun q => h1 q.symm)]) (by decide) ?_
        refine lv_aload_n hx hb dX3_would_90 rfl (lv_at hl 2 rfl) ?_
        refine lv_aload_n hx hb dX3_would_91 rfl (lv_at hl 1 rfl) ?_
        refine lv_iload hx hb dX3_would_92 (lv_at hl 0 rfl) ?_
        refine lv_iload_n hx hb dX3_would_94 rfl (lv_at hl 3 rfl) ?_
        refine qVi (As := [.ref (ad (10 + ix (inH z))), .int (uF z (10 + ix (inH z)) v), .int v]) (rest := []) hx hb hml hown hts (kX3_ruleAt l g z hj hp4 (uF z (10 + ix (inH z)) v) v) gX3_would_X3_ruleAt rfl 3 hdX3_ruleAt rfl ⟨Nat.le_of_ble_eq_true rfl, Nat.le_of_ble_eq_true rfl⟩ ⟨Nat.zero_le _, Nat.zero_le _⟩ hK hP hS (fun _ h => h) 0 3 rfl rfl rfl hl.1 rfl (Nat.le_of_ble_eq_true rfl) dX3_would_95 (fun H locs hP hS => ?_)
        exact qRi hx hb hr hlk hP hK hS dX3_would_98 (by unfold s_would; rw [if_pos ⟨c_4, c_13⟩, if_neg (inH_pOk hp), if_neg c_44_is0, if_neg c_44_is1]) rfl
      · -- it doesn't
        refine qVq (As := [.int (inH z)]) (rest := []) (vv := .null) hx hb hml hown hts (kX3_partAt_f l g z hj (inH z) hp) gX3_would_X3_partAt rfl 1 hdX3_partAt rfl ⟨Nat.le_of_ble_eq_true rfl, Nat.le_of_ble_eq_true rfl⟩ ⟨Nat.zero_le _, Nat.zero_le _⟩ hK hP hS (fun _ h => h) 0 3 rfl rfl rfl hl.1 rfl (Nat.le_of_ble_eq_true rfl) rfl dX3_would_24 (fun H locs hP hS => ?_)
        refine lv_astore_nN (lv' := [(3, .null), (0, .ref (ad 0)), (1, .int v), (2, .int w)]) hx hb dX3_would_27 rfl hl (by decide) rfl (fun ls hl => ?_)
        refine lv_aload_nN hx hb dX3_would_28 rfl (lv_at hl 0 rfl) ?_
        refine lv_ifnonnullN hx hb dX3_would_29 ?_
        refine lv_bipush (v := -3) hx hb dX3_would_32 (by decide) ?_
        exact qRi hx hb hr hlk hP hK hS dX3_would_34 (by unfold s_would; rw [if_pos ⟨c_4, c_13⟩, if_pos (Classical.not_not.mp (fun q => hp (pOk_inH q)))]) rfl
    · -- 13 not taken
      have c_13 := bI_0 c_13
      refine lv_bipush (v := -2) hx hb dX3_would_16 (by decide) ?_
      exact qRi hx hb hr hlk hP hK hS dX3_would_18 (by unfold s_would; rw [if_neg (fun h => absurd h.2 (bn c_13))]) rfl
set_option maxHeartbeats 4000000 in
set_option maxRecDepth 100000 in
theorem kX3_pulse (l : Launch) (g : qG) {ad : Nat → Nat} (z : zS) (hj : adInj 15 ad) (hI : qInv z) (v w : Int32) : qMi l yX3_pulse wsX3_pulse 7 g (WX g ad) (adOf 15 ad) z [.ref (ad 0), .int v, .int w] ((s_pulse z v w).1) ((s_pulse z v w).2) := by
  refine qStart (cc := cX3_pulse) (maxL := 6) (ret := (some .int)) (plainFor_of_name (by decide)) rfl (Nat.le_of_ble_eq_true rfl) ?_
  intro p e s m args below meth c hx hb hml hown hts hr hlk hP hK ls hl
  have hl : lv_has ls 6 [(0, .ref (ad 0)), (1, .int v), (2, .int w)] := hl
  have hS : va_S (adOf 15 ad) s.heap s.heap [] := va_S.rf
  have hin2 : ∀ w ∈ u_ws RX2 TX2 5, w ∈ wsX3_pulse := by decide +kernel
  have hin3 : ∀ w ∈ u_ws RX3 TX3 7, w ∈ wsX3_pulse := by decide +kernel
  refine lv_iload_n hx hb dX3_pulse_0 rfl (lv_at hl 1 rfl) ?_
  refine qSi (As := [.int v]) (rest := []) hx hb hml hown hts (kX3_isVolts l g (Wd := (WX g ad)) (A := (adOf 15 ad)) z v) gX3_pulse_X3_isVolts rfl 1 hdX3_isVolts rfl ⟨Nat.le_of_ble_eq_true rfl, Nat.le_of_ble_eq_true rfl⟩ ⟨Nat.zero_le _, Nat.zero_le _⟩ hK hP hS (fun _ h => h) hl.1 rfl (Nat.le_of_ble_eq_true rfl) dX3_pulse_1 (fun H locs hP hS => ?_)
  refine lv_if_eq (tgt := 17) hx hb dX3_pulse_4 (by decide) (fun c_4 => ?_) (fun c_4 => ?_)
  · -- 4 taken
    have c_4 := bI_0 c_4
    refine lv_bipush (v := -2) hx hb dX3_pulse_17 (by decide) ?_
    exact qRi hx hb hr hlk hP hK hS dX3_pulse_19 (by unfold s_pulse; rw [if_neg (fun h => absurd h.1 (bn c_4))]) (by unfold s_pulse; rw [if_neg (fun h => absurd h.1 (bn c_4))])
  · -- 4 not taken
    have c_4 := bI_n c_4
    refine lv_iload_n hx hb dX3_pulse_7 rfl (lv_at hl 2 rfl) ?_
    refine lv_iconst (v := 1) hx hb dX3_pulse_8 rfl ?_
    refine lv_bipush (v := 50) hx hb dX3_pulse_9 (by decide) ?_
    refine qSi (As := [.int w, .int 1, .int 50]) (rest := []) hx hb hml hown hts (kX3_within l g (Wd := (WX g ad)) (A := (adOf 15 ad)) z w 1 50) gX3_pulse_X3_within rfl 3 hdX3_within rfl ⟨Nat.le_of_ble_eq_true rfl, Nat.le_of_ble_eq_true rfl⟩ ⟨Nat.zero_le _, Nat.zero_le _⟩ hK hP hS (fun _ h => h) hl.1 rfl (Nat.le_of_ble_eq_true rfl) dX3_pulse_11 (fun H locs hP hS => ?_)
    refine lv_if_ne (tgt := 20) hx hb dX3_pulse_14 (by decide) (fun c_14 => ?_) (fun c_14 => ?_)
    · -- 14 taken
      have c_14 := bI_n c_14
      refine lv_aload_n hx hb dX3_pulse_20 rfl (lv_at hl 0 rfl) ?_
      refine qVi (As := []) (rest := []) hx hb hml hown hts (kX3_inHand l g z hj) gX3_pulse_X3_inHand rfl 0 hdX3_inHand rfl ⟨Nat.le_of_ble_eq_true rfl, Nat.le_of_ble_eq_true rfl⟩ ⟨Nat.zero_le _, Nat.zero_le _⟩ hK hP hS (fun _ h => h) 0 3 rfl rfl rfl hl.1 rfl (Nat.le_of_ble_eq_true rfl) dX3_pulse_21 (fun H locs hP hS => ?_)
      refine lv_istore_n (lv' := [(3, .int (inH z)), (0, .ref (ad 0)), (1, .int v), (2, .int w)]) hx hb dX3_pulse_24 rfl hl (by decide) rfl (fun ls hl => ?_)
      refine lv_aload_n hx hb dX3_pulse_25 rfl (lv_at hl 1 rfl) ?_
      refine lv_iload_n hx hb dX3_pulse_26 rfl (lv_at hl 0 rfl) ?_
      by_cases hp : pOk z (inH z) = true
      · -- it holds
        have hp4 := pOk_lt hp
        refine qVq (As := [.int (inH z)]) (rest := []) (vv := .ref (ad (10 + ix (inH z)))) hx hb hml hown hts (kX3_partAt_t l g z hj (inH z) hp) gX3_pulse_X3_partAt rfl 1 hdX3_partAt rfl ⟨Nat.le_of_ble_eq_true rfl, Nat.le_of_ble_eq_true rfl⟩ ⟨Nat.zero_le _, Nat.zero_le _⟩ hK hP hS (fun _ h => h) 0 3 rfl rfl rfl hl.1 rfl (Nat.le_of_ble_eq_true rfl) rfl dX3_pulse_27 (fun H locs hP hS => ?_)
        refine lv_astore (lv' := [(4, .ref (ad (10 + ix (inH z)))), (3, .int (inH z)), (0, .ref (ad 0)), (1, .int v), (2, .int w)]) hx hb dX3_pulse_30 hl (by decide) rfl (fun ls hl => ?_)
        refine lv_aload_n hx hb dX3_pulse_32 rfl (lv_at hl 2 rfl) ?_
        refine qGet (ci := 3) (v := .int (z 0 0)) (C := RX3) (T := TX3) (N := 7) hx hb hts hin3 hown hK hP 0 rfl rfl 4 (by decide) (hts (.fieldLink RX3 35 "PartCurves" "powerOn" "Z") (by decide +kernel)) rfl dX3_pulse_33 ?_
        refine lv_if_eq (tgt := 44) hx hb dX3_pulse_36 (by decide) (fun c_36 => ?_) (fun c_36 => ?_)
        · -- 36 taken
          refine lv_bipush (v := -3) hx hb dX3_pulse_44 (by decide) ?_
          exact qRi hx hb hr hlk hP hK hS dX3_pulse_46 (by unfold s_pulse; rw [if_pos ⟨c_4, c_14⟩, if_pos c_36]) (by unfold s_pulse; rw [if_pos ⟨c_4, c_14⟩, if_pos c_36])
        · -- 36 not taken
          refine lv_aload hx hb dX3_pulse_39 (lv_at hl 0 rfl) ?_
          refine lv_ifnonnull (tgt := 47) hx hb dX3_pulse_41 (by decide) ?_
          refine lv_aload_n hx hb dX3_pulse_47 rfl (lv_at hl 2 rfl) ?_
          refine qGet (ci := 3) (v := .ref (ad 9)) (C := RX3) (T := TX3) (N := 7) hx hb hts hin3 hown hK hP 0 rfl rfl 2 (by decide) (hts (.fieldLink RX3 24 "PartCurves" "readings" "LPartCurves$Readings;") (by decide +kernel)) rfl dX3_pulse_48 ?_
          refine qVi (As := []) (rest := []) hx hb hml hown hts (kX2_room l g z hj) gX3_pulse_X2_room rfl 0 hdX2_room rfl ⟨Nat.le_of_ble_eq_true rfl, Nat.le_of_ble_eq_true rfl⟩ ⟨Nat.zero_le _, Nat.zero_le _⟩ hK hP hS (fun _ h => h) 9 2 rfl rfl rfl hl.1 rfl (Nat.le_of_ble_eq_true rfl) dX3_pulse_51 (fun H locs hP hS => ?_)
          refine lv_iconst (v := 1) hx hb dX3_pulse_54 rfl ?_
          refine lv_icmp_ge (tgt := 61) hx hb dX3_pulse_55 (by decide) (fun c_55 => ?_) (fun c_55 => ?_)
          · -- 55 taken
            have c_55n := i_le_t c_55
            have hnf := (rm_1 _ (inv_rc hI)).mp c_55
            have hnf2 : ¬ zu z 0 4 0 0 3 = 60 := by rw [zu_col z 0 4 0 3 0 (by omega)]; exact hnf
            refine lv_aload_n hx hb dX3_pulse_61 rfl (lv_at hl 2 rfl) ?_
            refine qGet (ci := 3) (v := .ref (ad 14)) (C := RX3) (T := TX3) (N := 7) hx hb hts hin3 hown hK hP 0 rfl rfl 3 (by decide) (hts (.fieldLink RX3 31 "PartCurves" "causes" "LPartCurves$Causes;") (by decide +kernel)) rfl dX3_pulse_62 ?_
            refine qVv (As := []) (rest := []) hx hb hml hown hts (kX0_clearAll l g z hj) gX3_pulse_X0_clearAll rfl 0 hdX0_clearAll rfl ⟨Nat.le_of_ble_eq_true rfl, Nat.le_of_ble_eq_true rfl⟩ ⟨Nat.zero_le _, Nat.zero_le _⟩ hK hP hS (fun _ h => h) 14 0 rfl rfl rfl hl.1 rfl (Nat.le_of_ble_eq_true rfl) dX3_pulse_65 (fun H locs hP hS => ?_)
            refine lv_aload_n hx hb dX3_pulse_68 rfl (lv_at hl 2 rfl) ?_
            refine lv_aload hx hb dX3_pulse_69 (lv_at hl 0 rfl) ?_
            refine lv_iload_n hx hb dX3_pulse_71 rfl (lv_at hl 3 rfl) ?_
            refine lv_iload_n hx hb dX3_pulse_72 rfl (lv_at hl 4 rfl) ?_
            refine qVi (As := [.ref (ad (10 + ix (inH z))), .int v, .int w]) (rest := []) hx hb hml hown hts (kX3_readPulse l g (zu z 0 4 0) hj (inv_cc0 hI) hp4 v w c_4 hnf2) gX3_pulse_X3_readPulse rfl 3 hdX3_readPulse rfl ⟨Nat.le_of_ble_eq_true rfl, Nat.le_of_ble_eq_true rfl⟩ ⟨Nat.zero_le _, Nat.zero_le _⟩ hK hP hS (fun _ h => h) 0 3 rfl rfl rfl hl.1 rfl (Nat.le_of_ble_eq_true rfl) dX3_pulse_73 (fun H locs hP hS => ?_)
            refine lv_istore (lv' := [(5, .int ((pulS (zu z 0 4 0) (10 + ix (inH z)) v w).1)), (4, .ref (ad (10 + ix (inH z)))), (3, .int (inH z)), (0, .ref (ad 0)), (1, .int v), (2, .int w)]) hx hb dX3_pulse_76 hl (by decide) rfl (fun ls hl => ?_)
            refine lv_iload hx hb dX3_pulse_78 (lv_at hl 0 rfl) ?_
            refine lv_if_le (tgt := 90) hx hb dX3_pulse_80 (by decide) (fun c_80 => ?_) (fun c_80 => ?_)
            · -- 80 taken
              have c_80n := i_le_t c_80
              refine lv_aload_n hx hb dX3_pulse_90 rfl (lv_at hl 3 rfl) ?_
              refine qGet (ci := 3) (v := .ref (ad 9)) (C := RX3) (T := TX3) (N := 7) hx hb hts hin3 hown hK hP 0 rfl rfl 2 (by decide) (hts (.fieldLink RX3 24 "PartCurves" "readings" "LPartCurves$Readings;") (by decide +kernel)) (by simp [pF, zu, upd]) dX3_pulse_91 ?_
              refine qGet (ci := 2) (v := .int (((pulS (zu z 0 4 0) (10 + ix (inH z)) v w).2) 0 3)) (C := RX2) (T := TX2) (N := 5) hx hb hts hin2 hown hK hP 9 rfl rfl 4 (by decide) (hts (.fieldLink RX3 134 "PartCurves$Readings" "count" "I") (by decide +kernel)) (by simp [pF, zu, upd]) dX3_pulse_94 ?_
              exact qRi hx hb hr hlk hP hK hS dX3_pulse_97 (by unfold s_pulse; rw [if_pos ⟨c_4, c_14⟩, if_neg c_36, if_neg hnf, if_neg c_80n]) (by unfold s_pulse; rw [if_pos ⟨c_4, c_14⟩, if_neg c_36, if_neg hnf, if_neg c_80n])
            · -- 80 not taken
              have c_80n := i_le_f c_80
              have hIq := inv_pulS (inv_cc0 hI) hp4 c_4 c_14 hnf2
              refine lv_aload_n hx hb dX3_pulse_83 rfl (lv_at hl 3 rfl) ?_
              refine lv_iload_n hx hb dX3_pulse_84 rfl (lv_at hl 2 rfl) ?_
              refine lv_iload hx hb dX3_pulse_85 (lv_at hl 0 rfl) ?_
              refine qVv (As := [.int (inH z), .int ((pulS (zu z 0 4 0) (10 + ix (inH z)) v w).1)]) (rest := []) hx hb hml hown hts (kX3_tellBurnt l g ((pulS (zu z 0 4 0) (10 + ix (inH z)) v w).2) hj (inH z) ((pulS (zu z 0 4 0) (10 + ix (inH z)) v w).1) hIq.2.2.2.2.1) gX3_pulse_X3_tellBurnt rfl 2 hdX3_tellBurnt rfl ⟨Nat.le_of_ble_eq_true rfl, Nat.le_of_ble_eq_true rfl⟩ ⟨Nat.zero_le _, Nat.zero_le _⟩ hK hP hS (fun _ h => h) 0 3 rfl rfl rfl hl.1 rfl (Nat.le_of_ble_eq_true rfl) dX3_pulse_87 (fun H locs hP hS => ?_)
              refine lv_aload_n hx hb dX3_pulse_90 rfl (lv_at hl 3 rfl) ?_
              refine qGet (ci := 3) (v := .ref (ad 9)) (C := RX3) (T := TX3) (N := 7) hx hb hts hin3 hown hK hP 0 rfl rfl 2 (by decide) (hts (.fieldLink RX3 24 "PartCurves" "readings" "LPartCurves$Readings;") (by decide +kernel)) (by simp [pF, zu, upd]) dX3_pulse_91 ?_
              refine qGet (ci := 2) (v := .int ((tellS ((pulS (zu z 0 4 0) (10 + ix (inH z)) v w).2) (inH z) ((pulS (zu z 0 4 0) (10 + ix (inH z)) v w).1)) 0 3)) (C := RX2) (T := TX2) (N := 5) hx hb hts hin2 hown hK hP 9 rfl rfl 4 (by decide) (hts (.fieldLink RX3 134 "PartCurves$Readings" "count" "I") (by decide +kernel)) (by simp [pF, zu, upd]) dX3_pulse_94 ?_
              exact qRi hx hb hr hlk hP hK hS dX3_pulse_97 (by unfold s_pulse; rw [if_pos ⟨c_4, c_14⟩, if_neg c_36, if_neg hnf, if_pos c_80n]) (by unfold s_pulse; rw [if_pos ⟨c_4, c_14⟩, if_neg c_36, if_neg hnf, if_pos c_80n])
          · -- 55 not taken
            have c_55n := i_le_f c_55
            refine lv_bipush (v := -4) hx hb dX3_pulse_58 (by decide) ?_
            exact qRi hx hb hr hlk hP hK hS dX3_pulse_60 (by unfold s_pulse; rw [if_pos ⟨c_4, c_14⟩, if_neg c_36, if_pos (Classical.not_not.mp (fun q => c_55 ((rm_1 _ (inv_rc hI)).mpr q)))]) (by unfold s_pulse; rw [if_pos ⟨c_4, c_14⟩, if_neg c_36, if_pos (Classical.not_not.mp (fun q => c_55 ((rm_1 _ (inv_rc hI)).mpr q)))])
      · -- it doesn't
        refine qVq (As := [.int (inH z)]) (rest := []) (vv := .null) hx hb hml hown hts (kX3_partAt_f l g z hj (inH z) hp) gX3_pulse_X3_partAt rfl 1 hdX3_partAt rfl ⟨Nat.le_of_ble_eq_true rfl, Nat.le_of_ble_eq_true rfl⟩ ⟨Nat.zero_le _, Nat.zero_le _⟩ hK hP hS (fun _ h => h) 0 3 rfl rfl rfl hl.1 rfl (Nat.le_of_ble_eq_true rfl) rfl dX3_pulse_27 (fun H locs hP hS => ?_)
        refine lv_astoreN (lv' := [(4, .null), (3, .int (inH z)), (0, .ref (ad 0)), (1, .int v), (2, .int w)]) hx hb dX3_pulse_30 hl (by decide) rfl (fun ls hl => ?_)
        refine lv_aload_n hx hb dX3_pulse_32 rfl (lv_at hl 2 rfl) ?_
        refine qGet (ci := 3) (v := .int (z 0 0)) (C := RX3) (T := TX3) (N := 7) hx hb hts hin3 hown hK hP 0 rfl rfl 4 (by decide) (hts (.fieldLink RX3 35 "PartCurves" "powerOn" "Z") (by decide +kernel)) rfl dX3_pulse_33 ?_
        refine lv_if_eq (tgt := 44) hx hb dX3_pulse_36 (by decide) (fun c_36 => ?_) (fun c_36 => ?_)
        · -- 36 taken
          refine lv_bipush (v := -3) hx hb dX3_pulse_44 (by decide) ?_
          exact qRi hx hb hr hlk hP hK hS dX3_pulse_46 (by unfold s_pulse; rw [if_pos ⟨c_4, c_14⟩, if_pos c_36]) (by unfold s_pulse; rw [if_pos ⟨c_4, c_14⟩, if_pos c_36])
        · -- 36 not taken
          exact absurd (pOk_inH (hI.2.2.2.2.2.2.2 c_36)) hp
    · -- 14 not taken
      have c_14 := bI_0 c_14
      refine lv_bipush (v := -2) hx hb dX3_pulse_17 (by decide) ?_
      exact qRi hx hb hr hlk hP hK hS dX3_pulse_19 (by unfold s_pulse; rw [if_neg (fun h => absurd h.2 (bn c_14))]) (by unfold s_pulse; rw [if_neg (fun h => absurd h.2 (bn c_14))])
set_option maxHeartbeats 4000000 in
set_option maxRecDepth 100000 in
theorem kX3_rest (l : Launch) (g : qG) {ad : Nat → Nat} (z : zS) (hj : adInj 15 ad) (n : Int32) : qMi l yX3_rest wsX3_rest 2 g (WX g ad) (adOf 15 ad) z [.ref (ad 0), .int n] ((s_rest z n).1) ((s_rest z n).2) := by
  refine qStart (cc := cX3_rest) (maxL := 4) (ret := (some .int)) (plainFor_of_name (by decide)) rfl (Nat.le_of_ble_eq_true rfl) ?_
  intro p e s m args below meth c hx hb hml hown hts hr hlk hP hK ls hl
  have hl : lv_has ls 4 [(0, .ref (ad 0)), (1, .int n)] := hl
  have hS : va_S (adOf 15 ad) s.heap s.heap [] := va_S.rf
  have hin1 : ∀ w ∈ u_ws RX1 TX1 12, w ∈ wsX3_rest := by decide +kernel
  have hin3 : ∀ w ∈ u_ws RX3 TX3 7, w ∈ wsX3_rest := by decide +kernel
  have loop : ∀ (k : Nat) (j : Nat) (t : Int32), inR n 0 100 = true → j + k = 4 → mxR (coolA z (ix n)) k j t = mxR (coolA z (ix n)) 4 0 0 → ∀ (H : Heap) (locs : List Loc), va_P g.1 vwCl ((WX g ad) (coolA z (ix n))) H → va_S (adOf 15 ad) s.heap H locs → ∀ ls : Array Slot, lv_has ls 4 [(0, .ref (ad 0)), (1, .int n), (2, .int t), (3, .int (nI j))] → W p l e (rmL 2) s m args below meth c H locs 0 0 (MQ below (va_Qi (fun q9 u9 => q9 = (s_rest z n).1 ∧ u9 = (s_rest z n).2) (qU g (WX g ad)) (adOf 15 ad)) args s 0 0 (adOf 15 ad)) (F0 m 22 ls []) := by
    intro k
    induction k with
    | zero =>
      intro j t hin hj2 hz H locs hP hS ls hl
      refine lv_iload_n hx hb dX3_rest_22 rfl (lv_at hl 3 rfl) ?_
      refine lv_aload_n hx hb dX3_rest_23 rfl (lv_at hl 0 rfl) ?_
      refine qGet (ci := 3) (v := .ref (ad 8)) (C := RX3) (T := TX3) (N := 7) hx hb hts hin3 hown hK hP 0 rfl rfl 0 (by decide) (hts (.fieldLink RX3 13 "PartCurves" "parts" "[LPartCurves$Part;") (by decide +kernel)) rfl dX3_rest_24 ?_
      refine qAlen (v := 4) hx hb hK hP 8 2 rfl rfl rfl dX3_rest_27 ?_
      refine lv_icmp_ge (tgt := 63) hx hb dX3_rest_28 (by decide) (fun c_28 => ?_) (fun c_28 => ?_)
      · -- 28 taken
        have c_28n := i_le_t c_28
        refine lv_iload_n hx hb dX3_rest_63 rfl (lv_at hl 2 rfl) ?_
        exact qRi hx hb hr hlk hP hK hS dX3_rest_64 (by unfold s_rest; rw [if_pos hin]; exact hz) (by unfold s_rest; rw [if_pos hin])
      · -- 28 not taken
        have c_28n := i_le_f c_28
        exact absurd (nI_lt' (b := 4) (by omega) (by omega) c_28) (by omega)
    | succ k ih =>
      intro j t hin hj2 hz H locs hP hS ls hl
      refine lv_iload_n hx hb dX3_rest_22 rfl (lv_at hl 3 rfl) ?_
      refine lv_aload_n hx hb dX3_rest_23 rfl (lv_at hl 0 rfl) ?_
      refine qGet (ci := 3) (v := .ref (ad 8)) (C := RX3) (T := TX3) (N := 7) hx hb hts hin3 hown hK hP 0 rfl rfl 0 (by decide) (hts (.fieldLink RX3 13 "PartCurves" "parts" "[LPartCurves$Part;") (by decide +kernel)) rfl dX3_rest_24 ?_
      refine qAlen (v := 4) hx hb hK hP 8 2 rfl rfl rfl dX3_rest_27 ?_
      refine lv_icmp_ge (tgt := 63) hx hb dX3_rest_28 (by decide) (fun c_28 => ?_) (fun c_28 => ?_)
      · -- 28 taken
        have c_28n := i_le_t c_28
        exact absurd (nI_ge' (b := 4) (by omega) (by omega) c_28) (by omega)
      · -- 28 not taken
        have c_28n := i_le_f c_28
        refine lv_aload_n hx hb dX3_rest_31 rfl (lv_at hl 0 rfl) ?_
        refine qGet (ci := 3) (v := .ref (ad 8)) (C := RX3) (T := TX3) (N := 7) hx hb hts hin3 hown hK hP 0 rfl rfl 0 (by decide) (hts (.fieldLink RX3 13 "PartCurves" "parts" "[LPartCurves$Part;") (by decide +kernel)) rfl dX3_rest_32 ?_
        refine lv_iload_n hx hb dX3_rest_35 rfl (lv_at hl 3 rfl) ?_
        refine qQld (v := (ad (10 + j))) hx hb hK hP 8 rfl (nI_v4 (by omega)) (congrArg (fun n => some (ad (10 + n))) (nI_e j (by omega))) dX3_rest_36 ?_
        refine qGet (ci := 1) (v := .int ((coolA z (ix n)) (10 + j) 0)) (C := RX1) (T := TX1) (N := 12) hx hb hts hin1 hown hK hP (10 + j) (WX_p g ad (coolA z (ix n)) (show j < 4 by omega)) rfl 0 (by decide) (hts (.fieldLink RX3 51 "PartCurves$Part" "there" "Z") (by decide +kernel)) rfl dX3_rest_37 ?_
        refine lv_if_eq (tgt := 57) hx hb dX3_rest_40 (by decide) (fun c_40 => ?_) (fun c_40 => ?_)
        · -- 40 taken
          refine lv_iinc (v := nI (j + 1)) (lv' := [(3, .int (nI (j + 1))), (0, .ref (ad 0)), (1, .int n), (2, .int t)]) hx hb dX3_rest_57 hl (k := 3) rfl (nI_1 j) (by decide) rfl (fun ls hl => ?_)
          refine lv_goto (tgt := 22) hx hb dX3_rest_60 (by decide) ?_
          exact ih (j + 1) _ hin (by omega) (by rw [← hz, mxR, if_pos c_40]) _ _ hP hS ls (lv_sub hl [1, 2, 3, 0] rfl)
        · -- 40 not taken
          refine lv_iload_n hx hb dX3_rest_43 rfl (lv_at hl 2 rfl) ?_
          refine lv_aload_n hx hb dX3_rest_44 rfl (lv_at hl 0 rfl) ?_
          refine qGet (ci := 3) (v := .ref (ad 8)) (C := RX3) (T := TX3) (N := 7) hx hb hts hin3 hown hK hP 0 rfl rfl 0 (by decide) (hts (.fieldLink RX3 13 "PartCurves" "parts" "[LPartCurves$Part;") (by decide +kernel)) rfl dX3_rest_45 ?_
          refine lv_iload_n hx hb dX3_rest_48 rfl (lv_at hl 3 rfl) ?_
          refine qQld (v := (ad (10 + j))) hx hb hK hP 8 rfl (nI_v4 (by omega)) (congrArg (fun n => some (ad (10 + n))) (nI_e j (by omega))) dX3_rest_49 ?_
          refine qGet (ci := 1) (v := .int ((coolA z (ix n)) (10 + j) 6)) (C := RX1) (T := TX1) (N := 12) hx hb hts hin1 hown hK hP (10 + j) (WX_p g ad (coolA z (ix n)) (show j < 4 by omega)) rfl 6 (by decide) (hts (.fieldLink RX3 83 "PartCurves$Part" "heat" "I") (by decide +kernel)) rfl dX3_rest_50 ?_
          refine q_max hx hb (hml.trans hl.1.symm) hown (hts (.methodLink RX3 141 Lib.Math.max.name) (by decide +kernel)) (hts (.static Lib.Math.max.name) (by decide +kernel)) (hts (.initialized "java/lang/Math") (by decide +kernel)) (hts (.code Lib.Math.max.name Lib.Math.max.code 2 (some .int)) (by decide +kernel)) (Nat.le_of_ble_eq_true rfl) (Nat.le_of_ble_eq_true rfl) (Nat.zero_le _) (Nat.zero_le _) dX3_rest_53 ?_
          refine lv_istore_n (lv' := [(2, .int (maxI t ((coolA z (ix n)) (10 + j) 6))), (0, .ref (ad 0)), (1, .int n), (3, .int (nI j))]) hx hb dX3_rest_56 rfl hl (by decide) rfl (fun ls hl => ?_)
          refine lv_iinc (v := nI (j + 1)) (lv' := [(3, .int (nI (j + 1))), (2, .int (maxI t ((coolA z (ix n)) (10 + j) 6))), (0, .ref (ad 0)), (1, .int n)]) hx hb dX3_rest_57 hl (k := 3) rfl (nI_1 j) (by decide) rfl (fun ls hl => ?_)
          refine lv_goto (tgt := 22) hx hb dX3_rest_60 (by decide) ?_
          exact ih (j + 1) _ hin (by omega) (by rw [← hz, mxR, if_neg c_40]) _ _ hP hS ls (lv_sub hl [2, 3, 1, 0] rfl)
  refine lv_iload_n hx hb dX3_rest_0 rfl (lv_at hl 1 rfl) ?_
  refine lv_iconst (v := 0) hx hb dX3_rest_1 rfl ?_
  refine lv_bipush (v := 100) hx hb dX3_rest_2 (by decide) ?_
  refine qSi (As := [.int n, .int 0, .int 100]) (rest := []) hx hb hml hown hts (kX3_within l g (Wd := (WX g ad)) (A := (adOf 15 ad)) z n 0 100) gX3_rest_X3_within rfl 3 hdX3_within rfl ⟨Nat.le_of_ble_eq_true rfl, Nat.le_of_ble_eq_true rfl⟩ ⟨Nat.zero_le _, Nat.zero_le _⟩ hK hP hS (fun _ h => h) hl.1 rfl (Nat.le_of_ble_eq_true rfl) dX3_rest_4 (fun H locs hP hS => ?_)
  refine lv_if_ne (tgt := 13) hx hb dX3_rest_7 (by decide) (fun c_7 => ?_) (fun c_7 => ?_)
  · -- 7 taken
    have c_7 := bI_n c_7
    obtain ⟨hn1, hn2, -⟩ := inR_ix (n := 100) rfl c_7
    refine lv_aload_n hx hb dX3_rest_13 rfl (lv_at hl 0 rfl) ?_
    refine lv_iload_n hx hb dX3_rest_14 rfl (lv_at hl 1 rfl) ?_
    refine lv_topi (fun y15 e15 => ?_)
    obtain rfl := e15.trans hn2
    refine qVv (As := [.int (nI (ix n))]) (rest := []) hx hb hml hown hts (kX3_coolAll l g z hj (ix n) hn1) gX3_rest_X3_coolAll rfl 1 hdX3_coolAll rfl ⟨Nat.le_of_ble_eq_true rfl, Nat.le_of_ble_eq_true rfl⟩ ⟨Nat.zero_le _, Nat.zero_le _⟩ hK hP hS (fun _ h => h) 0 3 rfl rfl rfl hl.1 rfl (Nat.le_of_ble_eq_true rfl) dX3_rest_15 (fun H locs hP hS => ?_)
    refine lv_iconst (v := 0) hx hb dX3_rest_18 rfl ?_
    refine lv_istore_n (lv' := [(2, .int 0), (0, .ref (ad 0)), (1, .int n)]) hx hb dX3_rest_19 rfl hl (by decide) rfl (fun ls hl => ?_)
    refine lv_iconst (v := 0) hx hb dX3_rest_20 rfl ?_
    refine lv_istore_n (lv' := [(3, .int 0), (2, .int 0), (0, .ref (ad 0)), (1, .int n)]) hx hb dX3_rest_21 rfl hl (by decide) rfl (fun ls hl => ?_)
    exact loop 4 0 0 c_7 rfl rfl _ _ hP hS ls (lv_sub hl [2, 3, 1, 0] rfl)
  · -- 7 not taken
    have c_7 := bI_0 c_7
    refine lv_bipush (v := -2) hx hb dX3_rest_10 (by decide) ?_
    exact qRi hx hb hr hlk hP hK hS dX3_rest_12 (by unfold s_rest; rw [if_neg (bn c_7)]) (by unfold s_rest; rw [if_neg (bn c_7)])
set_option maxHeartbeats 4000000 in
set_option maxRecDepth 100000 in
theorem kX3_why (l : Launch) (g : qG) {ad : Nat → Nat} (z : zS) (hj : adInj 15 ad) (k w : Int32) : qMi l yX3_why wsX3_why 1 g (WX g ad) (adOf 15 ad) z [.ref (ad 0), .int k, .int w] (s_why z k w) z := by
  refine qStart (cc := cX3_why) (maxL := 3) (ret := (some .int)) (plainFor_of_name (by decide)) rfl (Nat.le_of_ble_eq_true rfl) ?_
  intro p e s m args below meth c hx hb hml hown hts hr hlk hP hK ls hl
  have hl : lv_has ls 3 [(0, .ref (ad 0)), (1, .int k), (2, .int w)] := hl
  have hS : va_S (adOf 15 ad) s.heap s.heap [] := va_S.rf
  have hin0 : ∀ w ∈ u_ws RX0 TX0 3, w ∈ wsX3_why := by decide +kernel
  have hin3 : ∀ w ∈ u_ws RX3 TX3 7, w ∈ wsX3_why := by decide +kernel
  refine lv_iload_n hx hb dX3_why_0 rfl (lv_at hl 1 rfl) ?_
  refine lv_iconst (v := 0) hx hb dX3_why_1 rfl ?_
  refine lv_iconst (v := 2) hx hb dX3_why_2 rfl ?_
  refine qSi (As := [.int k, .int 0, .int 2]) (rest := []) hx hb hml hown hts (kX3_within l g (Wd := (WX g ad)) (A := (adOf 15 ad)) z k 0 2) gX3_why_X3_within rfl 3 hdX3_within rfl ⟨Nat.le_of_ble_eq_true rfl, Nat.le_of_ble_eq_true rfl⟩ ⟨Nat.zero_le _, Nat.zero_le _⟩ hK hP hS (fun _ h => h) hl.1 rfl (Nat.le_of_ble_eq_true rfl) dX3_why_3 (fun H locs hP hS => ?_)
  refine lv_if_eq (tgt := 18) hx hb dX3_why_6 (by decide) (fun c_6 => ?_) (fun c_6 => ?_)
  · -- 6 taken
    have c_6 := bI_0 c_6
    refine lv_bipush (v := -2) hx hb dX3_why_18 (by decide) ?_
    exact qRi hx hb hr hlk hP hK hS dX3_why_20 (by unfold s_why; rw [if_neg (fun h => absurd h.1 (bn c_6))]) rfl
  · -- 6 not taken
    have c_6 := bI_n c_6
    refine lv_iload_n hx hb dX3_why_9 rfl (lv_at hl 2 rfl) ?_
    refine lv_iconst (v := 0) hx hb dX3_why_10 rfl ?_
    refine lv_iconst (v := 1) hx hb dX3_why_11 rfl ?_
    refine qSi (As := [.int w, .int 0, .int 1]) (rest := []) hx hb hml hown hts (kX3_within l g (Wd := (WX g ad)) (A := (adOf 15 ad)) z w 0 1) gX3_why_X3_within rfl 3 hdX3_within rfl ⟨Nat.le_of_ble_eq_true rfl, Nat.le_of_ble_eq_true rfl⟩ ⟨Nat.zero_le _, Nat.zero_le _⟩ hK hP hS (fun _ h => h) hl.1 rfl (Nat.le_of_ble_eq_true rfl) dX3_why_12 (fun H locs hP hS => ?_)
    refine lv_if_ne (tgt := 21) hx hb dX3_why_15 (by decide) (fun c_15 => ?_) (fun c_15 => ?_)
    · -- 15 taken
      have c_15 := bI_n c_15
      refine lv_iload_n hx hb dX3_why_21 rfl (lv_at hl 1 rfl) ?_
      refine lv_aload_n hx hb dX3_why_22 rfl (lv_at hl 0 rfl) ?_
      refine qGet (ci := 3) (v := .ref (ad 14)) (C := RX3) (T := TX3) (N := 7) hx hb hts hin3 hown hK hP 0 rfl rfl 3 (by decide) (hts (.fieldLink RX3 31 "PartCurves" "causes" "LPartCurves$Causes;") (by decide +kernel)) rfl dX3_why_23 ?_
      refine qGet (ci := 0) (v := .int (z 0 4)) (C := RX0) (T := TX0) (N := 3) hx hb hts hin0 hown hK hP 14 rfl rfl 2 (by decide) (hts (.fieldLink RX3 153 "PartCurves$Causes" "count" "I") (by decide +kernel)) rfl dX3_why_26 ?_
      refine lv_icmp_lt (tgt := 35) hx hb dX3_why_29 (by decide) (fun c_29 => ?_) (fun c_29 => ?_)
      · -- 29 taken
        have c_29n := i_lt_t c_29
        refine lv_iload_n hx hb dX3_why_35 rfl (lv_at hl 2 rfl) ?_
        refine lv_if_ne (tgt := 51) hx hb dX3_why_36 (by decide) (fun c_36 => ?_) (fun c_36 => ?_)
        · -- 36 taken
          refine lv_aload_n hx hb dX3_why_51 rfl (lv_at hl 0 rfl) ?_
          refine qGet (ci := 3) (v := .ref (ad 14)) (C := RX3) (T := TX3) (N := 7) hx hb hts hin3 hown hK hP 0 rfl rfl 3 (by decide) (hts (.fieldLink RX3 31 "PartCurves" "causes" "LPartCurves$Causes;") (by decide +kernel)) rfl dX3_why_52 ?_
          refine qGet (ci := 0) (v := .ref (ad 7)) (C := RX0) (T := TX0) (N := 3) hx hb hts hin0 hown hK hP 14 rfl rfl 1 (by decide) (hts (.fieldLink RX3 157 "PartCurves$Causes" "numbers" "[I") (by decide +kernel)) rfl dX3_why_55 ?_
          refine lv_iload_n hx hb dX3_why_58 rfl (lv_at hl 1 rfl) ?_
          refine qIld (v := (z 7 (ix k))) hx hb hK hP 7 rfl (inR_vp (n := 2) rfl c_6 3 (by decide)) rfl dX3_why_59 ?_
          exact qRi hx hb hr hlk hP hK hS dX3_why_60 (by unfold s_why; rw [if_pos ⟨c_6, c_15⟩, if_neg c_29n, if_neg c_36]) rfl
        · -- 36 not taken
          refine lv_aload_n hx hb dX3_why_39 rfl (lv_at hl 0 rfl) ?_
          refine qGet (ci := 3) (v := .ref (ad 14)) (C := RX3) (T := TX3) (N := 7) hx hb hts hin3 hown hK hP 0 rfl rfl 3 (by decide) (hts (.fieldLink RX3 31 "PartCurves" "causes" "LPartCurves$Causes;") (by decide +kernel)) rfl dX3_why_40 ?_
          refine qGet (ci := 0) (v := .ref (ad 6)) (C := RX0) (T := TX0) (N := 3) hx hb hts hin0 hown hK hP 14 rfl rfl 0 (by decide) (hts (.fieldLink RX3 154 "PartCurves$Causes" "sorts" "[I") (by decide +kernel)) rfl dX3_why_43 ?_
          refine lv_iload_n hx hb dX3_why_46 rfl (lv_at hl 1 rfl) ?_
          refine qIld (v := (z 6 (ix k))) hx hb hK hP 6 rfl (inR_vp (n := 2) rfl c_6 3 (by decide)) rfl dX3_why_47 ?_
          refine lv_goto (tgt := 60) hx hb dX3_why_48 (by decide) ?_
          exact qRi hx hb hr hlk hP hK hS dX3_why_60 (by unfold s_why; rw [if_pos ⟨c_6, c_15⟩, if_neg c_29n, if_pos c_36]) rfl
      · -- 29 not taken
        have c_29n := i_lt_f c_29
        refine lv_bipush (v := -9) hx hb dX3_why_32 (by decide) ?_
        exact qRi hx hb hr hlk hP hK hS dX3_why_34 (by unfold s_why; rw [if_pos ⟨c_6, c_15⟩, if_pos c_29n]) rfl
    · -- 15 not taken
      have c_15 := bI_0 c_15
      refine lv_bipush (v := -2) hx hb dX3_why_18 (by decide) ?_
      exact qRi hx hb hr hlk hP hK hS dX3_why_20 (by unfold s_why; rw [if_neg (fun h => absurd h.2 (bn c_15))]) rfl
set_option maxHeartbeats 4000000 in
set_option maxRecDepth 100000 in
theorem kX3_reading (l : Launch) (g : qG) {ad : Nat → Nat} (z : zS) (hj : adInj 15 ad) (hI : qInv z) (k w : Int32) : qMi l yX3_reading wsX3_reading 1 g (WX g ad) (adOf 15 ad) z [.ref (ad 0), .int k, .int w] (s_reading z k w) z := by
  refine qStart (cc := cX3_reading) (maxL := 3) (ret := (some .int)) (plainFor_of_name (by decide)) rfl (Nat.le_of_ble_eq_true rfl) ?_
  intro p e s m args below meth c hx hb hml hown hts hr hlk hP hK ls hl
  have hl : lv_has ls 3 [(0, .ref (ad 0)), (1, .int k), (2, .int w)] := hl
  have hS : va_S (adOf 15 ad) s.heap s.heap [] := va_S.rf
  have hin2 : ∀ w ∈ u_ws RX2 TX2 5, w ∈ wsX3_reading := by decide +kernel
  have hin3 : ∀ w ∈ u_ws RX3 TX3 7, w ∈ wsX3_reading := by decide +kernel
  refine lv_aload_n hx hb dX3_reading_0 rfl (lv_at hl 0 rfl) ?_
  refine qGet (ci := 3) (v := .ref (ad 9)) (C := RX3) (T := TX3) (N := 7) hx hb hts hin3 hown hK hP 0 rfl rfl 2 (by decide) (hts (.fieldLink RX3 24 "PartCurves" "readings" "LPartCurves$Readings;") (by decide +kernel)) rfl dX3_reading_1 ?_
  refine lv_iload_n hx hb dX3_reading_4 rfl (lv_at hl 1 rfl) ?_
  refine qVi (As := [.int k]) (rest := []) hx hb hml hown hts (kX2_has l g z hj k) gX3_reading_X2_has rfl 1 hdX2_has rfl ⟨Nat.le_of_ble_eq_true rfl, Nat.le_of_ble_eq_true rfl⟩ ⟨Nat.zero_le _, Nat.zero_le _⟩ hK hP hS (fun _ h => h) 9 2 rfl rfl rfl hl.1 rfl (Nat.le_of_ble_eq_true rfl) dX3_reading_5 (fun H locs hP hS => ?_)
  refine lv_if_ne (tgt := 13) hx hb dX3_reading_8 (by decide) (fun c_8 => ?_) (fun c_8 => ?_)
  · -- 8 taken
    have c_8 := bI_n c_8
    refine lv_iload_n hx hb dX3_reading_13 rfl (lv_at hl 2 rfl) ?_
    by_cases c_14_is0 : w = 0
    · -- 14 is 0
      refine lv_tableIn (tgt := 44) hx hb dX3_reading_14 (by rw [c_14_is0]; decide) (by rw [c_14_is0]; decide) (by rw [c_14_is0]; rfl) (by decide) ?_
      refine lv_aload_n hx hb dX3_reading_44 rfl (lv_at hl 0 rfl) ?_
      refine qGet (ci := 3) (v := .ref (ad 9)) (C := RX3) (T := TX3) (N := 7) hx hb hts hin3 hown hK hP 0 rfl rfl 2 (by decide) (hts (.fieldLink RX3 24 "PartCurves" "readings" "LPartCurves$Readings;") (by decide +kernel)) rfl dX3_reading_45 ?_
      refine qGet (ci := 2) (v := .ref (ad 2)) (C := RX2) (T := TX2) (N := 5) hx hb hts hin2 hown hK hP 9 rfl rfl 0 (by decide) (hts (.fieldLink RX3 163 "PartCurves$Readings" "forced" "[I") (by decide +kernel)) rfl dX3_reading_48 ?_
      refine lv_iload_n hx hb dX3_reading_51 rfl (lv_at hl 1 rfl) ?_
      refine qIld (v := (z 2 (ix k))) hx hb hK hP 2 rfl (has_i hI c_8).2.2 rfl dX3_reading_52 ?_
      refine lv_sipush (v := 10000) hx hb dX3_reading_53 (by decide) ?_
      refine lv_iadd hx hb dX3_reading_56 ?_
      exact qRi hx hb hr hlk hP hK hS dX3_reading_57 (by unfold s_reading; rw [if_pos c_8, if_pos c_14_is0]) rfl
    by_cases c_14_is1 : w = 1
    · -- 14 is 1
      refine lv_tableIn (tgt := 58) hx hb dX3_reading_14 (by rw [c_14_is1]; decide) (by rw [c_14_is1]; decide) (by rw [c_14_is1]; rfl) (by decide) ?_
      refine lv_aload_n hx hb dX3_reading_58 rfl (lv_at hl 0 rfl) ?_
      refine qGet (ci := 3) (v := .ref (ad 9)) (C := RX3) (T := TX3) (N := 7) hx hb hts hin3 hown hK hP 0 rfl rfl 2 (by decide) (hts (.fieldLink RX3 24 "PartCurves" "readings" "LPartCurves$Readings;") (by decide +kernel)) rfl dX3_reading_59 ?_
      refine qGet (ci := 2) (v := .ref (ad 3)) (C := RX2) (T := TX2) (N := 5) hx hb hts hin2 hown hK hP 9 rfl rfl 1 (by decide) (hts (.fieldLink RX3 166 "PartCurves$Readings" "told" "[I") (by decide +kernel)) rfl dX3_reading_62 ?_
      refine lv_iload_n hx hb dX3_reading_65 rfl (lv_at hl 1 rfl) ?_
      refine qIld (v := (z 3 (ix k))) hx hb hK hP 3 rfl (has_i hI c_8).2.2 rfl dX3_reading_66 ?_
      refine lv_sipush (v := 10000) hx hb dX3_reading_67 (by decide) ?_
      refine lv_iadd hx hb dX3_reading_70 ?_
      exact qRi hx hb hr hlk hP hK hS dX3_reading_71 (by unfold s_reading; rw [if_pos c_8, if_neg c_14_is0, if_pos c_14_is1]) rfl
    by_cases c_14_is2 : w = 2
    · -- 14 is 2
      refine lv_tableIn (tgt := 72) hx hb dX3_reading_14 (by rw [c_14_is2]; decide) (by rw [c_14_is2]; decide) (by rw [c_14_is2]; rfl) (by decide) ?_
      refine lv_aload_n hx hb dX3_reading_72 rfl (lv_at hl 0 rfl) ?_
      refine qGet (ci := 3) (v := .ref (ad 9)) (C := RX3) (T := TX3) (N := 7) hx hb hts hin3 hown hK hP 0 rfl rfl 2 (by decide) (hts (.fieldLink RX3 24 "PartCurves" "readings" "LPartCurves$Readings;") (by decide +kernel)) rfl dX3_reading_73 ?_
      refine qGet (ci := 2) (v := .ref (ad 4)) (C := RX2) (T := TX2) (N := 5) hx hb hts hin2 hown hK hP 9 rfl rfl 2 (by decide) (hts (.fieldLink RX3 169 "PartCurves$Readings" "flowed" "[I") (by decide +kernel)) rfl dX3_reading_76 ?_
      refine lv_iload_n hx hb dX3_reading_79 rfl (lv_at hl 1 rfl) ?_
      refine qIld (v := (z 4 (ix k))) hx hb hK hP 4 rfl (has_i hI c_8).2.2 rfl dX3_reading_80 ?_
      refine lv_ldc (v := 50000) hx hb hown (hts (.constant RX3 110 (50000)) (by decide +kernel)) dX3_reading_81 ?_
      refine lv_iadd hx hb dX3_reading_83 ?_
      exact qRi hx hb hr hlk hP hK hS dX3_reading_84 (by unfold s_reading; rw [if_pos c_8, if_neg c_14_is0, if_neg c_14_is1, if_pos c_14_is2]) rfl
    by_cases c_14_is3 : w = 3
    · -- 14 is 3
      refine lv_tableIn (tgt := 85) hx hb dX3_reading_14 (by rw [c_14_is3]; decide) (by rw [c_14_is3]; decide) (by rw [c_14_is3]; rfl) (by decide) ?_
      refine lv_aload_n hx hb dX3_reading_85 rfl (lv_at hl 0 rfl) ?_
      refine qGet (ci := 3) (v := .ref (ad 9)) (C := RX3) (T := TX3) (N := 7) hx hb hts hin3 hown hK hP 0 rfl rfl 2 (by decide) (hts (.fieldLink RX3 24 "PartCurves" "readings" "LPartCurves$Readings;") (by decide +kernel)) rfl dX3_reading_86 ?_
      refine qGet (ci := 2) (v := .ref (ad 5)) (C := RX2) (T := TX2) (N := 5) hx hb hts hin2 hown hK hP 9 rfl rfl 3 (by decide) (hts (.fieldLink RX3 172 "PartCurves$Readings" "rules" "[I") (by decide +kernel)) rfl dX3_reading_89 ?_
      refine lv_iload_n hx hb dX3_reading_92 rfl (lv_at hl 1 rfl) ?_
      refine qIld (v := (z 5 (ix k))) hx hb hK hP 5 rfl (has_i hI c_8).2.2 rfl dX3_reading_93 ?_
      exact qRi hx hb hr hlk hP hK hS dX3_reading_94 (by unfold s_reading; rw [if_pos c_8, if_neg c_14_is0, if_neg c_14_is1, if_neg c_14_is2, if_pos c_14_is3]) rfl
    refine lv_tableOut (tgt := 95) hx hb dX3_reading_14 (by have := ne_toInt c_14_is0 (k := 0) rfl; have := ne_toInt c_14_is1 (k := 1) rfl; have := ne_toInt c_14_is2 (k := 2) rfl; have := ne_toInt c_14_is3 (k := 3) rfl; omega) (by decide) ?_
    refine lv_bipush (v := -2) hx hb dX3_reading_95 (by decide) ?_
    exact qRi hx hb hr hlk hP hK hS dX3_reading_97 (by unfold s_reading; rw [if_pos c_8, if_neg c_14_is0, if_neg c_14_is1, if_neg c_14_is2, if_neg c_14_is3]) rfl
  · -- 8 not taken
    have c_8 := bI_0 c_8
    refine lv_iconst (v := -1) hx hb dX3_reading_11 rfl ?_
    exact qRi hx hb hr hlk hP hK hS dX3_reading_12 (by unfold s_reading; rw [if_neg (bn c_8)]) rfl
set_option maxHeartbeats 4000000 in
set_option maxRecDepth 100000 in
theorem kX3_clear (l : Launch) (g : qG) {ad : Nat → Nat} (z : zS) (hj : adInj 15 ad) : qMi l yX3_clear wsX3_clear 0 g (WX g ad) (adOf 15 ad) z [.ref (ad 0)] ((s_clear z).1) ((s_clear z).2) := by
  refine qStart (cc := cX3_clear) (maxL := 2) (ret := (some .int)) (plainFor_of_name (by decide)) rfl (Nat.le_of_ble_eq_true rfl) ?_
  intro p e s m args below meth c hx hb hml hown hts hr hlk hP hK ls hl
  have hl : lv_has ls 2 [(0, .ref (ad 0))] := hl
  have hS : va_S (adOf 15 ad) s.heap s.heap [] := va_S.rf
  have hin2 : ∀ w ∈ u_ws RX2 TX2 5, w ∈ wsX3_clear := by decide +kernel
  have hin3 : ∀ w ∈ u_ws RX3 TX3 7, w ∈ wsX3_clear := by decide +kernel
  refine lv_aload_n hx hb dX3_clear_0 rfl (lv_at hl 0 rfl) ?_
  refine qGet (ci := 3) (v := .ref (ad 9)) (C := RX3) (T := TX3) (N := 7) hx hb hts hin3 hown hK hP 0 rfl rfl 2 (by decide) (hts (.fieldLink RX3 24 "PartCurves" "readings" "LPartCurves$Readings;") (by decide +kernel)) rfl dX3_clear_1 ?_
  refine qGet (ci := 2) (v := .int (z 0 3)) (C := RX2) (T := TX2) (N := 5) hx hb hts hin2 hown hK hP 9 rfl rfl 4 (by decide) (hts (.fieldLink RX3 134 "PartCurves$Readings" "count" "I") (by decide +kernel)) rfl dX3_clear_4 ?_
  refine lv_istore_n (lv' := [(1, .int (z 0 3)), (0, .ref (ad 0))]) hx hb dX3_clear_7 rfl hl (by decide) rfl (fun ls hl => ?_)
  refine lv_aload_n hx hb dX3_clear_8 rfl (lv_at hl 1 rfl) ?_
  refine qGet (ci := 3) (v := .ref (ad 9)) (C := RX3) (T := TX3) (N := 7) hx hb hts hin3 hown hK hP 0 rfl rfl 2 (by decide) (hts (.fieldLink RX3 24 "PartCurves" "readings" "LPartCurves$Readings;") (by decide +kernel)) rfl dX3_clear_9 ?_
  refine lv_iconst (v := 0) hx hb dX3_clear_12 rfl ?_
  refine qPut (ci := 2) (ty := .int) (C := RX2) (T := TX2) (N := 5) (u' := zu z 0 3 0) hx hb hts hin2 tyX2 tyX2_ok nmX2 hown hK hP (WX_D g z hj) hS 9 rfl rfl 4 (by decide) (hts (.fieldLink RX3 134 "PartCurves$Readings" "count" "I") (by decide +kernel)) rfl (by decide +kernel) rfl rfl (Nat.le_of_ble_eq_true rfl) (WX_rc g ad z 0) dX3_clear_13 (fun H locs hP hS => ?_)
  refine lv_iload_n hx hb dX3_clear_16 rfl (lv_at hl 0 rfl) ?_
  exact qRi hx hb hr hlk hP hK hS dX3_clear_17 rfl rfl
set_option maxHeartbeats 4000000 in
set_option maxRecDepth 100000 in
theorem kX3_knee (l : Launch) (g : qG) {ad : Nat → Nat} (z : zS) (hj : adInj 15 ad) (hI : qInv z) (a b : Int32) : qMi l yX3_knee wsX3_knee 2 g (WX g ad) (adOf 15 ad) z [.ref (ad 0), .int a, .int b] (s_knee z a b) z := by
  refine qStart (cc := cX3_knee) (maxL := 3) (ret := (some .int)) (plainFor_of_name (by decide)) rfl (Nat.le_of_ble_eq_true rfl) ?_
  intro p e s m args below meth c hx hb hml hown hts hr hlk hP hK ls hl
  have hl : lv_has ls 3 [(0, .ref (ad 0)), (1, .int a), (2, .int b)] := hl
  have hS : va_S (adOf 15 ad) s.heap s.heap [] := va_S.rf
  have hin3 : ∀ w ∈ u_ws RX3 TX3 7, w ∈ wsX3_knee := by decide +kernel
  refine lv_aload_n hx hb dX3_knee_0 rfl (lv_at hl 0 rfl) ?_
  refine qGet (ci := 3) (v := .ref (ad 9)) (C := RX3) (T := TX3) (N := 7) hx hb hts hin3 hown hK hP 0 rfl rfl 2 (by decide) (hts (.fieldLink RX3 24 "PartCurves" "readings" "LPartCurves$Readings;") (by decide +kernel)) rfl dX3_knee_1 ?_
  refine lv_iload_n hx hb dX3_knee_4 rfl (lv_at hl 1 rfl) ?_
  refine qVi (As := [.int a]) (rest := []) hx hb hml hown hts (kX2_has l g z hj a) gX3_knee_X2_has rfl 1 hdX2_has rfl ⟨Nat.le_of_ble_eq_true rfl, Nat.le_of_ble_eq_true rfl⟩ ⟨Nat.zero_le _, Nat.zero_le _⟩ hK hP hS (fun _ h => h) 9 2 rfl rfl rfl hl.1 rfl (Nat.le_of_ble_eq_true rfl) dX3_knee_5 (fun H locs hP hS => ?_)
  refine lv_if_eq (tgt := 22) hx hb dX3_knee_8 (by decide) (fun c_8 => ?_) (fun c_8 => ?_)
  · -- 8 taken
    have c_8 := bI_0 c_8
    refine lv_iconst (v := -1) hx hb dX3_knee_22 rfl ?_
    exact qRi hx hb hr hlk hP hK hS dX3_knee_23 (by unfold s_knee; rw [if_neg (fun h => absurd h.1 (bn c_8))]) rfl
  · -- 8 not taken
    have c_8 := bI_n c_8
    refine lv_aload_n hx hb dX3_knee_11 rfl (lv_at hl 0 rfl) ?_
    refine qGet (ci := 3) (v := .ref (ad 9)) (C := RX3) (T := TX3) (N := 7) hx hb hts hin3 hown hK hP 0 rfl rfl 2 (by decide) (hts (.fieldLink RX3 24 "PartCurves" "readings" "LPartCurves$Readings;") (by decide +kernel)) rfl dX3_knee_12 ?_
    refine lv_iload_n hx hb dX3_knee_15 rfl (lv_at hl 2 rfl) ?_
    refine qVi (As := [.int b]) (rest := []) hx hb hml hown hts (kX2_has l g z hj b) gX3_knee_X2_has rfl 1 hdX2_has rfl ⟨Nat.le_of_ble_eq_true rfl, Nat.le_of_ble_eq_true rfl⟩ ⟨Nat.zero_le _, Nat.zero_le _⟩ hK hP hS (fun _ h => h) 9 2 rfl rfl rfl hl.1 rfl (Nat.le_of_ble_eq_true rfl) dX3_knee_16 (fun H locs hP hS => ?_)
    refine lv_if_ne (tgt := 24) hx hb dX3_knee_19 (by decide) (fun c_19 => ?_) (fun c_19 => ?_)
    · -- 19 taken
      have c_19 := bI_n c_19
      refine lv_iload_n hx hb dX3_knee_24 rfl (lv_at hl 1 rfl) ?_
      refine lv_iload_n hx hb dX3_knee_25 rfl (lv_at hl 2 rfl) ?_
      refine lv_icmp_le (tgt := 34) hx hb dX3_knee_26 (by decide) (fun c_26 => ?_) (fun c_26 => ?_)
      · -- 26 taken
        have c_26n := i_le_t c_26
        have hka := has_i hI c_8
        have hkb := has_i hI c_19
        have hle := ix_le hka.2.1 hkb.2.1 hka.1 hkb.1 c_26n
        refine lv_aload_n hx hb dX3_knee_34 rfl (lv_at hl 0 rfl) ?_
        refine qGet (ci := 3) (v := .ref (ad 9)) (C := RX3) (T := TX3) (N := 7) hx hb hts hin3 hown hK hP 0 rfl rfl 2 (by decide) (hts (.fieldLink RX3 24 "PartCurves" "readings" "LPartCurves$Readings;") (by decide +kernel)) rfl dX3_knee_35 ?_
        refine lv_iload_n hx hb dX3_knee_38 rfl (lv_at hl 1 rfl) ?_
        refine lv_topi (fun y39 e39 => ?_)
        obtain rfl := e39.trans hka.2.1
        refine lv_iload_n hx hb dX3_knee_39 rfl (lv_at hl 2 rfl) ?_
        refine lv_topi (fun y40 e40 => ?_)
        obtain rfl := e40.trans hkb.2.1
        refine qVi (As := [.int (nI (ix a)), .int (nI (ix b))]) (rest := []) hx hb hml hown hts (kX2_kneePoint l g z hj hle hkb.1) gX3_knee_X2_kneePoint rfl 2 hdX2_kneePoint rfl ⟨Nat.le_of_ble_eq_true rfl, Nat.le_of_ble_eq_true rfl⟩ ⟨Nat.zero_le _, Nat.zero_le _⟩ hK hP hS (fun _ h => h) 9 2 rfl rfl rfl hl.1 rfl (Nat.le_of_ble_eq_true rfl) dX3_knee_40 (fun H locs hP hS => ?_)
        exact qRi hx hb hr hlk hP hK hS dX3_knee_43 (by unfold s_knee; rw [if_pos ⟨c_8, c_19⟩, if_neg c_26n]) rfl
      · -- 26 not taken
        have c_26n := i_le_f c_26
        refine lv_bipush (v := -2) hx hb dX3_knee_29 (by decide) ?_
        refine lv_goto (tgt := 43) hx hb dX3_knee_31 (by decide) ?_
        exact qRi hx hb hr hlk hP hK hS dX3_knee_43 (by unfold s_knee; rw [if_pos ⟨c_8, c_19⟩, if_pos c_26n]) rfl
    · -- 19 not taken
      have c_19 := bI_0 c_19
      refine lv_iconst (v := -1) hx hb dX3_knee_22 rfl ?_
      exact qRi hx hb hr hlk hP hK hS dX3_knee_23 (by unfold s_knee; rw [if_neg (fun h => absurd h.2 (bn c_19))]) rfl
set_option maxHeartbeats 4000000 in
set_option maxRecDepth 100000 in
theorem kX3_fit (l : Launch) (g : qG) {ad : Nat → Nat} (z : zS) (hj : adInj 15 ad) (hI : qInv z) (a b w : Int32) : qMl l yX3_fit wsX3_fit 3 g (WX g ad) (adOf 15 ad) z [.ref (ad 0), .int a, .int b, .int w] (s_fit z a b w) z := by
  refine qStart (cc := cX3_fit) (maxL := 4) (ret := (some .long)) (plainFor_of_name (by decide)) rfl (Nat.le_of_ble_eq_true rfl) ?_
  intro p e s m args below meth c hx hb hml hown hts hr hlk hP hK ls hl
  have hl : lv_has ls 4 [(0, .ref (ad 0)), (1, .int a), (2, .int b), (3, .int w)] := hl
  have hS : va_S (adOf 15 ad) s.heap s.heap [] := va_S.rf
  have hin3 : ∀ w ∈ u_ws RX3 TX3 7, w ∈ wsX3_fit := by decide +kernel
  refine lv_aload_n hx hb dX3_fit_0 rfl (lv_at hl 0 rfl) ?_
  refine qGet (ci := 3) (v := .ref (ad 9)) (C := RX3) (T := TX3) (N := 7) hx hb hts hin3 hown hK hP 0 rfl rfl 2 (by decide) (hts (.fieldLink RX3 24 "PartCurves" "readings" "LPartCurves$Readings;") (by decide +kernel)) rfl dX3_fit_1 ?_
  refine lv_iload_n hx hb dX3_fit_4 rfl (lv_at hl 1 rfl) ?_
  refine qVi (As := [.int a]) (rest := []) hx hb hml hown hts (kX2_has l g z hj a) gX3_fit_X2_has rfl 1 hdX2_has rfl ⟨Nat.le_of_ble_eq_true rfl, Nat.le_of_ble_eq_true rfl⟩ ⟨Nat.zero_le _, Nat.zero_le _⟩ hK hP hS (fun _ h => h) 9 2 rfl rfl rfl hl.1 rfl (Nat.le_of_ble_eq_true rfl) dX3_fit_5 (fun H locs hP hS => ?_)
  refine lv_if_eq (tgt := 36) hx hb dX3_fit_8 (by decide) (fun c_8 => ?_) (fun c_8 => ?_)
  · -- 8 taken
    have c_8 := bI_0 c_8
    refine lv_ldc2 (v := -9223372036854775808) hx hb hown (hts (.constantLong RX3 178 (-9223372036854775808)) (by decide +kernel)) dX3_fit_36 ?_
    exact qRl hx hb hr hlk hP hK hS dX3_fit_39 (by unfold s_fit; rw [if_neg (fun h => absurd h.1 (bn c_8))]) rfl
  · -- 8 not taken
    have c_8 := bI_n c_8
    refine lv_aload_n hx hb dX3_fit_11 rfl (lv_at hl 0 rfl) ?_
    refine qGet (ci := 3) (v := .ref (ad 9)) (C := RX3) (T := TX3) (N := 7) hx hb hts hin3 hown hK hP 0 rfl rfl 2 (by decide) (hts (.fieldLink RX3 24 "PartCurves" "readings" "LPartCurves$Readings;") (by decide +kernel)) rfl dX3_fit_12 ?_
    refine lv_iload_n hx hb dX3_fit_15 rfl (lv_at hl 2 rfl) ?_
    refine qVi (As := [.int b]) (rest := []) hx hb hml hown hts (kX2_has l g z hj b) gX3_fit_X2_has rfl 1 hdX2_has rfl ⟨Nat.le_of_ble_eq_true rfl, Nat.le_of_ble_eq_true rfl⟩ ⟨Nat.zero_le _, Nat.zero_le _⟩ hK hP hS (fun _ h => h) 9 2 rfl rfl rfl hl.1 rfl (Nat.le_of_ble_eq_true rfl) dX3_fit_16 (fun H locs hP hS => ?_)
    refine lv_if_eq (tgt := 36) hx hb dX3_fit_19 (by decide) (fun c_19 => ?_) (fun c_19 => ?_)
    · -- 19 taken
      have c_19 := bI_0 c_19
      refine lv_ldc2 (v := -9223372036854775808) hx hb hown (hts (.constantLong RX3 178 (-9223372036854775808)) (by decide +kernel)) dX3_fit_36 ?_
      exact qRl hx hb hr hlk hP hK hS dX3_fit_39 (by unfold s_fit; rw [if_neg (fun h => absurd h.2.1 (bn c_19))]) rfl
    · -- 19 not taken
      have c_19 := bI_n c_19
      refine lv_iload_n hx hb dX3_fit_22 rfl (lv_at hl 1 rfl) ?_
      refine lv_iload_n hx hb dX3_fit_23 rfl (lv_at hl 2 rfl) ?_
      refine lv_icmp_gt (tgt := 36) hx hb dX3_fit_24 (by decide) (fun c_24 => ?_) (fun c_24 => ?_)
      · -- 24 taken
        have c_24n := i_lt_t c_24
        refine lv_ldc2 (v := -9223372036854775808) hx hb hown (hts (.constantLong RX3 178 (-9223372036854775808)) (by decide +kernel)) dX3_fit_36 ?_
        exact qRl hx hb hr hlk hP hK hS dX3_fit_39 (by unfold s_fit; rw [if_neg (fun h => h.2.2.1 c_24)]) rfl
      · -- 24 not taken
        have c_24n := i_lt_f c_24
        have hka := has_i hI c_8
        have hkb := has_i hI c_19
        have hle := ix_le hka.2.1 hkb.2.1 hka.1 hkb.1 c_24
        refine lv_iload_n hx hb dX3_fit_27 rfl (lv_at hl 3 rfl) ?_
        refine lv_iconst (v := 0) hx hb dX3_fit_28 rfl ?_
        refine lv_iconst (v := 5) hx hb dX3_fit_29 rfl ?_
        refine qSi (As := [.int w, .int 0, .int 5]) (rest := []) hx hb hml hown hts (kX3_within l g (Wd := (WX g ad)) (A := (adOf 15 ad)) z w 0 5) gX3_fit_X3_within rfl 3 hdX3_within rfl ⟨Nat.le_of_ble_eq_true rfl, Nat.le_of_ble_eq_true rfl⟩ ⟨Nat.zero_le _, Nat.zero_le _⟩ hK hP hS (fun _ h => h) hl.1 rfl (Nat.le_of_ble_eq_true rfl) dX3_fit_30 (fun H locs hP hS => ?_)
        refine lv_if_ne (tgt := 40) hx hb dX3_fit_33 (by decide) (fun c_33 => ?_) (fun c_33 => ?_)
        · -- 33 taken
          have c_33 := bI_n c_33
          refine lv_aload_n hx hb dX3_fit_40 rfl (lv_at hl 0 rfl) ?_
          refine qGet (ci := 3) (v := .ref (ad 9)) (C := RX3) (T := TX3) (N := 7) hx hb hts hin3 hown hK hP 0 rfl rfl 2 (by decide) (hts (.fieldLink RX3 24 "PartCurves" "readings" "LPartCurves$Readings;") (by decide +kernel)) rfl dX3_fit_41 ?_
          refine lv_iload_n hx hb dX3_fit_44 rfl (lv_at hl 1 rfl) ?_
          refine lv_topi (fun y45 e45 => ?_)
          obtain rfl := e45.trans hka.2.1
          refine lv_iload_n hx hb dX3_fit_45 rfl (lv_at hl 2 rfl) ?_
          refine lv_topi (fun y46 e46 => ?_)
          obtain rfl := e46.trans hkb.2.1
          refine lv_iload_n hx hb dX3_fit_46 rfl (lv_at hl 3 rfl) ?_
          refine qVl (As := [.int (nI (ix a)), .int (nI (ix b)), .int w]) (rest := []) hx hb hml hown hts (kX2_lineFitted l g z hj hle hkb.1 w c_33) gX3_fit_X2_lineFitted rfl 3 hdX2_lineFitted rfl ⟨Nat.le_of_ble_eq_true rfl, Nat.le_of_ble_eq_true rfl⟩ ⟨Nat.zero_le _, Nat.zero_le _⟩ hK hP hS (fun _ h => h) 9 2 rfl rfl rfl hl.1 rfl (Nat.le_of_ble_eq_true rfl) dX3_fit_47 (fun H locs hP hS => ?_)
          exact qRl hx hb hr hlk hP hK hS dX3_fit_50 (by unfold s_fit; rw [if_pos ⟨c_8, c_19, c_24, c_33⟩]) rfl
        · -- 33 not taken
          have c_33 := bI_0 c_33
          refine lv_ldc2 (v := -9223372036854775808) hx hb hown (hts (.constantLong RX3 178 (-9223372036854775808)) (by decide +kernel)) dX3_fit_36 ?_
          exact qRl hx hb hr hlk hP hK hS dX3_fit_39 (by unfold s_fit; rw [if_neg (fun h => absurd h.2.2.2 (bn c_33))]) rfl
set_option maxHeartbeats 4000000 in
set_option maxRecDepth 100000 in
theorem kX3_many (l : Launch) (g : qG) {ad : Nat → Nat} (z : zS) (hj : adInj 15 ad) (hI : qInv z) (w : Int32) : qMi l yX3_many wsX3_many 2 g (WX g ad) (adOf 15 ad) z [.ref (ad 0), .int w] (s_many z w) z := by
  refine qStart (cc := cX3_many) (maxL := 2) (ret := (some .int)) (plainFor_of_name (by decide)) rfl (Nat.le_of_ble_eq_true rfl) ?_
  intro p e s m args below meth c hx hb hml hown hts hr hlk hP hK ls hl
  have hl : lv_has ls 2 [(0, .ref (ad 0)), (1, .int w)] := hl
  have hS : va_S (adOf 15 ad) s.heap s.heap [] := va_S.rf
  have hin2 : ∀ w ∈ u_ws RX2 TX2 5, w ∈ wsX3_many := by decide +kernel
  have hin3 : ∀ w ∈ u_ws RX3 TX3 7, w ∈ wsX3_many := by decide +kernel
  refine lv_iload_n hx hb dX3_many_0 rfl (lv_at hl 1 rfl) ?_
  by_cases c_1_is0 : w = 0
  · -- 1 is 0
    refine lv_tableIn (tgt := 40) hx hb dX3_many_1 (by rw [c_1_is0]; decide) (by rw [c_1_is0]; decide) (by rw [c_1_is0]; rfl) (by decide) ?_
    refine lv_aload_n hx hb dX3_many_40 rfl (lv_at hl 0 rfl) ?_
    refine lv_iconst (v := 0) hx hb dX3_many_41 rfl ?_
    refine qVi (As := [.int 0]) (rest := []) hx hb hml hown hts (kX3_partsThere l g z hj false) gX3_many_X3_partsThere rfl 1 hdX3_partsThere rfl ⟨Nat.le_of_ble_eq_true rfl, Nat.le_of_ble_eq_true rfl⟩ ⟨Nat.zero_le _, Nat.zero_le _⟩ hK hP hS (fun _ h => h) 0 3 rfl rfl rfl hl.1 rfl (Nat.le_of_ble_eq_true rfl) dX3_many_42 (fun H locs hP hS => ?_)
    exact qRi hx hb hr hlk hP hK hS dX3_many_45 (by unfold s_many; rw [if_pos c_1_is0]) rfl
  by_cases c_1_is1 : w = 1
  · -- 1 is 1
    refine lv_tableIn (tgt := 46) hx hb dX3_many_1 (by rw [c_1_is1]; decide) (by rw [c_1_is1]; decide) (by rw [c_1_is1]; rfl) (by decide) ?_
    refine lv_aload_n hx hb dX3_many_46 rfl (lv_at hl 0 rfl) ?_
    refine qGet (ci := 3) (v := .ref (ad 9)) (C := RX3) (T := TX3) (N := 7) hx hb hts hin3 hown hK hP 0 rfl rfl 2 (by decide) (hts (.fieldLink RX3 24 "PartCurves" "readings" "LPartCurves$Readings;") (by decide +kernel)) rfl dX3_many_47 ?_
    refine qGet (ci := 2) (v := .int (z 0 3)) (C := RX2) (T := TX2) (N := 5) hx hb hts hin2 hown hK hP 9 rfl rfl 4 (by decide) (hts (.fieldLink RX3 134 "PartCurves$Readings" "count" "I") (by decide +kernel)) rfl dX3_many_50 ?_
    exact qRi hx hb hr hlk hP hK hS dX3_many_53 (by unfold s_many; rw [if_neg c_1_is0, if_pos c_1_is1]) rfl
  by_cases c_1_is2 : w = 2
  · -- 1 is 2
    refine lv_tableIn (tgt := 54) hx hb dX3_many_1 (by rw [c_1_is2]; decide) (by rw [c_1_is2]; decide) (by rw [c_1_is2]; rfl) (by decide) ?_
    refine lv_aload_n hx hb dX3_many_54 rfl (lv_at hl 0 rfl) ?_
    refine qVi (As := []) (rest := []) hx hb hml hown hts (kX3_closedRelays l g z hj) gX3_many_X3_closedRelays rfl 0 hdX3_closedRelays rfl ⟨Nat.le_of_ble_eq_true rfl, Nat.le_of_ble_eq_true rfl⟩ ⟨Nat.zero_le _, Nat.zero_le _⟩ hK hP hS (fun _ h => h) 0 3 rfl rfl rfl hl.1 rfl (Nat.le_of_ble_eq_true rfl) dX3_many_55 (fun H locs hP hS => ?_)
    exact qRi hx hb hr hlk hP hK hS dX3_many_58 (by unfold s_many; rw [if_neg c_1_is0, if_neg c_1_is1, if_pos c_1_is2]) rfl
  by_cases c_1_is3 : w = 3
  · -- 1 is 3
    refine lv_tableIn (tgt := 59) hx hb dX3_many_1 (by rw [c_1_is3]; decide) (by rw [c_1_is3]; decide) (by rw [c_1_is3]; rfl) (by decide) ?_
    refine lv_aload_n hx hb dX3_many_59 rfl (lv_at hl 0 rfl) ?_
    refine lv_iconst (v := 1) hx hb dX3_many_60 rfl ?_
    refine qVi (As := [.int 1]) (rest := []) hx hb hml hown hts (kX3_partsThere l g z hj true) gX3_many_X3_partsThere rfl 1 hdX3_partsThere rfl ⟨Nat.le_of_ble_eq_true rfl, Nat.le_of_ble_eq_true rfl⟩ ⟨Nat.zero_le _, Nat.zero_le _⟩ hK hP hS (fun _ h => h) 0 3 rfl rfl rfl hl.1 rfl (Nat.le_of_ble_eq_true rfl) dX3_many_61 (fun H locs hP hS => ?_)
    exact qRi hx hb hr hlk hP hK hS dX3_many_64 (by unfold s_many; rw [if_neg c_1_is0, if_neg c_1_is1, if_neg c_1_is2, if_pos c_1_is3]) rfl
  by_cases c_1_is4 : w = 4
  · -- 1 is 4
    refine lv_tableIn (tgt := 65) hx hb dX3_many_1 (by rw [c_1_is4]; decide) (by rw [c_1_is4]; decide) (by rw [c_1_is4]; rfl) (by decide) ?_
    refine lv_aload_n hx hb dX3_many_65 rfl (lv_at hl 0 rfl) ?_
    refine qGet (ci := 3) (v := .ref (ad 9)) (C := RX3) (T := TX3) (N := 7) hx hb hts hin3 hown hK hP 0 rfl rfl 2 (by decide) (hts (.fieldLink RX3 24 "PartCurves" "readings" "LPartCurves$Readings;") (by decide +kernel)) rfl dX3_many_66 ?_
    refine lv_iconst (v := 1) hx hb dX3_many_69 rfl ?_
    refine qVi (As := [.int 1]) (rest := []) hx hb hml hown hts (kX2_withRule l g z hj 1 (inv_rc hI)) gX3_many_X2_withRule rfl 1 hdX2_withRule rfl ⟨Nat.le_of_ble_eq_true rfl, Nat.le_of_ble_eq_true rfl⟩ ⟨Nat.zero_le _, Nat.zero_le _⟩ hK hP hS (fun _ h => h) 9 2 rfl rfl rfl hl.1 rfl (Nat.le_of_ble_eq_true rfl) dX3_many_70 (fun H locs hP hS => ?_)
    exact qRi hx hb hr hlk hP hK hS dX3_many_73 (by unfold s_many; rw [if_neg c_1_is0, if_neg c_1_is1, if_neg c_1_is2, if_neg c_1_is3, if_pos c_1_is4]) rfl
  by_cases c_1_is5 : w = 5
  · -- 1 is 5
    refine lv_tableIn (tgt := 74) hx hb dX3_many_1 (by rw [c_1_is5]; decide) (by rw [c_1_is5]; decide) (by rw [c_1_is5]; rfl) (by decide) ?_
    refine lv_aload_n hx hb dX3_many_74 rfl (lv_at hl 0 rfl) ?_
    refine qGet (ci := 3) (v := .ref (ad 9)) (C := RX3) (T := TX3) (N := 7) hx hb hts hin3 hown hK hP 0 rfl rfl 2 (by decide) (hts (.fieldLink RX3 24 "PartCurves" "readings" "LPartCurves$Readings;") (by decide +kernel)) rfl dX3_many_75 ?_
    refine lv_iconst (v := 2) hx hb dX3_many_78 rfl ?_
    refine qVi (As := [.int 2]) (rest := []) hx hb hml hown hts (kX2_withRule l g z hj 2 (inv_rc hI)) gX3_many_X2_withRule rfl 1 hdX2_withRule rfl ⟨Nat.le_of_ble_eq_true rfl, Nat.le_of_ble_eq_true rfl⟩ ⟨Nat.zero_le _, Nat.zero_le _⟩ hK hP hS (fun _ h => h) 9 2 rfl rfl rfl hl.1 rfl (Nat.le_of_ble_eq_true rfl) dX3_many_79 (fun H locs hP hS => ?_)
    exact qRi hx hb hr hlk hP hK hS dX3_many_82 (by unfold s_many; rw [if_neg c_1_is0, if_neg c_1_is1, if_neg c_1_is2, if_neg c_1_is3, if_neg c_1_is4, if_pos c_1_is5]) rfl
  refine lv_tableOut (tgt := 83) hx hb dX3_many_1 (by have := ne_toInt c_1_is0 (k := 0) rfl; have := ne_toInt c_1_is1 (k := 1) rfl; have := ne_toInt c_1_is2 (k := 2) rfl; have := ne_toInt c_1_is3 (k := 3) rfl; have := ne_toInt c_1_is4 (k := 4) rfl; have := ne_toInt c_1_is5 (k := 5) rfl; omega) (by decide) ?_
  refine lv_bipush (v := -2) hx hb dX3_many_83 (by decide) ?_
  exact qRi hx hb hr hlk hP hK hS dX3_many_85 (by unfold s_many; rw [if_neg c_1_is0, if_neg c_1_is1, if_neg c_1_is2, if_neg c_1_is3, if_neg c_1_is4, if_neg c_1_is5]) rfl
set_option maxHeartbeats 4000000 in
set_option maxRecDepth 100000 in
theorem kX3_sweep (l : Launch) (g : qG) {ad : Nat → Nat} (z : zS) (hj : adInj 15 ad) (hI : qInv z) (a b st w n back : Int32) : qMi l yX3_sweep wsX3_sweep 7 g (WX g ad) (adOf 15 ad) z [.ref (ad 0), .int a, .int b, .int st, .int w, .int n, .int back] ((s_sweep z a b st w n back).1) ((s_sweep z a b st w n back).2) := by
  refine qStart (cc := cX3_sweep) (maxL := 15) (ret := (some .int)) (plainFor_of_name (by decide)) rfl (Nat.le_of_ble_eq_true rfl) ?_
  intro p e s m args below meth c hx hb hml hown hts hr hlk hP hK ls hl
  have hl : lv_has ls 15 [(0, .ref (ad 0)), (1, .int a), (2, .int b), (3, .int st), (4, .int w), (5, .int n), (6, .int back)] := hl
  have hS : va_S (adOf 15 ad) s.heap s.heap [] := va_S.rf
  have hin3 : ∀ w ∈ u_ws RX3 TX3 7, w ∈ wsX3_sweep := by decide +kernel
  have loop : ∀ (k : Nat) (j : Nat) (y : zS), isSw a b st w n back = true → ¬ z 0 0 = 0 → j + k = allF a b st back → qInv y → ix (y 0 3) + k ≤ 60 → swR (10 + ix (inH z)) (inH z) a (if b < a then -st else st) w (ix n) (lastF a b st) (allF a b st back) k j y = s_sweep z a b st w n back → ∀ (H : Heap) (locs : List Loc), va_P g.1 vwCl ((WX g ad) y) H → va_S (adOf 15 ad) s.heap H locs → ∀ ls : Array Slot, lv_has ls 15 [(0, .ref (ad 0)), (1, .int a), (2, .int b), (3, .int st), (4, .int w), (5, .int n), (6, .int back), (7, .int (inH z)), (8, .ref (ad (10 + ix (inH z)))), (9, .int (nI (lastF a b st))), (10, .int (nI (allF a b st back))), (11, .int (if b < a then -st else st)), (12, .int (nI j))] → W p l e (rmL 7) s m args below meth c H locs 0 0 (MQ below (va_Qi (fun q9 u9 => q9 = (s_sweep z a b st w n back).1 ∧ u9 = (s_sweep z a b st w n back).2) (qU g (WX g ad)) (adOf 15 ad)) args s 0 0 (adOf 15 ad)) (F0 m 158 ls []) := by
    intro k
    induction k with
    | zero =>
      intro j y hsw hpw hj2 hIy hrr hz H locs hP hS ls hl
      have hsw6 := isSw_i hsw
      have hh := inH_lt (hI.2.2.2.2.2.2.2 hpw)
      have hp4 := hh.2.1
      have hsv := sw_v hsw6.1 hsw6.2.1 hsw6.2.2.1 (Nat.zero_le _)
      have hal := all_le (back := back) hsv.2.1
      have hal2 := all_2 a b st back
      obtain ⟨hn1, hn2, -⟩ := inR_ix (n := 100) rfl hsw6.2.2.2.2.2
      refine lv_iload hx hb dX3_sweep_158 (lv_at hl 12 rfl) ?_
      refine lv_iload hx hb dX3_sweep_160 (lv_at hl 10 rfl) ?_
      refine lv_icmp_ge (tgt := 246) hx hb dX3_sweep_162 (by decide) (fun c_162 => ?_) (fun c_162 => ?_)
      · -- 162 taken
        have c_162n := i_le_t c_162
        refine lv_iload hx hb dX3_sweep_246 (lv_at hl 10 rfl) ?_
        exact qRi hx hb hr hlk hP hK hS dX3_sweep_248 (by rw [← hz]; rfl) (by rw [← hz]; rfl)
      · -- 162 not taken
        have c_162n := i_le_f c_162
        exact absurd (nI_lt' (by omega) (by omega) c_162) (by omega)
    | succ k ih =>
      intro j y hsw hpw hj2 hIy hrr hz H locs hP hS ls hl
      have hsw6 := isSw_i hsw
      have hh := inH_lt (hI.2.2.2.2.2.2.2 hpw)
      have hp4 := hh.2.1
      have hsv := sw_v hsw6.1 hsw6.2.1 hsw6.2.2.1 (Nat.zero_le _)
      have hal := all_le (back := back) hsv.2.1
      have hal2 := all_2 a b st back
      obtain ⟨hn1, hn2, -⟩ := inR_ix (n := 100) rfl hsw6.2.2.2.2.2
      have hnr := rc_nf hIy.2.2.2.1 hrr
      refine lv_iload hx hb dX3_sweep_158 (lv_at hl 12 rfl) ?_
      refine lv_iload hx hb dX3_sweep_160 (lv_at hl 10 rfl) ?_
      refine lv_icmp_ge (tgt := 246) hx hb dX3_sweep_162 (by decide) (fun c_162 => ?_) (fun c_162 => ?_)
      · -- 162 taken
        have c_162n := i_le_t c_162
        exact absurd (nI_ge' (by omega) (by omega) c_162) (by omega)
      · -- 162 not taken
        have c_162n := i_le_f c_162
        refine lv_iload hx hb dX3_sweep_165 (lv_at hl 12 rfl) ?_
        refine lv_iload hx hb dX3_sweep_167 (lv_at hl 9 rfl) ?_
        refine lv_icmp_gt (tgt := 177) hx hb dX3_sweep_169 (by decide) (fun c_169 => ?_) (fun c_169 => ?_)
        · -- 169 taken
          have c_169n := i_lt_t c_169
          have hle := nI_gtt (by omega) (by omega) c_169
          refine lv_iconst (v := 2) hx hb dX3_sweep_177 rfl ?_
          refine lv_iload hx hb dX3_sweep_178 (lv_at hl 9 rfl) ?_
          refine lv_imul hx hb dX3_sweep_180 ?_
          refine lv_iload hx hb dX3_sweep_181 (lv_at hl 12 rfl) ?_
          refine lv_isub hx hb dX3_sweep_183 ?_
          refine lv_topi (fun y184 e184 => ?_)
          obtain rfl := e184.trans (stp_t hle (by omega))
          have hV := (sw_v hsw6.1 hsw6.2.1 hsw6.2.2.1 (k := if j ≤ lastF a b st then j else 2 * lastF a b st - j) (by split <;> omega)).1
          refine lv_istore (lv' := [(13, .int (nI (if j ≤ lastF a b st then j else 2 * lastF a b st - j))), (0, .ref (ad 0)), (1, .int a), (2, .int b), (3, .int st), (4, .int w), (5, .int n), (6, .int back), (7, .int (inH z)), (8, .ref (ad (10 + ix (inH z)))), (9, .int (nI (lastF a b st))), (10, .int (nI (allF a b st back))), (11, .int (if b < a then -st else st)), (12, .int (nI j))]) hx hb dX3_sweep_184 hl (by decide) rfl (fun ls hl => ?_)
          refine lv_aload_n hx hb dX3_sweep_186 rfl (lv_at hl 1 rfl) ?_
          refine lv_aload hx hb dX3_sweep_187 (lv_at hl 9 rfl) ?_
          refine lv_iload_n hx hb dX3_sweep_189 rfl (lv_at hl 2 rfl) ?_
          refine lv_iload hx hb dX3_sweep_190 (lv_at hl 0 rfl) ?_
          refine lv_iload hx hb dX3_sweep_192 (lv_at hl 12 rfl) ?_
          refine lv_imul hx hb dX3_sweep_194 ?_
          refine lv_iadd hx hb dX3_sweep_195 ?_
          refine lv_iload hx hb dX3_sweep_196 (lv_at hl 5 rfl) ?_
          refine qVi (As := [.ref (ad (10 + ix (inH z))), .int (a + ((nI (if j ≤ lastF a b st then j else 2 * lastF a b st - j)) * (if b < a then -st else st))), .int w]) (rest := []) hx hb hml hown hts (kX3_readPulse l g y hj hIy hp4 (a + ((nI (if j ≤ lastF a b st then j else 2 * lastF a b st - j)) * (if b < a then -st else st))) w hV hnr.1) gX3_sweep_X3_readPulse rfl 3 hdX3_readPulse rfl ⟨Nat.le_of_ble_eq_true rfl, Nat.le_of_ble_eq_true rfl⟩ ⟨Nat.zero_le _, Nat.zero_le _⟩ hK hP hS (fun _ h => h) 0 3 rfl rfl rfl hl.1 rfl (Nat.le_of_ble_eq_true rfl) dX3_sweep_198 (fun H locs hP hS => ?_)
          have hIq := inv_pulS hIy hp4 hV hsw6.2.2.2.1 hnr.1
          have hlq := pulS_low (z := y) (i := ix (inH z)) (a + nI (if j ≤ lastF a b st then j else 2 * lastF a b st - j) * (if b < a then -st else st)) w
          refine lv_istore (lv' := [(14, .int ((pulS y (10 + ix (inH z)) (a + nI (if j ≤ lastF a b st then j else 2 * lastF a b st - j) * (if b < a then -st else st)) w).1)), (13, .int (nI (if j ≤ lastF a b st then j else 2 * lastF a b st - j))), (0, .ref (ad 0)), (1, .int a), (2, .int b), (3, .int st), (4, .int w), (5, .int n), (6, .int back), (7, .int (inH z)), (8, .ref (ad (10 + ix (inH z)))), (9, .int (nI (lastF a b st))), (10, .int (nI (allF a b st back))), (11, .int (if b < a then -st else st)), (12, .int (nI j))]) hx hb dX3_sweep_201 hl (by decide) rfl (fun ls hl => ?_)
          refine lv_iload hx hb dX3_sweep_203 (lv_at hl 0 rfl) ?_
          refine lv_if_le (tgt := 234) hx hb dX3_sweep_205 (by decide) (fun c_205 => ?_) (fun c_205 => ?_)
          · -- 205 taken
            have c_205n := i_le_t c_205
            refine lv_aload_n hx hb dX3_sweep_234 rfl (lv_at hl 2 rfl) ?_
            refine lv_iload hx hb dX3_sweep_235 (lv_at hl 7 rfl) ?_
            refine lv_topi (fun y237 e237 => ?_)
            obtain rfl := e237.trans hn2
            refine qVv (As := [.int (nI (ix n))]) (rest := []) hx hb hml hown hts (kX3_coolAll l g ((pulS y (10 + ix (inH z)) (a + nI (if j ≤ lastF a b st then j else 2 * lastF a b st - j) * (if b < a then -st else st)) w).2) hj (ix n) hn1) gX3_sweep_X3_coolAll rfl 1 hdX3_coolAll rfl ⟨Nat.le_of_ble_eq_true rfl, Nat.le_of_ble_eq_true rfl⟩ ⟨Nat.zero_le _, Nat.zero_le _⟩ hK hP hS (fun _ h => h) 0 3 rfl rfl rfl hl.1 rfl (Nat.le_of_ble_eq_true rfl) dX3_sweep_237 (fun H locs hP hS => ?_)
            refine lv_iinc (v := nI (j + 1)) (lv' := [(12, .int (nI (j + 1))), (14, .int ((pulS y (10 + ix (inH z)) (a + nI (if j ≤ lastF a b st then j else 2 * lastF a b st - j) * (if b < a then -st else st)) w).1)), (13, .int (nI (if j ≤ lastF a b st then j else 2 * lastF a b st - j))), (0, .ref (ad 0)), (1, .int a), (2, .int b), (3, .int st), (4, .int w), (5, .int n), (6, .int back), (7, .int (inH z)), (8, .ref (ad (10 + ix (inH z)))), (9, .int (nI (lastF a b st))), (10, .int (nI (allF a b st back))), (11, .int (if b < a then -st else st))]) hx hb dX3_sweep_240 hl (k := 14) rfl (nI_1 j) (by decide) rfl (fun ls hl => ?_)
            refine lv_goto (tgt := 158) hx hb dX3_sweep_243 (by decide) ?_
            exact ih (j + 1) _ hsw hpw (by omega) (inv_coolA hIq _).1 (by rw [(inv_coolA hIq _).2.2 0 (by omega), hlq.2.1]; exact hnr.2) (by rw [← hz, swR, if_neg c_205n]) _ _ hP hS ls (lv_sub hl [3, 4, 5, 6, 7, 8, 9, 10, 11, 12, 13, 14, 0] rfl)
          · -- 205 not taken
            have c_205n := i_le_f c_205
            refine lv_aload_n hx hb dX3_sweep_208 rfl (lv_at hl 2 rfl) ?_
            refine qGet (ci := 3) (v := .ref (ad 14)) (C := RX3) (T := TX3) (N := 7) hx hb hts hin3 hown hK hP 0 rfl rfl 3 (by decide) (hts (.fieldLink RX3 31 "PartCurves" "causes" "LPartCurves$Causes;") (by decide +kernel)) rfl dX3_sweep_209 ?_
            refine lv_iconst (v := 1) hx hb dX3_sweep_212 rfl ?_
            refine lv_iload hx hb dX3_sweep_213 (lv_at hl 14 rfl) ?_
            refine qVv (As := [.int 1, .int (nI j)]) (rest := []) hx hb hml hown hts (kX0_put l g ((pulS y (10 + ix (inH z)) (a + nI (if j ≤ lastF a b st then j else 2 * lastF a b st - j) * (if b < a then -st else st)) w).2) hj 1 (nI j) hIq.2.2.2.2.1) gX3_sweep_X0_put rfl 2 hdX0_put rfl ⟨Nat.le_of_ble_eq_true rfl, Nat.le_of_ble_eq_true rfl⟩ ⟨Nat.zero_le _, Nat.zero_le _⟩ hK hP hS (fun _ h => h) 14 0 rfl rfl rfl hl.1 rfl (Nat.le_of_ble_eq_true rfl) dX3_sweep_215 (fun H locs hP hS => ?_)
            refine lv_aload_n hx hb dX3_sweep_218 rfl (lv_at hl 2 rfl) ?_
            refine lv_iload hx hb dX3_sweep_219 (lv_at hl 9 rfl) ?_
            refine lv_iload hx hb dX3_sweep_221 (lv_at hl 0 rfl) ?_
            refine qVv (As := [.int (inH z), .int ((pulS y (10 + ix (inH z)) (a + nI (if j ≤ lastF a b st then j else 2 * lastF a b st - j) * (if b < a then -st else st)) w).1)]) (rest := []) hx hb hml hown hts (kX3_tellBurnt l g (putS ((pulS y (10 + ix (inH z)) (a + nI (if j ≤ lastF a b st then j else 2 * lastF a b st - j) * (if b < a then -st else st)) w).2) 1 (nI j)) hj (inH z) ((pulS y (10 + ix (inH z)) (a + nI (if j ≤ lastF a b st then j else 2 * lastF a b st - j) * (if b < a then -st else st)) w).1) (inv_put hIq _ _).2.2.2.2.1) gX3_sweep_X3_tellBurnt rfl 2 hdX3_tellBurnt rfl ⟨Nat.le_of_ble_eq_true rfl, Nat.le_of_ble_eq_true rfl⟩ ⟨Nat.zero_le _, Nat.zero_le _⟩ hK hP hS (fun _ h => h) 0 3 rfl rfl rfl hl.1 rfl (Nat.le_of_ble_eq_true rfl) dX3_sweep_223 (fun H locs hP hS => ?_)
            refine lv_bipush (v := -100) hx hb dX3_sweep_226 (by decide) ?_
            refine lv_iload hx hb dX3_sweep_228 (lv_at hl 14 rfl) ?_
            refine lv_iconst (v := 1) hx hb dX3_sweep_230 rfl ?_
            refine lv_iadd hx hb dX3_sweep_231 ?_
            refine lv_isub hx hb dX3_sweep_232 ?_
            exact qRi hx hb hr hlk hP hK hS dX3_sweep_233 (by rw [← hz, swR, if_pos c_205n]) (by rw [← hz, swR, if_pos c_205n])
        · -- 169 not taken
          have c_169n := i_lt_f c_169
          have hle := nI_gtf (by omega) (by omega) c_169
          refine lv_iload hx hb dX3_sweep_172 (lv_at hl 12 rfl) ?_
          refine lv_goto (tgt := 184) hx hb dX3_sweep_174 (by decide) ?_
          refine lv_topi (fun y184 e184 => ?_)
          obtain rfl := e184.trans (stp_f hle)
          have hV := (sw_v hsw6.1 hsw6.2.1 hsw6.2.2.1 (k := if j ≤ lastF a b st then j else 2 * lastF a b st - j) (by split <;> omega)).1
          refine lv_istore (lv' := [(13, .int (nI (if j ≤ lastF a b st then j else 2 * lastF a b st - j))), (0, .ref (ad 0)), (1, .int a), (2, .int b), (3, .int st), (4, .int w), (5, .int n), (6, .int back), (7, .int (inH z)), (8, .ref (ad (10 + ix (inH z)))), (9, .int (nI (lastF a b st))), (10, .int (nI (allF a b st back))), (11, .int (if b < a then -st else st)), (12, .int (nI j))]) hx hb dX3_sweep_184 hl (by decide) rfl (fun ls hl => ?_)
          refine lv_aload_n hx hb dX3_sweep_186 rfl (lv_at hl 1 rfl) ?_
          refine lv_aload hx hb dX3_sweep_187 (lv_at hl 9 rfl) ?_
          refine lv_iload_n hx hb dX3_sweep_189 rfl (lv_at hl 2 rfl) ?_
          refine lv_iload hx hb dX3_sweep_190 (lv_at hl 0 rfl) ?_
          refine lv_iload hx hb dX3_sweep_192 (lv_at hl 12 rfl) ?_
          refine lv_imul hx hb dX3_sweep_194 ?_
          refine lv_iadd hx hb dX3_sweep_195 ?_
          refine lv_iload hx hb dX3_sweep_196 (lv_at hl 5 rfl) ?_
          refine qVi (As := [.ref (ad (10 + ix (inH z))), .int (a + ((nI (if j ≤ lastF a b st then j else 2 * lastF a b st - j)) * (if b < a then -st else st))), .int w]) (rest := []) hx hb hml hown hts (kX3_readPulse l g y hj hIy hp4 (a + ((nI (if j ≤ lastF a b st then j else 2 * lastF a b st - j)) * (if b < a then -st else st))) w hV hnr.1) gX3_sweep_X3_readPulse rfl 3 hdX3_readPulse rfl ⟨Nat.le_of_ble_eq_true rfl, Nat.le_of_ble_eq_true rfl⟩ ⟨Nat.zero_le _, Nat.zero_le _⟩ hK hP hS (fun _ h => h) 0 3 rfl rfl rfl hl.1 rfl (Nat.le_of_ble_eq_true rfl) dX3_sweep_198 (fun H locs hP hS => ?_)
          have hIq := inv_pulS hIy hp4 hV hsw6.2.2.2.1 hnr.1
          have hlq := pulS_low (z := y) (i := ix (inH z)) (a + nI (if j ≤ lastF a b st then j else 2 * lastF a b st - j) * (if b < a then -st else st)) w
          refine lv_istore (lv' := [(14, .int ((pulS y (10 + ix (inH z)) (a + nI (if j ≤ lastF a b st then j else 2 * lastF a b st - j) * (if b < a then -st else st)) w).1)), (13, .int (nI (if j ≤ lastF a b st then j else 2 * lastF a b st - j))), (0, .ref (ad 0)), (1, .int a), (2, .int b), (3, .int st), (4, .int w), (5, .int n), (6, .int back), (7, .int (inH z)), (8, .ref (ad (10 + ix (inH z)))), (9, .int (nI (lastF a b st))), (10, .int (nI (allF a b st back))), (11, .int (if b < a then -st else st)), (12, .int (nI j))]) hx hb dX3_sweep_201 hl (by decide) rfl (fun ls hl => ?_)
          refine lv_iload hx hb dX3_sweep_203 (lv_at hl 0 rfl) ?_
          refine lv_if_le (tgt := 234) hx hb dX3_sweep_205 (by decide) (fun c_205 => ?_) (fun c_205 => ?_)
          · -- 205 taken
            have c_205n := i_le_t c_205
            refine lv_aload_n hx hb dX3_sweep_234 rfl (lv_at hl 2 rfl) ?_
            refine lv_iload hx hb dX3_sweep_235 (lv_at hl 7 rfl) ?_
            refine lv_topi (fun y237 e237 => ?_)
            obtain rfl := e237.trans hn2
            refine qVv (As := [.int (nI (ix n))]) (rest := []) hx hb hml hown hts (kX3_coolAll l g ((pulS y (10 + ix (inH z)) (a + nI (if j ≤ lastF a b st then j else 2 * lastF a b st - j) * (if b < a then -st else st)) w).2) hj (ix n) hn1) gX3_sweep_X3_coolAll rfl 1 hdX3_coolAll rfl ⟨Nat.le_of_ble_eq_true rfl, Nat.le_of_ble_eq_true rfl⟩ ⟨Nat.zero_le _, Nat.zero_le _⟩ hK hP hS (fun _ h => h) 0 3 rfl rfl rfl hl.1 rfl (Nat.le_of_ble_eq_true rfl) dX3_sweep_237 (fun H locs hP hS => ?_)
            refine lv_iinc (v := nI (j + 1)) (lv' := [(12, .int (nI (j + 1))), (14, .int ((pulS y (10 + ix (inH z)) (a + nI (if j ≤ lastF a b st then j else 2 * lastF a b st - j) * (if b < a then -st else st)) w).1)), (13, .int (nI (if j ≤ lastF a b st then j else 2 * lastF a b st - j))), (0, .ref (ad 0)), (1, .int a), (2, .int b), (3, .int st), (4, .int w), (5, .int n), (6, .int back), (7, .int (inH z)), (8, .ref (ad (10 + ix (inH z)))), (9, .int (nI (lastF a b st))), (10, .int (nI (allF a b st back))), (11, .int (if b < a then -st else st))]) hx hb dX3_sweep_240 hl (k := 14) rfl (nI_1 j) (by decide) rfl (fun ls hl => ?_)
            refine lv_goto (tgt := 158) hx hb dX3_sweep_243 (by decide) ?_
            exact ih (j + 1) _ hsw hpw (by omega) (inv_coolA hIq _).1 (by rw [(inv_coolA hIq _).2.2 0 (by omega), hlq.2.1]; exact hnr.2) (by rw [← hz, swR, if_neg c_205n]) _ _ hP hS ls (lv_sub hl [3, 4, 5, 6, 7, 8, 9, 10, 11, 12, 13, 14, 0] rfl)
          · -- 205 not taken
            have c_205n := i_le_f c_205
            refine lv_aload_n hx hb dX3_sweep_208 rfl (lv_at hl 2 rfl) ?_
            refine qGet (ci := 3) (v := .ref (ad 14)) (C := RX3) (T := TX3) (N := 7) hx hb hts hin3 hown hK hP 0 rfl rfl 3 (by decide) (hts (.fieldLink RX3 31 "PartCurves" "causes" "LPartCurves$Causes;") (by decide +kernel)) rfl dX3_sweep_209 ?_
            refine lv_iconst (v := 1) hx hb dX3_sweep_212 rfl ?_
            refine lv_iload hx hb dX3_sweep_213 (lv_at hl 14 rfl) ?_
            refine qVv (As := [.int 1, .int (nI j)]) (rest := []) hx hb hml hown hts (kX0_put l g ((pulS y (10 + ix (inH z)) (a + nI (if j ≤ lastF a b st then j else 2 * lastF a b st - j) * (if b < a then -st else st)) w).2) hj 1 (nI j) hIq.2.2.2.2.1) gX3_sweep_X0_put rfl 2 hdX0_put rfl ⟨Nat.le_of_ble_eq_true rfl, Nat.le_of_ble_eq_true rfl⟩ ⟨Nat.zero_le _, Nat.zero_le _⟩ hK hP hS (fun _ h => h) 14 0 rfl rfl rfl hl.1 rfl (Nat.le_of_ble_eq_true rfl) dX3_sweep_215 (fun H locs hP hS => ?_)
            refine lv_aload_n hx hb dX3_sweep_218 rfl (lv_at hl 2 rfl) ?_
            refine lv_iload hx hb dX3_sweep_219 (lv_at hl 9 rfl) ?_
            refine lv_iload hx hb dX3_sweep_221 (lv_at hl 0 rfl) ?_
            refine qVv (As := [.int (inH z), .int ((pulS y (10 + ix (inH z)) (a + nI (if j ≤ lastF a b st then j else 2 * lastF a b st - j) * (if b < a then -st else st)) w).1)]) (rest := []) hx hb hml hown hts (kX3_tellBurnt l g (putS ((pulS y (10 + ix (inH z)) (a + nI (if j ≤ lastF a b st then j else 2 * lastF a b st - j) * (if b < a then -st else st)) w).2) 1 (nI j)) hj (inH z) ((pulS y (10 + ix (inH z)) (a + nI (if j ≤ lastF a b st then j else 2 * lastF a b st - j) * (if b < a then -st else st)) w).1) (inv_put hIq _ _).2.2.2.2.1) gX3_sweep_X3_tellBurnt rfl 2 hdX3_tellBurnt rfl ⟨Nat.le_of_ble_eq_true rfl, Nat.le_of_ble_eq_true rfl⟩ ⟨Nat.zero_le _, Nat.zero_le _⟩ hK hP hS (fun _ h => h) 0 3 rfl rfl rfl hl.1 rfl (Nat.le_of_ble_eq_true rfl) dX3_sweep_223 (fun H locs hP hS => ?_)
            refine lv_bipush (v := -100) hx hb dX3_sweep_226 (by decide) ?_
            refine lv_iload hx hb dX3_sweep_228 (lv_at hl 14 rfl) ?_
            refine lv_iconst (v := 1) hx hb dX3_sweep_230 rfl ?_
            refine lv_iadd hx hb dX3_sweep_231 ?_
            refine lv_isub hx hb dX3_sweep_232 ?_
            exact qRi hx hb hr hlk hP hK hS dX3_sweep_233 (by rw [← hz, swR, if_pos c_205n]) (by rw [← hz, swR, if_pos c_205n])
  refine lv_iload_n hx hb dX3_sweep_0 rfl (lv_at hl 1 rfl) ?_
  refine qSi (As := [.int a]) (rest := []) hx hb hml hown hts (kX3_isVolts l g (Wd := (WX g ad)) (A := (adOf 15 ad)) z a) gX3_sweep_X3_isVolts rfl 1 hdX3_isVolts rfl ⟨Nat.le_of_ble_eq_true rfl, Nat.le_of_ble_eq_true rfl⟩ ⟨Nat.zero_le _, Nat.zero_le _⟩ hK hP hS (fun _ h => h) hl.1 rfl (Nat.le_of_ble_eq_true rfl) dX3_sweep_1 (fun H locs hP hS => ?_)
  refine lv_if_eq (tgt := 57) hx hb dX3_sweep_4 (by decide) (fun c_4 => ?_) (fun c_4 => ?_)
  · -- 4 taken
    have c_4 := bI_0 c_4
    refine lv_bipush (v := -2) hx hb dX3_sweep_57 (by decide) ?_
    exact qRi hx hb hr hlk hP hK hS dX3_sweep_59 (by unfold s_sweep; rw [if_neg (fun h => absurd (isSw_i h).1 (bn c_4))]) (by unfold s_sweep; rw [if_neg (fun h => absurd (isSw_i h).1 (bn c_4))])
  · -- 4 not taken
    have c_4 := bI_n c_4
    refine lv_iload_n hx hb dX3_sweep_7 rfl (lv_at hl 2 rfl) ?_
    refine qSi (As := [.int b]) (rest := []) hx hb hml hown hts (kX3_isVolts l g (Wd := (WX g ad)) (A := (adOf 15 ad)) z b) gX3_sweep_X3_isVolts rfl 1 hdX3_isVolts rfl ⟨Nat.le_of_ble_eq_true rfl, Nat.le_of_ble_eq_true rfl⟩ ⟨Nat.zero_le _, Nat.zero_le _⟩ hK hP hS (fun _ h => h) hl.1 rfl (Nat.le_of_ble_eq_true rfl) dX3_sweep_8 (fun H locs hP hS => ?_)
    refine lv_if_eq (tgt := 57) hx hb dX3_sweep_11 (by decide) (fun c_11 => ?_) (fun c_11 => ?_)
    · -- 11 taken
      have c_11 := bI_0 c_11
      refine lv_bipush (v := -2) hx hb dX3_sweep_57 (by decide) ?_
      exact qRi hx hb hr hlk hP hK hS dX3_sweep_59 (by unfold s_sweep; rw [if_neg (fun h => absurd (isSw_i h).2.1 (bn c_11))]) (by unfold s_sweep; rw [if_neg (fun h => absurd (isSw_i h).2.1 (bn c_11))])
    · -- 11 not taken
      have c_11 := bI_n c_11
      refine lv_iload_n hx hb dX3_sweep_14 rfl (lv_at hl 3 rfl) ?_
      refine lv_iconst (v := 1) hx hb dX3_sweep_15 rfl ?_
      refine lv_sipush (v := 1000) hx hb dX3_sweep_16 (by decide) ?_
      refine qSi (As := [.int st, .int 1, .int 1000]) (rest := []) hx hb hml hown hts (kX3_within l g (Wd := (WX g ad)) (A := (adOf 15 ad)) z st 1 1000) gX3_sweep_X3_within rfl 3 hdX3_within rfl ⟨Nat.le_of_ble_eq_true rfl, Nat.le_of_ble_eq_true rfl⟩ ⟨Nat.zero_le _, Nat.zero_le _⟩ hK hP hS (fun _ h => h) hl.1 rfl (Nat.le_of_ble_eq_true rfl) dX3_sweep_19 (fun H locs hP hS => ?_)
      refine lv_if_eq (tgt := 57) hx hb dX3_sweep_22 (by decide) (fun c_22 => ?_) (fun c_22 => ?_)
      · -- 22 taken
        have c_22 := bI_0 c_22
        refine lv_bipush (v := -2) hx hb dX3_sweep_57 (by decide) ?_
        exact qRi hx hb hr hlk hP hK hS dX3_sweep_59 (by unfold s_sweep; rw [if_neg (fun h => absurd (isSw_i h).2.2.1 (bn c_22))]) (by unfold s_sweep; rw [if_neg (fun h => absurd (isSw_i h).2.2.1 (bn c_22))])
      · -- 22 not taken
        have c_22 := bI_n c_22
        refine lv_iload hx hb dX3_sweep_25 (lv_at hl 4 rfl) ?_
        refine lv_iconst (v := 1) hx hb dX3_sweep_27 rfl ?_
        refine lv_bipush (v := 50) hx hb dX3_sweep_28 (by decide) ?_
        refine qSi (As := [.int w, .int 1, .int 50]) (rest := []) hx hb hml hown hts (kX3_within l g (Wd := (WX g ad)) (A := (adOf 15 ad)) z w 1 50) gX3_sweep_X3_within rfl 3 hdX3_within rfl ⟨Nat.le_of_ble_eq_true rfl, Nat.le_of_ble_eq_true rfl⟩ ⟨Nat.zero_le _, Nat.zero_le _⟩ hK hP hS (fun _ h => h) hl.1 rfl (Nat.le_of_ble_eq_true rfl) dX3_sweep_30 (fun H locs hP hS => ?_)
        refine lv_if_eq (tgt := 57) hx hb dX3_sweep_33 (by decide) (fun c_33 => ?_) (fun c_33 => ?_)
        · -- 33 taken
          have c_33 := bI_0 c_33
          refine lv_bipush (v := -2) hx hb dX3_sweep_57 (by decide) ?_
          exact qRi hx hb hr hlk hP hK hS dX3_sweep_59 (by unfold s_sweep; rw [if_neg (fun h => absurd (isSw_i h).2.2.2.1 (bn c_33))]) (by unfold s_sweep; rw [if_neg (fun h => absurd (isSw_i h).2.2.2.1 (bn c_33))])
        · -- 33 not taken
          have c_33 := bI_n c_33
          refine lv_iload hx hb dX3_sweep_36 (lv_at hl 6 rfl) ?_
          refine lv_iconst (v := 0) hx hb dX3_sweep_38 rfl ?_
          refine lv_iconst (v := 1) hx hb dX3_sweep_39 rfl ?_
          refine qSi (As := [.int back, .int 0, .int 1]) (rest := []) hx hb hml hown hts (kX3_within l g (Wd := (WX g ad)) (A := (adOf 15 ad)) z back 0 1) gX3_sweep_X3_within rfl 3 hdX3_within rfl ⟨Nat.le_of_ble_eq_true rfl, Nat.le_of_ble_eq_true rfl⟩ ⟨Nat.zero_le _, Nat.zero_le _⟩ hK hP hS (fun _ h => h) hl.1 rfl (Nat.le_of_ble_eq_true rfl) dX3_sweep_40 (fun H locs hP hS => ?_)
          refine lv_if_eq (tgt := 57) hx hb dX3_sweep_43 (by decide) (fun c_43 => ?_) (fun c_43 => ?_)
          · -- 43 taken
            have c_43 := bI_0 c_43
            refine lv_bipush (v := -2) hx hb dX3_sweep_57 (by decide) ?_
            exact qRi hx hb hr hlk hP hK hS dX3_sweep_59 (by unfold s_sweep; rw [if_neg (fun h => absurd (isSw_i h).2.2.2.2.1 (bn c_43))]) (by unfold s_sweep; rw [if_neg (fun h => absurd (isSw_i h).2.2.2.2.1 (bn c_43))])
          · -- 43 not taken
            have c_43 := bI_n c_43
            refine lv_iload hx hb dX3_sweep_46 (lv_at hl 5 rfl) ?_
            refine lv_iconst (v := 0) hx hb dX3_sweep_48 rfl ?_
            refine lv_bipush (v := 100) hx hb dX3_sweep_49 (by decide) ?_
            refine qSi (As := [.int n, .int 0, .int 100]) (rest := []) hx hb hml hown hts (kX3_within l g (Wd := (WX g ad)) (A := (adOf 15 ad)) z n 0 100) gX3_sweep_X3_within rfl 3 hdX3_within rfl ⟨Nat.le_of_ble_eq_true rfl, Nat.le_of_ble_eq_true rfl⟩ ⟨Nat.zero_le _, Nat.zero_le _⟩ hK hP hS (fun _ h => h) hl.1 rfl (Nat.le_of_ble_eq_true rfl) dX3_sweep_51 (fun H locs hP hS => ?_)
            refine lv_if_ne (tgt := 60) hx hb dX3_sweep_54 (by decide) (fun c_54 => ?_) (fun c_54 => ?_)
            · -- 54 taken
              have c_54 := bI_n c_54
              have hsw : isSw a b st w n back = true := by simp [isSw, c_4, c_11, c_22, c_33, c_43, c_54]
              have hsv := sw_v c_4 c_11 c_22 (Nat.zero_le _)
              have hal := all_le (back := back) hsv.2.1
              refine lv_aload_n hx hb dX3_sweep_60 rfl (lv_at hl 0 rfl) ?_
              refine qVi (As := []) (rest := []) hx hb hml hown hts (kX3_inHand l g z hj) gX3_sweep_X3_inHand rfl 0 hdX3_inHand rfl ⟨Nat.le_of_ble_eq_true rfl, Nat.le_of_ble_eq_true rfl⟩ ⟨Nat.zero_le _, Nat.zero_le _⟩ hK hP hS (fun _ h => h) 0 3 rfl rfl rfl hl.1 rfl (Nat.le_of_ble_eq_true rfl) dX3_sweep_61 (fun H locs hP hS => ?_)
              refine lv_istore (lv' := [(7, .int (inH z)), (0, .ref (ad 0)), (1, .int a), (2, .int b), (3, .int st), (4, .int w), (5, .int n), (6, .int back)]) hx hb dX3_sweep_64 hl (by decide) rfl (fun ls hl => ?_)
              refine lv_aload_n hx hb dX3_sweep_66 rfl (lv_at hl 1 rfl) ?_
              refine lv_iload hx hb dX3_sweep_67 (lv_at hl 0 rfl) ?_
              by_cases hp : pOk z (inH z) = true
              · -- it holds
                have hp4 := pOk_lt hp
                refine qVq (As := [.int (inH z)]) (rest := []) (vv := .ref (ad (10 + ix (inH z)))) hx hb hml hown hts (kX3_partAt_t l g z hj (inH z) hp) gX3_sweep_X3_partAt rfl 1 hdX3_partAt rfl ⟨Nat.le_of_ble_eq_true rfl, Nat.le_of_ble_eq_true rfl⟩ ⟨Nat.zero_le _, Nat.zero_le _⟩ hK hP hS (fun _ h => h) 0 3 rfl rfl rfl hl.1 rfl (Nat.le_of_ble_eq_true rfl) rfl dX3_sweep_69 (fun H locs hP hS => ?_)
                refine lv_astore (lv' := [(8, .ref (ad (10 + ix (inH z)))), (7, .int (inH z)), (0, .ref (ad 0)), (1, .int a), (2, .int b), (3, .int st), (4, .int w), (5, .int n), (6, .int back)]) hx hb dX3_sweep_72 hl (by decide) rfl (fun ls hl => ?_)
                refine lv_aload_n hx hb dX3_sweep_74 rfl (lv_at hl 2 rfl) ?_
                refine qGet (ci := 3) (v := .int (z 0 0)) (C := RX3) (T := TX3) (N := 7) hx hb hts hin3 hown hK hP 0 rfl rfl 4 (by decide) (hts (.fieldLink RX3 35 "PartCurves" "powerOn" "Z") (by decide +kernel)) rfl dX3_sweep_75 ?_
                refine lv_if_eq (tgt := 86) hx hb dX3_sweep_78 (by decide) (fun c_78 => ?_) (fun c_78 => ?_)
                · -- 78 taken
                  refine lv_bipush (v := -3) hx hb dX3_sweep_86 (by decide) ?_
                  exact qRi hx hb hr hlk hP hK hS dX3_sweep_88 (by unfold s_sweep; rw [if_pos hsw, if_pos c_78]) (by unfold s_sweep; rw [if_pos hsw, if_pos c_78])
                · -- 78 not taken
                  refine lv_aload hx hb dX3_sweep_81 (lv_at hl 0 rfl) ?_
                  refine lv_ifnonnull (tgt := 89) hx hb dX3_sweep_83 (by decide) ?_
                  refine lv_iload_n hx hb dX3_sweep_89 rfl (lv_at hl 4 rfl) ?_
                  refine lv_iload_n hx hb dX3_sweep_90 rfl (lv_at hl 3 rfl) ?_
                  refine lv_isub hx hb dX3_sweep_91 ?_
                  refine q_abs hx hb (hml.trans hl.1.symm) hown (hts (.methodLink RX3 147 Lib.Math.abs.name) (by decide +kernel)) (hts (.static Lib.Math.abs.name) (by decide +kernel)) (hts (.initialized "java/lang/Math") (by decide +kernel)) (hts (.code Lib.Math.abs.name Lib.Math.abs.code 1 (some .int)) (by decide +kernel)) (Nat.le_of_ble_eq_true rfl) (Nat.le_of_ble_eq_true rfl) (Nat.zero_le _) (Nat.zero_le _) dX3_sweep_92 ?_
                  refine lv_iload_n hx hb dX3_sweep_95 rfl (lv_at hl 5 rfl) ?_
                  refine lv_idiv hx hb dX3_sweep_96 (st_ne0 c_22) ?_
                  refine lv_topi (fun y97 e97 => ?_)
                  obtain rfl := e97.trans hsv.2.2
                  refine lv_istore (lv' := [(9, .int (nI (lastF a b st))), (8, .ref (ad (10 + ix (inH z)))), (7, .int (inH z)), (0, .ref (ad 0)), (1, .int a), (2, .int b), (3, .int st), (4, .int w), (5, .int n), (6, .int back)]) hx hb dX3_sweep_97 hl (by decide) rfl (fun ls hl => ?_)
                  refine lv_iload hx hb dX3_sweep_99 (lv_at hl 9 rfl) ?_
                  refine lv_iconst (v := 1) hx hb dX3_sweep_101 rfl ?_
                  refine lv_icmp_ne (tgt := 114) hx hb dX3_sweep_102 (by decide) (fun c_102 => ?_) (fun c_102 => ?_)
                  · -- 102 taken
                    refine lv_iload hx hb dX3_sweep_114 (lv_at hl 0 rfl) ?_
                    refine lv_iconst (v := 1) hx hb dX3_sweep_116 rfl ?_
                    refine lv_iadd hx hb dX3_sweep_117 ?_
                    refine lv_topi (fun y118 e118 => ?_)
                    obtain rfl := e118.trans (all_f c_102)
                    refine lv_istore (lv' := [(10, .int (nI (allF a b st back))), (9, .int (nI (lastF a b st))), (8, .ref (ad (10 + ix (inH z)))), (7, .int (inH z)), (0, .ref (ad 0)), (1, .int a), (2, .int b), (3, .int st), (4, .int w), (5, .int n), (6, .int back)]) hx hb dX3_sweep_118 hl (by decide) rfl (fun ls hl => ?_)
                    refine lv_iload hx hb dX3_sweep_120 (lv_at hl 0 rfl) ?_
                    refine lv_aload_n hx hb dX3_sweep_122 rfl (lv_at hl 4 rfl) ?_
                    refine qGet (ci := 3) (v := .ref (ad 9)) (C := RX3) (T := TX3) (N := 7) hx hb hts hin3 hown hK hP 0 rfl rfl 2 (by decide) (hts (.fieldLink RX3 24 "PartCurves" "readings" "LPartCurves$Readings;") (by decide +kernel)) rfl dX3_sweep_123 ?_
                    refine qVi (As := []) (rest := [.int (nI (allF a b st back))]) hx hb hml hown hts (kX2_room l g z hj) gX3_sweep_X2_room rfl 0 hdX2_room rfl ⟨Nat.le_of_ble_eq_true rfl, Nat.le_of_ble_eq_true rfl⟩ ⟨Nat.zero_le _, Nat.zero_le _⟩ hK hP hS (fun _ h => h) 9 2 rfl rfl rfl hl.1 rfl (Nat.le_of_ble_eq_true rfl) dX3_sweep_126 (fun H locs hP hS => ?_)
                    refine lv_icmp_le (tgt := 135) hx hb dX3_sweep_129 (by decide) (fun c_129 => ?_) (fun c_129 => ?_)
                    · -- 129 taken
                      have c_129n := i_le_t c_129
                      have hrm := (room_iff (inv_rc hI) hal.1).mp c_129
                      refine lv_aload_n hx hb dX3_sweep_135 rfl (lv_at hl 4 rfl) ?_
                      refine qGet (ci := 3) (v := .ref (ad 14)) (C := RX3) (T := TX3) (N := 7) hx hb hts hin3 hown hK hP 0 rfl rfl 3 (by decide) (hts (.fieldLink RX3 31 "PartCurves" "causes" "LPartCurves$Causes;") (by decide +kernel)) rfl dX3_sweep_136 ?_
                      refine qVv (As := []) (rest := []) hx hb hml hown hts (kX0_clearAll l g z hj) gX3_sweep_X0_clearAll rfl 0 hdX0_clearAll rfl ⟨Nat.le_of_ble_eq_true rfl, Nat.le_of_ble_eq_true rfl⟩ ⟨Nat.zero_le _, Nat.zero_le _⟩ hK hP hS (fun _ h => h) 14 0 rfl rfl rfl hl.1 rfl (Nat.le_of_ble_eq_true rfl) dX3_sweep_139 (fun H locs hP hS => ?_)
                      refine lv_iload_n hx hb dX3_sweep_142 rfl (lv_at hl 6 rfl) ?_
                      refine lv_iload_n hx hb dX3_sweep_143 rfl (lv_at hl 5 rfl) ?_
                      refine lv_icmp_ge (tgt := 152) hx hb dX3_sweep_144 (by decide) (fun c_144 => ?_) (fun c_144 => ?_)
                      · -- 144 taken
                        have c_144n := i_le_t c_144
                        refine lv_iload_n hx hb dX3_sweep_152 rfl (lv_at hl 7 rfl) ?_
                        refine lv_topi (fun y153 e153 => ?_)
                        obtain rfl := e153.trans (show _ = (if b < a then -st else st) by rw [if_neg c_144n])
                        refine lv_istore (lv' := [(11, .int (if b < a then -st else st)), (10, .int (nI (allF a b st back))), (9, .int (nI (lastF a b st))), (8, .ref (ad (10 + ix (inH z)))), (7, .int (inH z)), (0, .ref (ad 0)), (1, .int a), (2, .int b), (3, .int st), (4, .int w), (5, .int n), (6, .int back)]) hx hb dX3_sweep_153 hl (by decide) rfl (fun ls hl => ?_)
                        refine lv_iconst (v := 0) hx hb dX3_sweep_155 rfl ?_
                        refine lv_istore (lv' := [(12, .int 0), (11, .int (if b < a then -st else st)), (10, .int (nI (allF a b st back))), (9, .int (nI (lastF a b st))), (8, .ref (ad (10 + ix (inH z)))), (7, .int (inH z)), (0, .ref (ad 0)), (1, .int a), (2, .int b), (3, .int st), (4, .int w), (5, .int n), (6, .int back)]) hx hb dX3_sweep_156 hl (by decide) rfl (fun ls hl => ?_)
                        exact loop (allF a b st back) 0 (zu z 0 4 0) hsw c_78 (Nat.zero_add _) (inv_cc0 hI) (by rw [zu_col z 0 4 0 3 0 (by omega)]; exact room_le (inv_rc hI) hal.1 hrm) (by unfold s_sweep; rw [if_pos hsw, if_neg c_78, if_neg hrm]) _ _ hP hS ls (lv_sub hl [6, 7, 8, 9, 10, 11, 12, 5, 4, 3, 2, 1, 0] rfl)
                      · -- 144 not taken
                        have c_144n := i_le_f c_144
                        refine lv_iload_n hx hb dX3_sweep_147 rfl (lv_at hl 7 rfl) ?_
                        refine lv_ineg hx hb dX3_sweep_148 ?_
                        refine lv_goto (tgt := 153) hx hb dX3_sweep_149 (by decide) ?_
                        refine lv_topi (fun y153 e153 => ?_)
                        obtain rfl := e153.trans (show _ = (if b < a then -st else st) by rw [if_pos c_144n])
                        refine lv_istore (lv' := [(11, .int (if b < a then -st else st)), (10, .int (nI (allF a b st back))), (9, .int (nI (lastF a b st))), (8, .ref (ad (10 + ix (inH z)))), (7, .int (inH z)), (0, .ref (ad 0)), (1, .int a), (2, .int b), (3, .int st), (4, .int w), (5, .int n), (6, .int back)]) hx hb dX3_sweep_153 hl (by decide) rfl (fun ls hl => ?_)
                        refine lv_iconst (v := 0) hx hb dX3_sweep_155 rfl ?_
                        refine lv_istore (lv' := [(12, .int 0), (11, .int (if b < a then -st else st)), (10, .int (nI (allF a b st back))), (9, .int (nI (lastF a b st))), (8, .ref (ad (10 + ix (inH z)))), (7, .int (inH z)), (0, .ref (ad 0)), (1, .int a), (2, .int b), (3, .int st), (4, .int w), (5, .int n), (6, .int back)]) hx hb dX3_sweep_156 hl (by decide) rfl (fun ls hl => ?_)
                        exact loop (allF a b st back) 0 (zu z 0 4 0) hsw c_78 (Nat.zero_add _) (inv_cc0 hI) (by rw [zu_col z 0 4 0 3 0 (by omega)]; exact room_le (inv_rc hI) hal.1 hrm) (by unfold s_sweep; rw [if_pos hsw, if_neg c_78, if_neg hrm]) _ _ hP hS ls (lv_sub hl [6, 7, 8, 9, 10, 11, 12, 5, 4, 3, 2, 1, 0] rfl)
                    · -- 129 not taken
                      have c_129n := i_le_f c_129
                      refine lv_bipush (v := -4) hx hb dX3_sweep_132 (by decide) ?_
                      exact qRi hx hb hr hlk hP hK hS dX3_sweep_134 (by unfold s_sweep; rw [if_pos hsw, if_neg c_78, if_pos (Classical.not_not.mp (fun q => c_129 ((room_iff (inv_rc hI) hal.1).mpr q)))]) (by unfold s_sweep; rw [if_pos hsw, if_neg c_78, if_pos (Classical.not_not.mp (fun q => c_129 ((room_iff (inv_rc hI) hal.1).mpr q)))])
                  · -- 102 not taken
                    refine lv_iconst (v := 2) hx hb dX3_sweep_105 rfl ?_
                    refine lv_iload hx hb dX3_sweep_106 (lv_at hl 0 rfl) ?_
                    refine lv_imul hx hb dX3_sweep_108 ?_
                    refine lv_iconst (v := 1) hx hb dX3_sweep_109 rfl ?_
                    refine lv_iadd hx hb dX3_sweep_110 ?_
                    refine lv_goto (tgt := 118) hx hb dX3_sweep_111 (by decide) ?_
                    refine lv_topi (fun y118 e118 => ?_)
                    obtain rfl := e118.trans (all_t c_102)
                    refine lv_istore (lv' := [(10, .int (nI (allF a b st back))), (9, .int (nI (lastF a b st))), (8, .ref (ad (10 + ix (inH z)))), (7, .int (inH z)), (0, .ref (ad 0)), (1, .int a), (2, .int b), (3, .int st), (4, .int w), (5, .int n), (6, .int back)]) hx hb dX3_sweep_118 hl (by decide) rfl (fun ls hl => ?_)
                    refine lv_iload hx hb dX3_sweep_120 (lv_at hl 0 rfl) ?_
                    refine lv_aload_n hx hb dX3_sweep_122 rfl (lv_at hl 4 rfl) ?_
                    refine qGet (ci := 3) (v := .ref (ad 9)) (C := RX3) (T := TX3) (N := 7) hx hb hts hin3 hown hK hP 0 rfl rfl 2 (by decide) (hts (.fieldLink RX3 24 "PartCurves" "readings" "LPartCurves$Readings;") (by decide +kernel)) rfl dX3_sweep_123 ?_
                    refine qVi (As := []) (rest := [.int (nI (allF a b st back))]) hx hb hml hown hts (kX2_room l g z hj) gX3_sweep_X2_room rfl 0 hdX2_room rfl ⟨Nat.le_of_ble_eq_true rfl, Nat.le_of_ble_eq_true rfl⟩ ⟨Nat.zero_le _, Nat.zero_le _⟩ hK hP hS (fun _ h => h) 9 2 rfl rfl rfl hl.1 rfl (Nat.le_of_ble_eq_true rfl) dX3_sweep_126 (fun H locs hP hS => ?_)
                    refine lv_icmp_le (tgt := 135) hx hb dX3_sweep_129 (by decide) (fun c_129 => ?_) (fun c_129 => ?_)
                    · -- 129 taken
                      have c_129n := i_le_t c_129
                      have hrm := (room_iff (inv_rc hI) hal.1).mp c_129
                      refine lv_aload_n hx hb dX3_sweep_135 rfl (lv_at hl 4 rfl) ?_
                      refine qGet (ci := 3) (v := .ref (ad 14)) (C := RX3) (T := TX3) (N := 7) hx hb hts hin3 hown hK hP 0 rfl rfl 3 (by decide) (hts (.fieldLink RX3 31 "PartCurves" "causes" "LPartCurves$Causes;") (by decide +kernel)) rfl dX3_sweep_136 ?_
                      refine qVv (As := []) (rest := []) hx hb hml hown hts (kX0_clearAll l g z hj) gX3_sweep_X0_clearAll rfl 0 hdX0_clearAll rfl ⟨Nat.le_of_ble_eq_true rfl, Nat.le_of_ble_eq_true rfl⟩ ⟨Nat.zero_le _, Nat.zero_le _⟩ hK hP hS (fun _ h => h) 14 0 rfl rfl rfl hl.1 rfl (Nat.le_of_ble_eq_true rfl) dX3_sweep_139 (fun H locs hP hS => ?_)
                      refine lv_iload_n hx hb dX3_sweep_142 rfl (lv_at hl 6 rfl) ?_
                      refine lv_iload_n hx hb dX3_sweep_143 rfl (lv_at hl 5 rfl) ?_
                      refine lv_icmp_ge (tgt := 152) hx hb dX3_sweep_144 (by decide) (fun c_144 => ?_) (fun c_144 => ?_)
                      · -- 144 taken
                        have c_144n := i_le_t c_144
                        refine lv_iload_n hx hb dX3_sweep_152 rfl (lv_at hl 7 rfl) ?_
                        refine lv_topi (fun y153 e153 => ?_)
                        obtain rfl := e153.trans (show _ = (if b < a then -st else st) by rw [if_neg c_144n])
                        refine lv_istore (lv' := [(11, .int (if b < a then -st else st)), (10, .int (nI (allF a b st back))), (9, .int (nI (lastF a b st))), (8, .ref (ad (10 + ix (inH z)))), (7, .int (inH z)), (0, .ref (ad 0)), (1, .int a), (2, .int b), (3, .int st), (4, .int w), (5, .int n), (6, .int back)]) hx hb dX3_sweep_153 hl (by decide) rfl (fun ls hl => ?_)
                        refine lv_iconst (v := 0) hx hb dX3_sweep_155 rfl ?_
                        refine lv_istore (lv' := [(12, .int 0), (11, .int (if b < a then -st else st)), (10, .int (nI (allF a b st back))), (9, .int (nI (lastF a b st))), (8, .ref (ad (10 + ix (inH z)))), (7, .int (inH z)), (0, .ref (ad 0)), (1, .int a), (2, .int b), (3, .int st), (4, .int w), (5, .int n), (6, .int back)]) hx hb dX3_sweep_156 hl (by decide) rfl (fun ls hl => ?_)
                        exact loop (allF a b st back) 0 (zu z 0 4 0) hsw c_78 (Nat.zero_add _) (inv_cc0 hI) (by rw [zu_col z 0 4 0 3 0 (by omega)]; exact room_le (inv_rc hI) hal.1 hrm) (by unfold s_sweep; rw [if_pos hsw, if_neg c_78, if_neg hrm]) _ _ hP hS ls (lv_sub hl [6, 7, 8, 9, 10, 11, 12, 5, 4, 3, 2, 1, 0] rfl)
                      · -- 144 not taken
                        have c_144n := i_le_f c_144
                        refine lv_iload_n hx hb dX3_sweep_147 rfl (lv_at hl 7 rfl) ?_
                        refine lv_ineg hx hb dX3_sweep_148 ?_
                        refine lv_goto (tgt := 153) hx hb dX3_sweep_149 (by decide) ?_
                        refine lv_topi (fun y153 e153 => ?_)
                        obtain rfl := e153.trans (show _ = (if b < a then -st else st) by rw [if_pos c_144n])
                        refine lv_istore (lv' := [(11, .int (if b < a then -st else st)), (10, .int (nI (allF a b st back))), (9, .int (nI (lastF a b st))), (8, .ref (ad (10 + ix (inH z)))), (7, .int (inH z)), (0, .ref (ad 0)), (1, .int a), (2, .int b), (3, .int st), (4, .int w), (5, .int n), (6, .int back)]) hx hb dX3_sweep_153 hl (by decide) rfl (fun ls hl => ?_)
                        refine lv_iconst (v := 0) hx hb dX3_sweep_155 rfl ?_
                        refine lv_istore (lv' := [(12, .int 0), (11, .int (if b < a then -st else st)), (10, .int (nI (allF a b st back))), (9, .int (nI (lastF a b st))), (8, .ref (ad (10 + ix (inH z)))), (7, .int (inH z)), (0, .ref (ad 0)), (1, .int a), (2, .int b), (3, .int st), (4, .int w), (5, .int n), (6, .int back)]) hx hb dX3_sweep_156 hl (by decide) rfl (fun ls hl => ?_)
                        exact loop (allF a b st back) 0 (zu z 0 4 0) hsw c_78 (Nat.zero_add _) (inv_cc0 hI) (by rw [zu_col z 0 4 0 3 0 (by omega)]; exact room_le (inv_rc hI) hal.1 hrm) (by unfold s_sweep; rw [if_pos hsw, if_neg c_78, if_neg hrm]) _ _ hP hS ls (lv_sub hl [6, 7, 8, 9, 10, 11, 12, 5, 4, 3, 2, 1, 0] rfl)
                    · -- 129 not taken
                      have c_129n := i_le_f c_129
                      refine lv_bipush (v := -4) hx hb dX3_sweep_132 (by decide) ?_
                      exact qRi hx hb hr hlk hP hK hS dX3_sweep_134 (by unfold s_sweep; rw [if_pos hsw, if_neg c_78, if_pos (Classical.not_not.mp (fun q => c_129 ((room_iff (inv_rc hI) hal.1).mpr q)))]) (by unfold s_sweep; rw [if_pos hsw, if_neg c_78, if_pos (Classical.not_not.mp (fun q => c_129 ((room_iff (inv_rc hI) hal.1).mpr q)))])
              · -- it doesn't
                refine qVq (As := [.int (inH z)]) (rest := []) (vv := .null) hx hb hml hown hts (kX3_partAt_f l g z hj (inH z) hp) gX3_sweep_X3_partAt rfl 1 hdX3_partAt rfl ⟨Nat.le_of_ble_eq_true rfl, Nat.le_of_ble_eq_true rfl⟩ ⟨Nat.zero_le _, Nat.zero_le _⟩ hK hP hS (fun _ h => h) 0 3 rfl rfl rfl hl.1 rfl (Nat.le_of_ble_eq_true rfl) rfl dX3_sweep_69 (fun H locs hP hS => ?_)
                refine lv_astoreN (lv' := [(8, .null), (7, .int (inH z)), (0, .ref (ad 0)), (1, .int a), (2, .int b), (3, .int st), (4, .int w), (5, .int n), (6, .int back)]) hx hb dX3_sweep_72 hl (by decide) rfl (fun ls hl => ?_)
                refine lv_aload_n hx hb dX3_sweep_74 rfl (lv_at hl 2 rfl) ?_
                refine qGet (ci := 3) (v := .int (z 0 0)) (C := RX3) (T := TX3) (N := 7) hx hb hts hin3 hown hK hP 0 rfl rfl 4 (by decide) (hts (.fieldLink RX3 35 "PartCurves" "powerOn" "Z") (by decide +kernel)) rfl dX3_sweep_75 ?_
                refine lv_if_eq (tgt := 86) hx hb dX3_sweep_78 (by decide) (fun c_78 => ?_) (fun c_78 => ?_)
                · -- 78 taken
                  refine lv_bipush (v := -3) hx hb dX3_sweep_86 (by decide) ?_
                  exact qRi hx hb hr hlk hP hK hS dX3_sweep_88 (by unfold s_sweep; rw [if_pos hsw, if_pos c_78]) (by unfold s_sweep; rw [if_pos hsw, if_pos c_78])
                · -- 78 not taken
                  exact absurd (pOk_inH (hI.2.2.2.2.2.2.2 c_78)) hp
            · -- 54 not taken
              have c_54 := bI_0 c_54
              refine lv_bipush (v := -2) hx hb dX3_sweep_57 (by decide) ?_
              exact qRi hx hb hr hlk hP hK hS dX3_sweep_59 (by unfold s_sweep; rw [if_neg (fun h => absurd (isSw_i h).2.2.2.2.2 (bn c_54))]) (by unfold s_sweep; rw [if_neg (fun h => absurd (isSw_i h).2.2.2.2.2 (bn c_54))])
