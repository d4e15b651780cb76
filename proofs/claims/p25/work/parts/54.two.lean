/-! TWO HOUSES: worlds, calls and ends over both. -/
section QSTL
variable {p : Program} {l : Launch} {e : Env} {R : Room} {s : State} {m : MethodId} {args : Array Value} {below : List Frame} {meth : Method} {c : Code} {H : Heap} {locs : List Loc} {cells slots : Nat} {Q : State → Prop}
variable {g : qG} {cc : ByteArray} {pc : Nat} {ls : Array Slot}
theorem qViTF {S : Type} {Wd : S → va_W} {A : Nat → Prop} {A0 : Nat → Prop} (hT : qT A0 s) {u U : S} {E : Int32} {y : MethodName} {ws ws' Ts : List Cond} {d nL index maxL : Nat} {own C : String} {bytes : ByteArray} {ret : Option FieldType} {b : Nat} {As rest st : List Value} (hx : p.tables.exec = Jvm.exec) (hb : c.code = cc) (hml : c.maxLocals = nL) (hown : s.vm.findClass own = some m.cls) (hts : ∀ w ∈ Ts, w.before args s = true)
    (hM : qMiT l y ws d g Wd A u (.ref b :: As) E U) (hG : GoodIn Ts (wsV own index C y ws)) (hw : ws = .code y bytes maxL ret :: ws') (n : Nat) (hd : y.cls = C ∧ y.cls ≠ "java/lang/invoke/MethodHandle" ∧ y.cls ≠ "java/lang/invoke/VarHandle" ∧ (parseMethodDescriptor y.desc).map (fun d => d.parameters.length) = some n) (hn : As.length = n) (hR : (rmL d).frames + 1 ≤ R.frames ∧ 8 + (maxL + 11) + (rmL d).locals ≤ R.locals) (hcs : cells + 0 ≤ R.cells ∧ slots + 0 ≤ R.slots) (hK : va_K g.1 vwCl (qTys g) s) (hP : va_P g.1 vwCl (Wd u) H) (hS : va_S A0 s.heap H locs) (hA : ∀ q, A q → A0 q) (q0 ci : Nat) {fs : List Value} {r : vw_C} (hc : vwCl[ci]? = some r) (hrC : r.1 = C) (he : (Wd u)[q0]? = some (b, .inr (ci, fs))) (hl : ls.size = nL) (hst : st = As.reverse ++ .ref b :: rest) (hcat : (rest.map fun v => v.category).sum ≤ 8) (hdg : decode cc pc = .ok (.invokevirtual index, 3))
    (kk : ∀ (H1 : Heap) (locs1 : List Loc), H.size ≤ H1.size → (∀ q : Nat, q < H.size → ¬ A q → H1[q]? = H[q]?) → va_P g.1 vwCl (Wd U) H1 → va_S A0 s.heap H1 locs1 → W p l e R s m args below meth c H1 locs1 cells slots Q (F0 m (pc + 3) ls (.int E :: rest))) : W p l e R s m args below meth c H locs cells slots Q (F0 m pc ls st) := by
  subst hrC
  refine va_calli (va_runV (As := As) (rest := rest) ⟨hx, hb, hml, hown, hts⟩ hM (cwV n hts hG hw rfl rfl hd hR) ⟨qBlindT, va_recv hK hP hc he, fun U2 hU hW => ⟨rfl, ⟨by rw [hU]; exact hP, va_K.moved hW.alike hK⟩, (hT.at hW.alike (fun a ha hn => by rw [hU]; exact hS.2.1 a ha hn)).narrow hA⟩⟩ rfl hn hl hst (lv_room hcat) hdg hcs) hS (fun q _ h => hA q h) (fun q h => hA q h) (fun r u2 t H1 locs1 ht hvm hw2 hB hz hk hS1 => ?_)
  obtain ⟨rfl, rfl⟩ := hw2
  exact kk H1 locs1 hz hk (by rw [← ht]; exact hB.1) hS1
end QSTL
def aP (ad : Nat → Nat) : Nat → Nat := fun i => ad (15 + i)
def W2 (g : qG) (ad : Nat → Nat) (u : zS × zS) : va_W := WX g ad u.1 ++ WX g (aP ad) u.2
def qE : Unit → va_W := fun _ => []
theorem P_e {g : qG} {H : Heap} : va_P g.1 vwCl (qE ()) H := fun k q h => by simp [qE] at h
theorem P_all {g : qG} {ws : va_W} {H H1 : Heap} (h : va_P g.1 vwCl ws H) (hk : ∀ q : Nat, q < H.size → ¬ False → H1[q]? = H[q]?) : va_P g.1 vwCl ws H1 :=
  h.kept (fun k q hq => hk q.1 (h k q hq).lt (fun t => t))
theorem WX_len (g : qG) (ad : Nat → Nat) (z : zS) : (WX g ad z).length = 15 := rfl
theorem P2_mk {g : qG} {ad : Nat → Nat} {zo zp : zS} {H : Heap} (h1 : va_P g.1 vwCl (WX g ad zo) H) (h2 : va_P g.1 vwCl (WX g (aP ad) zp) H) : va_P g.1 vwCl (W2 g ad (zo, zp)) H := fun k q h => by
  rcases Nat.lt_or_ge k 15 with c | c
  · rw [W2, List.getElem?_append_left (by rw [WX_len]; exact c)] at h
    exact h1 k q h
  · rw [W2, List.getElem?_append_right (by rw [WX_len]; exact c), WX_len] at h
    exact h2 (k - 15) q h
theorem P2_o {g : qG} {ad : Nat → Nat} {zo zp : zS} {H : Heap} (h : va_P g.1 vwCl (W2 g ad (zo, zp)) H) : va_P g.1 vwCl (WX g ad zo) H := fun k q hq => h k q (by
  have hk : k < 15 := by
    have := (List.getElem?_eq_some_iff.mp hq).1
    rw [WX_len] at this; exact this
  rw [W2, List.getElem?_append_left (by rw [WX_len]; exact hk)]; exact hq)
theorem P2_p {g : qG} {ad : Nat → Nat} {zo zp : zS} {H : Heap} (h : va_P g.1 vwCl (W2 g ad (zo, zp)) H) : va_P g.1 vwCl (WX g (aP ad) zp) H := fun k q hq => h (15 + k) q (by
  rw [W2, List.getElem?_append_right (by rw [WX_len]; omega), WX_len, show 15 + k - 15 = k by omega]; exact hq)
theorem J_o {ad : Nat → Nat} (h : adInj 30 ad) : adInj 15 ad := fun i j hi hj e => h i j (by omega) (by omega) e
theorem J_p {ad : Nat → Nat} (h : adInj 30 ad) : adInj 15 (aP ad) := fun i j hi hj e => by
  have := h (15 + i) (15 + j) (by omega) (by omega) e
  omega
theorem A_o {ad : Nat → Nat} : ∀ q, adOf 15 ad q → adOf 30 ad q := fun q h => by
  obtain ⟨i, hi, e⟩ := h; exact ⟨i, by omega, e⟩
theorem A_p {ad : Nat → Nat} : ∀ q, adOf 15 (aP ad) q → adOf 30 ad q := fun q h => by
  obtain ⟨i, hi, e⟩ := h; exact ⟨15 + i, by omega, e⟩
theorem P2_kp {g : qG} {ad : Nat → Nat} {zp : zS} {H H1 : Heap} (hj : adInj 30 ad) (h : va_P g.1 vwCl (WX g (aP ad) zp) H) (hk : ∀ q : Nat, q < H.size → ¬ adOf 15 ad q → H1[q]? = H[q]?) : va_P g.1 vwCl (WX g (aP ad) zp) H1 :=
  h.kept (fun k q hq => by
    obtain ⟨h1, h2⟩ := q_dom (WX_dom g (aP ad) zp) hq
    refine hk q.1 (h k q hq).lt (fun t => ?_)
    obtain ⟨i, hi, e⟩ := t
    rw [h2] at e
    have := hj (15 + k) i (by omega) (by omega) e
    omega)
theorem P2_ko {g : qG} {ad : Nat → Nat} {zo : zS} {H H1 : Heap} (hj : adInj 30 ad) (h : va_P g.1 vwCl (WX g ad zo) H) (hk : ∀ q : Nat, q < H.size → ¬ adOf 15 (aP ad) q → H1[q]? = H[q]?) : va_P g.1 vwCl (WX g ad zo) H1 :=
  h.kept (fun k q hq => by
    obtain ⟨h1, h2⟩ := q_dom (WX_dom g ad zo) hq
    refine hk q.1 (h k q hq).lt (fun t => ?_)
    obtain ⟨i, hi, e⟩ := t
    rw [h2] at e
    have := hj k (15 + i) (by omega) (by omega) e
    omega)
/-- a contract: the answer is 1, and what R says of the world behind it -/
def qMiR {S : Type} (l : Launch) (y : MethodName) (ws : List Cond) (d : Nat) (g : qG) (Wd : S → va_W) (A : Nat → Prop) (u : S) (as : List Value) (Rl : S → Prop) : Prop := Met l y ws (rmL d) (va_Pc as (qU g Wd u)) (va_Qi (fun r u' => r = 1 ∧ Rl u') (qU g Wd) A) 0 0 A
def qMiTR {S : Type} (l : Launch) (y : MethodName) (ws : List Cond) (d : Nat) (g : qG) (Wd : S → va_W) (A : Nat → Prop) (u : S) (as : List Value) (Rl : S → Prop) : Prop := Met l y ws (rmL d) (va_Pc as (fun V => qU g Wd u V ∧ qT A V)) (va_Qi (fun r u' => r = 1 ∧ Rl u') (qU g Wd) A) 0 0 A
section QSTW
variable {p : Program} {l : Launch} {e : Env} {R : Room} {s : State} {m : MethodId} {args : Array Value} {below : List Frame} {meth : Method} {c : Code} {H : Heap} {locs : List Loc} {cells slots : Nat} {Q : State → Prop}
variable {S : Type} {g : qG} {Wd : S → va_W} {A : Nat → Prop} {cc : ByteArray} {pc : Nat} {ls : Array Slot}
theorem qRzR (hx : p.tables.exec = Jvm.exec) (hb : c.code = cc) (hr : meth.sig.returnType = some .boolean) (hlk : meth.locks = false) {v : Int32} {Rl : S → Prop} {u' : S} (hn : narrow .boolean (.int v) = .int v) (hP : va_P g.1 vwCl (Wd u') H) (hK : va_K g.1 vwCl (qTys g) s) (hS : va_S A s.heap H locs) (hdg : decode cc pc = .ok (.ireturn, 1)) (h1 : v = 1) (h2 : Rl u') : W p l e R s m args below meth c H locs 0 0 (MQ below (va_Qi (fun r u' => r = 1 ∧ Rl u') (qU g Wd) A) args s 0 0 A) (F0 m pc ls [.int v]) :=
  W.zret (v := v) hx hb hr hn (fun t ht hW => ⟨⟨v, u', rfl, ⟨h1, h2⟩, by rw [ht]; exact hP, va_K.moved hW.alike hK⟩, hS.F ht⟩) hS.2.2 hdg hlk
theorem qSiR {A0 : Nat → Prop} {H0 : Heap} {u : S} {Rl : S → Prop} {y : MethodName} {ws ws' Ts : List Cond} {d nL index maxL : Nat} {own : String} {bytes : ByteArray} {ret : Option FieldType} {As rest st : List Value} (hx : p.tables.exec = Jvm.exec) (hb : c.code = cc) (hml : c.maxLocals = nL) (hown : s.vm.findClass own = some m.cls) (hts : ∀ w ∈ Ts, w.before args s = true)
    (hM : qMiR l y ws d g Wd A u As Rl) (hG : GoodIn Ts (va_wsS own index y ws)) (hw : ws = .code y bytes maxL ret :: ws') (n : Nat) (hd : y.cls ≠ "java/lang/invoke/MethodHandle" ∧ y.cls ≠ "java/lang/invoke/VarHandle" ∧ (parseMethodDescriptor y.desc).map (fun d => d.parameters.length) = some n) (hn : As.length = n) (hR : (rmL d).frames + 1 ≤ R.frames ∧ 8 + (maxL + 11) + (rmL d).locals ≤ R.locals) (hcs : cells + 0 ≤ R.cells ∧ slots + 0 ≤ R.slots) (hK : va_K g.1 vwCl (qTys g) s) (hP : va_P g.1 vwCl (Wd u) H) (hS : va_S A0 H0 H locs) (hA : ∀ q, A q → A0 q) (hl : ls.size = nL) (hst : st = As.reverse ++ rest) (hcat : (rest.map fun v => v.category).sum ≤ 8) (hdg : decode cc pc = .ok (.invokestatic index, 3))
    (kk : ∀ (u' : S) (H1 : Heap) (locs1 : List Loc), Rl u' → H.size ≤ H1.size → (∀ q : Nat, q < H.size → ¬ A q → H1[q]? = H[q]?) → va_P g.1 vwCl (Wd u') H1 → va_S A0 H0 H1 locs1 → W p l e R s m args below meth c H1 locs1 cells slots Q (F0 m (pc + 3) ls (.int 1 :: rest))) : W p l e R s m args below meth c H locs cells slots Q (F0 m pc ls st) := by
  refine va_calli (va_runS (As := As) (rest := rest) ⟨hx, hb, hml, hown, hts⟩ hM (va_cwS n hts hG hw rfl rfl hd hR) ⟨qBlind, fun U2 hU hW => ⟨rfl, by rw [hU]; exact hP, va_K.moved hW.alike hK⟩⟩ rfl hn hl hst (lv_room hcat) hdg hcs) hS (fun q _ h => hA q h) (fun q h => hA q h) (fun r u2 t H1 locs1 ht hvm hw2 hB hz hk hS1 => ?_)
  obtain ⟨rfl, h2⟩ := hw2
  exact kk u2 H1 locs1 h2 hz hk (by rw [← ht]; exact hB.1) hS1
theorem qSiTR {A0 : Nat → Prop} (hT : qT A0 s) {u : S} {Rl : S → Prop} {y : MethodName} {ws ws' Ts : List Cond} {d nL index maxL : Nat} {own : String} {bytes : ByteArray} {ret : Option FieldType} {As rest st : List Value} (hx : p.tables.exec = Jvm.exec) (hb : c.code = cc) (hml : c.maxLocals = nL) (hown : s.vm.findClass own = some m.cls) (hts : ∀ w ∈ Ts, w.before args s = true)
    (hM : qMiTR l y ws d g Wd A u As Rl) (hG : GoodIn Ts (va_wsS own index y ws)) (hw : ws = .code y bytes maxL ret :: ws') (n : Nat) (hd : y.cls ≠ "java/lang/invoke/MethodHandle" ∧ y.cls ≠ "java/lang/invoke/VarHandle" ∧ (parseMethodDescriptor y.desc).map (fun d => d.parameters.length) = some n) (hn : As.length = n) (hR : (rmL d).frames + 1 ≤ R.frames ∧ 8 + (maxL + 11) + (rmL d).locals ≤ R.locals) (hcs : cells + 0 ≤ R.cells ∧ slots + 0 ≤ R.slots) (hK : va_K g.1 vwCl (qTys g) s) (hP : va_P g.1 vwCl (Wd u) H) (hS : va_S A0 s.heap H locs) (hA : ∀ q, A q → A0 q) (hl : ls.size = nL) (hst : st = As.reverse ++ rest) (hcat : (rest.map fun v => v.category).sum ≤ 8) (hdg : decode cc pc = .ok (.invokestatic index, 3))
    (kk : ∀ (u' : S) (H1 : Heap) (locs1 : List Loc), Rl u' → H.size ≤ H1.size → (∀ q : Nat, q < H.size → ¬ A q → H1[q]? = H[q]?) → va_P g.1 vwCl (Wd u') H1 → va_S A0 s.heap H1 locs1 → W p l e R s m args below meth c H1 locs1 cells slots Q (F0 m (pc + 3) ls (.int 1 :: rest))) : W p l e R s m args below meth c H locs cells slots Q (F0 m pc ls st) := by
  refine va_calli (va_runS (As := As) (rest := rest) ⟨hx, hb, hml, hown, hts⟩ hM (va_cwS n hts hG hw rfl rfl hd hR) ⟨qBlindT, fun U2 hU hW => ⟨rfl, ⟨by rw [hU]; exact hP, va_K.moved hW.alike hK⟩, (hT.at hW.alike (fun a ha hn => by rw [hU]; exact hS.2.1 a ha hn)).narrow hA⟩⟩ rfl hn hl hst (lv_room hcat) hdg hcs) hS (fun q _ h => hA q h) (fun q h => hA q h) (fun r u2 t H1 locs1 ht hvm hw2 hB hz hk hS1 => ?_)
  obtain ⟨rfl, h2⟩ := hw2
  exact kk u2 H1 locs1 h2 hz hk (by rw [← ht]; exact hB.1) hS1
end QSTW
-- masks
theorem and_le (x : Int32) {k : Nat} (hk : k < 2 ^ 31) : 0 ≤ (x &&& nI k).toInt ∧ (x &&& nI k).toInt ≤ (k : Int) := by
  have e : (nI k).toInt = (k : Int) := nI_toInt hk
  have h1 : (x &&& nI k).toInt = (x.toBitVec &&& (nI k).toBitVec).toInt := rfl
  have hm : (nI k).toBitVec.msb = false := by
    have h3 := BitVec.msb_eq_toInt (x := (nI k).toBitVec)
    have h4 : (nI k).toBitVec.toInt = (nI k).toInt := rfl
    rw [h4, e] at h3
    rw [h3]
    exact decide_eq_false (by omega)
  have h2 : (x.toBitVec &&& (nI k).toBitVec).msb = false := by rw [BitVec.msb_and, hm, Bool.and_false]
  have h5 : (x.toBitVec &&& (nI k).toBitVec).toInt = ((x.toBitVec &&& (nI k).toBitVec).toNat : Int) := BitVec.toInt_eq_toNat_of_msb h2
  have h6 : (nI k).toBitVec.toInt = ((nI k).toBitVec.toNat : Int) := BitVec.toInt_eq_toNat_of_msb hm
  have h7 : (x.toBitVec &&& (nI k).toBitVec).toNat ≤ (nI k).toBitVec.toNat := by
    rw [BitVec.toNat_and]; exact Nat.and_le_right
  have h8 : (nI k).toBitVec.toInt = (nI k).toInt := rfl
  rw [h1, h5]
  omega
theorem and_in (x : Int32) {k : Nat} (hk : k < 2 ^ 31) {mk bk : Int32} (hm : mk = nI k) (hbk : bk.toInt = (k : Int)) : inR (x &&& mk) 0 bk = true := by
  have h := and_le x hk
  rw [hm, inR_iff, i0, hbk]; exact h
