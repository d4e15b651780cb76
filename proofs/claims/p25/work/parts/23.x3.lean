section QMATH
variable {p : Program} {l : Launch} {e : Env} {R : Room} {s : State} {m : MethodId} {args : Array Value} {below : List Frame} {meth : Method} {c : Code} {H : Heap} {locs : List Loc} {cells slots : Nat} {Q : State → Prop} {pc : Nat} {ls : Array Slot} {rest : List Value}
theorem q_abs {cc : ByteArray} (hexec : p.tables.exec = Jvm.exec) (hb : c.code = cc) (hml : c.maxLocals = ls.size) {own : String} {index : Nat} (hown : s.vm.findClass own = some m.cls) (hlink : (Cond.methodLink own index Lib.Math.abs.name).before args s = true) (hstat : (Cond.static Lib.Math.abs.name).before args s = true) (hini : (Cond.initialized "java/lang/Math").before args s = true) (hcode : (Cond.code Lib.Math.abs.name Lib.Math.abs.code 1 (some .int)).before args s = true)
    (hframes : 1 ≤ R.frames) (hlocals : (rest.map fun v => v.category).sum + 13 ≤ R.locals) (hc : cells ≤ R.cells) (hs : slots ≤ R.slots) {x : Int32} (hdg : decode cc pc = .ok (.invokestatic index, 3))
    (kk : W p l e R s m args below meth c H locs cells slots Q (F0 m (pc + 3) ls (.int (absI x) :: rest))) : W p l e R s m args below meth c H locs cells slots Q (F0 m pc ls (.int x :: rest)) :=
  va_mabs hexec hb hml hown hlink hstat hini hcode hframes hlocals hc hs hdg kk
theorem q_abs_long {cc : ByteArray} (hexec : p.tables.exec = Jvm.exec) (hb : c.code = cc) (hml : c.maxLocals = ls.size) {own : String} {index : Nat} (hown : s.vm.findClass own = some m.cls) (hlink : (Cond.methodLink own index Lib.MathLoose.abs_long.x).before args s = true) (hstat : (Cond.static Lib.MathLoose.abs_long.x).before args s = true) (hini : (Cond.initialized "java/lang/Math").before args s = true) (hcode : (Cond.code Lib.MathLoose.abs_long.x Lib.MathLoose.abs_long.code 2 (some .long)).before args s = true)
    (hframes : 1 ≤ R.frames) (hlocals : (rest.map fun v => v.category).sum + 13 ≤ R.locals) (hc : cells ≤ R.cells) (hs : slots ≤ R.slots) {x : Int64} (hdg : decode cc pc = .ok (.invokestatic index, 3))
    (kk : W p l e R s m args below meth c H locs cells slots Q (F0 m (pc + 3) ls (.long (absL x) :: rest))) : W p l e R s m args below meth c H locs cells slots Q (F0 m pc ls (.long x :: rest)) :=
  va_mabs_long hexec hb hml hown hlink hstat hini hcode hframes hlocals hc hs hdg kk
theorem q_max {cc : ByteArray} (hexec : p.tables.exec = Jvm.exec) (hb : c.code = cc) (hml : c.maxLocals = ls.size) {own : String} {index : Nat} (hown : s.vm.findClass own = some m.cls) (hlink : (Cond.methodLink own index Lib.Math.max.name).before args s = true) (hstat : (Cond.static Lib.Math.max.name).before args s = true) (hini : (Cond.initialized "java/lang/Math").before args s = true) (hcode : (Cond.code Lib.Math.max.name Lib.Math.max.code 2 (some .int)).before args s = true)
    (hframes : 1 ≤ R.frames) (hlocals : (rest.map fun v => v.category).sum + 13 ≤ R.locals) (hc : cells ≤ R.cells) (hs : slots ≤ R.slots) {x y : Int32} (hdg : decode cc pc = .ok (.invokestatic index, 3))
    (kk : W p l e R s m args below meth c H locs cells slots Q (F0 m (pc + 3) ls (.int (maxI x y) :: rest))) : W p l e R s m args below meth c H locs cells slots Q (F0 m pc ls (.int y :: .int x :: rest)) :=
  va_mmax hexec hb hml hown hlink hstat hini hcode hframes hlocals hc hs hdg kk
theorem q_min {cc : ByteArray} (hexec : p.tables.exec = Jvm.exec) (hb : c.code = cc) (hml : c.maxLocals = ls.size) {own : String} {index : Nat} (hown : s.vm.findClass own = some m.cls) (hlink : (Cond.methodLink own index Lib.Math.min.name).before args s = true) (hstat : (Cond.static Lib.Math.min.name).before args s = true) (hini : (Cond.initialized "java/lang/Math").before args s = true) (hcode : (Cond.code Lib.Math.min.name Lib.Math.min.code 2 (some .int)).before args s = true)
    (hframes : 1 ≤ R.frames) (hlocals : (rest.map fun v => v.category).sum + 13 ≤ R.locals) (hc : cells ≤ R.cells) (hs : slots ≤ R.slots) {x y : Int32} (hdg : decode cc pc = .ok (.invokestatic index, 3))
    (kk : W p l e R s m args below meth c H locs cells slots Q (F0 m (pc + 3) ls (.int (minI x y) :: rest))) : W p l e R s m args below meth c H locs cells slots Q (F0 m pc ls (.int y :: .int x :: rest)) :=
  va_mmin hexec hb hml hown hlink hstat hini hcode hframes hlocals hc hs hdg kk
end QMATH
set_option maxHeartbeats 4000000 in
set_option maxRecDepth 100000 in
theorem kX3_inHand (l : Launch) (g : qG) {ad : Nat → Nat} (z : zS) (hj : adInj 15 ad) : qMi l yX3_inHand wsX3_inHand 2 g (WX g ad) (adOf 15 ad) z [.ref (ad 0)] (inH z) z := by
  refine qStart (cc := cX3_inHand) (maxL := 2) (ret := (some .int)) (plainFor_of_name (by decide)) rfl (Nat.le_of_ble_eq_true rfl) ?_
  intro p e s m args below meth c hx hb hml hown hts hr hlk hP hK ls hl
  have hl : lv_has ls 2 [(0, .ref (ad 0))] := hl
  have hS : va_S (adOf 15 ad) s.heap s.heap [] := va_S.rf
  have hin1 : ∀ w ∈ u_ws RX1 TX1 12, w ∈ wsX3_inHand := by decide +kernel
  have hin3 : ∀ w ∈ u_ws RX3 TX3 7, w ∈ wsX3_inHand := by decide +kernel
  have loop0 : hlB z = true → True := fun _ => trivial
  have loop : ∀ (k : Nat) (j : Nat), hlB z = true → j + k = 4 → inHr z k j = inHr z 4 0 → ∀ (H : Heap) (locs : List Loc), va_P g.1 vwCl ((WX g ad) z) H → va_S (adOf 15 ad) s.heap H locs → ∀ ls : Array Slot, lv_has ls 2 [(0, .ref (ad 0)), (1, .int (nI j))] → W p l e (rmL 2) s m args below meth c H locs 0 0 (MQ below (va_Qi (fun q9 u9 => q9 = inH z ∧ u9 = z) (qU g (WX g ad)) (adOf 15 ad)) args s 0 0 (adOf 15 ad)) (F0 m 12 ls []) := by
    intro k
    induction k with
    | zero =>
      intro j hh hj2 hz H locs hP hS ls hl
      refine lv_iload_n hx hb dX3_inHand_12 rfl (lv_at hl 1 rfl) ?_
      refine lv_aload_n hx hb dX3_inHand_13 rfl (lv_at hl 0 rfl) ?_
      refine qGet (ci := 3) (v := .ref (ad 8)) (C := RX3) (T := TX3) (N := 7) hx hb hts hin3 hown hK hP 0 rfl rfl 0 (by decide) (hts (.fieldLink RX3 13 "PartCurves" "parts" "[LPartCurves$Part;") (by decide +kernel)) rfl dX3_inHand_14 ?_
      refine qAlen (v := 4) hx hb hK hP 8 2 rfl rfl rfl dX3_inHand_17 ?_
      refine lv_icmp_ge (tgt := 54) hx hb dX3_inHand_18 (by decide) (fun c_18 => ?_) (fun c_18 => ?_)
      · -- 18 taken
        have c_18n := i_le_t c_18
        refine lv_bipush (v := -9) hx hb dX3_inHand_54 (by decide) ?_
        exact qRi hx hb hr hlk hP hK hS dX3_inHand_56 (by rw [inH, if_pos hh, ← hz]; rfl) rfl
      · -- 18 not taken
        have c_18n := i_le_f c_18
        exact absurd (nI_lt' (b := 4) (by omega) (by omega) c_18) (by omega)
    | succ k ih =>
      intro j hh hj2 hz H locs hP hS ls hl
      refine lv_iload_n hx hb dX3_inHand_12 rfl (lv_at hl 1 rfl) ?_
      refine lv_aload_n hx hb dX3_inHand_13 rfl (lv_at hl 0 rfl) ?_
      refine qGet (ci := 3) (v := .ref (ad 8)) (C := RX3) (T := TX3) (N := 7) hx hb hts hin3 hown hK hP 0 rfl rfl 0 (by decide) (hts (.fieldLink RX3 13 "PartCurves" "parts" "[LPartCurves$Part;") (by decide +kernel)) rfl dX3_inHand_14 ?_
      refine qAlen (v := 4) hx hb hK hP 8 2 rfl rfl rfl dX3_inHand_17 ?_
      refine lv_icmp_ge (tgt := 54) hx hb dX3_inHand_18 (by decide) (fun c_18 => ?_) (fun c_18 => ?_)
      · -- 18 taken
        have c_18n := i_le_t c_18
        exact absurd (nI_ge' (b := 4) (by omega) (by omega) c_18) (by omega)
      · -- 18 not taken
        have c_18n := i_le_f c_18
        refine lv_aload_n hx hb dX3_inHand_21 rfl (lv_at hl 0 rfl) ?_
        refine qGet (ci := 3) (v := .ref (ad 8)) (C := RX3) (T := TX3) (N := 7) hx hb hts hin3 hown hK hP 0 rfl rfl 0 (by decide) (hts (.fieldLink RX3 13 "PartCurves" "parts" "[LPartCurves$Part;") (by decide +kernel)) rfl dX3_inHand_22 ?_
        refine lv_iload_n hx hb dX3_inHand_25 rfl (lv_at hl 1 rfl) ?_
        refine qQld (v := (ad (10 + j))) hx hb hK hP 8 rfl (nI_v4 (by omega)) (congrArg (fun n => some (ad (10 + n))) (nI_e j (by omega))) dX3_inHand_26 ?_
        refine qGet (ci := 1) (v := .int (z (10 + j) 0)) (C := RX1) (T := TX1) (N := 12) hx hb hts hin1 hown hK hP (10 + j) (WX_p g ad z (show j < 4 by omega)) rfl 0 (by decide) (hts (.fieldLink RX3 51 "PartCurves$Part" "there" "Z") (by decide +kernel)) rfl dX3_inHand_27 ?_
        refine lv_if_eq (tgt := 48) hx hb dX3_inHand_30 (by decide) (fun c_30 => ?_) (fun c_30 => ?_)
        · -- 30 taken
          refine lv_iinc (v := nI (j + 1)) (lv' := [(1, .int (nI (j + 1))), (0, .ref (ad 0))]) hx hb dX3_inHand_48 hl (k := 1) rfl (nI_1 j) (by decide) rfl (fun ls hl => ?_)
          refine lv_goto (tgt := 12) hx hb dX3_inHand_51 (by decide) ?_
          exact ih (j + 1) hh (by omega) (by rw [← hz]; simp [inHr, thB, c_18, c_18n, c_30]) _ _ hP hS ls (lv_sub hl [1, 0] rfl)
        · -- 30 not taken
          refine lv_aload_n hx hb dX3_inHand_33 rfl (lv_at hl 0 rfl) ?_
          refine lv_aload_n hx hb dX3_inHand_34 rfl (lv_at hl 0 rfl) ?_
          refine qGet (ci := 3) (v := .ref (ad 8)) (C := RX3) (T := TX3) (N := 7) hx hb hts hin3 hown hK hP 0 rfl rfl 0 (by decide) (hts (.fieldLink RX3 13 "PartCurves" "parts" "[LPartCurves$Part;") (by decide +kernel)) rfl dX3_inHand_35 ?_
          refine lv_iload_n hx hb dX3_inHand_38 rfl (lv_at hl 1 rfl) ?_
          refine qQld (v := (ad (10 + j))) hx hb hK hP 8 rfl (nI_v4 (by omega)) (congrArg (fun n => some (ad (10 + n))) (nI_e j (by omega))) dX3_inHand_39 ?_
          refine qVi (As := [.ref (ad (10 + j))]) (rest := []) hx hb hml hown hts (kX3_joinsHighAndLow l g z hj (show j < 4 by omega)) gX3_inHand_X3_joinsHighAndLow rfl 1 hdX3_joinsHighAndLow rfl ⟨Nat.le_of_ble_eq_true rfl, Nat.le_of_ble_eq_true rfl⟩ ⟨Nat.zero_le _, Nat.zero_le _⟩ hK hP hS (fun _ h => h) 0 3 rfl rfl rfl hl.1 rfl (Nat.le_of_ble_eq_true rfl) dX3_inHand_40 (fun H locs hP hS => ?_)
          refine lv_if_eq (tgt := 48) hx hb dX3_inHand_43 (by decide) (fun c_43 => ?_) (fun c_43 => ?_)
          · -- 43 taken
            have c_43 := bI_0 c_43
            refine lv_iinc (v := nI (j + 1)) (lv' := [(1, .int (nI (j + 1))), (0, .ref (ad 0))]) hx hb dX3_inHand_48 hl (k := 1) rfl (nI_1 j) (by decide) rfl (fun ls hl => ?_)
            refine lv_goto (tgt := 12) hx hb dX3_inHand_51 (by decide) ?_
            exact ih (j + 1) hh (by omega) (by rw [← hz]; simp [inHr, thB, c_18, c_18n, c_30, c_43]) _ _ hP hS ls (lv_sub hl [1, 0] rfl)
          · -- 43 not taken
            have c_43 := bI_n c_43
            refine lv_iload_n hx hb dX3_inHand_46 rfl (lv_at hl 1 rfl) ?_
            exact qRi hx hb hr hlk hP hK hS dX3_inHand_47 (by rw [inH, if_pos hh, ← hz]; simp [inHr, thB, c_18, c_18n, c_30, c_43]) rfl
  refine lv_aload_n hx hb dX3_inHand_0 rfl (lv_at hl 0 rfl) ?_
  refine qVi (As := []) (rest := []) hx hb hml hown hts (kX3_highAndLowAtOnePinEach l g z hj) gX3_inHand_X3_highAndLowAtOnePinEach rfl 0 hdX3_highAndLowAtOnePinEach rfl ⟨Nat.le_of_ble_eq_true rfl, Nat.le_of_ble_eq_true rfl⟩ ⟨Nat.zero_le _, Nat.zero_le _⟩ hK hP hS (fun _ h => h) 0 3 rfl rfl rfl hl.1 rfl (Nat.le_of_ble_eq_true rfl) dX3_inHand_1 (fun H locs hP hS => ?_)
  refine lv_if_ne (tgt := 10) hx hb dX3_inHand_4 (by decide) (fun c_4 => ?_) (fun c_4 => ?_)
  · -- 4 taken
    have c_4 := bI_n c_4
    refine lv_iconst (v := 0) hx hb dX3_inHand_10 rfl ?_
    refine lv_istore_n (lv' := [(1, .int 0), (0, .ref (ad 0))]) hx hb dX3_inHand_11 rfl hl (by decide) rfl (fun ls hl => ?_)
    exact loop 4 0 c_4 rfl rfl _ _ hP hS ls (lv_sub hl [1, 0] rfl)
  · -- 4 not taken
    have c_4 := bI_0 c_4
    refine lv_bipush (v := -9) hx hb dX3_inHand_7 (by decide) ?_
    exact qRi hx hb hr hlk hP hK hS dX3_inHand_9 (by simp [inH, c_4]) rfl
set_option maxHeartbeats 4000000 in
set_option maxRecDepth 100000 in
theorem kX3_closedRelays (l : Launch) (g : qG) {ad : Nat → Nat} (z : zS) (hj : adInj 15 ad) : qMi l yX3_closedRelays wsX3_closedRelays 1 g (WX g ad) (adOf 15 ad) z [.ref (ad 0)] (clR z 4 0 0) z := by
  refine qStart (cc := cX3_closedRelays) (maxL := 3) (ret := (some .int)) (plainFor_of_name (by decide)) rfl (Nat.le_of_ble_eq_true rfl) ?_
  intro p e s m args below meth c hx hb hml hown hts hr hlk hP hK ls hl
  have hl : lv_has ls 3 [(0, .ref (ad 0))] := hl
  have hS : va_S (adOf 15 ad) s.heap s.heap [] := va_S.rf
  have hin3 : ∀ w ∈ u_ws RX3 TX3 7, w ∈ wsX3_closedRelays := by decide +kernel
  have loop : ∀ (k : Nat) (j : Nat) (t : Int32), j + k = 4 → clR z k j t = clR z 4 0 0 → ∀ (H : Heap) (locs : List Loc), va_P g.1 vwCl ((WX g ad) z) H → va_S (adOf 15 ad) s.heap H locs → ∀ ls : Array Slot, lv_has ls 3 [(0, .ref (ad 0)), (1, .int t), (2, .int (nI j))] → W p l e (rmL 1) s m args below meth c H locs 0 0 (MQ below (va_Qi (fun q9 u9 => q9 = clR z 4 0 0 ∧ u9 = z) (qU g (WX g ad)) (adOf 15 ad)) args s 0 0 (adOf 15 ad)) (F0 m 4 ls []) := by
    intro k
    induction k with
    | zero =>
      intro j t hj2 hz H locs hP hS ls hl
      refine lv_iload_n hx hb dX3_closedRelays_4 rfl (lv_at hl 2 rfl) ?_
      refine lv_aload_n hx hb dX3_closedRelays_5 rfl (lv_at hl 0 rfl) ?_
      refine qGet (ci := 3) (v := .ref (ad 1)) (C := RX3) (T := TX3) (N := 7) hx hb hts hin3 hown hK hP 0 rfl rfl 1 (by decide) (hts (.fieldLink RX3 17 "PartCurves" "pinSets" "[I") (by decide +kernel)) rfl dX3_closedRelays_6 ?_
      refine qAlen (v := 4) hx hb hK hP 1 0 rfl rfl rfl dX3_closedRelays_9 ?_
      refine lv_icmp_ge (tgt := 31) hx hb dX3_closedRelays_10 (by decide) (fun c_10 => ?_) (fun c_10 => ?_)
      · -- 10 taken
        have c_10n := i_le_t c_10
        refine lv_iload_n hx hb dX3_closedRelays_31 rfl (lv_at hl 1 rfl) ?_
        exact qRi hx hb hr hlk hP hK hS dX3_closedRelays_32 hz rfl
      · -- 10 not taken
        have c_10n := i_le_f c_10
        exact absurd (nI_lt' (b := 4) (by omega) (by omega) c_10) (by omega)
    | succ k ih =>
      intro j t hj2 hz H locs hP hS ls hl
      refine lv_iload_n hx hb dX3_closedRelays_4 rfl (lv_at hl 2 rfl) ?_
      refine lv_aload_n hx hb dX3_closedRelays_5 rfl (lv_at hl 0 rfl) ?_
      refine qGet (ci := 3) (v := .ref (ad 1)) (C := RX3) (T := TX3) (N := 7) hx hb hts hin3 hown hK hP 0 rfl rfl 1 (by decide) (hts (.fieldLink RX3 17 "PartCurves" "pinSets" "[I") (by decide +kernel)) rfl dX3_closedRelays_6 ?_
      refine qAlen (v := 4) hx hb hK hP 1 0 rfl rfl rfl dX3_closedRelays_9 ?_
      refine lv_icmp_ge (tgt := 31) hx hb dX3_closedRelays_10 (by decide) (fun c_10 => ?_) (fun c_10 => ?_)
      · -- 10 taken
        have c_10n := i_le_t c_10
        exact absurd (nI_ge' (b := 4) (by omega) (by omega) c_10) (by omega)
      · -- 10 not taken
        have c_10n := i_le_f c_10
        refine lv_iload_n hx hb dX3_closedRelays_13 rfl (lv_at hl 1 rfl) ?_
        refine lv_aload_n hx hb dX3_closedRelays_14 rfl (lv_at hl 0 rfl) ?_
        refine qGet (ci := 3) (v := .ref (ad 1)) (C := RX3) (T := TX3) (N := 7) hx hb hts hin3 hown hK hP 0 rfl rfl 1 (by decide) (hts (.fieldLink RX3 17 "PartCurves" "pinSets" "[I") (by decide +kernel)) rfl dX3_closedRelays_15 ?_
        refine lv_iload_n hx hb dX3_closedRelays_18 rfl (lv_at hl 2 rfl) ?_
        refine qIld (v := (z 1 j)) hx hb hK hP 1 rfl (nI_v4 (by omega)) (congrArg (z 1) (nI_e j (by omega))) dX3_closedRelays_19 ?_
        refine qSi (As := [.int (z 1 j)]) (rest := [.int t]) hx hb hml hown hts (kJ6_bitCount l g (Wd := (WX g ad)) (A := (adOf 15 ad)) z (z 1 j)) gX3_closedRelays_J6_bitCount_0f7a4 rfl 1 hdJ6_bitCount_0f7a4 rfl ⟨Nat.le_of_ble_eq_true rfl, Nat.le_of_ble_eq_true rfl⟩ ⟨Nat.zero_le _, Nat.zero_le _⟩ hK hP hS (fun _ h => h) hl.1 rfl (Nat.le_of_ble_eq_true rfl) dX3_closedRelays_20 (fun H locs hP hS => ?_)
        refine lv_iadd hx hb dX3_closedRelays_23 ?_
        refine lv_istore_n (lv' := [(1, .int (t + (bcF (z 1 j)))), (0, .ref (ad 0)), (2, .int (nI j))]) hx hb dX3_closedRelays_24 rfl hl (by decide) rfl (fun ls hl => ?_)
        refine lv_iinc (v := nI (j + 1)) (lv' := [(2, .int (nI (j + 1))), (1, .int (t + (bcF (z 1 j)))), (0, .ref (ad 0))]) hx hb dX3_closedRelays_25 hl (k := 2) rfl (nI_1 j) (by decide) rfl (fun ls hl => ?_)
        refine lv_goto (tgt := 4) hx hb dX3_closedRelays_28 (by decide) ?_
        exact ih (j + 1) _ (by omega) (by rw [← hz]; rfl) _ _ hP hS ls (lv_sub hl [2, 1, 0] rfl)
  refine lv_iconst (v := 0) hx hb dX3_closedRelays_0 rfl ?_
  refine lv_istore_n (lv' := [(1, .int 0), (0, .ref (ad 0))]) hx hb dX3_closedRelays_1 rfl hl (by decide) rfl (fun ls hl => ?_)
  refine lv_iconst (v := 0) hx hb dX3_closedRelays_2 rfl ?_
  refine lv_istore_n (lv' := [(2, .int 0), (1, .int 0), (0, .ref (ad 0))]) hx hb dX3_closedRelays_3 rfl hl (by decide) rfl (fun ls hl => ?_)
  exact loop 4 0 0 rfl rfl _ _ hP hS ls (lv_sub hl [2, 1, 0] rfl)
set_option maxHeartbeats 4000000 in
set_option maxRecDepth 100000 in
theorem kX3_partsThere (l : Launch) (g : qG) {ad : Nat → Nat} (z : zS) (hj : adInj 15 ad) (bo : Bool) : qMi l yX3_partsThere wsX3_partsThere 0 g (WX g ad) (adOf 15 ad) z [.ref (ad 0), .int (bI bo)] (ptR z bo 4 0 0) z := by
  refine qStart (cc := cX3_partsThere) (maxL := 4) (ret := (some .int)) (plainFor_of_name (by decide)) rfl (Nat.le_of_ble_eq_true rfl) ?_
  intro p e s m args below meth c hx hb hml hown hts hr hlk hP hK ls hl
  have hl : lv_has ls 4 [(0, .ref (ad 0)), (1, .int (bI bo))] := hl
  have hS : va_S (adOf 15 ad) s.heap s.heap [] := va_S.rf
  have hin1 : ∀ w ∈ u_ws RX1 TX1 12, w ∈ wsX3_partsThere := by decide +kernel
  have hin3 : ∀ w ∈ u_ws RX3 TX3 7, w ∈ wsX3_partsThere := by decide +kernel
  have loop : ∀ (k : Nat) (j : Nat) (t : Int32), j + k = 4 → ptR z bo k j t = ptR z bo 4 0 0 → ∀ (H : Heap) (locs : List Loc), va_P g.1 vwCl ((WX g ad) z) H → va_S (adOf 15 ad) s.heap H locs → ∀ ls : Array Slot, lv_has ls 4 [(0, .ref (ad 0)), (1, .int (bI bo)), (2, .int t), (3, .int (nI j))] → W p l e (rmL 0) s m args below meth c H locs 0 0 (MQ below (va_Qi (fun q9 u9 => q9 = ptR z bo 4 0 0 ∧ u9 = z) (qU g (WX g ad)) (adOf 15 ad)) args s 0 0 (adOf 15 ad)) (F0 m 4 ls []) := by
    intro k
    induction k with
    | zero =>
      intro j t hj2 hz H locs hP hS ls hl
      refine lv_iload_n hx hb dX3_partsThere_4 rfl (lv_at hl 3 rfl) ?_
      refine lv_aload_n hx hb dX3_partsThere_5 rfl (lv_at hl 0 rfl) ?_
      refine qGet (ci := 3) (v := .ref (ad 8)) (C := RX3) (T := TX3) (N := 7) hx hb hts hin3 hown hK hP 0 rfl rfl 0 (by decide) (hts (.fieldLink RX3 13 "PartCurves" "parts" "[LPartCurves$Part;") (by decide +kernel)) rfl dX3_partsThere_6 ?_
      refine qAlen (v := 4) hx hb hK hP 8 2 rfl rfl rfl dX3_partsThere_9 ?_
      refine lv_icmp_ge (tgt := 50) hx hb dX3_partsThere_10 (by decide) (fun c_10 => ?_) (fun c_10 => ?_)
      · -- 10 taken
        have c_10n := i_le_t c_10
        refine lv_iload_n hx hb dX3_partsThere_50 rfl (lv_at hl 2 rfl) ?_
        exact qRi hx hb hr hlk hP hK hS dX3_partsThere_51 hz rfl
      · -- 10 not taken
        have c_10n := i_le_f c_10
        exact absurd (nI_lt' (b := 4) (by omega) (by omega) c_10) (by omega)
    | succ k ih =>
      intro j t hj2 hz H locs hP hS ls hl
      refine lv_iload_n hx hb dX3_partsThere_4 rfl (lv_at hl 3 rfl) ?_
      refine lv_aload_n hx hb dX3_partsThere_5 rfl (lv_at hl 0 rfl) ?_
      refine qGet (ci := 3) (v := .ref (ad 8)) (C := RX3) (T := TX3) (N := 7) hx hb hts hin3 hown hK hP 0 rfl rfl 0 (by decide) (hts (.fieldLink RX3 13 "PartCurves" "parts" "[LPartCurves$Part;") (by decide +kernel)) rfl dX3_partsThere_6 ?_
      refine qAlen (v := 4) hx hb hK hP 8 2 rfl rfl rfl dX3_partsThere_9 ?_
      refine lv_icmp_ge (tgt := 50) hx hb dX3_partsThere_10 (by decide) (fun c_10 => ?_) (fun c_10 => ?_)
      · -- 10 taken
        have c_10n := i_le_t c_10
        exact absurd (nI_ge' (b := 4) (by omega) (by omega) c_10) (by omega)
      · -- 10 not taken
        have c_10n := i_le_f c_10
        refine lv_aload_n hx hb dX3_partsThere_13 rfl (lv_at hl 0 rfl) ?_
        refine qGet (ci := 3) (v := .ref (ad 8)) (C := RX3) (T := TX3) (N := 7) hx hb hts hin3 hown hK hP 0 rfl rfl 0 (by decide) (hts (.fieldLink RX3 13 "PartCurves" "parts" "[LPartCurves$Part;") (by decide +kernel)) rfl dX3_partsThere_14 ?_
        refine lv_iload_n hx hb dX3_partsThere_17 rfl (lv_at hl 3 rfl) ?_
        refine qQld (v := (ad (10 + j))) hx hb hK hP 8 rfl (nI_v4 (by omega)) (congrArg (fun n => some (ad (10 + n))) (nI_e j (by omega))) dX3_partsThere_18 ?_
        refine qGet (ci := 1) (v := .int (z (10 + j) 0)) (C := RX1) (T := TX1) (N := 12) hx hb hts hin1 hown hK hP (10 + j) (WX_p g ad z (show j < 4 by omega)) rfl 0 (by decide) (hts (.fieldLink RX3 51 "PartCurves$Part" "there" "Z") (by decide +kernel)) rfl dX3_partsThere_19 ?_
        refine lv_if_eq (tgt := 44) hx hb dX3_partsThere_22 (by decide) (fun c_22 => ?_) (fun c_22 => ?_)
        · -- 22 taken
          refine lv_iinc (v := nI (j + 1)) (lv' := [(3, .int (nI (j + 1))), (0, .ref (ad 0)), (1, .int (bI bo)), (2, .int t)]) hx hb dX3_partsThere_44 hl (k := 3) rfl (nI_1 j) (by decide) rfl (fun ls hl => ?_)
          refine lv_goto (tgt := 4) hx hb dX3_partsThere_47 (by decide) ?_
          exact ih (j + 1) _ (by omega) (by rw [← hz]; simp [ptR, c_10, c_10n, c_22]) _ _ hP hS ls (lv_sub hl [1, 2, 3, 0] rfl)
        · -- 22 not taken
          refine lv_aload_n hx hb dX3_partsThere_25 rfl (lv_at hl 0 rfl) ?_
          refine qGet (ci := 3) (v := .ref (ad 8)) (C := RX3) (T := TX3) (N := 7) hx hb hts hin3 hown hK hP 0 rfl rfl 0 (by decide) (hts (.fieldLink RX3 13 "PartCurves" "parts" "[LPartCurves$Part;") (by decide +kernel)) rfl dX3_partsThere_26 ?_
          refine lv_iload_n hx hb dX3_partsThere_29 rfl (lv_at hl 3 rfl) ?_
          refine qQld (v := (ad (10 + j))) hx hb hK hP 8 rfl (nI_v4 (by omega)) (congrArg (fun n => some (ad (10 + n))) (nI_e j (by omega))) dX3_partsThere_30 ?_
          refine qGet (ci := 1) (v := .int (z (10 + j) 1)) (C := RX1) (T := TX1) (N := 12) hx hb hts hin1 hown hK hP (10 + j) (WX_p g ad z (show j < 4 by omega)) rfl 1 (by decide) (hts (.fieldLink RX3 86 "PartCurves$Part" "burnt" "Z") (by decide +kernel)) rfl dX3_partsThere_31 ?_
          refine lv_if_ne (tgt := 41) hx hb dX3_partsThere_34 (by decide) (fun c_34 => ?_) (fun c_34 => ?_)
          · -- 34 taken
            refine lv_iinc (v := t + 1) (lv' := [(2, .int (t + 1)), (0, .ref (ad 0)), (1, .int (bI bo)), (3, .int (nI j))]) hx hb dX3_partsThere_41 hl (k := 2) rfl rfl (by decide) rfl (fun ls hl => ?_)
            refine lv_iinc (v := nI (j + 1)) (lv' := [(3, .int (nI (j + 1))), (2, .int (t + 1)), (0, .ref (ad 0)), (1, .int (bI bo))]) hx hb dX3_partsThere_44 hl (k := 3) rfl (nI_1 j) (by decide) rfl (fun ls hl => ?_)
            refine lv_goto (tgt := 4) hx hb dX3_partsThere_47 (by decide) ?_
            exact ih (j + 1) _ (by omega) (by rw [← hz]; simp [ptR, c_10, c_10n, c_22, c_34]) _ _ hP hS ls (lv_sub hl [2, 3, 1, 0] rfl)
          · -- 34 not taken
            refine lv_iload_n hx hb dX3_partsThere_37 rfl (lv_at hl 1 rfl) ?_
            refine lv_if_ne (tgt := 44) hx hb dX3_partsThere_38 (by decide) (fun c_38 => ?_) (fun c_38 => ?_)
            · -- 38 taken
              have c_38 := bI_n c_38
              refine lv_iinc (v := nI (j + 1)) (lv' := [(3, .int (nI (j + 1))), (0, .ref (ad 0)), (1, .int (bI bo)), (2, .int t)]) hx hb dX3_partsThere_44 hl (k := 3) rfl (nI_1 j) (by decide) rfl (fun ls hl => ?_)
              refine lv_goto (tgt := 4) hx hb dX3_partsThere_47 (by decide) ?_
              exact ih (j + 1) _ (by omega) (by rw [← hz]; simp [ptR, c_10, c_10n, c_22, c_34, c_38]) _ _ hP hS ls (lv_sub hl [1, 2, 3, 0] rfl)
            · -- 38 not taken
              have c_38 := bI_0 c_38
              refine lv_iinc (v := t + 1) (lv' := [(2, .int (t + 1)), (0, .ref (ad 0)), (1, .int (bI bo)), (3, .int (nI j))]) hx hb dX3_partsThere_41 hl (k := 2) rfl rfl (by decide) rfl (fun ls hl => ?_)
              refine lv_iinc (v := nI (j + 1)) (lv' := [(3, .int (nI (j + 1))), (2, .int (t + 1)), (0, .ref (ad 0)), (1, .int (bI bo))]) hx hb dX3_partsThere_44 hl (k := 3) rfl (nI_1 j) (by decide) rfl (fun ls hl => ?_)
              refine lv_goto (tgt := 4) hx hb dX3_partsThere_47 (by decide) ?_
              exact ih (j + 1) _ (by omega) (by rw [← hz]; simp [ptR, c_10, c_10n, c_22, c_34, c_38]) _ _ hP hS ls (lv_sub hl [2, 3, 1, 0] rfl)
  refine lv_iconst (v := 0) hx hb dX3_partsThere_0 rfl ?_
  refine lv_istore_n (lv' := [(2, .int 0), (0, .ref (ad 0)), (1, .int (bI bo))]) hx hb dX3_partsThere_1 rfl hl (by decide) rfl (fun ls hl => ?_)
  refine lv_iconst (v := 0) hx hb dX3_partsThere_2 rfl ?_
  refine lv_istore_n (lv' := [(3, .int 0), (2, .int 0), (0, .ref (ad 0)), (1, .int (bI bo))]) hx hb dX3_partsThere_3 rfl hl (by decide) rfl (fun ls hl => ?_)
  exact loop 4 0 0 rfl rfl _ _ hP hS ls (lv_sub hl [2, 3, 1, 0] rfl)
set_option maxHeartbeats 4000000 in
set_option maxRecDepth 100000 in
theorem kX3_coolAll (l : Launch) (g : qG) {ad : Nat → Nat} (z : zS) (hj : adInj 15 ad) (n : Nat) (hn : n ≤ 100) : qMv l yX3_coolAll wsX3_coolAll 1 g (WX g ad) (adOf 15 ad) z [.ref (ad 0), .int (nI n)] (coolA z n) := by
  refine qStart (cc := cX3_coolAll) (maxL := 3) (ret := none) (plainFor_of_name (by decide)) rfl (Nat.le_of_ble_eq_true rfl) ?_
  intro p e s m args below meth c hx hb hml hown hts hr hlk hP hK ls hl
  have hl : lv_has ls 3 [(0, .ref (ad 0)), (1, .int (nI n))] := hl
  have hS : va_S (adOf 15 ad) s.heap s.heap [] := va_S.rf
  have hin3 : ∀ w ∈ u_ws RX3 TX3 7, w ∈ wsX3_coolAll := by decide +kernel
  have loop : ∀ (k : Nat) (j : Nat) (y : zS), j + k = 4 → coolR n k j y = coolA z n → ∀ (H : Heap) (locs : List Loc), va_P g.1 vwCl ((WX g ad) y) H → va_S (adOf 15 ad) s.heap H locs → ∀ ls : Array Slot, lv_has ls 3 [(0, .ref (ad 0)), (1, .int (nI n)), (2, .int (nI j))] → W p l e (rmL 1) s m args below meth c H locs 0 0 (MQ below (va_Qv (fun u9 => u9 = coolA z n) (qU g (WX g ad)) (adOf 15 ad)) args s 0 0 (adOf 15 ad)) (F0 m 2 ls []) := by
    intro k
    induction k with
    | zero =>
      intro j y hj2 hz H locs hP hS ls hl
      refine lv_iload_n hx hb dX3_coolAll_2 rfl (lv_at hl 2 rfl) ?_
      refine lv_aload_n hx hb dX3_coolAll_3 rfl (lv_at hl 0 rfl) ?_
      refine qGet (ci := 3) (v := .ref (ad 8)) (C := RX3) (T := TX3) (N := 7) hx hb hts hin3 hown hK hP 0 rfl rfl 0 (by decide) (hts (.fieldLink RX3 13 "PartCurves" "parts" "[LPartCurves$Part;") (by decide +kernel)) rfl dX3_coolAll_4 ?_
      refine qAlen (v := 4) hx hb hK hP 8 2 rfl rfl rfl dX3_coolAll_7 ?_
      refine lv_icmp_ge (tgt := 27) hx hb dX3_coolAll_8 (by decide) (fun c_8 => ?_) (fun c_8 => ?_)
      · -- 8 taken
        have c_8n := i_le_t c_8
        exact qRv hx hb hr hlk hP hK hS dX3_coolAll_27 hz
      · -- 8 not taken
        have c_8n := i_le_f c_8
        exact absurd (nI_lt' (b := 4) (by omega) (by omega) c_8) (by omega)
    | succ k ih =>
      intro j y hj2 hz H locs hP hS ls hl
      refine lv_iload_n hx hb dX3_coolAll_2 rfl (lv_at hl 2 rfl) ?_
      refine lv_aload_n hx hb dX3_coolAll_3 rfl (lv_at hl 0 rfl) ?_
      refine qGet (ci := 3) (v := .ref (ad 8)) (C := RX3) (T := TX3) (N := 7) hx hb hts hin3 hown hK hP 0 rfl rfl 0 (by decide) (hts (.fieldLink RX3 13 "PartCurves" "parts" "[LPartCurves$Part;") (by decide +kernel)) rfl dX3_coolAll_4 ?_
      refine qAlen (v := 4) hx hb hK hP 8 2 rfl rfl rfl dX3_coolAll_7 ?_
      refine lv_icmp_ge (tgt := 27) hx hb dX3_coolAll_8 (by decide) (fun c_8 => ?_) (fun c_8 => ?_)
      · -- 8 taken
        have c_8n := i_le_t c_8
        exact absurd (nI_ge' (b := 4) (by omega) (by omega) c_8) (by omega)
      · -- 8 not taken
        have c_8n := i_le_f c_8
        refine lv_aload_n hx hb dX3_coolAll_11 rfl (lv_at hl 0 rfl) ?_
        refine qGet (ci := 3) (v := .ref (ad 8)) (C := RX3) (T := TX3) (N := 7) hx hb hts hin3 hown hK hP 0 rfl rfl 0 (by decide) (hts (.fieldLink RX3 13 "PartCurves" "parts" "[LPartCurves$Part;") (by decide +kernel)) rfl dX3_coolAll_12 ?_
        refine lv_iload_n hx hb dX3_coolAll_15 rfl (lv_at hl 2 rfl) ?_
        refine qQld (v := (ad (10 + j))) hx hb hK hP 8 rfl (nI_v4 (by omega)) (congrArg (fun n => some (ad (10 + n))) (nI_e j (by omega))) dX3_coolAll_16 ?_
        refine lv_iload_n hx hb dX3_coolAll_17 rfl (lv_at hl 1 rfl) ?_
        refine qVv (As := [.int (nI n)]) (rest := []) hx hb hml hown hts (kX1_cool l g y hj (show j < 4 by omega) n hn) gX3_coolAll_X1_cool rfl 1 hdX1_cool rfl ⟨Nat.le_of_ble_eq_true rfl, Nat.le_of_ble_eq_true rfl⟩ ⟨Nat.zero_le _, Nat.zero_le _⟩ hK hP hS (fun _ h => h) (10 + j) 1 rfl rfl (WX_p g ad y (show j < 4 by omega)) hl.1 rfl (Nat.le_of_ble_eq_true rfl) dX3_coolAll_18 (fun H locs hP hS => ?_)
        refine lv_iinc (v := nI (j + 1)) (lv' := [(2, .int (nI (j + 1))), (0, .ref (ad 0)), (1, .int (nI n))]) hx hb dX3_coolAll_21 hl (k := 2) rfl (nI_1 j) (by decide) rfl (fun ls hl => ?_)
        refine lv_goto (tgt := 2) hx hb dX3_coolAll_24 (by decide) ?_
        exact ih (j + 1) _ (by omega) (by rw [← hz]; rfl) _ _ hP hS ls (lv_sub hl [1, 2, 0] rfl)
  refine lv_iconst (v := 0) hx hb dX3_coolAll_0 rfl ?_
  refine lv_istore_n (lv' := [(2, .int 0), (0, .ref (ad 0)), (1, .int (nI n))]) hx hb dX3_coolAll_1 rfl hl (by decide) rfl (fun ls hl => ?_)
  exact loop 4 0 z rfl rfl _ _ hP hS ls (lv_sub hl [1, 2, 0] rfl)
theorem put_cc {z : zS} {s n : Int32} (h : inR (z 0 4) 0 3 = true) : inR (putS z s n 0 4) 0 3 = true := by
  unfold putS
  by_cases c : z 0 4 < 3
  · rw [if_pos c, zu_same]
    have h1 := inR_b h (x := 0) (y := 3) rfl rfl
    have c2 := Int32.lt_iff_toInt_lt.mp c
    have e3 : (3 : Int32).toInt = 3 := rfl
    have e1 : (1 : Int32).toInt = 1 := rfl
    rw [e3] at c2
    rw [inR_iff, fb_addI (by rw [e1]; omega) (by rw [e1]; omega), e1, i0, e3]
    omega
  · rw [if_neg c]; exact h
set_option maxHeartbeats 4000000 in
set_option maxRecDepth 100000 in
theorem kX3_tellBurnt (l : Launch) (g : qG) {ad : Nat → Nat} (z : zS) (hj : adInj 15 ad) (n t : Int32) (hcc : inR (z 0 4) 0 3 = true) : qMv l yX3_tellBurnt wsX3_tellBurnt 1 g (WX g ad) (adOf 15 ad) z [.ref (ad 0), .int n, .int t] (tellS z n t) := by
  refine qStart (cc := cX3_tellBurnt) (maxL := 3) (ret := none) (plainFor_of_name (by decide)) rfl (Nat.le_of_ble_eq_true rfl) ?_
  intro p e s m args below meth c hx hb hml hown hts hr hlk hP hK ls hl
  have hl : lv_has ls 3 [(0, .ref (ad 0)), (1, .int n), (2, .int t)] := hl
  have hS : va_S (adOf 15 ad) s.heap s.heap [] := va_S.rf
  have hin3 : ∀ w ∈ u_ws RX3 TX3 7, w ∈ wsX3_tellBurnt := by decide +kernel
  refine lv_aload_n hx hb dX3_tellBurnt_0 rfl (lv_at hl 0 rfl) ?_
  refine qGet (ci := 3) (v := .ref (ad 14)) (C := RX3) (T := TX3) (N := 7) hx hb hts hin3 hown hK hP 0 rfl rfl 3 (by decide) (hts (.fieldLink RX3 31 "PartCurves" "causes" "LPartCurves$Causes;") (by decide +kernel)) rfl dX3_tellBurnt_1 ?_
  refine lv_iconst (v := 2) hx hb dX3_tellBurnt_4 rfl ?_
  refine lv_iload_n hx hb dX3_tellBurnt_5 rfl (lv_at hl 1 rfl) ?_
  refine qVv (As := [.int 2, .int n]) (rest := []) hx hb hml hown hts (kX0_put l g z hj 2 n hcc) gX3_tellBurnt_X0_put rfl 2 hdX0_put rfl ⟨Nat.le_of_ble_eq_true rfl, Nat.le_of_ble_eq_true rfl⟩ ⟨Nat.zero_le _, Nat.zero_le _⟩ hK hP hS (fun _ h => h) 14 0 rfl rfl rfl hl.1 rfl (Nat.le_of_ble_eq_true rfl) dX3_tellBurnt_6 (fun H locs hP hS => ?_)
  refine lv_aload_n hx hb dX3_tellBurnt_9 rfl (lv_at hl 0 rfl) ?_
  refine qGet (ci := 3) (v := .ref (ad 14)) (C := RX3) (T := TX3) (N := 7) hx hb hts hin3 hown hK hP 0 rfl rfl 3 (by decide) (hts (.fieldLink RX3 31 "PartCurves" "causes" "LPartCurves$Causes;") (by decide +kernel)) rfl dX3_tellBurnt_10 ?_
  refine lv_iconst (v := 3) hx hb dX3_tellBurnt_13 rfl ?_
  refine lv_iload_n hx hb dX3_tellBurnt_14 rfl (lv_at hl 2 rfl) ?_
  refine qVv (As := [.int 3, .int t]) (rest := []) hx hb hml hown hts (kX0_put l g (putS z 2 n) hj 3 t (put_cc hcc)) gX3_tellBurnt_X0_put rfl 2 hdX0_put rfl ⟨Nat.le_of_ble_eq_true rfl, Nat.le_of_ble_eq_true rfl⟩ ⟨Nat.zero_le _, Nat.zero_le _⟩ hK hP hS (fun _ h => h) 14 0 rfl rfl rfl hl.1 rfl (Nat.le_of_ble_eq_true rfl) dX3_tellBurnt_15 (fun H locs hP hS => ?_)
  exact qRv hx hb hr hlk hP hK hS dX3_tellBurnt_18 (by first | rfl | simp [])
set_option maxHeartbeats 4000000 in
set_option maxRecDepth 100000 in
theorem kX3_owned (l : Launch) (g : qG) {ad : Nat → Nat} (z : zS) (hj : adInj 15 ad) {i : Nat} (hi : i < 4) (x : Int32) : qMi l yX3_owned wsX3_owned 0 g (WX g ad) (adOf 15 ad) z [.ref (ad 0), .ref (ad (10 + i)), .int x] (ownd z (10 + i) x) z := by
  refine qStart (cc := cX3_owned) (maxL := 3) (ret := (some .int)) (plainFor_of_name (by decide)) rfl (Nat.le_of_ble_eq_true rfl) ?_
  intro p e s m args below meth c hx hb hml hown hts hr hlk hP hK ls hl
  have hl : lv_has ls 3 [(0, .ref (ad 0)), (1, .ref (ad (10 + i))), (2, .int x)] := hl
  have hS : va_S (adOf 15 ad) s.heap s.heap [] := va_S.rf
  have hin1 : ∀ w ∈ u_ws RX1 TX1 12, w ∈ wsX3_owned := by decide +kernel
  have hin3 : ∀ w ∈ u_ws RX3 TX3 7, w ∈ wsX3_owned := by decide +kernel
  refine lv_iconst (v := 1) hx hb dX3_owned_0 rfl ?_
  refine lv_aload_n hx hb dX3_owned_1 rfl (lv_at hl 1 rfl) ?_
  refine qGet (ci := 1) (v := .int (z (10 + i) 3)) (C := RX1) (T := TX1) (N := 12) hx hb hts hin1 hown hK hP (10 + i) (WX_p g ad z hi) rfl 3 (by decide) (hts (.fieldLink RX3 74 "PartCurves$Part" "first" "I") (by decide +kernel)) rfl dX3_owned_2 ?_
  refine lv_ishl hx hb dX3_owned_5 ?_
  refine lv_aload_n hx hb dX3_owned_6 rfl (lv_at hl 0 rfl) ?_
  refine qGet (ci := 3) (v := .ref (ad 1)) (C := RX3) (T := TX3) (N := 7) hx hb hts hin3 hown hK hP 0 rfl rfl 1 (by decide) (hts (.fieldLink RX3 17 "PartCurves" "pinSets" "[I") (by decide +kernel)) rfl dX3_owned_7 ?_
  refine lv_iconst (v := 0) hx hb dX3_owned_10 rfl ?_
  refine qIld (v := (z 1 0)) hx hb hK hP 1 rfl (vp_in_iff.mpr ⟨by decide, by decide⟩) rfl dX3_owned_11 ?_
  refine lv_icmp_ne (tgt := 19) hx hb dX3_owned_12 (by decide) (fun c_12 => ?_) (fun c_12 => ?_)
  · -- 12 taken
    refine lv_iload_n hx hb dX3_owned_19 rfl (lv_at hl 2 rfl) ?_
    refine lv_ineg hx hb dX3_owned_20 ?_
    exact qRi hx hb hr hlk hP hK hS dX3_owned_21 (by first | rfl | simp [ownd, sh, c_12]) (by first | rfl | simp [ownd, sh, c_12])
  · -- 12 not taken
    refine lv_iload_n hx hb dX3_owned_15 rfl (lv_at hl 2 rfl) ?_
    refine lv_goto (tgt := 21) hx hb dX3_owned_16 (by decide) ?_
    exact qRi hx hb hr hlk hP hK hS dX3_owned_21 (by first | rfl | simp [ownd, sh, c_12]) (by first | rfl | simp [ownd, sh, c_12])
set_option maxHeartbeats 4000000 in
set_option maxRecDepth 100000 in
theorem kX3_ampsAt (l : Launch) (g : qG) {ad : Nat → Nat} (z : zS) (hj : adInj 15 ad) {i : Nat} (hi : i < 4) (u : Int32) : qMi l yX3_ampsAt wsX3_ampsAt 3 g (WX g ad) (adOf 15 ad) z [.ref (ad 0), .ref (ad (10 + i)), .int u] (ampF z (10 + i) u) z := by
  refine qStart (cc := cX3_ampsAt) (maxL := 3) (ret := (some .int)) (plainFor_of_name (by decide)) rfl (Nat.le_of_ble_eq_true rfl) ?_
  intro p e s m args below meth c hx hb hml hown hts hr hlk hP hK ls hl
  have hl : lv_has ls 3 [(0, .ref (ad 0)), (1, .ref (ad (10 + i))), (2, .int u)] := hl
  have hS : va_S (adOf 15 ad) s.heap s.heap [] := va_S.rf
  refine lv_aload_n hx hb dX3_ampsAt_0 rfl (lv_at hl 0 rfl) ?_
  refine lv_aload_n hx hb dX3_ampsAt_1 rfl (lv_at hl 1 rfl) ?_
  refine lv_aload_n hx hb dX3_ampsAt_2 rfl (lv_at hl 1 rfl) ?_
  refine lv_aload_n hx hb dX3_ampsAt_3 rfl (lv_at hl 0 rfl) ?_
  refine lv_aload_n hx hb dX3_ampsAt_4 rfl (lv_at hl 1 rfl) ?_
  refine lv_iload_n hx hb dX3_ampsAt_5 rfl (lv_at hl 2 rfl) ?_
  refine qVi (As := [.ref (ad (10 + i)), .int u]) (rest := [.ref (ad (10 + i)), .ref (ad (10 + i)), .ref (ad 0)]) hx hb hml hown hts (kX3_owned l g z hj hi u) gX3_ampsAt_X3_owned rfl 2 hdX3_owned rfl ⟨Nat.le_of_ble_eq_true rfl, Nat.le_of_ble_eq_true rfl⟩ ⟨Nat.zero_le _, Nat.zero_le _⟩ hK hP hS (fun _ h => h) 0 3 rfl rfl rfl hl.1 rfl (Nat.le_of_ble_eq_true rfl) dX3_ampsAt_6 (fun H locs hP hS => ?_)
  refine qVi (As := [.int (ownd z (10 + i) u)]) (rest := [.ref (ad (10 + i)), .ref (ad 0)]) hx hb hml hown hts (kX1_ownAmps l g z hj hi (ownd z (10 + i) u)) gX3_ampsAt_X1_ownAmps rfl 1 hdX1_ownAmps rfl ⟨Nat.le_of_ble_eq_true rfl, Nat.le_of_ble_eq_true rfl⟩ ⟨Nat.zero_le _, Nat.zero_le _⟩ hK hP hS (fun _ h => h) (10 + i) 1 rfl rfl (WX_p g ad z hi) hl.1 rfl (Nat.le_of_ble_eq_true rfl) dX3_ampsAt_9 (fun H locs hP hS => ?_)
  refine qVi (As := [.ref (ad (10 + i)), .int (ownF (z (10 + i)) (ownd z (10 + i) u))]) (rest := []) hx hb hml hown hts (kX3_owned l g z hj hi (ownF (z (10 + i)) (ownd z (10 + i) u))) gX3_ampsAt_X3_owned rfl 2 hdX3_owned rfl ⟨Nat.le_of_ble_eq_true rfl, Nat.le_of_ble_eq_true rfl⟩ ⟨Nat.zero_le _, Nat.zero_le _⟩ hK hP hS (fun _ h => h) 0 3 rfl rfl rfl hl.1 rfl (Nat.le_of_ble_eq_true rfl) dX3_ampsAt_12 (fun H locs hP hS => ?_)
  exact qRi hx hb hr hlk hP hK hS dX3_ampsAt_15 (by first | rfl | simp []) (by first | rfl | simp [])
set_option maxHeartbeats 4000000 in
set_option maxRecDepth 100000 in
theorem kX3_drop (l : Launch) (g : qG) {ad : Nat → Nat} (z : zS) (hj : adInj 15 ad) (a : Int32) : qMi l yX3_drop wsX3_drop 1 g (WX g ad) (adOf 15 ad) z [.ref (ad 0), .int a] (dropF z a) z := by
  refine qStart (cc := cX3_drop) (maxL := 2) (ret := (some .int)) (plainFor_of_name (by decide)) rfl (Nat.le_of_ble_eq_true rfl) ?_
  intro p e s m args below meth c hx hb hml hown hts hr hlk hP hK ls hl
  have hl : lv_has ls 2 [(0, .ref (ad 0)), (1, .int a)] := hl
  have hS : va_S (adOf 15 ad) s.heap s.heap [] := va_S.rf
  have hin3 : ∀ w ∈ u_ws RX3 TX3 7, w ∈ wsX3_drop := by decide +kernel
  refine lv_iload_n hx hb dX3_drop_0 rfl (lv_at hl 1 rfl) ?_
  refine lv_aload_n hx hb dX3_drop_1 rfl (lv_at hl 0 rfl) ?_
  refine qGet (ci := 3) (v := .int (z 0 2)) (C := RX3) (T := TX3) (N := 7) hx hb hts hin3 hown hK hP 0 rfl rfl 6 (by decide) (hts (.fieldLink RX3 43 "PartCurves" "leadOhms" "I") (by decide +kernel)) rfl dX3_drop_2 ?_
  refine lv_imul hx hb dX3_drop_5 ?_
  refine lv_sipush (v := 1000) hx hb dX3_drop_6 (by decide) ?_
  refine qSi (As := [.int (a * (z 0 2)), .int 1000]) (rest := []) hx hb hml hown hts (kJ9_floorDiv l g (Wd := (WX g ad)) (A := (adOf 15 ad)) z (a * (z 0 2)) 1000 (by decide)) gX3_drop_J9_floorDiv_7cf53 rfl 2 hdJ9_floorDiv_7cf53 rfl ⟨Nat.le_of_ble_eq_true rfl, Nat.le_of_ble_eq_true rfl⟩ ⟨Nat.zero_le _, Nat.zero_le _⟩ hK hP hS (fun _ h => h) hl.1 rfl (Nat.le_of_ble_eq_true rfl) dX3_drop_9 (fun H locs hP hS => ?_)
  exact qRi hx hb hr hlk hP hK hS dX3_drop_12 (by first | rfl | simp []) (by first | rfl | simp [])
set_option maxHeartbeats 4000000 in
set_option maxRecDepth 100000 in
theorem kX3_aboveLimit (l : Launch) (g : qG) {ad : Nat → Nat} (z : zS) (hj : adInj 15 ad) {i : Nat} (hi : i < 4) (u : Int32) : qMi l yX3_aboveLimit wsX3_aboveLimit 4 g (WX g ad) (adOf 15 ad) z [.ref (ad 0), .ref (ad (10 + i)), .int u] (bI (alB z (10 + i) u)) z := by
  refine qStart (cc := cX3_aboveLimit) (maxL := 3) (ret := (some .boolean)) (plainFor_of_name (by decide)) rfl (Nat.le_of_ble_eq_true rfl) ?_
  intro p e s m args below meth c hx hb hml hown hts hr hlk hP hK ls hl
  have hl : lv_has ls 3 [(0, .ref (ad 0)), (1, .ref (ad (10 + i))), (2, .int u)] := hl
  have hS : va_S (adOf 15 ad) s.heap s.heap [] := va_S.rf
  have hin3 : ∀ w ∈ u_ws RX3 TX3 7, w ∈ wsX3_aboveLimit := by decide +kernel
  refine lv_aload_n hx hb dX3_aboveLimit_0 rfl (lv_at hl 0 rfl) ?_
  refine lv_aload_n hx hb dX3_aboveLimit_1 rfl (lv_at hl 1 rfl) ?_
  refine lv_iload_n hx hb dX3_aboveLimit_2 rfl (lv_at hl 2 rfl) ?_
  refine qVi (As := [.ref (ad (10 + i)), .int u]) (rest := []) hx hb hml hown hts (kX3_ampsAt l g z hj hi u) gX3_aboveLimit_X3_ampsAt rfl 2 hdX3_ampsAt rfl ⟨Nat.le_of_ble_eq_true rfl, Nat.le_of_ble_eq_true rfl⟩ ⟨Nat.zero_le _, Nat.zero_le _⟩ hK hP hS (fun _ h => h) 0 3 rfl rfl rfl hl.1 rfl (Nat.le_of_ble_eq_true rfl) dX3_aboveLimit_3 (fun H locs hP hS => ?_)
  refine q_abs hx hb (hml.trans hl.1.symm) hown (hts (.methodLink RX3 147 Lib.Math.abs.name) (by decide +kernel)) (hts (.static Lib.Math.abs.name) (by decide +kernel)) (hts (.initialized "java/lang/Math") (by decide +kernel)) (hts (.code Lib.Math.abs.name Lib.Math.abs.code 1 (some .int)) (by decide +kernel)) (Nat.le_of_ble_eq_true rfl) (Nat.le_of_ble_eq_true rfl) (Nat.zero_le _) (Nat.zero_le _) dX3_aboveLimit_6 ?_
  refine lv_aload_n hx hb dX3_aboveLimit_9 rfl (lv_at hl 0 rfl) ?_
  refine qGet (ci := 3) (v := .int (z 0 1)) (C := RX3) (T := TX3) (N := 7) hx hb hts hin3 hown hK hP 0 rfl rfl 5 (by decide) (hts (.fieldLink RX3 39 "PartCurves" "mostAmps" "I") (by decide +kernel)) rfl dX3_aboveLimit_10 ?_
  refine lv_icmp_le (tgt := 20) hx hb dX3_aboveLimit_13 (by decide) (fun c_13 => ?_) (fun c_13 => ?_)
  · -- 13 taken
    have c_13n := i_le_t c_13
    refine lv_iconst (v := 0) hx hb dX3_aboveLimit_20 rfl ?_
    exact qRz hx hb hr hlk rfl hP hK hS dX3_aboveLimit_21 (by first | rfl | simp [bI, alB, c_13, c_13n]) (by first | rfl | simp [bI, alB, c_13, c_13n])
  · -- 13 not taken
    have c_13n := i_le_f c_13
    refine lv_iconst (v := 1) hx hb dX3_aboveLimit_16 rfl ?_
    refine lv_goto (tgt := 21) hx hb dX3_aboveLimit_17 (by decide) ?_
    exact qRz hx hb hr hlk rfl hP hK hS dX3_aboveLimit_21 (by first | rfl | simp [bI, alB, c_13, c_13n]) (by first | rfl | simp [bI, alB, c_13, c_13n])
set_option maxHeartbeats 4000000 in
set_option maxRecDepth 100000 in
theorem kX3_allowed (l : Launch) (g : qG) {ad : Nat → Nat} (z : zS) (hj : adInj 15 ad) {i : Nat} (hi : i < 4) (u v : Int32) : qMi l yX3_allowed wsX3_allowed 4 g (WX g ad) (adOf 15 ad) z [.ref (ad 0), .ref (ad (10 + i)), .int u, .int v] (bI (awB z (10 + i) u v)) z := by
  refine qStart (cc := cX3_allowed) (maxL := 5) (ret := (some .boolean)) (plainFor_of_name (by decide)) rfl (Nat.le_of_ble_eq_true rfl) ?_
  intro p e s m args below meth c hx hb hml hown hts hr hlk hP hK ls hl
  have hl : lv_has ls 5 [(0, .ref (ad 0)), (1, .ref (ad (10 + i))), (2, .int u), (3, .int v)] := hl
  have hS : va_S (adOf 15 ad) s.heap s.heap [] := va_S.rf
  have hin3 : ∀ w ∈ u_ws RX3 TX3 7, w ∈ wsX3_allowed := by decide +kernel
  refine lv_aload_n hx hb dX3_allowed_0 rfl (lv_at hl 0 rfl) ?_
  refine lv_aload_n hx hb dX3_allowed_1 rfl (lv_at hl 1 rfl) ?_
  refine lv_iload_n hx hb dX3_allowed_2 rfl (lv_at hl 2 rfl) ?_
  refine qVi (As := [.ref (ad (10 + i)), .int u]) (rest := []) hx hb hml hown hts (kX3_ampsAt l g z hj hi u) gX3_allowed_X3_ampsAt rfl 2 hdX3_ampsAt rfl ⟨Nat.le_of_ble_eq_true rfl, Nat.le_of_ble_eq_true rfl⟩ ⟨Nat.zero_le _, Nat.zero_le _⟩ hK hP hS (fun _ h => h) 0 3 rfl rfl rfl hl.1 rfl (Nat.le_of_ble_eq_true rfl) dX3_allowed_3 (fun H locs hP hS => ?_)
  refine lv_istore (lv' := [(4, .int (ampF z (10 + i) u)), (0, .ref (ad 0)), (1, .ref (ad (10 + i))), (2, .int u), (3, .int v)]) hx hb dX3_allowed_6 hl (by decide) rfl (fun ls hl => ?_)
  refine lv_iload hx hb dX3_allowed_8 (lv_at hl 0 rfl) ?_
  refine q_abs hx hb (hml.trans hl.1.symm) hown (hts (.methodLink RX3 147 Lib.Math.abs.name) (by decide +kernel)) (hts (.static Lib.Math.abs.name) (by decide +kernel)) (hts (.initialized "java/lang/Math") (by decide +kernel)) (hts (.code Lib.Math.abs.name Lib.Math.abs.code 1 (some .int)) (by decide +kernel)) (Nat.le_of_ble_eq_true rfl) (Nat.le_of_ble_eq_true rfl) (Nat.zero_le _) (Nat.zero_le _) dX3_allowed_10 ?_
  refine lv_aload_n hx hb dX3_allowed_13 rfl (lv_at hl 1 rfl) ?_
  refine qGet (ci := 3) (v := .int (z 0 1)) (C := RX3) (T := TX3) (N := 7) hx hb hts hin3 hown hK hP 0 rfl rfl 5 (by decide) (hts (.fieldLink RX3 39 "PartCurves" "mostAmps" "I") (by decide +kernel)) rfl dX3_allowed_14 ?_
  refine lv_icmp_le (tgt := 22) hx hb dX3_allowed_17 (by decide) (fun c_17 => ?_) (fun c_17 => ?_)
  · -- 17 taken
    have c_17n := i_le_t c_17
    refine lv_aload_n hx hb dX3_allowed_22 rfl (lv_at hl 1 rfl) ?_
    refine qVi (As := []) (rest := []) hx hb hml hown hts (kX3_fourWires l g z hj) gX3_allowed_X3_fourWires rfl 0 hdX3_fourWires rfl ⟨Nat.le_of_ble_eq_true rfl, Nat.le_of_ble_eq_true rfl⟩ ⟨Nat.zero_le _, Nat.zero_le _⟩ hK hP hS (fun _ h => h) 0 3 rfl rfl rfl hl.1 rfl (Nat.le_of_ble_eq_true rfl) dX3_allowed_23 (fun H locs hP hS => ?_)
    refine lv_if_ne (tgt := 47) hx hb dX3_allowed_26 (by decide) (fun c_26 => ?_) (fun c_26 => ?_)
    · -- 26 taken
      have c_26 := bI_n c_26
      refine lv_iconst (v := 1) hx hb dX3_allowed_47 rfl ?_
      refine lv_goto (tgt := 52) hx hb dX3_allowed_48 (by decide) ?_
      exact qRz hx hb hr hlk rfl hP hK hS dX3_allowed_52 (by first | rfl | simp [bI, awB, alB, c_17, c_17n, c_26]) (by first | rfl | simp [bI, awB, alB, c_17, c_17n, c_26])
    · -- 26 not taken
      have c_26 := bI_0 c_26
      refine lv_iload_n hx hb dX3_allowed_29 rfl (lv_at hl 3 rfl) ?_
      refine lv_aload_n hx hb dX3_allowed_30 rfl (lv_at hl 1 rfl) ?_
      refine lv_iload hx hb dX3_allowed_31 (lv_at hl 0 rfl) ?_
      refine qVi (As := [.int (ampF z (10 + i) u)]) (rest := [.int u]) hx hb hml hown hts (kX3_drop l g z hj (ampF z (10 + i) u)) gX3_allowed_X3_drop rfl 1 hdX3_drop rfl ⟨Nat.le_of_ble_eq_true rfl, Nat.le_of_ble_eq_true rfl⟩ ⟨Nat.zero_le _, Nat.zero_le _⟩ hK hP hS (fun _ h => h) 0 3 rfl rfl rfl hl.1 rfl (Nat.le_of_ble_eq_true rfl) dX3_allowed_33 (fun H locs hP hS => ?_)
      refine lv_iadd hx hb dX3_allowed_36 ?_
      refine q_abs hx hb (hml.trans hl.1.symm) hown (hts (.methodLink RX3 147 Lib.Math.abs.name) (by decide +kernel)) (hts (.static Lib.Math.abs.name) (by decide +kernel)) (hts (.initialized "java/lang/Math") (by decide +kernel)) (hts (.code Lib.Math.abs.name Lib.Math.abs.code 1 (some .int)) (by decide +kernel)) (Nat.le_of_ble_eq_true rfl) (Nat.le_of_ble_eq_true rfl) (Nat.zero_le _) (Nat.zero_le _) dX3_allowed_37 ?_
      refine lv_iload_n hx hb dX3_allowed_40 rfl (lv_at hl 4 rfl) ?_
      refine q_abs hx hb (hml.trans hl.1.symm) hown (hts (.methodLink RX3 147 Lib.Math.abs.name) (by decide +kernel)) (hts (.static Lib.Math.abs.name) (by decide +kernel)) (hts (.initialized "java/lang/Math") (by decide +kernel)) (hts (.code Lib.Math.abs.name Lib.Math.abs.code 1 (some .int)) (by decide +kernel)) (Nat.le_of_ble_eq_true rfl) (Nat.le_of_ble_eq_true rfl) (Nat.zero_le _) (Nat.zero_le _) dX3_allowed_41 ?_
      refine lv_icmp_gt (tgt := 51) hx hb dX3_allowed_44 (by decide) (fun c_44 => ?_) (fun c_44 => ?_)
      · -- 44 taken
        have c_44n := i_lt_t c_44
        refine lv_iconst (v := 0) hx hb dX3_allowed_51 rfl ?_
        exact qRz hx hb hr hlk rfl hP hK hS dX3_allowed_52 (by first | rfl | simp [bI, awB, alB, c_17, c_17n, c_26, c_44, c_44n]) (by first | rfl | simp [bI, awB, alB, c_17, c_17n, c_26, c_44, c_44n])
      · -- 44 not taken
        have c_44n := i_lt_f c_44
        refine lv_iconst (v := 1) hx hb dX3_allowed_47 rfl ?_
        refine lv_goto (tgt := 52) hx hb dX3_allowed_48 (by decide) ?_
        exact qRz hx hb hr hlk rfl hP hK hS dX3_allowed_52 (by first | rfl | simp [bI, awB, alB, c_17, c_17n, c_26, c_44, c_44n]) (by first | rfl | simp [bI, awB, alB, c_17, c_17n, c_26, c_44, c_44n])
  · -- 17 not taken
    have c_17n := i_le_f c_17
    refine lv_iconst (v := 0) hx hb dX3_allowed_20 rfl ?_
    exact qRz hx hb hr hlk rfl hP hK hS dX3_allowed_21 (by first | rfl | simp [bI, awB, alB, c_17, c_17n]) (by first | rfl | simp [bI, awB, alB, c_17, c_17n])
set_option maxHeartbeats 4000000 in
set_option maxRecDepth 100000 in
theorem kX3_ruleAt (l : Launch) (g : qG) {ad : Nat → Nat} (z : zS) (hj : adInj 15 ad) {i : Nat} (hi : i < 4) (u v : Int32) : qMi l yX3_ruleAt wsX3_ruleAt 5 g (WX g ad) (adOf 15 ad) z [.ref (ad 0), .ref (ad (10 + i)), .int u, .int v] (ruF z (10 + i) u v) z := by
  refine qStart (cc := cX3_ruleAt) (maxL := 5) (ret := (some .int)) (plainFor_of_name (by decide)) rfl (Nat.le_of_ble_eq_true rfl) ?_
  intro p e s m args below meth c hx hb hml hown hts hr hlk hP hK ls hl
  have hl : lv_has ls 5 [(0, .ref (ad 0)), (1, .ref (ad (10 + i))), (2, .int u), (3, .int v)] := hl
  have hS : va_S (adOf 15 ad) s.heap s.heap [] := va_S.rf
  refine lv_iload_n hx hb dX3_ruleAt_0 rfl (lv_at hl 2 rfl) ?_
  refine lv_iload_n hx hb dX3_ruleAt_1 rfl (lv_at hl 3 rfl) ?_
  refine lv_icmp_ne (tgt := 7) hx hb dX3_ruleAt_2 (by decide) (fun c_2 => ?_) (fun c_2 => ?_)
  · -- 2 taken
    refine lv_iload_n hx hb dX3_ruleAt_7 rfl (lv_at hl 3 rfl) ?_
    refine lv_if_ge (tgt := 17) hx hb dX3_ruleAt_8 (by decide) (fun c_8 => ?_) (fun c_8 => ?_)
    · -- 8 taken
      have c_8n := i_le_t c_8
      refine lv_iload_n hx hb dX3_ruleAt_17 rfl (lv_at hl 2 rfl) ?_
      refine lv_iconst (v := 1) hx hb dX3_ruleAt_18 rfl ?_
      refine lv_iadd hx hb dX3_ruleAt_19 ?_
      refine lv_istore (lv' := [(4, .int (u + 1)), (0, .ref (ad 0)), (1, .ref (ad (10 + i))), (2, .int u), (3, .int v)]) hx hb dX3_ruleAt_20 hl (by decide) rfl (fun ls hl => ?_)
      refine lv_aload_n hx hb dX3_ruleAt_22 rfl (lv_at hl 1 rfl) ?_
      refine lv_aload_n hx hb dX3_ruleAt_23 rfl (lv_at hl 2 rfl) ?_
      refine lv_iload hx hb dX3_ruleAt_24 (lv_at hl 0 rfl) ?_
      refine qVi (As := [.ref (ad (10 + i)), .int (u + 1)]) (rest := []) hx hb hml hown hts (kX3_aboveLimit l g z hj hi (u + 1)) gX3_ruleAt_X3_aboveLimit rfl 2 hdX3_aboveLimit rfl ⟨Nat.le_of_ble_eq_true rfl, Nat.le_of_ble_eq_true rfl⟩ ⟨Nat.zero_le _, Nat.zero_le _⟩ hK hP hS (fun _ h => h) 0 3 rfl rfl rfl hl.1 rfl (Nat.le_of_ble_eq_true rfl) dX3_ruleAt_26 (fun H locs hP hS => ?_)
      refine lv_if_eq (tgt := 36) hx hb dX3_ruleAt_29 (by decide) (fun c_29 => ?_) (fun c_29 => ?_)
      · -- 29 taken
        have c_29 := bI_0 c_29
        refine lv_iconst (v := 2) hx hb dX3_ruleAt_36 rfl ?_
        exact qRi hx hb hr hlk hP hK hS dX3_ruleAt_37 (by first | rfl | simp [ruF, c_2, c_8, c_8n, c_29]) (by first | rfl | simp [ruF, c_2, c_8, c_8n, c_29])
      · -- 29 not taken
        have c_29 := bI_n c_29
        refine lv_iconst (v := 1) hx hb dX3_ruleAt_32 rfl ?_
        refine lv_goto (tgt := 37) hx hb dX3_ruleAt_33 (by decide) ?_
        exact qRi hx hb hr hlk hP hK hS dX3_ruleAt_37 (by first | rfl | simp [ruF, c_2, c_8, c_8n, c_29]) (by first | rfl | simp [ruF, c_2, c_8, c_8n, c_29])
    · -- 8 not taken
      have c_8n := i_le_f c_8
      refine lv_iload_n hx hb dX3_ruleAt_11 rfl (lv_at hl 2 rfl) ?_
      refine lv_iconst (v := 1) hx hb dX3_ruleAt_12 rfl ?_
      refine lv_isub hx hb dX3_ruleAt_13 ?_
      refine lv_goto (tgt := 20) hx hb dX3_ruleAt_14 (by decide) ?_
      refine lv_istore (lv' := [(4, .int (u - 1)), (0, .ref (ad 0)), (1, .ref (ad (10 + i))), (2, .int u), (3, .int v)]) hx hb dX3_ruleAt_20 hl (by decide) rfl (fun ls hl => ?_)
      refine lv_aload_n hx hb dX3_ruleAt_22 rfl (lv_at hl 1 rfl) ?_
      refine lv_aload_n hx hb dX3_ruleAt_23 rfl (lv_at hl 2 rfl) ?_
      refine lv_iload hx hb dX3_ruleAt_24 (lv_at hl 0 rfl) ?_
      refine qVi (As := [.ref (ad (10 + i)), .int (u - 1)]) (rest := []) hx hb hml hown hts (kX3_aboveLimit l g z hj hi (u - 1)) gX3_ruleAt_X3_aboveLimit rfl 2 hdX3_aboveLimit rfl ⟨Nat.le_of_ble_eq_true rfl, Nat.le_of_ble_eq_true rfl⟩ ⟨Nat.zero_le _, Nat.zero_le _⟩ hK hP hS (fun _ h => h) 0 3 rfl rfl rfl hl.1 rfl (Nat.le_of_ble_eq_true rfl) dX3_ruleAt_26 (fun H locs hP hS => ?_)
      refine lv_if_eq (tgt := 36) hx hb dX3_ruleAt_29 (by decide) (fun c_29 => ?_) (fun c_29 => ?_)
      · -- 29 taken
        have c_29 := bI_0 c_29
        refine lv_iconst (v := 2) hx hb dX3_ruleAt_36 rfl ?_
        exact qRi hx hb hr hlk hP hK hS dX3_ruleAt_37 (by first | rfl | simp [ruF, c_2, c_8, c_8n, c_29]) (by first | rfl | simp [ruF, c_2, c_8, c_8n, c_29])
      · -- 29 not taken
        have c_29 := bI_n c_29
        refine lv_iconst (v := 1) hx hb dX3_ruleAt_32 rfl ?_
        refine lv_goto (tgt := 37) hx hb dX3_ruleAt_33 (by decide) ?_
        exact qRi hx hb hr hlk hP hK hS dX3_ruleAt_37 (by first | rfl | simp [ruF, c_2, c_8, c_8n, c_29]) (by first | rfl | simp [ruF, c_2, c_8, c_8n, c_29])
  · -- 2 not taken
    refine lv_iconst (v := 0) hx hb dX3_ruleAt_5 rfl ?_
    exact qRi hx hb hr hlk hP hK hS dX3_ruleAt_6 (by first | rfl | simp [ruF, c_2]) (by first | rfl | simp [ruF, c_2])
theorem mid_eq {a b : Nat} (h : a + b + 1 < 2 ^ 31) : (nI a + nI b + 1) / 2 = nI ((a + b + 1) / 2) := by
  rw [nI_add, nI_1]
  exact pk_div h (by decide) (by decide)
theorem nI_m1 {a : Nat} (h : 1 ≤ a) : nI a - 1 = nI (a - 1) := by
  have e : a = (a - 1) + 1 := by omega
  rw [e, nI_pred]; congr 1
theorem abs_nI {v : Int32} (h1 : -3000 ≤ v.toInt) (h2 : v.toInt ≤ 3000) : absI v = nI (ix (absI v)) ∧ ix (absI v) ≤ 3000 := by
  have e := absI_Z (x := v) (by omega)
  have hn : inR (absI v) 0 3000 = true := by
    rw [inR_iff, e, i0, show (3000 : Int32).toInt = 3000 from rfl]; split <;> omega
  obtain ⟨a, b, -⟩ := inR_ix (n := 3000) rfl hn
  exact ⟨b, a⟩
set_option maxHeartbeats 4000000 in
set_option maxRecDepth 100000 in
theorem kX3_farthest (l : Launch) (g : qG) {ad : Nat → Nat} (z : zS) (hj : adInj 15 ad) (hI : qInv z) {i : Nat} (hi : i < 4) (v : Int32) (hv : inR v (-3000) 3000 = true) : qMi l yX3_farthest wsX3_farthest 5 g (WX g ad) (adOf 15 ad) z [.ref (ad 0), .ref (ad (10 + i)), .int v] (uF z (10 + i) v) z := by
  refine qStart (cc := cX3_farthest) (maxL := 8) (ret := (some .int)) (plainFor_of_name (by decide)) rfl (Nat.le_of_ble_eq_true rfl) ?_
  intro p e s m args below meth c hx hb hml hown hts hr hlk hP hK ls hl
  have hl : lv_has ls 8 [(0, .ref (ad 0)), (1, .ref (ad (10 + i))), (2, .int v)] := hl
  have hS : va_S (adOf 15 ad) s.heap s.heap [] := va_S.rf
  have hvb := inR_b hv (x := -3000) (y := 3000) rfl rfl
  obtain ⟨eK, hK3⟩ := abs_nI hvb.1 hvb.2
  have mono : ∀ k, k + 1 ≤ ix (absI v) → awB z (10 + i) (sgn v * nI (k + 1)) v = true → 1 ≤ k → awB z (10 + i) (sgn v * nI k) v = true := fun k h1 h2 _ => aw_down hI hi (by omega) h2
  have loop : ∀ (k : Nat) (a b q : Nat), q + k = 32 → a ≤ b → b ≤ ix (absI v) → (b - a) * 2 ^ q ≤ 3000 → a = 0 ∨ awB z (10 + i) (sgn v * nI a) v = true → b = ix (absI v) ∨ awB z (10 + i) (sgn v * nI (b + 1)) v = false → ∀ (H : Heap) (locs : List Loc), va_P g.1 vwCl ((WX g ad) z) H → va_S (adOf 15 ad) s.heap H locs → ∀ ls : Array Slot, lv_has ls 8 [(0, .ref (ad 0)), (1, .ref (ad (10 + i))), (2, .int v), (3, .int (sgn v)), (4, .int (nI a)), (5, .int (nI b)), (6, .int (nI q))] → W p l e (rmL 5) s m args below meth c H locs 0 0 (MQ below (va_Qi (fun q9 u9 => q9 = uF z (10 + i) v ∧ u9 = z) (qU g (WX g ad)) (adOf 15 ad)) args s 0 0 (adOf 15 ad)) (F0 m 22 ls []) := by
    intro k
    induction k with
    | zero =>
      intro a b q hq hab hbK hbd h1 h2 H locs hP hS ls hl
      refine lv_iload hx hb dX3_farthest_22 (lv_at hl 6 rfl) ?_
      refine lv_bipush (v := 32) hx hb dX3_farthest_24 (by decide) ?_
      refine lv_icmp_ge (tgt := 79) hx hb dX3_farthest_26 (by decide) (fun c_26 => ?_) (fun c_26 => ?_)
      · -- 26 taken
        have c_26n := i_le_t c_26
        obtain rfl : q = 32 := by omega
        have hxx : b ≤ a := by omega
        refine lv_iload_n hx hb dX3_farthest_79 rfl (lv_at hl 3 rfl) ?_
        refine lv_iload hx hb dX3_farthest_80 (lv_at hl 4 rfl) ?_
        refine lv_imul hx hb dX3_farthest_82 ?_
        exact qRi hx hb hr hlk hP hK hS dX3_farthest_83 (by rw [uF, uN]; exact congrArg (fun n => sgn v * nI n) (srch_eq (a := a) mono (by omega) h1 (by rcases h2 with h2 | h2; exact Or.inl (by omega); exact Or.inr (by rw [show a = b by omega]; exact h2))).symm) rfl
      · -- 26 not taken
        have c_26n := i_le_f c_26
        exact absurd (nI_lt' (b := 32) (by omega) (by omega) c_26) (by omega)
    | succ k ih =>
      intro a b q hq hab hbK hbd h1 h2 H locs hP hS ls hl
      refine lv_iload hx hb dX3_farthest_22 (lv_at hl 6 rfl) ?_
      refine lv_bipush (v := 32) hx hb dX3_farthest_24 (by decide) ?_
      refine lv_icmp_ge (tgt := 79) hx hb dX3_farthest_26 (by decide) (fun c_26 => ?_) (fun c_26 => ?_)
      · -- 26 taken
        have c_26n := i_le_t c_26
        exact absurd (nI_ge' (b := 32) (by omega) (by omega) c_26) (by omega)
      · -- 26 not taken
        have c_26n := i_le_f c_26
        refine lv_iload hx hb dX3_farthest_29 (lv_at hl 4 rfl) ?_
        refine lv_iload hx hb dX3_farthest_31 (lv_at hl 5 rfl) ?_
        refine lv_icmp_ge (tgt := 79) hx hb dX3_farthest_33 (by decide) (fun c_33 => ?_) (fun c_33 => ?_)
        · -- 33 taken
          have c_33n := i_le_t c_33
          have hxx := nI_ge' (by omega) (by omega) c_33
          refine lv_iload_n hx hb dX3_farthest_79 rfl (lv_at hl 3 rfl) ?_
          refine lv_iload hx hb dX3_farthest_80 (lv_at hl 4 rfl) ?_
          refine lv_imul hx hb dX3_farthest_82 ?_
          exact qRi hx hb hr hlk hP hK hS dX3_farthest_83 (by rw [uF, uN]; exact congrArg (fun n => sgn v * nI n) (srch_eq (a := a) mono (by omega) h1 (by rcases h2 with h2 | h2; exact Or.inl (by omega); exact Or.inr (by rw [show a = b by omega]; exact h2))).symm) rfl
        · -- 33 not taken
          have c_33n := i_le_f c_33
          have hxx := nI_lt' (by omega) (by omega) c_33
          refine lv_iload hx hb dX3_farthest_36 (lv_at hl 4 rfl) ?_
          refine lv_iload hx hb dX3_farthest_38 (lv_at hl 5 rfl) ?_
          refine lv_iadd hx hb dX3_farthest_40 ?_
          refine lv_iconst (v := 1) hx hb dX3_farthest_41 rfl ?_
          refine lv_iadd hx hb dX3_farthest_42 ?_
          refine lv_iconst (v := 2) hx hb dX3_farthest_43 rfl ?_
          refine lv_idiv hx hb dX3_farthest_44 (by decide) ?_
          refine lv_topi (fun y45 e45 => ?_)
          obtain rfl := e45.trans (mid_eq (by omega))
          refine lv_istore (lv' := [(7, .int (nI ((a + b + 1) / 2))), (0, .ref (ad 0)), (1, .ref (ad (10 + i))), (2, .int v), (3, .int (sgn v)), (4, .int (nI a)), (5, .int (nI b)), (6, .int (nI q))]) hx hb dX3_farthest_45 hl (by decide) rfl (fun ls hl => ?_)
          refine lv_aload_n hx hb dX3_farthest_47 rfl (lv_at hl 1 rfl) ?_
          refine lv_aload_n hx hb dX3_farthest_48 rfl (lv_at hl 2 rfl) ?_
          refine lv_iload_n hx hb dX3_farthest_49 rfl (lv_at hl 4 rfl) ?_
          refine lv_iload hx hb dX3_farthest_50 (lv_at hl 0 rfl) ?_
          refine lv_imul hx hb dX3_farthest_52 ?_
          refine lv_iload_n hx hb dX3_farthest_53 rfl (lv_at hl 3 rfl) ?_
          refine qVi (As := [.ref (ad (10 + i)), .int ((sgn v) * (nI ((a + b + 1) / 2))), .int v]) (rest := []) hx hb hml hown hts (kX3_allowed l g z hj hi ((sgn v) * (nI ((a + b + 1) / 2))) v) gX3_farthest_X3_allowed rfl 3 hdX3_allowed rfl ⟨Nat.le_of_ble_eq_true rfl, Nat.le_of_ble_eq_true rfl⟩ ⟨Nat.zero_le _, Nat.zero_le _⟩ hK hP hS (fun _ h => h) 0 3 rfl rfl rfl hl.1 rfl (Nat.le_of_ble_eq_true rfl) dX3_farthest_54 (fun H locs hP hS => ?_)
          refine lv_if_eq (tgt := 67) hx hb dX3_farthest_57 (by decide) (fun c_57 => ?_) (fun c_57 => ?_)
          · -- 57 taken
            have c_57 := bI_0 c_57
            refine lv_iload hx hb dX3_farthest_67 (lv_at hl 0 rfl) ?_
            refine lv_iconst (v := 1) hx hb dX3_farthest_69 rfl ?_
            refine lv_isub hx hb dX3_farthest_70 ?_
            refine lv_topi (fun y71 e71 => ?_)
            obtain rfl := e71.trans (nI_m1 (by omega))
            refine lv_istore (lv' := [(5, .int (nI ((a + b + 1) / 2 - 1))), (7, .int (nI ((a + b + 1) / 2))), (0, .ref (ad 0)), (1, .ref (ad (10 + i))), (2, .int v), (3, .int (sgn v)), (4, .int (nI a)), (6, .int (nI q))]) hx hb dX3_farthest_71 hl (by decide) rfl (fun ls hl => ?_)
            refine lv_iinc (v := nI (q + 1)) (lv' := [(6, .int (nI (q + 1))), (5, .int (nI ((a + b + 1) / 2 - 1))), (7, .int (nI ((a + b + 1) / 2))), (0, .ref (ad 0)), (1, .ref (ad (10 + i))), (2, .int v), (3, .int (sgn v)), (4, .int (nI a))]) hx hb dX3_farthest_73 hl (k := 7) rfl (nI_1 q) (by decide) rfl (fun ls hl => ?_)
            refine lv_goto (tgt := 22) hx hb dX3_farthest_76 (by decide) ?_
            exact ih a ((a + b + 1) / 2 - 1) (q + 1) (by omega) (by omega) (by omega) (by rw [Nat.pow_succ, Nat.mul_comm (2 ^ q) 2, ← Nat.mul_assoc]; exact Nat.le_trans (Nat.mul_le_mul_right _ (by omega)) hbd) h1 (Or.inr (by rw [show (a + b + 1) / 2 - 1 + 1 = (a + b + 1) / 2 by omega]; exact c_57)) _ _ hP hS ls (lv_sub hl [3, 4, 5, 6, 7, 1, 0] rfl)
          · -- 57 not taken
            have c_57 := bI_n c_57
            refine lv_iload hx hb dX3_farthest_60 (lv_at hl 0 rfl) ?_
            refine lv_istore (lv' := [(4, .int (nI ((a + b + 1) / 2))), (7, .int (nI ((a + b + 1) / 2))), (0, .ref (ad 0)), (1, .ref (ad (10 + i))), (2, .int v), (3, .int (sgn v)), (5, .int (nI b)), (6, .int (nI q))]) hx hb dX3_farthest_62 hl (by decide) rfl (fun ls hl => ?_)
            refine lv_goto (tgt := 73) hx hb dX3_farthest_64 (by decide) ?_
            refine lv_iinc (v := nI (q + 1)) (lv' := [(6, .int (nI (q + 1))), (4, .int (nI ((a + b + 1) / 2))), (7, .int (nI ((a + b + 1) / 2))), (0, .ref (ad 0)), (1, .ref (ad (10 + i))), (2, .int v), (3, .int (sgn v)), (5, .int (nI b))]) hx hb dX3_farthest_73 hl (k := 7) rfl (nI_1 q) (by decide) rfl (fun ls hl => ?_)
            refine lv_goto (tgt := 22) hx hb dX3_farthest_76 (by decide) ?_
            exact ih ((a + b + 1) / 2) b (q + 1) (by omega) (by omega) (by omega) (by rw [Nat.pow_succ, Nat.mul_comm (2 ^ q) 2, ← Nat.mul_assoc]; exact Nat.le_trans (Nat.mul_le_mul_right _ (by omega)) hbd) (Or.inr c_57) h2 _ _ hP hS ls (lv_sub hl [3, 4, 5, 6, 1, 7, 0] rfl)
  refine lv_iload_n hx hb dX3_farthest_0 rfl (lv_at hl 2 rfl) ?_
  refine lv_if_ge (tgt := 8) hx hb dX3_farthest_1 (by decide) (fun c_1 => ?_) (fun c_1 => ?_)
  · -- 1 taken
    have c_1n := i_le_t c_1
    refine lv_iconst (v := 1) hx hb dX3_farthest_8 rfl ?_
    refine lv_topi (fun y9 e9 => ?_)
    obtain rfl := e9.trans (show _ = sgn v by simp [sgn, c_1n])
    refine lv_istore_n (lv' := [(3, .int (sgn v)), (0, .ref (ad 0)), (1, .ref (ad (10 + i))), (2, .int v)]) hx hb dX3_farthest_9 rfl hl (by decide) rfl (fun ls hl => ?_)
    refine lv_iconst (v := 0) hx hb dX3_farthest_10 rfl ?_
    refine lv_istore (lv' := [(4, .int 0), (3, .int (sgn v)), (0, .ref (ad 0)), (1, .ref (ad (10 + i))), (2, .int v)]) hx hb dX3_farthest_11 hl (by decide) rfl (fun ls hl => ?_)
    refine lv_iload_n hx hb dX3_farthest_13 rfl (lv_at hl 4 rfl) ?_
    refine q_abs hx hb (hml.trans hl.1.symm) hown (hts (.methodLink RX3 147 Lib.Math.abs.name) (by decide +kernel)) (hts (.static Lib.Math.abs.name) (by decide +kernel)) (hts (.initialized "java/lang/Math") (by decide +kernel)) (hts (.code Lib.Math.abs.name Lib.Math.abs.code 1 (some .int)) (by decide +kernel)) (Nat.le_of_ble_eq_true rfl) (Nat.le_of_ble_eq_true rfl) (Nat.zero_le _) (Nat.zero_le _) dX3_farthest_14 ?_
    refine lv_topi (fun y17 e17 => ?_)
    obtain rfl := e17.trans eK
    refine lv_istore (lv' := [(5, .int (nI (ix (absI v)))), (4, .int 0), (3, .int (sgn v)), (0, .ref (ad 0)), (1, .ref (ad (10 + i))), (2, .int v)]) hx hb dX3_farthest_17 hl (by decide) rfl (fun ls hl => ?_)
    refine lv_iconst (v := 0) hx hb dX3_farthest_19 rfl ?_
    refine lv_istore (lv' := [(6, .int 0), (5, .int (nI (ix (absI v)))), (4, .int 0), (3, .int (sgn v)), (0, .ref (ad 0)), (1, .ref (ad (10 + i))), (2, .int v)]) hx hb dX3_farthest_20 hl (by decide) rfl (fun ls hl => ?_)
    exact loop 32 0 (ix (absI v)) 0 rfl (Nat.zero_le _) (Nat.le_refl _) (by omega) (Or.inl rfl) (Or.inl rfl) _ _ hP hS ls (lv_sub hl [4, 5, 6, 3, 2, 1, 0] rfl)
  · -- 1 not taken
    have c_1n := i_le_f c_1
    refine lv_iconst (v := -1) hx hb dX3_farthest_4 rfl ?_
    refine lv_goto (tgt := 9) hx hb dX3_farthest_5 (by decide) ?_
    refine lv_topi (fun y9 e9 => ?_)
    obtain rfl := e9.trans (show _ = sgn v by simp [sgn, c_1n])
    refine lv_istore_n (lv' := [(3, .int (sgn v)), (0, .ref (ad 0)), (1, .ref (ad (10 + i))), (2, .int v)]) hx hb dX3_farthest_9 rfl hl (by decide) rfl (fun ls hl => ?_)
    refine lv_iconst (v := 0) hx hb dX3_farthest_10 rfl ?_
    refine lv_istore (lv' := [(4, .int 0), (3, .int (sgn v)), (0, .ref (ad 0)), (1, .ref (ad (10 + i))), (2, .int v)]) hx hb dX3_farthest_11 hl (by decide) rfl (fun ls hl => ?_)
    refine lv_iload_n hx hb dX3_farthest_13 rfl (lv_at hl 4 rfl) ?_
    refine q_abs hx hb (hml.trans hl.1.symm) hown (hts (.methodLink RX3 147 Lib.Math.abs.name) (by decide +kernel)) (hts (.static Lib.Math.abs.name) (by decide +kernel)) (hts (.initialized "java/lang/Math") (by decide +kernel)) (hts (.code Lib.Math.abs.name Lib.Math.abs.code 1 (some .int)) (by decide +kernel)) (Nat.le_of_ble_eq_true rfl) (Nat.le_of_ble_eq_true rfl) (Nat.zero_le _) (Nat.zero_le _) dX3_farthest_14 ?_
    refine lv_topi (fun y17 e17 => ?_)
    obtain rfl := e17.trans eK
    refine lv_istore (lv' := [(5, .int (nI (ix (absI v)))), (4, .int 0), (3, .int (sgn v)), (0, .ref (ad 0)), (1, .ref (ad (10 + i))), (2, .int v)]) hx hb dX3_farthest_17 hl (by decide) rfl (fun ls hl => ?_)
    refine lv_iconst (v := 0) hx hb dX3_farthest_19 rfl ?_
    refine lv_istore (lv' := [(6, .int 0), (5, .int (nI (ix (absI v)))), (4, .int 0), (3, .int (sgn v)), (0, .ref (ad 0)), (1, .ref (ad (10 + i))), (2, .int v)]) hx hb dX3_farthest_20 hl (by decide) rfl (fun ls hl => ?_)
    exact loop 32 0 (ix (absI v)) 0 rfl (Nat.zero_le _) (Nat.le_refl _) (by omega) (Or.inl rfl) (Or.inl rfl) _ _ hP hS ls (lv_sub hl [4, 5, 6, 3, 2, 1, 0] rfl)
