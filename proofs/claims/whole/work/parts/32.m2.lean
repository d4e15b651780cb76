def qMiE (l : Launch) (y : MethodName) (ws : List Cond) (d : Nat) (g : qG) (Wd : zS × (Nat → Int32) → va_W) (A : Nat → Prop) (u : zS × (Nat → Int32)) (as : List Value) (E : Int32) (Z : zS) : Prop := Met l y ws (rmL d) (va_Pc as (qU g Wd u)) (va_Qi (fun r u' => r = E ∧ u'.1 = Z) (qU g Wd) A) 0 0 A
section QSTE
variable {p : Program} {l : Launch} {e : Env} {R : Room} {s : State} {m : MethodId} {args : Array Value} {below : List Frame} {meth : Method} {c : Code} {H : Heap} {locs : List Loc} {cells slots : Nat} {Q : State → Prop}
variable {g : qG} {Wd : zS × (Nat → Int32) → va_W} {A : Nat → Prop} {cc : ByteArray} {pc : Nat} {ls : Array Slot}
theorem qRiE (hx : p.tables.exec = Jvm.exec) (hb : c.code = cc) (hr : meth.sig.returnType = some .int) (hlk : meth.locks = false) {E v : Int32} {Z : zS} {u' : zS × (Nat → Int32)} (hP : va_P g.1 vwCl (Wd u') H) (hK : va_K g.1 vwCl (qTys g) s) (hS : va_S A s.heap H locs) (hdg : decode cc pc = .ok (.ireturn, 1)) (h1 : v = E) (h2 : u'.1 = Z) : W p l e R s m args below meth c H locs 0 0 (MQ below (va_Qi (fun r u' => r = E ∧ u'.1 = Z) (qU g Wd) A) args s 0 0 A) (F0 m pc ls [.int v]) :=
  W.iret (v := v) hx hb hr (fun t ht hW => ⟨⟨v, u', rfl, ⟨h1, h2⟩, by rw [ht]; exact hP, va_K.moved hW.alike hK⟩, hS.F ht⟩) hS.2.2 hdg hlk
end QSTE
def thF (z : zS) (p : Nat) (v t : Int32) : Int32 := if 0 < (pulS z p v t).1 then (pulS z p v t).1 else -9
theorem th_0 {z : zS} {p : Nat} {v t : Int32} (h : thF z p v t = -9) : ¬ 0 < (pulS z p v t).1 := fun q => by
  unfold thF at h
  rw [if_pos q] at h
  rw [h] at q
  exact absurd q (by decide)
theorem th_1 {z : zS} {p : Nat} {v t : Int32} (h : ¬ thF z p v t = -9) : 0 < (pulS z p v t).1 ∧ thF z p v t = (pulS z p v t).1 := by
  unfold thF at h ⊢
  by_cases q : 0 < (pulS z p v t).1
  · rw [if_pos q]; exact ⟨q, rfl⟩
  · rw [if_neg q] at h; exact absurd rfl h
theorem hl_keep {y z : zS} (h : keepP y z) : hlB y = hlB z := by
  unfold hlB; rw [h.2.2.2.1 0, h.2.2.2.1 1]
theorem inv_low1 {z : zS} (hI : qInv z) {i j : Nat} {v : Int32} (h : 2 ≤ i ∧ i < 10) : qInv (zu z i j v) :=
  inv_of hI (keep_low h) (by rw [zu_row z i j 0 v (by omega)]; exact hI.2.2.2.1) (by rw [zu_row z i j 0 v (by omega)]; exact hI.2.2.2.2.1) (pr_low h.2 (inv_p hI))
theorem pr_eq {α β : Type} {a c : α} {b d : β} (h1 : a = c) (h2 : b = d) : (a, b) = (c, d) := by rw [h1, h2]
theorem put_4 {z : zS} {so nu : Int32} (h : z 0 4 < 3) : putS z so nu 0 4 = z 0 4 + 1 := by
  unfold putS; rw [if_pos h, zu_same]
set_option maxHeartbeats 4000000 in
set_option maxRecDepth 100000 in
theorem kX4_heats (l : Launch) (g : qG) {am : Nat → Nat} (z : zS) (r : Nat → Int32) (hj : adInj 18 am) (n : Int32) (hn : inR n 0 3 = true) (a t : Int32) : qMv l yX4_heats wsX4_heats 1 g (WMu g am) (adOf 18 am) (z, r) [.ref (am 0), .int n, .int a, .int t] (heS z (10 + ix n) (r 0) a t, upd r 2 (hoF z (10 + ix n) (r 0) a t)) := by
  refine qStart (cc := cX4_heats) (maxL := 7) (ret := none) (plainFor_of_name (by decide)) rfl (Nat.le_of_ble_eq_true rfl) ?_
  intro p e s m args below meth c hx hb hml hown hts hr hlk hP hK ls hl
  have hl : lv_has ls 7 [(0, .ref (am 0)), (1, .int n), (2, .int a), (3, .int t)] := hl
  have hS : va_S (adOf 18 am) s.heap s.heap [] := va_S.rf
  have hin4 : ∀ w ∈ u_ws RX4 TX4 25, w ∈ wsX4_heats := by decide +kernel
  refine lv_aload_n hx hb dX4_heats_0 rfl (lv_at hl 0 rfl) ?_
  refine qGet (ci := 4) (v := .int (r 0)) (C := RX4) (T := TX4) (N := 25) hx hb hts hin4 hown hK hP 0 rfl rfl 14 (by decide) (hts (.fieldLink RX4 125 "PartCurvesModel" "found" "I") (by decide +kernel)) rfl dX4_heats_1 ?_
  refine qSi (As := [.int (r 0)]) (rest := []) hx hb hml hown hts (kX4_size l g (Wd := (WMu g am)) (A := (adOf 18 am)) (z, r) (r 0)) gX4_heats_X4_size rfl 1 hdX4_size rfl ⟨Nat.le_of_ble_eq_true rfl, Nat.le_of_ble_eq_true rfl⟩ ⟨Nat.zero_le _, Nat.zero_le _⟩ hK hP hS (fun _ h => h) hl.1 rfl (Nat.le_of_ble_eq_true rfl) dX4_heats_4 (fun H locs hP hS => ?_)
  refine lv_i2l hx hb dX4_heats_7 rfl ?_
  refine lv_iload_n hx hb dX4_heats_8 rfl (lv_at hl 2 rfl) ?_
  refine qSi (As := [.int a]) (rest := [.long ((absI (r 0)).toInt64)]) hx hb hml hown hts (kX4_size l g (Wd := (WMu g am)) (A := (adOf 18 am)) (z, r) a) gX4_heats_X4_size rfl 1 hdX4_size rfl ⟨Nat.le_of_ble_eq_true rfl, Nat.le_of_ble_eq_true rfl⟩ ⟨Nat.zero_le _, Nat.zero_le _⟩ hK hP hS (fun _ h => h) hl.1 rfl (Nat.le_of_ble_eq_true rfl) dX4_heats_9 (fun H locs hP hS => ?_)
  refine lv_i2l hx hb dX4_heats_12 rfl ?_
  refine lv_lmul hx hb dX4_heats_13 ?_
  refine lv_iload_n hx hb dX4_heats_14 rfl (lv_at hl 3 rfl) ?_
  refine lv_i2l hx hb dX4_heats_15 rfl ?_
  refine lv_lmul hx hb dX4_heats_16 ?_
  refine lv_ldc2 (v := 500000) hx hb hown (hts (.constantLong RX4 149 (500000)) (by decide +kernel)) dX4_heats_17 ?_
  refine lv_ldiv hx hb dX4_heats_20 (by decide) ?_
  refine lv_lstore (lv' := [(4, .long (((((absI (r 0)).toInt64) * ((absI a).toInt64)) * t.toInt64) / 500000)), (0, .ref (am 0)), (1, .int n), (2, .int a), (3, .int t)]) hx hb dX4_heats_21 hl (by decide) rfl (fun ls hl => ?_)
  refine lv_aload_n hx hb dX4_heats_23 rfl (lv_at hl 1 rfl) ?_
  refine qGet (ci := 4) (v := .ref (am 8)) (C := RX4) (T := TX4) (N := 25) hx hb hts hin4 hown hK hP 0 rfl rfl 7 (by decide) (hts (.fieldLink RX4 32 "PartCurvesModel" "heatOf" "[I") (by decide +kernel)) rfl dX4_heats_24 ?_
  refine lv_iload_n hx hb dX4_heats_27 rfl (lv_at hl 2 rfl) ?_
  refine qIld (v := (z (10 + ix n) 6)) hx hb hK hP 8 rfl (inR_vp (n := 3) rfl hn 4 (by decide)) rfl dX4_heats_28 ?_
  refine lv_lload hx hb dX4_heats_29 (lv_at hl 0 rfl) ?_
  refine lv_l2i hx hb dX4_heats_31 rfl ?_
  refine lv_iadd hx hb dX4_heats_32 ?_
  refine lv_istore (lv' := [(6, .int (wlM (z (10 + ix n) 6) (r 0) a t)), (4, .long (((((absI (r 0)).toInt64) * ((absI a).toInt64)) * t.toInt64) / 500000)), (0, .ref (am 0)), (1, .int n), (2, .int a), (3, .int t)]) hx hb dX4_heats_33 hl (by decide) rfl (fun ls hl => ?_)
  refine lv_aload_n hx hb dX4_heats_35 rfl (lv_at hl 2 rfl) ?_
  refine lv_iload hx hb dX4_heats_36 (lv_at hl 0 rfl) ?_
  refine lv_sipush (v := 1000) hx hb dX4_heats_38 (by decide) ?_
  refine lv_icmp_lt (tgt := 62) hx hb dX4_heats_41 (by decide) (fun c_41 => ?_) (fun c_41 => ?_)
  · -- 41 taken
    have c_41n := i_lt_t c_41
    refine lv_bipush (v := -9) hx hb dX4_heats_62 (by decide) ?_
    refine qPut (ci := 4) (ty := .int) (C := RX4) (T := TX4) (N := 25) (u' := (z, upd r 2 (-9))) hx hb hts hin4 tyX4 tyX4_ok nmX4 hown hK hP (WMu_D g (z, r) hj) hS 0 rfl rfl 24 (by decide) (hts (.fieldLink RX4 151 "PartCurvesModel" "tooHot" "I") (by decide +kernel)) rfl (by decide +kernel) rfl rfl (Nat.le_of_ble_eq_true rfl) (WM_w2 g am z r (-9)) dX4_heats_64 (fun H locs hP hS => ?_)
    refine lv_aload_n hx hb dX4_heats_67 rfl (lv_at hl 2 rfl) ?_
    refine qGet (ci := 4) (v := .ref (am 9)) (C := RX4) (T := TX4) (N := 25) hx hb hts hin4 hown hK hP 0 rfl rfl 8 (by decide) (hts (.fieldLink RX4 35 "PartCurvesModel" "isBurnt" "[Z") (by decide +kernel)) (by simp [pF, zu, upd]) dX4_heats_68 ?_
    refine lv_iload_n hx hb dX4_heats_71 rfl (lv_at hl 3 rfl) ?_
    refine lv_aload_n hx hb dX4_heats_72 rfl (lv_at hl 2 rfl) ?_
    refine qGet (ci := 4) (v := .ref (am 9)) (C := RX4) (T := TX4) (N := 25) hx hb hts hin4 hown hK hP 0 rfl rfl 8 (by decide) (hts (.fieldLink RX4 35 "PartCurvesModel" "isBurnt" "[Z") (by decide +kernel)) (by simp [pF, zu, upd]) dX4_heats_73 ?_
    refine lv_iload_n hx hb dX4_heats_76 rfl (lv_at hl 3 rfl) ?_
    refine qZld (v := (z (10 + ix n) 1)) hx hb hK hP 9 rfl (inR_vp (n := 3) rfl hn 4 (by decide)) rfl dX4_heats_77 ?_
    refine lv_if_ne (tgt := 89) hx hb dX4_heats_78 (by decide) (fun c_78 => ?_) (fun c_78 => ?_)
    · -- 78 taken
      refine lv_iconst (v := 1) hx hb dX4_heats_89 rfl ?_
      refine lv_goto (tgt := 94) hx hb dX4_heats_90 (by decide) ?_
      refine qZst (j := (ix n)) (y := 1) (u' := (zu z (10 + ix n) 1 1, upd r 2 (-9))) hx hb hK hP (WMu_D g (z, upd r 2 (-9)) hj) hS 9 rfl (inR_vp (n := 3) rfl hn 4 (by decide)) rfl rfl (WM_f1 g am z (upd r 2 (-9)) (ix n) 1) dX4_heats_94 (fun H locs hP hS => ?_)
      refine lv_aload_n hx hb dX4_heats_95 rfl (lv_at hl 2 rfl) ?_
      refine qGet (ci := 4) (v := .ref (am 8)) (C := RX4) (T := TX4) (N := 25) hx hb hts hin4 hown hK hP 0 rfl rfl 7 (by decide) (hts (.fieldLink RX4 32 "PartCurvesModel" "heatOf" "[I") (by decide +kernel)) (by simp [pF, zu, upd]) dX4_heats_96 ?_
      refine lv_iload_n hx hb dX4_heats_99 rfl (lv_at hl 3 rfl) ?_
      refine lv_iload hx hb dX4_heats_100 (lv_at hl 0 rfl) ?_
      refine lv_sipush (v := 1000) hx hb dX4_heats_102 (by decide) ?_
      refine lv_icmp_lt (tgt := 114) hx hb dX4_heats_105 (by decide) (fun c_105 => ?_) (fun c_105 => ?_)
      · -- 105 taken
        have c_105n := i_lt_t c_105
        refine lv_iload hx hb dX4_heats_114 (lv_at hl 0 rfl) ?_
        refine qIst (j := (ix n)) (u' := (zu (zu z (10 + ix n) 1 1) (10 + ix n) 6 (wlM (z (10 + ix n) 6) (r 0) a t), upd r 2 (-9))) hx hb hK hP (WMu_D g (zu z (10 + ix n) 1 1, upd r 2 (-9)) hj) hS 8 rfl (inR_vp (n := 3) rfl hn 4 (by decide)) rfl (WM_f6 g am (zu z (10 + ix n) 1 1) (upd r 2 (-9)) (ix n) (wlM (z (10 + ix n) 6) (r 0) a t)) dX4_heats_116 (fun H locs hP hS => ?_)
        exact qRv hx hb hr hlk hP hK hS dX4_heats_117 (by first | rfl | simp [heS, hoF, c_41, c_41n, c_78, c_105, c_105n])
      · -- 105 not taken
        have c_105n := i_lt_f c_105
        exact absurd c_41 c_105
    · -- 78 not taken
      refine lv_iload hx hb dX4_heats_81 (lv_at hl 0 rfl) ?_
      refine lv_sipush (v := 1000) hx hb dX4_heats_83 (by decide) ?_
      refine lv_icmp_lt (tgt := 93) hx hb dX4_heats_86 (by decide) (fun c_86 => ?_) (fun c_86 => ?_)
      · -- 86 taken
        have c_86n := i_lt_t c_86
        refine lv_iconst (v := 0) hx hb dX4_heats_93 rfl ?_
        refine qZst (j := (ix n)) (y := 0) (u' := (zu z (10 + ix n) 1 0, upd r 2 (-9))) hx hb hK hP (WMu_D g (z, upd r 2 (-9)) hj) hS 9 rfl (inR_vp (n := 3) rfl hn 4 (by decide)) rfl rfl (WM_f1 g am z (upd r 2 (-9)) (ix n) 0) dX4_heats_94 (fun H locs hP hS => ?_)
        refine lv_aload_n hx hb dX4_heats_95 rfl (lv_at hl 2 rfl) ?_
        refine qGet (ci := 4) (v := .ref (am 8)) (C := RX4) (T := TX4) (N := 25) hx hb hts hin4 hown hK hP 0 rfl rfl 7 (by decide) (hts (.fieldLink RX4 32 "PartCurvesModel" "heatOf" "[I") (by decide +kernel)) (by simp [pF, zu, upd]) dX4_heats_96 ?_
        refine lv_iload_n hx hb dX4_heats_99 rfl (lv_at hl 3 rfl) ?_
        refine lv_iload hx hb dX4_heats_100 (lv_at hl 0 rfl) ?_
        refine lv_sipush (v := 1000) hx hb dX4_heats_102 (by decide) ?_
        refine lv_icmp_lt (tgt := 114) hx hb dX4_heats_105 (by decide) (fun c_105 => ?_) (fun c_105 => ?_)
        · -- 105 taken
          have c_105n := i_lt_t c_105
          refine lv_iload hx hb dX4_heats_114 (lv_at hl 0 rfl) ?_
          refine qIst (j := (ix n)) (u' := (zu (zu z (10 + ix n) 1 0) (10 + ix n) 6 (wlM (z (10 + ix n) 6) (r 0) a t), upd r 2 (-9))) hx hb hK hP (WMu_D g (zu z (10 + ix n) 1 0, upd r 2 (-9)) hj) hS 8 rfl (inR_vp (n := 3) rfl hn 4 (by decide)) rfl (WM_f6 g am (zu z (10 + ix n) 1 0) (upd r 2 (-9)) (ix n) (wlM (z (10 + ix n) 6) (r 0) a t)) dX4_heats_116 (fun H locs hP hS => ?_)
          exact qRv hx hb hr hlk hP hK hS dX4_heats_117 (by first | rfl | simp [heS, hoF, c_41, c_41n, c_78, c_86, c_86n, c_105, c_105n])
        · -- 105 not taken
          have c_105n := i_lt_f c_105
          exact absurd c_41 c_105
      · -- 86 not taken
        have c_86n := i_lt_f c_86
        exact absurd c_41 c_86
  · -- 41 not taken
    have c_41n := i_lt_f c_41
    refine lv_aload_n hx hb dX4_heats_44 rfl (lv_at hl 2 rfl) ?_
    refine qGet (ci := 4) (v := .ref (am 9)) (C := RX4) (T := TX4) (N := 25) hx hb hts hin4 hown hK hP 0 rfl rfl 8 (by decide) (hts (.fieldLink RX4 35 "PartCurvesModel" "isBurnt" "[Z") (by decide +kernel)) rfl dX4_heats_45 ?_
    refine lv_iload_n hx hb dX4_heats_48 rfl (lv_at hl 3 rfl) ?_
    refine qZld (v := (z (10 + ix n) 1)) hx hb hK hP 9 rfl (inR_vp (n := 3) rfl hn 4 (by decide)) rfl dX4_heats_49 ?_
    refine lv_if_ne (tgt := 62) hx hb dX4_heats_50 (by decide) (fun c_50 => ?_) (fun c_50 => ?_)
    · -- 50 taken
      refine lv_bipush (v := -9) hx hb dX4_heats_62 (by decide) ?_
      refine qPut (ci := 4) (ty := .int) (C := RX4) (T := TX4) (N := 25) (u' := (z, upd r 2 (-9))) hx hb hts hin4 tyX4 tyX4_ok nmX4 hown hK hP (WMu_D g (z, r) hj) hS 0 rfl rfl 24 (by decide) (hts (.fieldLink RX4 151 "PartCurvesModel" "tooHot" "I") (by decide +kernel)) rfl (by decide +kernel) rfl rfl (Nat.le_of_ble_eq_true rfl) (WM_w2 g am z r (-9)) dX4_heats_64 (fun H locs hP hS => ?_)
      refine lv_aload_n hx hb dX4_heats_67 rfl (lv_at hl 2 rfl) ?_
      refine qGet (ci := 4) (v := .ref (am 9)) (C := RX4) (T := TX4) (N := 25) hx hb hts hin4 hown hK hP 0 rfl rfl 8 (by decide) (hts (.fieldLink RX4 35 "PartCurvesModel" "isBurnt" "[Z") (by decide +kernel)) (by simp [pF, zu, upd]) dX4_heats_68 ?_
      refine lv_iload_n hx hb dX4_heats_71 rfl (lv_at hl 3 rfl) ?_
      refine lv_aload_n hx hb dX4_heats_72 rfl (lv_at hl 2 rfl) ?_
      refine qGet (ci := 4) (v := .ref (am 9)) (C := RX4) (T := TX4) (N := 25) hx hb hts hin4 hown hK hP 0 rfl rfl 8 (by decide) (hts (.fieldLink RX4 35 "PartCurvesModel" "isBurnt" "[Z") (by decide +kernel)) (by simp [pF, zu, upd]) dX4_heats_73 ?_
      refine lv_iload_n hx hb dX4_heats_76 rfl (lv_at hl 3 rfl) ?_
      refine qZld (v := (z (10 + ix n) 1)) hx hb hK hP 9 rfl (inR_vp (n := 3) rfl hn 4 (by decide)) rfl dX4_heats_77 ?_
      refine lv_if_ne (tgt := 89) hx hb dX4_heats_78 (by decide) (fun c_78 => ?_) (fun c_78 => ?_)
      · -- 78 taken
        refine lv_iconst (v := 1) hx hb dX4_heats_89 rfl ?_
        refine lv_goto (tgt := 94) hx hb dX4_heats_90 (by decide) ?_
        refine qZst (j := (ix n)) (y := 1) (u' := (zu z (10 + ix n) 1 1, upd r 2 (-9))) hx hb hK hP (WMu_D g (z, upd r 2 (-9)) hj) hS 9 rfl (inR_vp (n := 3) rfl hn 4 (by decide)) rfl rfl (WM_f1 g am z (upd r 2 (-9)) (ix n) 1) dX4_heats_94 (fun H locs hP hS => ?_)
        refine lv_aload_n hx hb dX4_heats_95 rfl (lv_at hl 2 rfl) ?_
        refine qGet (ci := 4) (v := .ref (am 8)) (C := RX4) (T := TX4) (N := 25) hx hb hts hin4 hown hK hP 0 rfl rfl 7 (by decide) (hts (.fieldLink RX4 32 "PartCurvesModel" "heatOf" "[I") (by decide +kernel)) (by simp [pF, zu, upd]) dX4_heats_96 ?_
        refine lv_iload_n hx hb dX4_heats_99 rfl (lv_at hl 3 rfl) ?_
        refine lv_iload hx hb dX4_heats_100 (lv_at hl 0 rfl) ?_
        refine lv_sipush (v := 1000) hx hb dX4_heats_102 (by decide) ?_
        refine lv_icmp_lt (tgt := 114) hx hb dX4_heats_105 (by decide) (fun c_105 => ?_) (fun c_105 => ?_)
        · -- 105 taken
          have c_105n := i_lt_t c_105
          exact absurd c_105 c_41
        · -- 105 not taken
          have c_105n := i_lt_f c_105
          refine lv_sipush (v := 1000) hx hb dX4_heats_108 (by decide) ?_
          refine lv_goto (tgt := 116) hx hb dX4_heats_111 (by decide) ?_
          refine qIst (j := (ix n)) (u' := (zu (zu z (10 + ix n) 1 1) (10 + ix n) 6 1000, upd r 2 (-9))) hx hb hK hP (WMu_D g (zu z (10 + ix n) 1 1, upd r 2 (-9)) hj) hS 8 rfl (inR_vp (n := 3) rfl hn 4 (by decide)) rfl (WM_f6 g am (zu z (10 + ix n) 1 1) (upd r 2 (-9)) (ix n) 1000) dX4_heats_116 (fun H locs hP hS => ?_)
          exact qRv hx hb hr hlk hP hK hS dX4_heats_117 (by first | rfl | simp [heS, hoF, c_41, c_41n, c_50, c_78, c_105, c_105n])
      · -- 78 not taken
        exact absurd c_78 c_50
    · -- 50 not taken
      refine lv_iload hx hb dX4_heats_53 (lv_at hl 0 rfl) ?_
      refine lv_sipush (v := 999) hx hb dX4_heats_55 (by decide) ?_
      refine lv_isub hx hb dX4_heats_58 ?_
      refine lv_goto (tgt := 64) hx hb dX4_heats_59 (by decide) ?_
      refine qPut (ci := 4) (ty := .int) (C := RX4) (T := TX4) (N := 25) (u' := (z, upd r 2 ((wlM (z (10 + ix n) 6) (r 0) a t) - 999))) hx hb hts hin4 tyX4 tyX4_ok nmX4 hown hK hP (WMu_D g (z, r) hj) hS 0 rfl rfl 24 (by decide) (hts (.fieldLink RX4 151 "PartCurvesModel" "tooHot" "I") (by decide +kernel)) rfl (by decide +kernel) rfl rfl (Nat.le_of_ble_eq_true rfl) (WM_w2 g am z r ((wlM (z (10 + ix n) 6) (r 0) a t) - 999)) dX4_heats_64 (fun H locs hP hS => ?_)
      refine lv_aload_n hx hb dX4_heats_67 rfl (lv_at hl 2 rfl) ?_
      refine qGet (ci := 4) (v := .ref (am 9)) (C := RX4) (T := TX4) (N := 25) hx hb hts hin4 hown hK hP 0 rfl rfl 8 (by decide) (hts (.fieldLink RX4 35 "PartCurvesModel" "isBurnt" "[Z") (by decide +kernel)) (by simp [pF, zu, upd]) dX4_heats_68 ?_
      refine lv_iload_n hx hb dX4_heats_71 rfl (lv_at hl 3 rfl) ?_
      refine lv_aload_n hx hb dX4_heats_72 rfl (lv_at hl 2 rfl) ?_
      refine qGet (ci := 4) (v := .ref (am 9)) (C := RX4) (T := TX4) (N := 25) hx hb hts hin4 hown hK hP 0 rfl rfl 8 (by decide) (hts (.fieldLink RX4 35 "PartCurvesModel" "isBurnt" "[Z") (by decide +kernel)) (by simp [pF, zu, upd]) dX4_heats_73 ?_
      refine lv_iload_n hx hb dX4_heats_76 rfl (lv_at hl 3 rfl) ?_
      refine qZld (v := (z (10 + ix n) 1)) hx hb hK hP 9 rfl (inR_vp (n := 3) rfl hn 4 (by decide)) rfl dX4_heats_77 ?_
      refine lv_if_ne (tgt := 89) hx hb dX4_heats_78 (by decide) (fun c_78 => ?_) (fun c_78 => ?_)
      · -- 78 taken
        exact absurd c_50 c_78
      · -- 78 not taken
        refine lv_iload hx hb dX4_heats_81 (lv_at hl 0 rfl) ?_
        refine lv_sipush (v := 1000) hx hb dX4_heats_83 (by decide) ?_
        refine lv_icmp_lt (tgt := 93) hx hb dX4_heats_86 (by decide) (fun c_86 => ?_) (fun c_86 => ?_)
        · -- 86 taken
          have c_86n := i_lt_t c_86
          exact absurd c_86 c_41
        · -- 86 not taken
          have c_86n := i_lt_f c_86
          refine lv_iconst (v := 1) hx hb dX4_heats_89 rfl ?_
          refine lv_goto (tgt := 94) hx hb dX4_heats_90 (by decide) ?_
          refine qZst (j := (ix n)) (y := 1) (u' := (zu z (10 + ix n) 1 1, upd r 2 ((wlM (z (10 + ix n) 6) (r 0) a t) - 999))) hx hb hK hP (WMu_D g (z, upd r 2 ((wlM (z (10 + ix n) 6) (r 0) a t) - 999)) hj) hS 9 rfl (inR_vp (n := 3) rfl hn 4 (by decide)) rfl rfl (WM_f1 g am z (upd r 2 ((wlM (z (10 + ix n) 6) (r 0) a t) - 999)) (ix n) 1) dX4_heats_94 (fun H locs hP hS => ?_)
          refine lv_aload_n hx hb dX4_heats_95 rfl (lv_at hl 2 rfl) ?_
          refine qGet (ci := 4) (v := .ref (am 8)) (C := RX4) (T := TX4) (N := 25) hx hb hts hin4 hown hK hP 0 rfl rfl 7 (by decide) (hts (.fieldLink RX4 32 "PartCurvesModel" "heatOf" "[I") (by decide +kernel)) (by simp [pF, zu, upd]) dX4_heats_96 ?_
          refine lv_iload_n hx hb dX4_heats_99 rfl (lv_at hl 3 rfl) ?_
          refine lv_iload hx hb dX4_heats_100 (lv_at hl 0 rfl) ?_
          refine lv_sipush (v := 1000) hx hb dX4_heats_102 (by decide) ?_
          refine lv_icmp_lt (tgt := 114) hx hb dX4_heats_105 (by decide) (fun c_105 => ?_) (fun c_105 => ?_)
          · -- 105 taken
            have c_105n := i_lt_t c_105
            exact absurd c_105 c_41
          · -- 105 not taken
            have c_105n := i_lt_f c_105
            refine lv_sipush (v := 1000) hx hb dX4_heats_108 (by decide) ?_
            refine lv_goto (tgt := 116) hx hb dX4_heats_111 (by decide) ?_
            refine qIst (j := (ix n)) (u' := (zu (zu z (10 + ix n) 1 1) (10 + ix n) 6 1000, upd r 2 ((wlM (z (10 + ix n) 6) (r 0) a t) - 999))) hx hb hK hP (WMu_D g (zu z (10 + ix n) 1 1, upd r 2 ((wlM (z (10 + ix n) 6) (r 0) a t) - 999)) hj) hS 8 rfl (inR_vp (n := 3) rfl hn 4 (by decide)) rfl (WM_f6 g am (zu z (10 + ix n) 1 1) (upd r 2 ((wlM (z (10 + ix n) 6) (r 0) a t) - 999)) (ix n) 1000) dX4_heats_116 (fun H locs hP hS => ?_)
            exact qRv hx hb hr hlk hP hK hS dX4_heats_117 (by first | rfl | simp [heS, hoF, c_41, c_41n, c_50, c_78, c_86, c_86n, c_105, c_105n])
set_option maxHeartbeats 4000000 in
set_option maxRecDepth 100000 in
theorem kX4_pulses (l : Launch) (g : qG) {am : Nat → Nat} (z : zS) (r : Nat → Int32) (hj : adInj 18 am) (hI : qInv z) (n : Int32) (hin : inH z = n) (hn9 : ¬ n = -9) (v t : Int32) (hv : inR v (-3000) 3000 = true) (ht : inR t 1 50 = true) (hn0 : ¬ z 0 3 = 60) : qMv l yX4_pulses wsX4_pulses 6 g (WMu g am) (adOf 18 am) (z, r) [.ref (am 0), .int v, .int t] ((pulS z (10 + ix n) v t).2, upd (upd (upd r 0 (uF (opS z (10 + ix n) v) (10 + ix n) v)) 1 (ruF (opS z (10 + ix n) v) (10 + ix n) (uF (opS z (10 + ix n) v) (10 + ix n) v) v)) 2 (thF z (10 + ix n) v t)) := by
  refine qStart (cc := cX4_pulses) (maxL := 7) (ret := none) (plainFor_of_name (by decide)) rfl (Nat.le_of_ble_eq_true rfl) ?_
  intro p e s m args below meth c hx hb hml hown hts hr hlk hP hK ls hl
  have hl : lv_has ls 7 [(0, .ref (am 0)), (1, .int v), (2, .int t)] := hl
  have hS : va_S (adOf 18 am) s.heap s.heap [] := va_S.rf
  have hin4 : ∀ w ∈ u_ws RX4 TX4 25, w ∈ wsX4_pulses := by decide +kernel
  have hh := inH_lt (z := z) (by rw [hin]; exact hn9)
  rw [hin] at hh
  obtain ⟨hn, hp4, -, hl9, -, -⟩ := hh
  have tail : ∀ (y : zS) (x4 : Int32), qInv y → ¬ y 0 3 = 60 → hlB y = true → opS z (10 + ix n) v = y → ∀ (H : Heap) (locs : List Loc), va_P g.1 vwCl ((WMu g am) (y, upd (upd r 0 (uF y (10 + ix n) v)) 1 (ruF y (10 + ix n) (uF y (10 + ix n) v) v))) H → va_S (adOf 18 am) s.heap H locs → ∀ ls : Array Slot, lv_has ls 7 [(0, .ref (am 0)), (1, .int v), (2, .int t), (3, .int n), (4, .int x4)] → W p l e (rmL 6) s m args below meth c H locs 0 0 (MQ below (va_Qv (fun u9 => u9 = ((pulS z (10 + ix n) v t).2, upd (upd (upd r 0 (uF (opS z (10 + ix n) v) (10 + ix n) v)) 1 (ruF (opS z (10 + ix n) v) (10 + ix n) (uF (opS z (10 + ix n) v) (10 + ix n) v) v)) 2 (thF z (10 + ix n) v t))) (qU g (WMu g am)) (adOf 18 am)) args s 0 0 (adOf 18 am)) (F0 m 85 ls []) := by
    intro y x4 hIy hnf hly hyo H locs hP hS ls hl
    have hrc := inv_rc hIy
    have hu := uF_rng (z := y) (p := (10 + ix n)) hv
    have huv : inR (uF y (10 + ix n) v) (-3000) 3000 = true := inR_iff.mpr hu
    have hab := ampF_Z (inv_p hIy _ hp4) hu.1 hu.2
    refine lv_aload_n hx hb dX4_pulses_85 rfl (lv_at hl 0 rfl) ?_
    refine lv_iload_n hx hb dX4_pulses_86 rfl (lv_at hl 3 rfl) ?_
    refine lv_aload_n hx hb dX4_pulses_87 rfl (lv_at hl 0 rfl) ?_
    refine qGet (ci := 4) (v := .int (uF y (10 + ix n) v)) (C := RX4) (T := TX4) (N := 25) hx hb hts hin4 hown hK hP 0 rfl rfl 14 (by decide) (hts (.fieldLink RX4 125 "PartCurvesModel" "found" "I") (by decide +kernel)) (by simp [pF, zu, upd]) dX4_pulses_88 ?_
    refine qVi (As := [.int n, .int (uF y (10 + ix n) v)]) (rest := []) hx hb hml hown hts (kX4_ampsAt l g y (upd (upd r 0 (uF y (10 + ix n) v)) 1 (ruF y (10 + ix n) (uF y (10 + ix n) v) v)) hj hIy n hn hly (uF y (10 + ix n) v) huv) gX4_pulses_X4_ampsAt rfl 2 hdX4_ampsAt rfl ⟨Nat.le_of_ble_eq_true rfl, Nat.le_of_ble_eq_true rfl⟩ ⟨Nat.zero_le _, Nat.zero_le _⟩ hK hP hS (fun _ h => h) 0 4 rfl rfl rfl hl.1 rfl (Nat.le_of_ble_eq_true rfl) dX4_pulses_91 (fun H locs hP hS => ?_)
    refine lv_istore (lv' := [(5, .int (ampF y (10 + ix n) (uF y (10 + ix n) v))), (0, .ref (am 0)), (1, .int v), (2, .int t), (3, .int n), (4, .int x4)]) hx hb dX4_pulses_94 hl (by decide) rfl (fun ls hl => ?_)
    refine lv_aload_n hx hb dX4_pulses_96 rfl (lv_at hl 1 rfl) ?_
    refine qGet (ci := 4) (v := .ref (am 12)) (C := RX4) (T := TX4) (N := 25) hx hb hts hin4 hown hK hP 0 rfl rfl 17 (by decide) (hts (.fieldLink RX4 48 "PartCurvesModel" "forced" "[I") (by decide +kernel)) (by simp [pF, zu, upd]) dX4_pulses_97 ?_
    refine lv_aload_n hx hb dX4_pulses_100 rfl (lv_at hl 1 rfl) ?_
    refine qGet (ci := 4) (v := .int (y 0 3)) (C := RX4) (T := TX4) (N := 25) hx hb hts hin4 hown hK hP 0 rfl rfl 16 (by decide) (hts (.fieldLink RX4 142 "PartCurvesModel" "readings" "I") (by decide +kernel)) (by simp [pF, zu, upd]) dX4_pulses_101 ?_
    refine lv_iload_n hx hb dX4_pulses_104 rfl (lv_at hl 2 rfl) ?_
    refine qIst (j := (ix (y 0 3))) (u' := (zu y 2 (ix (y 0 3)) v, upd (upd r 0 (uF y (10 + ix n) v)) 1 (ruF y (10 + ix n) (uF y (10 + ix n) v) v))) hx hb hK hP (WMu_D g (y, upd (upd r 0 (uF y (10 + ix n) v)) 1 (ruF y (10 + ix n) (uF y (10 + ix n) v) v)) hj) hS 12 rfl (room_in hrc hnf) rfl (WM_12 g am y (upd (upd r 0 (uF y (10 + ix n) v)) 1 (ruF y (10 + ix n) (uF y (10 + ix n) v) v)) (ix (y 0 3)) v) dX4_pulses_105 (fun H locs hP hS => ?_)
    refine lv_aload_n hx hb dX4_pulses_106 rfl (lv_at hl 1 rfl) ?_
    refine qGet (ci := 4) (v := .ref (am 13)) (C := RX4) (T := TX4) (N := 25) hx hb hts hin4 hown hK hP 0 rfl rfl 18 (by decide) (hts (.fieldLink RX4 51 "PartCurvesModel" "toldVolts" "[I") (by decide +kernel)) (by simp [pF, zu, upd]) dX4_pulses_107 ?_
    refine lv_aload_n hx hb dX4_pulses_110 rfl (lv_at hl 1 rfl) ?_
    refine qGet (ci := 4) (v := .int (y 0 3)) (C := RX4) (T := TX4) (N := 25) hx hb hts hin4 hown hK hP 0 rfl rfl 16 (by decide) (hts (.fieldLink RX4 142 "PartCurvesModel" "readings" "I") (by decide +kernel)) (by simp [pF, zu, upd]) dX4_pulses_111 ?_
    refine lv_aload_n hx hb dX4_pulses_114 rfl (lv_at hl 1 rfl) ?_
    refine qVi (As := []) (rest := [.int (y 0 3), .ref (am 13)]) hx hb hml hown hts (kX4_isFourWires l g (zu y 2 (ix (y 0 3)) v) (upd (upd r 0 (uF y (10 + ix n) v)) 1 (ruF y (10 + ix n) (uF y (10 + ix n) v) v)) hj (inv_low1 hIy (by decide))) gX4_pulses_X4_isFourWires rfl 0 hdX4_isFourWires rfl ⟨Nat.le_of_ble_eq_true rfl, Nat.le_of_ble_eq_true rfl⟩ ⟨Nat.zero_le _, Nat.zero_le _⟩ hK hP hS (fun _ h => h) 0 4 rfl rfl rfl hl.1 rfl (Nat.le_of_ble_eq_true rfl) dX4_pulses_115 (fun H locs hP hS => ?_)
    have hf9 : fourB (zu y 2 (ix (y 0 3)) v) = fourB y := rfl
    rw [hf9]
    refine lv_if_eq (tgt := 128) hx hb dX4_pulses_118 (by decide) (fun c_118 => ?_) (fun c_118 => ?_)
    · -- 118 taken
      have c_118 := bI_0 c_118
      refine lv_aload_n hx hb dX4_pulses_128 rfl (lv_at hl 1 rfl) ?_
      refine qGet (ci := 4) (v := .int (uF y (10 + ix n) v)) (C := RX4) (T := TX4) (N := 25) hx hb hts hin4 hown hK hP 0 rfl rfl 14 (by decide) (hts (.fieldLink RX4 125 "PartCurvesModel" "found" "I") (by decide +kernel)) (by simp [pF, zu, upd]) dX4_pulses_129 ?_
      refine lv_aload_n hx hb dX4_pulses_132 rfl (lv_at hl 1 rfl) ?_
      refine lv_iload hx hb dX4_pulses_133 (lv_at hl 0 rfl) ?_
      refine qVi (As := [.int (ampF y (10 + ix n) (uF y (10 + ix n) v))]) (rest := [.int (uF y (10 + ix n) v), .int (y 0 3), .ref (am 13)]) hx hb hml hown hts (kX4_dropBy l g (zu y 2 (ix (y 0 3)) v) (upd (upd r 0 (uF y (10 + ix n) v)) 1 (ruF y (10 + ix n) (uF y (10 + ix n) v) v)) hj (inv_low1 hIy (by decide)) (ampF y (10 + ix n) (uF y (10 + ix n) v)) hab.2.1 hab.2.2) gX4_pulses_X4_dropBy rfl 1 hdX4_dropBy rfl ⟨Nat.le_of_ble_eq_true rfl, Nat.le_of_ble_eq_true rfl⟩ ⟨Nat.zero_le _, Nat.zero_le _⟩ hK hP hS (fun _ h => h) 0 4 rfl rfl rfl hl.1 rfl (Nat.le_of_ble_eq_true rfl) dX4_pulses_135 (fun H locs hP hS => ?_)
      refine lv_iadd hx hb dX4_pulses_138 ?_
      refine lv_topi (fun y139 e139 => ?_)
      obtain rfl := e139.trans (show _ = tldF y (uF y (10 + ix n) v) (ampF y (10 + ix n) (uF y (10 + ix n) v)) by unfold tldF; rw [if_neg (bn c_118)] <;> rfl)
      refine qIst (j := (ix (y 0 3))) (u' := (zu (zu y 2 (ix (y 0 3)) v) 3 (ix (y 0 3)) (tldF y (uF y (10 + ix n) v) (ampF y (10 + ix n) (uF y (10 + ix n) v))), upd (upd r 0 (uF y (10 + ix n) v)) 1 (ruF y (10 + ix n) (uF y (10 + ix n) v) v))) hx hb hK hP (WMu_D g (zu y 2 (ix (y 0 3)) v, upd (upd r 0 (uF y (10 + ix n) v)) 1 (ruF y (10 + ix n) (uF y (10 + ix n) v) v)) hj) hS 13 rfl (room_in hrc hnf) rfl (WM_13 g am (zu y 2 (ix (y 0 3)) v) (upd (upd r 0 (uF y (10 + ix n) v)) 1 (ruF y (10 + ix n) (uF y (10 + ix n) v) v)) (ix (y 0 3)) (tldF y (uF y (10 + ix n) v) (ampF y (10 + ix n) (uF y (10 + ix n) v)))) dX4_pulses_139 (fun H locs hP hS => ?_)
      refine lv_aload_n hx hb dX4_pulses_140 rfl (lv_at hl 1 rfl) ?_
      refine qGet (ci := 4) (v := .ref (am 14)) (C := RX4) (T := TX4) (N := 25) hx hb hts hin4 hown hK hP 0 rfl rfl 19 (by decide) (hts (.fieldLink RX4 54 "PartCurvesModel" "ampsOf" "[I") (by decide +kernel)) (by simp [pF, zu, upd]) dX4_pulses_141 ?_
      refine lv_aload_n hx hb dX4_pulses_144 rfl (lv_at hl 1 rfl) ?_
      refine qGet (ci := 4) (v := .int (y 0 3)) (C := RX4) (T := TX4) (N := 25) hx hb hts hin4 hown hK hP 0 rfl rfl 16 (by decide) (hts (.fieldLink RX4 142 "PartCurvesModel" "readings" "I") (by decide +kernel)) (by simp [pF, zu, upd]) dX4_pulses_145 ?_
      refine lv_iload hx hb dX4_pulses_148 (lv_at hl 0 rfl) ?_
      refine qIst (j := (ix (y 0 3))) (u' := (zu (zu (zu y 2 (ix (y 0 3)) v) 3 (ix (y 0 3)) (tldF y (uF y (10 + ix n) v) (ampF y (10 + ix n) (uF y (10 + ix n) v)))) 4 (ix (y 0 3)) (ampF y (10 + ix n) (uF y (10 + ix n) v)), upd (upd r 0 (uF y (10 + ix n) v)) 1 (ruF y (10 + ix n) (uF y (10 + ix n) v) v))) hx hb hK hP (WMu_D g (zu (zu y 2 (ix (y 0 3)) v) 3 (ix (y 0 3)) (tldF y (uF y (10 + ix n) v) (ampF y (10 + ix n) (uF y (10 + ix n) v))), upd (upd r 0 (uF y (10 + ix n) v)) 1 (ruF y (10 + ix n) (uF y (10 + ix n) v) v)) hj) hS 14 rfl (room_in hrc hnf) rfl (WM_14 g am (zu (zu y 2 (ix (y 0 3)) v) 3 (ix (y 0 3)) (tldF y (uF y (10 + ix n) v) (ampF y (10 + ix n) (uF y (10 + ix n) v)))) (upd (upd r 0 (uF y (10 + ix n) v)) 1 (ruF y (10 + ix n) (uF y (10 + ix n) v) v)) (ix (y 0 3)) (ampF y (10 + ix n) (uF y (10 + ix n) v))) dX4_pulses_150 (fun H locs hP hS => ?_)
      refine lv_aload_n hx hb dX4_pulses_151 rfl (lv_at hl 1 rfl) ?_
      refine qGet (ci := 4) (v := .ref (am 15)) (C := RX4) (T := TX4) (N := 25) hx hb hts hin4 hown hK hP 0 rfl rfl 20 (by decide) (hts (.fieldLink RX4 57 "PartCurvesModel" "ruleOf" "[I") (by decide +kernel)) (by simp [pF, zu, upd]) dX4_pulses_152 ?_
      refine lv_aload_n hx hb dX4_pulses_155 rfl (lv_at hl 1 rfl) ?_
      refine qGet (ci := 4) (v := .int (y 0 3)) (C := RX4) (T := TX4) (N := 25) hx hb hts hin4 hown hK hP 0 rfl rfl 16 (by decide) (hts (.fieldLink RX4 142 "PartCurvesModel" "readings" "I") (by decide +kernel)) (by simp [pF, zu, upd]) dX4_pulses_156 ?_
      refine lv_aload_n hx hb dX4_pulses_159 rfl (lv_at hl 1 rfl) ?_
      refine qGet (ci := 4) (v := .int (ruF y (10 + ix n) (uF y (10 + ix n) v) v)) (C := RX4) (T := TX4) (N := 25) hx hb hts hin4 hown hK hP 0 rfl rfl 15 (by decide) (hts (.fieldLink RX4 128 "PartCurvesModel" "rule" "I") (by decide +kernel)) (by simp [pF, zu, upd]) dX4_pulses_160 ?_
      refine qIst (j := (ix (y 0 3))) (u' := (zu (zu (zu (zu y 2 (ix (y 0 3)) v) 3 (ix (y 0 3)) (tldF y (uF y (10 + ix n) v) (ampF y (10 + ix n) (uF y (10 + ix n) v)))) 4 (ix (y 0 3)) (ampF y (10 + ix n) (uF y (10 + ix n) v))) 5 (ix (y 0 3)) (ruF y (10 + ix n) (uF y (10 + ix n) v) v), upd (upd r 0 (uF y (10 + ix n) v)) 1 (ruF y (10 + ix n) (uF y (10 + ix n) v) v))) hx hb hK hP (WMu_D g (zu (zu (zu y 2 (ix (y 0 3)) v) 3 (ix (y 0 3)) (tldF y (uF y (10 + ix n) v) (ampF y (10 + ix n) (uF y (10 + ix n) v)))) 4 (ix (y 0 3)) (ampF y (10 + ix n) (uF y (10 + ix n) v)), upd (upd r 0 (uF y (10 + ix n) v)) 1 (ruF y (10 + ix n) (uF y (10 + ix n) v) v)) hj) hS 15 rfl (room_in hrc hnf) rfl (WM_15 g am (zu (zu (zu y 2 (ix (y 0 3)) v) 3 (ix (y 0 3)) (tldF y (uF y (10 + ix n) v) (ampF y (10 + ix n) (uF y (10 + ix n) v)))) 4 (ix (y 0 3)) (ampF y (10 + ix n) (uF y (10 + ix n) v))) (upd (upd r 0 (uF y (10 + ix n) v)) 1 (ruF y (10 + ix n) (uF y (10 + ix n) v) v)) (ix (y 0 3)) (ruF y (10 + ix n) (uF y (10 + ix n) v) v)) dX4_pulses_163 (fun H locs hP hS => ?_)
      refine lv_aload_n hx hb dX4_pulses_164 rfl (lv_at hl 1 rfl) ?_
      refine lv_dup hx hb dX4_pulses_165 rfl ?_
      refine qGet (ci := 4) (v := .int (y 0 3)) (C := RX4) (T := TX4) (N := 25) hx hb hts hin4 hown hK hP 0 rfl rfl 16 (by decide) (hts (.fieldLink RX4 142 "PartCurvesModel" "readings" "I") (by decide +kernel)) (by simp [pF, zu, upd]) dX4_pulses_166 ?_
      refine lv_iconst (v := 1) hx hb dX4_pulses_169 rfl ?_
      refine lv_iadd hx hb dX4_pulses_170 ?_
      refine qPut (ci := 4) (ty := .int) (C := RX4) (T := TX4) (N := 25) (u' := (zu (zu (zu (zu (zu y 2 (ix (y 0 3)) v) 3 (ix (y 0 3)) (tldF y (uF y (10 + ix n) v) (ampF y (10 + ix n) (uF y (10 + ix n) v)))) 4 (ix (y 0 3)) (ampF y (10 + ix n) (uF y (10 + ix n) v))) 5 (ix (y 0 3)) (ruF y (10 + ix n) (uF y (10 + ix n) v) v)) 0 3 ((y 0 3) + 1), upd (upd r 0 (uF y (10 + ix n) v)) 1 (ruF y (10 + ix n) (uF y (10 + ix n) v) v))) hx hb hts hin4 tyX4 tyX4_ok nmX4 hown hK hP (WMu_D g (zu (zu (zu (zu y 2 (ix (y 0 3)) v) 3 (ix (y 0 3)) (tldF y (uF y (10 + ix n) v) (ampF y (10 + ix n) (uF y (10 + ix n) v)))) 4 (ix (y 0 3)) (ampF y (10 + ix n) (uF y (10 + ix n) v))) 5 (ix (y 0 3)) (ruF y (10 + ix n) (uF y (10 + ix n) v) v), upd (upd r 0 (uF y (10 + ix n) v)) 1 (ruF y (10 + ix n) (uF y (10 + ix n) v) v)) hj) hS 0 rfl rfl 16 (by decide) (hts (.fieldLink RX4 142 "PartCurvesModel" "readings" "I") (by decide +kernel)) rfl (by decide +kernel) rfl rfl (Nat.le_of_ble_eq_true rfl) (WM_rc g am (zu (zu (zu (zu y 2 (ix (y 0 3)) v) 3 (ix (y 0 3)) (tldF y (uF y (10 + ix n) v) (ampF y (10 + ix n) (uF y (10 + ix n) v)))) 4 (ix (y 0 3)) (ampF y (10 + ix n) (uF y (10 + ix n) v))) 5 (ix (y 0 3)) (ruF y (10 + ix n) (uF y (10 + ix n) v) v)) (upd (upd r 0 (uF y (10 + ix n) v)) 1 (ruF y (10 + ix n) (uF y (10 + ix n) v) v)) ((y 0 3) + 1)) dX4_pulses_171 (fun H locs hP hS => ?_)
      have hP : va_P g.1 vwCl (WMu g am (addS y v (tldF y (uF y (10 + ix n) v) (ampF y (10 + ix n) (uF y (10 + ix n) v))) (ampF y (10 + ix n) (uF y (10 + ix n) v)) (ruF y (10 + ix n) (uF y (10 + ix n) v) v), upd (upd r 0 (uF y (10 + ix n) v)) 1 (ruF y (10 + ix n) (uF y (10 + ix n) v) v))) H := hP
      have hIa : qInv (addS y v (tldF y (uF y (10 + ix n) v) (ampF y (10 + ix n) (uF y (10 + ix n) v))) (ampF y (10 + ix n) (uF y (10 + ix n) v)) (ruF y (10 + ix n) (uF y (10 + ix n) v) v)) := inv_addS hIy hnf _ _ _ _
      have hq := he_eq (z := addS y v (tldF y (uF y (10 + ix n) v) (ampF y (10 + ix n) (uF y (10 + ix n) v))) (ampF y (10 + ix n) (uF y (10 + ix n) v)) (ruF y (10 + ix n) (uF y (10 + ix n) v) v)) (i := ix n) (inv_p hIa _ hp4) (u := uF y (10 + ix n) v) (a := ampF y (10 + ix n) (uF y (10 + ix n) v)) (t := t) (wl_eq hu.1 hu.2 hab.2.1 hab.2.2 ht)
      refine lv_aload_n hx hb dX4_pulses_174 rfl (lv_at hl 1 rfl) ?_
      refine lv_iload_n hx hb dX4_pulses_175 rfl (lv_at hl 4 rfl) ?_
      refine lv_iload hx hb dX4_pulses_176 (lv_at hl 0 rfl) ?_
      refine lv_iload_n hx hb dX4_pulses_178 rfl (lv_at hl 3 rfl) ?_
      refine qVv (As := [.int n, .int (ampF y (10 + ix n) (uF y (10 + ix n) v)), .int t]) (rest := []) hx hb hml hown hts (kX4_heats l g (addS y v (tldF y (uF y (10 + ix n) v) (ampF y (10 + ix n) (uF y (10 + ix n) v))) (ampF y (10 + ix n) (uF y (10 + ix n) v)) (ruF y (10 + ix n) (uF y (10 + ix n) v) v)) (upd (upd r 0 (uF y (10 + ix n) v)) 1 (ruF y (10 + ix n) (uF y (10 + ix n) v) v)) hj n hn (ampF y (10 + ix n) (uF y (10 + ix n) v)) t) gX4_pulses_X4_heats rfl 3 hdX4_heats rfl ⟨Nat.le_of_ble_eq_true rfl, Nat.le_of_ble_eq_true rfl⟩ ⟨Nat.zero_le _, Nat.zero_le _⟩ hK hP hS (fun _ h => h) 0 4 rfl rfl rfl hl.1 rfl (Nat.le_of_ble_eq_true rfl) dX4_pulses_179 (fun H locs hP hS => ?_)
      have hP : va_P g.1 vwCl (WMu g am (heS (addS y v (tldF y (uF y (10 + ix n) v) (ampF y (10 + ix n) (uF y (10 + ix n) v))) (ampF y (10 + ix n) (uF y (10 + ix n) v)) (ruF y (10 + ix n) (uF y (10 + ix n) v) v)) (10 + ix n) (uF y (10 + ix n) v) (ampF y (10 + ix n) (uF y (10 + ix n) v)) t, upd (upd (upd r 0 (uF y (10 + ix n) v)) 1 (ruF y (10 + ix n) (uF y (10 + ix n) v) v)) 2 (hoF (addS y v (tldF y (uF y (10 + ix n) v) (ampF y (10 + ix n) (uF y (10 + ix n) v))) (ampF y (10 + ix n) (uF y (10 + ix n) v)) (ruF y (10 + ix n) (uF y (10 + ix n) v) v)) (10 + ix n) (uF y (10 + ix n) v) (ampF y (10 + ix n) (uF y (10 + ix n) v)) t))) H := hP
      rw [hq.1, hq.2] at hP
      have hP : va_P g.1 vwCl (WMu g am ((rdS y (10 + ix n) v t).2, upd (upd (upd r 0 (uF y (10 + ix n) v)) 1 (ruF y (10 + ix n) (uF y (10 + ix n) v) v)) 2 (if 0 < (rdS y (10 + ix n) v t).1 then (rdS y (10 + ix n) v t).1 else -9))) H := hP
      have hIz := inv_rdS hIy hp4 hv ht hnf
      have hlz : hlB (rdS y (10 + ix n) v t).2 = true := by rw [hl_keep (rdS_low (z := y) v t).1]; exact hly
      refine lv_aload_n hx hb dX4_pulses_182 rfl (lv_at hl 1 rfl) ?_
      refine lv_iload_n hx hb dX4_pulses_183 rfl (lv_at hl 4 rfl) ?_
      refine qVi (As := [.int n]) (rest := []) hx hb hml hown hts (kX4_isForward l g ((rdS y (10 + ix n) v t).2) (upd (upd (upd r 0 (uF y (10 + ix n) v)) 1 (ruF y (10 + ix n) (uF y (10 + ix n) v) v)) 2 (if 0 < (rdS y (10 + ix n) v t).1 then (rdS y (10 + ix n) v t).1 else -9)) hj n hn) gX4_pulses_X4_isForward rfl 1 hdX4_isForward rfl ⟨Nat.le_of_ble_eq_true rfl, Nat.le_of_ble_eq_true rfl⟩ ⟨Nat.zero_le _, Nat.zero_le _⟩ hK hP hS (fun _ h => h) 0 4 rfl rfl rfl hl.1 rfl (Nat.le_of_ble_eq_true rfl) dX4_pulses_184 (fun H locs hP hS => ?_)
      refine lv_if_eq (tgt := 195) hx hb dX4_pulses_187 (by decide) (fun c_187 => ?_) (fun c_187 => ?_)
      · -- 187 taken
        have c_187 := bI_0 c_187
        refine lv_iload hx hb dX4_pulses_195 (lv_at hl 0 rfl) ?_
        refine lv_ineg hx hb dX4_pulses_197 ?_
        refine lv_topi (fun y198 e198 => ?_)
        obtain rfl := e198.trans (show _ = ownd (rdS y (10 + ix n) v t).2 (10 + ix n) (ampF y (10 + ix n) (uF y (10 + ix n) v)) by simp only [ownd, if_neg (fun q => absurd ((fw_iff hIz hlz hp4).mpr q) (bn c_187))])
        refine lv_istore (lv' := [(6, .int (ownd (rdS y (10 + ix n) v t).2 (10 + ix n) (ampF y (10 + ix n) (uF y (10 + ix n) v)))), (5, .int (ampF y (10 + ix n) (uF y (10 + ix n) v))), (0, .ref (am 0)), (1, .int v), (2, .int t), (3, .int n), (4, .int x4)]) hx hb dX4_pulses_198 hl (by decide) rfl (fun ls hl => ?_)
        refine lv_aload_n hx hb dX4_pulses_200 rfl (lv_at hl 2 rfl) ?_
        refine qGet (ci := 4) (v := .ref (am 4)) (C := RX4) (T := TX4) (N := 25) hx hb hts hin4 hown hK hP 0 rfl rfl 3 (by decide) (hts (.fieldLink RX4 20 "PartCurvesModel" "kindOf" "[I") (by decide +kernel)) (by simp [pF, zu, upd]) dX4_pulses_201 ?_
        refine lv_iload_n hx hb dX4_pulses_204 rfl (lv_at hl 5 rfl) ?_
        refine qIld (v := (((rdS y (10 + ix n) v t).2) (10 + ix n) 5)) hx hb hK hP 4 rfl (inR_vp (n := 3) rfl hn 4 (by decide)) rfl dX4_pulses_205 ?_
        refine lv_iconst (v := 3) hx hb dX4_pulses_206 rfl ?_
        refine lv_icmp_ne (tgt := 237) hx hb dX4_pulses_207 (by decide) (fun c_207 => ?_) (fun c_207 => ?_)
        · -- 207 taken
          exact qRv hx hb hr hlk hP hK hS dX4_pulses_237 (by subst hyo; exact pr_eq (by show _ = shutS _ _ _; unfold shutS; rw [if_neg (fun q => c_207 q.1)]) rfl)
        · -- 207 not taken
          refine lv_aload_n hx hb dX4_pulses_210 rfl (lv_at hl 2 rfl) ?_
          refine qGet (ci := 4) (v := .ref (am 10)) (C := RX4) (T := TX4) (N := 25) hx hb hts hin4 hown hK hP 0 rfl rfl 9 (by decide) (hts (.fieldLink RX4 38 "PartCurvesModel" "isOpen" "[Z") (by decide +kernel)) (by simp [pF, zu, upd]) dX4_pulses_211 ?_
          refine lv_iload_n hx hb dX4_pulses_214 rfl (lv_at hl 5 rfl) ?_
          refine qZld (v := (((rdS y (10 + ix n) v t).2) (10 + ix n) 2)) hx hb hK hP 10 rfl (inR_vp (n := 3) rfl hn 4 (by decide)) rfl dX4_pulses_215 ?_
          refine lv_if_eq (tgt := 237) hx hb dX4_pulses_216 (by decide) (fun c_216 => ?_) (fun c_216 => ?_)
          · -- 216 taken
            exact qRv hx hb hr hlk hP hK hS dX4_pulses_237 (by subst hyo; exact pr_eq (by show _ = shutS _ _ _; unfold shutS; rw [if_neg (fun q => q.2.1 c_216)]) rfl)
          · -- 216 not taken
            refine lv_iload hx hb dX4_pulses_219 (lv_at hl 0 rfl) ?_
            refine lv_aload_n hx hb dX4_pulses_221 rfl (lv_at hl 2 rfl) ?_
            refine lv_iload_n hx hb dX4_pulses_222 rfl (lv_at hl 5 rfl) ?_
            refine lv_iconst (v := 3) hx hb dX4_pulses_223 rfl ?_
            refine qVi (As := [.int n, .int 3]) (rest := [.int (ownd (rdS y (10 + ix n) v t).2 (10 + ix n) (ampF y (10 + ix n) (uF y (10 + ix n) v)))]) hx hb hml hown hts (kX4_number l g ((rdS y (10 + ix n) v t).2) (upd (upd (upd r 0 (uF y (10 + ix n) v)) 1 (ruF y (10 + ix n) (uF y (10 + ix n) v) v)) 2 (if 0 < (rdS y (10 + ix n) v t).1 then (rdS y (10 + ix n) v t).1 else -9)) hj (k := 3) (by decide) n hn) gX4_pulses_X4_number rfl 2 hdX4_number rfl ⟨Nat.le_of_ble_eq_true rfl, Nat.le_of_ble_eq_true rfl⟩ ⟨Nat.zero_le _, Nat.zero_le _⟩ hK hP hS (fun _ h => h) 0 4 rfl rfl rfl hl.1 rfl (Nat.le_of_ble_eq_true rfl) dX4_pulses_224 (fun H locs hP hS => ?_)
            refine lv_icmp_ge (tgt := 237) hx hb dX4_pulses_227 (by decide) (fun c_227 => ?_) (fun c_227 => ?_)
            · -- 227 taken
              have c_227n := i_le_t c_227
              exact qRv hx hb hr hlk hP hK hS dX4_pulses_237 (by subst hyo; exact pr_eq (by show _ = shutS _ _ _; unfold shutS; rw [if_neg (fun q => absurd q.2.2 c_227n)]) rfl)
            · -- 227 not taken
              have c_227n := i_le_f c_227
              refine lv_aload_n hx hb dX4_pulses_230 rfl (lv_at hl 2 rfl) ?_
              refine qGet (ci := 4) (v := .ref (am 10)) (C := RX4) (T := TX4) (N := 25) hx hb hts hin4 hown hK hP 0 rfl rfl 9 (by decide) (hts (.fieldLink RX4 38 "PartCurvesModel" "isOpen" "[Z") (by decide +kernel)) (by simp [pF, zu, upd]) dX4_pulses_231 ?_
              refine lv_iload_n hx hb dX4_pulses_234 rfl (lv_at hl 5 rfl) ?_
              refine lv_iconst (v := 0) hx hb dX4_pulses_235 rfl ?_
              refine qZst (j := (ix n)) (y := 0) (u' := (zu ((rdS y (10 + ix n) v t).2) (10 + ix n) 2 0, upd (upd (upd r 0 (uF y (10 + ix n) v)) 1 (ruF y (10 + ix n) (uF y (10 + ix n) v) v)) 2 (if 0 < (rdS y (10 + ix n) v t).1 then (rdS y (10 + ix n) v t).1 else -9))) hx hb hK hP (WMu_D g ((rdS y (10 + ix n) v t).2, upd (upd (upd r 0 (uF y (10 + ix n) v)) 1 (ruF y (10 + ix n) (uF y (10 + ix n) v) v)) 2 (if 0 < (rdS y (10 + ix n) v t).1 then (rdS y (10 + ix n) v t).1 else -9)) hj) hS 10 rfl (inR_vp (n := 3) rfl hn 4 (by decide)) rfl rfl (WM_f2 g am ((rdS y (10 + ix n) v t).2) (upd (upd (upd r 0 (uF y (10 + ix n) v)) 1 (ruF y (10 + ix n) (uF y (10 + ix n) v) v)) 2 (if 0 < (rdS y (10 + ix n) v t).1 then (rdS y (10 + ix n) v t).1 else -9)) (ix n) 0) dX4_pulses_236 (fun H locs hP hS => ?_)
              exact qRv hx hb hr hlk hP hK hS dX4_pulses_237 (by subst hyo; exact pr_eq (by show _ = shutS _ _ _; unfold shutS; rw [if_pos ⟨c_207, c_216, c_227n⟩]) rfl)
      · -- 187 not taken
        have c_187 := bI_n c_187
        refine lv_iload hx hb dX4_pulses_190 (lv_at hl 0 rfl) ?_
        refine lv_goto (tgt := 198) hx hb dX4_pulses_192 (by decide) ?_
        refine lv_topi (fun y198 e198 => ?_)
        obtain rfl := e198.trans (show _ = ownd (rdS y (10 + ix n) v t).2 (10 + ix n) (ampF y (10 + ix n) (uF y (10 + ix n) v)) by simp only [ownd, if_pos ((fw_iff hIz hlz hp4).mp c_187)])
        refine lv_istore (lv' := [(6, .int (ownd (rdS y (10 + ix n) v t).2 (10 + ix n) (ampF y (10 + ix n) (uF y (10 + ix n) v)))), (5, .int (ampF y (10 + ix n) (uF y (10 + ix n) v))), (0, .ref (am 0)), (1, .int v), (2, .int t), (3, .int n), (4, .int x4)]) hx hb dX4_pulses_198 hl (by decide) rfl (fun ls hl => ?_)
        refine lv_aload_n hx hb dX4_pulses_200 rfl (lv_at hl 2 rfl) ?_
        refine qGet (ci := 4) (v := .ref (am 4)) (C := RX4) (T := TX4) (N := 25) hx hb hts hin4 hown hK hP 0 rfl rfl 3 (by decide) (hts (.fieldLink RX4 20 "PartCurvesModel" "kindOf" "[I") (by decide +kernel)) (by simp [pF, zu, upd]) dX4_pulses_201 ?_
        refine lv_iload_n hx hb dX4_pulses_204 rfl (lv_at hl 5 rfl) ?_
        refine qIld (v := (((rdS y (10 + ix n) v t).2) (10 + ix n) 5)) hx hb hK hP 4 rfl (inR_vp (n := 3) rfl hn 4 (by decide)) rfl dX4_pulses_205 ?_
        refine lv_iconst (v := 3) hx hb dX4_pulses_206 rfl ?_
        refine lv_icmp_ne (tgt := 237) hx hb dX4_pulses_207 (by decide) (fun c_207 => ?_) (fun c_207 => ?_)
        · -- 207 taken
          exact qRv hx hb hr hlk hP hK hS dX4_pulses_237 (by subst hyo; exact pr_eq (by show _ = shutS _ _ _; unfold shutS; rw [if_neg (fun q => c_207 q.1)]) rfl)
        · -- 207 not taken
          refine lv_aload_n hx hb dX4_pulses_210 rfl (lv_at hl 2 rfl) ?_
          refine qGet (ci := 4) (v := .ref (am 10)) (C := RX4) (T := TX4) (N := 25) hx hb hts hin4 hown hK hP 0 rfl rfl 9 (by decide) (hts (.fieldLink RX4 38 "PartCurvesModel" "isOpen" "[Z") (by decide +kernel)) (by simp [pF, zu, upd]) dX4_pulses_211 ?_
          refine lv_iload_n hx hb dX4_pulses_214 rfl (lv_at hl 5 rfl) ?_
          refine qZld (v := (((rdS y (10 + ix n) v t).2) (10 + ix n) 2)) hx hb hK hP 10 rfl (inR_vp (n := 3) rfl hn 4 (by decide)) rfl dX4_pulses_215 ?_
          refine lv_if_eq (tgt := 237) hx hb dX4_pulses_216 (by decide) (fun c_216 => ?_) (fun c_216 => ?_)
          · -- 216 taken
            exact qRv hx hb hr hlk hP hK hS dX4_pulses_237 (by subst hyo; exact pr_eq (by show _ = shutS _ _ _; unfold shutS; rw [if_neg (fun q => q.2.1 c_216)]) rfl)
          · -- 216 not taken
            refine lv_iload hx hb dX4_pulses_219 (lv_at hl 0 rfl) ?_
            refine lv_aload_n hx hb dX4_pulses_221 rfl (lv_at hl 2 rfl) ?_
            refine lv_iload_n hx hb dX4_pulses_222 rfl (lv_at hl 5 rfl) ?_
            refine lv_iconst (v := 3) hx hb dX4_pulses_223 rfl ?_
            refine qVi (As := [.int n, .int 3]) (rest := [.int (ownd (rdS y (10 + ix n) v t).2 (10 + ix n) (ampF y (10 + ix n) (uF y (10 + ix n) v)))]) hx hb hml hown hts (kX4_number l g ((rdS y (10 + ix n) v t).2) (upd (upd (upd r 0 (uF y (10 + ix n) v)) 1 (ruF y (10 + ix n) (uF y (10 + ix n) v) v)) 2 (if 0 < (rdS y (10 + ix n) v t).1 then (rdS y (10 + ix n) v t).1 else -9)) hj (k := 3) (by decide) n hn) gX4_pulses_X4_number rfl 2 hdX4_number rfl ⟨Nat.le_of_ble_eq_true rfl, Nat.le_of_ble_eq_true rfl⟩ ⟨Nat.zero_le _, Nat.zero_le _⟩ hK hP hS (fun _ h => h) 0 4 rfl rfl rfl hl.1 rfl (Nat.le_of_ble_eq_true rfl) dX4_pulses_224 (fun H locs hP hS => ?_)
            refine lv_icmp_ge (tgt := 237) hx hb dX4_pulses_227 (by decide) (fun c_227 => ?_) (fun c_227 => ?_)
            · -- 227 taken
              have c_227n := i_le_t c_227
              exact qRv hx hb hr hlk hP hK hS dX4_pulses_237 (by subst hyo; exact pr_eq (by show _ = shutS _ _ _; unfold shutS; rw [if_neg (fun q => absurd q.2.2 c_227n)]) rfl)
            · -- 227 not taken
              have c_227n := i_le_f c_227
              refine lv_aload_n hx hb dX4_pulses_230 rfl (lv_at hl 2 rfl) ?_
              refine qGet (ci := 4) (v := .ref (am 10)) (C := RX4) (T := TX4) (N := 25) hx hb hts hin4 hown hK hP 0 rfl rfl 9 (by decide) (hts (.fieldLink RX4 38 "PartCurvesModel" "isOpen" "[Z") (by decide +kernel)) (by simp [pF, zu, upd]) dX4_pulses_231 ?_
              refine lv_iload_n hx hb dX4_pulses_234 rfl (lv_at hl 5 rfl) ?_
              refine lv_iconst (v := 0) hx hb dX4_pulses_235 rfl ?_
              refine qZst (j := (ix n)) (y := 0) (u' := (zu ((rdS y (10 + ix n) v t).2) (10 + ix n) 2 0, upd (upd (upd r 0 (uF y (10 + ix n) v)) 1 (ruF y (10 + ix n) (uF y (10 + ix n) v) v)) 2 (if 0 < (rdS y (10 + ix n) v t).1 then (rdS y (10 + ix n) v t).1 else -9))) hx hb hK hP (WMu_D g ((rdS y (10 + ix n) v t).2, upd (upd (upd r 0 (uF y (10 + ix n) v)) 1 (ruF y (10 + ix n) (uF y (10 + ix n) v) v)) 2 (if 0 < (rdS y (10 + ix n) v t).1 then (rdS y (10 + ix n) v t).1 else -9)) hj) hS 10 rfl (inR_vp (n := 3) rfl hn 4 (by decide)) rfl rfl (WM_f2 g am ((rdS y (10 + ix n) v t).2) (upd (upd (upd r 0 (uF y (10 + ix n) v)) 1 (ruF y (10 + ix n) (uF y (10 + ix n) v) v)) 2 (if 0 < (rdS y (10 + ix n) v t).1 then (rdS y (10 + ix n) v t).1 else -9)) (ix n) 0) dX4_pulses_236 (fun H locs hP hS => ?_)
              exact qRv hx hb hr hlk hP hK hS dX4_pulses_237 (by subst hyo; exact pr_eq (by show _ = shutS _ _ _; unfold shutS; rw [if_pos ⟨c_207, c_216, c_227n⟩]) rfl)
    · -- 118 not taken
      have c_118 := bI_n c_118
      refine lv_aload_n hx hb dX4_pulses_121 rfl (lv_at hl 1 rfl) ?_
      refine qGet (ci := 4) (v := .int (uF y (10 + ix n) v)) (C := RX4) (T := TX4) (N := 25) hx hb hts hin4 hown hK hP 0 rfl rfl 14 (by decide) (hts (.fieldLink RX4 125 "PartCurvesModel" "found" "I") (by decide +kernel)) (by simp [pF, zu, upd]) dX4_pulses_122 ?_
      refine lv_goto (tgt := 139) hx hb dX4_pulses_125 (by decide) ?_
      refine lv_topi (fun y139 e139 => ?_)
      obtain rfl := e139.trans (show _ = tldF y (uF y (10 + ix n) v) (ampF y (10 + ix n) (uF y (10 + ix n) v)) by unfold tldF; rw [if_pos c_118] <;> rfl)
      refine qIst (j := (ix (y 0 3))) (u' := (zu (zu y 2 (ix (y 0 3)) v) 3 (ix (y 0 3)) (tldF y (uF y (10 + ix n) v) (ampF y (10 + ix n) (uF y (10 + ix n) v))), upd (upd r 0 (uF y (10 + ix n) v)) 1 (ruF y (10 + ix n) (uF y (10 + ix n) v) v))) hx hb hK hP (WMu_D g (zu y 2 (ix (y 0 3)) v, upd (upd r 0 (uF y (10 + ix n) v)) 1 (ruF y (10 + ix n) (uF y (10 + ix n) v) v)) hj) hS 13 rfl (room_in hrc hnf) rfl (WM_13 g am (zu y 2 (ix (y 0 3)) v) (upd (upd r 0 (uF y (10 + ix n) v)) 1 (ruF y (10 + ix n) (uF y (10 + ix n) v) v)) (ix (y 0 3)) (tldF y (uF y (10 + ix n) v) (ampF y (10 + ix n) (uF y (10 + ix n) v)))) dX4_pulses_139 (fun H locs hP hS => ?_)
      refine lv_aload_n hx hb dX4_pulses_140 rfl (lv_at hl 1 rfl) ?_
      refine qGet (ci := 4) (v := .ref (am 14)) (C := RX4) (T := TX4) (N := 25) hx hb hts hin4 hown hK hP 0 rfl rfl 19 (by decide) (hts (.fieldLink RX4 54 "PartCurvesModel" "ampsOf" "[I") (by decide +kernel)) (by simp [pF, zu, upd]) dX4_pulses_141 ?_
      refine lv_aload_n hx hb dX4_pulses_144 rfl (lv_at hl 1 rfl) ?_
      refine qGet (ci := 4) (v := .int (y 0 3)) (C := RX4) (T := TX4) (N := 25) hx hb hts hin4 hown hK hP 0 rfl rfl 16 (by decide) (hts (.fieldLink RX4 142 "PartCurvesModel" "readings" "I") (by decide +kernel)) (by simp [pF, zu, upd]) dX4_pulses_145 ?_
      refine lv_iload hx hb dX4_pulses_148 (lv_at hl 0 rfl) ?_
      refine qIst (j := (ix (y 0 3))) (u' := (zu (zu (zu y 2 (ix (y 0 3)) v) 3 (ix (y 0 3)) (tldF y (uF y (10 + ix n) v) (ampF y (10 + ix n) (uF y (10 + ix n) v)))) 4 (ix (y 0 3)) (ampF y (10 + ix n) (uF y (10 + ix n) v)), upd (upd r 0 (uF y (10 + ix n) v)) 1 (ruF y (10 + ix n) (uF y (10 + ix n) v) v))) hx hb hK hP (WMu_D g (zu (zu y 2 (ix (y 0 3)) v) 3 (ix (y 0 3)) (tldF y (uF y (10 + ix n) v) (ampF y (10 + ix n) (uF y (10 + ix n) v))), upd (upd r 0 (uF y (10 + ix n) v)) 1 (ruF y (10 + ix n) (uF y (10 + ix n) v) v)) hj) hS 14 rfl (room_in hrc hnf) rfl (WM_14 g am (zu (zu y 2 (ix (y 0 3)) v) 3 (ix (y 0 3)) (tldF y (uF y (10 + ix n) v) (ampF y (10 + ix n) (uF y (10 + ix n) v)))) (upd (upd r 0 (uF y (10 + ix n) v)) 1 (ruF y (10 + ix n) (uF y (10 + ix n) v) v)) (ix (y 0 3)) (ampF y (10 + ix n) (uF y (10 + ix n) v))) dX4_pulses_150 (fun H locs hP hS => ?_)
      refine lv_aload_n hx hb dX4_pulses_151 rfl (lv_at hl 1 rfl) ?_
      refine qGet (ci := 4) (v := .ref (am 15)) (C := RX4) (T := TX4) (N := 25) hx hb hts hin4 hown hK hP 0 rfl rfl 20 (by decide) (hts (.fieldLink RX4 57 "PartCurvesModel" "ruleOf" "[I") (by decide +kernel)) (by simp [pF, zu, upd]) dX4_pulses_152 ?_
      refine lv_aload_n hx hb dX4_pulses_155 rfl (lv_at hl 1 rfl) ?_
      refine qGet (ci := 4) (v := .int (y 0 3)) (C := RX4) (T := TX4) (N := 25) hx hb hts hin4 hown hK hP 0 rfl rfl 16 (by decide) (hts (.fieldLink RX4 142 "PartCurvesModel" "readings" "I") (by decide +kernel)) (by simp [pF, zu, upd]) dX4_pulses_156 ?_
      refine lv_aload_n hx hb dX4_pulses_159 rfl (lv_at hl 1 rfl) ?_
      refine qGet (ci := 4) (v := .int (ruF y (10 + ix n) (uF y (10 + ix n) v) v)) (C := RX4) (T := TX4) (N := 25) hx hb hts hin4 hown hK hP 0 rfl rfl 15 (by decide) (hts (.fieldLink RX4 128 "PartCurvesModel" "rule" "I") (by decide +kernel)) (by simp [pF, zu, upd]) dX4_pulses_160 ?_
      refine qIst (j := (ix (y 0 3))) (u' := (zu (zu (zu (zu y 2 (ix (y 0 3)) v) 3 (ix (y 0 3)) (tldF y (uF y (10 + ix n) v) (ampF y (10 + ix n) (uF y (10 + ix n) v)))) 4 (ix (y 0 3)) (ampF y (10 + ix n) (uF y (10 + ix n) v))) 5 (ix (y 0 3)) (ruF y (10 + ix n) (uF y (10 + ix n) v) v), upd (upd r 0 (uF y (10 + ix n) v)) 1 (ruF y (10 + ix n) (uF y (10 + ix n) v) v))) hx hb hK hP (WMu_D g (zu (zu (zu y 2 (ix (y 0 3)) v) 3 (ix (y 0 3)) (tldF y (uF y (10 + ix n) v) (ampF y (10 + ix n) (uF y (10 + ix n) v)))) 4 (ix (y 0 3)) (ampF y (10 + ix n) (uF y (10 + ix n) v)), upd (upd r 0 (uF y (10 + ix n) v)) 1 (ruF y (10 + ix n) (uF y (10 + ix n) v) v)) hj) hS 15 rfl (room_in hrc hnf) rfl (WM_15 g am (zu (zu (zu y 2 (ix (y 0 3)) v) 3 (ix (y 0 3)) (tldF y (uF y (10 + ix n) v) (ampF y (10 + ix n) (uF y (10 + ix n) v)))) 4 (ix (y 0 3)) (ampF y (10 + ix n) (uF y (10 + ix n) v))) (upd (upd r 0 (uF y (10 + ix n) v)) 1 (ruF y (10 + ix n) (uF y (10 + ix n) v) v)) (ix (y 0 3)) (ruF y (10 + ix n) (uF y (10 + ix n) v) v)) dX4_pulses_163 (fun H locs hP hS => ?_)
      refine lv_aload_n hx hb dX4_pulses_164 rfl (lv_at hl 1 rfl) ?_
      refine lv_dup hx hb dX4_pulses_165 rfl ?_
      refine qGet (ci := 4) (v := .int (y 0 3)) (C := RX4) (T := TX4) (N := 25) hx hb hts hin4 hown hK hP 0 rfl rfl 16 (by decide) (hts (.fieldLink RX4 142 "PartCurvesModel" "readings" "I") (by decide +kernel)) (by simp [pF, zu, upd]) dX4_pulses_166 ?_
      refine lv_iconst (v := 1) hx hb dX4_pulses_169 rfl ?_
      refine lv_iadd hx hb dX4_pulses_170 ?_
      refine qPut (ci := 4) (ty := .int) (C := RX4) (T := TX4) (N := 25) (u' := (zu (zu (zu (zu (zu y 2 (ix (y 0 3)) v) 3 (ix (y 0 3)) (tldF y (uF y (10 + ix n) v) (ampF y (10 + ix n) (uF y (10 + ix n) v)))) 4 (ix (y 0 3)) (ampF y (10 + ix n) (uF y (10 + ix n) v))) 5 (ix (y 0 3)) (ruF y (10 + ix n) (uF y (10 + ix n) v) v)) 0 3 ((y 0 3) + 1), upd (upd r 0 (uF y (10 + ix n) v)) 1 (ruF y (10 + ix n) (uF y (10 + ix n) v) v))) hx hb hts hin4 tyX4 tyX4_ok nmX4 hown hK hP (WMu_D g (zu (zu (zu (zu y 2 (ix (y 0 3)) v) 3 (ix (y 0 3)) (tldF y (uF y (10 + ix n) v) (ampF y (10 + ix n) (uF y (10 + ix n) v)))) 4 (ix (y 0 3)) (ampF y (10 + ix n) (uF y (10 + ix n) v))) 5 (ix (y 0 3)) (ruF y (10 + ix n) (uF y (10 + ix n) v) v), upd (upd r 0 (uF y (10 + ix n) v)) 1 (ruF y (10 + ix n) (uF y (10 + ix n) v) v)) hj) hS 0 rfl rfl 16 (by decide) (hts (.fieldLink RX4 142 "PartCurvesModel" "readings" "I") (by decide +kernel)) rfl (by decide +kernel) rfl rfl (Nat.le_of_ble_eq_true rfl) (WM_rc g am (zu (zu (zu (zu y 2 (ix (y 0 3)) v) 3 (ix (y 0 3)) (tldF y (uF y (10 + ix n) v) (ampF y (10 + ix n) (uF y (10 + ix n) v)))) 4 (ix (y 0 3)) (ampF y (10 + ix n) (uF y (10 + ix n) v))) 5 (ix (y 0 3)) (ruF y (10 + ix n) (uF y (10 + ix n) v) v)) (upd (upd r 0 (uF y (10 + ix n) v)) 1 (ruF y (10 + ix n) (uF y (10 + ix n) v) v)) ((y 0 3) + 1)) dX4_pulses_171 (fun H locs hP hS => ?_)
      have hP : va_P g.1 vwCl (WMu g am (addS y v (tldF y (uF y (10 + ix n) v) (ampF y (10 + ix n) (uF y (10 + ix n) v))) (ampF y (10 + ix n) (uF y (10 + ix n) v)) (ruF y (10 + ix n) (uF y (10 + ix n) v) v), upd (upd r 0 (uF y (10 + ix n) v)) 1 (ruF y (10 + ix n) (uF y (10 + ix n) v) v))) H := hP
      have hIa : qInv (addS y v (tldF y (uF y (10 + ix n) v) (ampF y (10 + ix n) (uF y (10 + ix n) v))) (ampF y (10 + ix n) (uF y (10 + ix n) v)) (ruF y (10 + ix n) (uF y (10 + ix n) v) v)) := inv_addS hIy hnf _ _ _ _
      have hq := he_eq (z := addS y v (tldF y (uF y (10 + ix n) v) (ampF y (10 + ix n) (uF y (10 + ix n) v))) (ampF y (10 + ix n) (uF y (10 + ix n) v)) (ruF y (10 + ix n) (uF y (10 + ix n) v) v)) (i := ix n) (inv_p hIa _ hp4) (u := uF y (10 + ix n) v) (a := ampF y (10 + ix n) (uF y (10 + ix n) v)) (t := t) (wl_eq hu.1 hu.2 hab.2.1 hab.2.2 ht)
      refine lv_aload_n hx hb dX4_pulses_174 rfl (lv_at hl 1 rfl) ?_
      refine lv_iload_n hx hb dX4_pulses_175 rfl (lv_at hl 4 rfl) ?_
      refine lv_iload hx hb dX4_pulses_176 (lv_at hl 0 rfl) ?_
      refine lv_iload_n hx hb dX4_pulses_178 rfl (lv_at hl 3 rfl) ?_
      refine qVv (As := [.int n, .int (ampF y (10 + ix n) (uF y (10 + ix n) v)), .int t]) (rest := []) hx hb hml hown hts (kX4_heats l g (addS y v (tldF y (uF y (10 + ix n) v) (ampF y (10 + ix n) (uF y (10 + ix n) v))) (ampF y (10 + ix n) (uF y (10 + ix n) v)) (ruF y (10 + ix n) (uF y (10 + ix n) v) v)) (upd (upd r 0 (uF y (10 + ix n) v)) 1 (ruF y (10 + ix n) (uF y (10 + ix n) v) v)) hj n hn (ampF y (10 + ix n) (uF y (10 + ix n) v)) t) gX4_pulses_X4_heats rfl 3 hdX4_heats rfl ⟨Nat.le_of_ble_eq_true rfl, Nat.le_of_ble_eq_true rfl⟩ ⟨Nat.zero_le _, Nat.zero_le _⟩ hK hP hS (fun _ h => h) 0 4 rfl rfl rfl hl.1 rfl (Nat.le_of_ble_eq_true rfl) dX4_pulses_179 (fun H locs hP hS => ?_)
      have hP : va_P g.1 vwCl (WMu g am (heS (addS y v (tldF y (uF y (10 + ix n) v) (ampF y (10 + ix n) (uF y (10 + ix n) v))) (ampF y (10 + ix n) (uF y (10 + ix n) v)) (ruF y (10 + ix n) (uF y (10 + ix n) v) v)) (10 + ix n) (uF y (10 + ix n) v) (ampF y (10 + ix n) (uF y (10 + ix n) v)) t, upd (upd (upd r 0 (uF y (10 + ix n) v)) 1 (ruF y (10 + ix n) (uF y (10 + ix n) v) v)) 2 (hoF (addS y v (tldF y (uF y (10 + ix n) v) (ampF y (10 + ix n) (uF y (10 + ix n) v))) (ampF y (10 + ix n) (uF y (10 + ix n) v)) (ruF y (10 + ix n) (uF y (10 + ix n) v) v)) (10 + ix n) (uF y (10 + ix n) v) (ampF y (10 + ix n) (uF y (10 + ix n) v)) t))) H := hP
      rw [hq.1, hq.2] at hP
      have hP : va_P g.1 vwCl (WMu g am ((rdS y (10 + ix n) v t).2, upd (upd (upd r 0 (uF y (10 + ix n) v)) 1 (ruF y (10 + ix n) (uF y (10 + ix n) v) v)) 2 (if 0 < (rdS y (10 + ix n) v t).1 then (rdS y (10 + ix n) v t).1 else -9))) H := hP
      have hIz := inv_rdS hIy hp4 hv ht hnf
      have hlz : hlB (rdS y (10 + ix n) v t).2 = true := by rw [hl_keep (rdS_low (z := y) v t).1]; exact hly
      refine lv_aload_n hx hb dX4_pulses_182 rfl (lv_at hl 1 rfl) ?_
      refine lv_iload_n hx hb dX4_pulses_183 rfl (lv_at hl 4 rfl) ?_
      refine qVi (As := [.int n]) (rest := []) hx hb hml hown hts (kX4_isForward l g ((rdS y (10 + ix n) v t).2) (upd (upd (upd r 0 (uF y (10 + ix n) v)) 1 (ruF y (10 + ix n) (uF y (10 + ix n) v) v)) 2 (if 0 < (rdS y (10 + ix n) v t).1 then (rdS y (10 + ix n) v t).1 else -9)) hj n hn) gX4_pulses_X4_isForward rfl 1 hdX4_isForward rfl ⟨Nat.le_of_ble_eq_true rfl, Nat.le_of_ble_eq_true rfl⟩ ⟨Nat.zero_le _, Nat.zero_le _⟩ hK hP hS (fun _ h => h) 0 4 rfl rfl rfl hl.1 rfl (Nat.le_of_ble_eq_true rfl) dX4_pulses_184 (fun H locs hP hS => ?_)
      refine lv_if_eq (tgt := 195) hx hb dX4_pulses_187 (by decide) (fun c_187 => ?_) (fun c_187 => ?_)
      · -- 187 taken
        have c_187 := bI_0 c_187
        refine lv_iload hx hb dX4_pulses_195 (lv_at hl 0 rfl) ?_
        refine lv_ineg hx hb dX4_pulses_197 ?_
        refine lv_topi (fun y198 e198 => ?_)
        obtain rfl := e198.trans (show _ = ownd (rdS y (10 + ix n) v t).2 (10 + ix n) (ampF y (10 + ix n) (uF y (10 + ix n) v)) by simp only [ownd, if_neg (fun q => absurd ((fw_iff hIz hlz hp4).mpr q) (bn c_187))])
        refine lv_istore (lv' := [(6, .int (ownd (rdS y (10 + ix n) v t).2 (10 + ix n) (ampF y (10 + ix n) (uF y (10 + ix n) v)))), (5, .int (ampF y (10 + ix n) (uF y (10 + ix n) v))), (0, .ref (am 0)), (1, .int v), (2, .int t), (3, .int n), (4, .int x4)]) hx hb dX4_pulses_198 hl (by decide) rfl (fun ls hl => ?_)
        refine lv_aload_n hx hb dX4_pulses_200 rfl (lv_at hl 2 rfl) ?_
        refine qGet (ci := 4) (v := .ref (am 4)) (C := RX4) (T := TX4) (N := 25) hx hb hts hin4 hown hK hP 0 rfl rfl 3 (by decide) (hts (.fieldLink RX4 20 "PartCurvesModel" "kindOf" "[I") (by decide +kernel)) (by simp [pF, zu, upd]) dX4_pulses_201 ?_
        refine lv_iload_n hx hb dX4_pulses_204 rfl (lv_at hl 5 rfl) ?_
        refine qIld (v := (((rdS y (10 + ix n) v t).2) (10 + ix n) 5)) hx hb hK hP 4 rfl (inR_vp (n := 3) rfl hn 4 (by decide)) rfl dX4_pulses_205 ?_
        refine lv_iconst (v := 3) hx hb dX4_pulses_206 rfl ?_
        refine lv_icmp_ne (tgt := 237) hx hb dX4_pulses_207 (by decide) (fun c_207 => ?_) (fun c_207 => ?_)
        · -- 207 taken
          exact qRv hx hb hr hlk hP hK hS dX4_pulses_237 (by subst hyo; exact pr_eq (by show _ = shutS _ _ _; unfold shutS; rw [if_neg (fun q => c_207 q.1)]) rfl)
        · -- 207 not taken
          refine lv_aload_n hx hb dX4_pulses_210 rfl (lv_at hl 2 rfl) ?_
          refine qGet (ci := 4) (v := .ref (am 10)) (C := RX4) (T := TX4) (N := 25) hx hb hts hin4 hown hK hP 0 rfl rfl 9 (by decide) (hts (.fieldLink RX4 38 "PartCurvesModel" "isOpen" "[Z") (by decide +kernel)) (by simp [pF, zu, upd]) dX4_pulses_211 ?_
          refine lv_iload_n hx hb dX4_pulses_214 rfl (lv_at hl 5 rfl) ?_
          refine qZld (v := (((rdS y (10 + ix n) v t).2) (10 + ix n) 2)) hx hb hK hP 10 rfl (inR_vp (n := 3) rfl hn 4 (by decide)) rfl dX4_pulses_215 ?_
          refine lv_if_eq (tgt := 237) hx hb dX4_pulses_216 (by decide) (fun c_216 => ?_) (fun c_216 => ?_)
          · -- 216 taken
            exact qRv hx hb hr hlk hP hK hS dX4_pulses_237 (by subst hyo; exact pr_eq (by show _ = shutS _ _ _; unfold shutS; rw [if_neg (fun q => q.2.1 c_216)]) rfl)
          · -- 216 not taken
            refine lv_iload hx hb dX4_pulses_219 (lv_at hl 0 rfl) ?_
            refine lv_aload_n hx hb dX4_pulses_221 rfl (lv_at hl 2 rfl) ?_
            refine lv_iload_n hx hb dX4_pulses_222 rfl (lv_at hl 5 rfl) ?_
            refine lv_iconst (v := 3) hx hb dX4_pulses_223 rfl ?_
            refine qVi (As := [.int n, .int 3]) (rest := [.int (ownd (rdS y (10 + ix n) v t).2 (10 + ix n) (ampF y (10 + ix n) (uF y (10 + ix n) v)))]) hx hb hml hown hts (kX4_number l g ((rdS y (10 + ix n) v t).2) (upd (upd (upd r 0 (uF y (10 + ix n) v)) 1 (ruF y (10 + ix n) (uF y (10 + ix n) v) v)) 2 (if 0 < (rdS y (10 + ix n) v t).1 then (rdS y (10 + ix n) v t).1 else -9)) hj (k := 3) (by decide) n hn) gX4_pulses_X4_number rfl 2 hdX4_number rfl ⟨Nat.le_of_ble_eq_true rfl, Nat.le_of_ble_eq_true rfl⟩ ⟨Nat.zero_le _, Nat.zero_le _⟩ hK hP hS (fun _ h => h) 0 4 rfl rfl rfl hl.1 rfl (Nat.le_of_ble_eq_true rfl) dX4_pulses_224 (fun H locs hP hS => ?_)
            refine lv_icmp_ge (tgt := 237) hx hb dX4_pulses_227 (by decide) (fun c_227 => ?_) (fun c_227 => ?_)
            · -- 227 taken
              have c_227n := i_le_t c_227
              exact qRv hx hb hr hlk hP hK hS dX4_pulses_237 (by subst hyo; exact pr_eq (by show _ = shutS _ _ _; unfold shutS; rw [if_neg (fun q => absurd q.2.2 c_227n)]) rfl)
            · -- 227 not taken
              have c_227n := i_le_f c_227
              refine lv_aload_n hx hb dX4_pulses_230 rfl (lv_at hl 2 rfl) ?_
              refine qGet (ci := 4) (v := .ref (am 10)) (C := RX4) (T := TX4) (N := 25) hx hb hts hin4 hown hK hP 0 rfl rfl 9 (by decide) (hts (.fieldLink RX4 38 "PartCurvesModel" "isOpen" "[Z") (by decide +kernel)) (by simp [pF, zu, upd]) dX4_pulses_231 ?_
              refine lv_iload_n hx hb dX4_pulses_234 rfl (lv_at hl 5 rfl) ?_
              refine lv_iconst (v := 0) hx hb dX4_pulses_235 rfl ?_
              refine qZst (j := (ix n)) (y := 0) (u' := (zu ((rdS y (10 + ix n) v t).2) (10 + ix n) 2 0, upd (upd (upd r 0 (uF y (10 + ix n) v)) 1 (ruF y (10 + ix n) (uF y (10 + ix n) v) v)) 2 (if 0 < (rdS y (10 + ix n) v t).1 then (rdS y (10 + ix n) v t).1 else -9))) hx hb hK hP (WMu_D g ((rdS y (10 + ix n) v t).2, upd (upd (upd r 0 (uF y (10 + ix n) v)) 1 (ruF y (10 + ix n) (uF y (10 + ix n) v) v)) 2 (if 0 < (rdS y (10 + ix n) v t).1 then (rdS y (10 + ix n) v t).1 else -9)) hj) hS 10 rfl (inR_vp (n := 3) rfl hn 4 (by decide)) rfl rfl (WM_f2 g am ((rdS y (10 + ix n) v t).2) (upd (upd (upd r 0 (uF y (10 + ix n) v)) 1 (ruF y (10 + ix n) (uF y (10 + ix n) v) v)) 2 (if 0 < (rdS y (10 + ix n) v t).1 then (rdS y (10 + ix n) v t).1 else -9)) (ix n) 0) dX4_pulses_236 (fun H locs hP hS => ?_)
              exact qRv hx hb hr hlk hP hK hS dX4_pulses_237 (by subst hyo; exact pr_eq (by show _ = shutS _ _ _; unfold shutS; rw [if_pos ⟨c_207, c_216, c_227n⟩]) rfl)
      · -- 187 not taken
        have c_187 := bI_n c_187
        refine lv_iload hx hb dX4_pulses_190 (lv_at hl 0 rfl) ?_
        refine lv_goto (tgt := 198) hx hb dX4_pulses_192 (by decide) ?_
        refine lv_topi (fun y198 e198 => ?_)
        obtain rfl := e198.trans (show _ = ownd (rdS y (10 + ix n) v t).2 (10 + ix n) (ampF y (10 + ix n) (uF y (10 + ix n) v)) by simp only [ownd, if_pos ((fw_iff hIz hlz hp4).mp c_187)])
        refine lv_istore (lv' := [(6, .int (ownd (rdS y (10 + ix n) v t).2 (10 + ix n) (ampF y (10 + ix n) (uF y (10 + ix n) v)))), (5, .int (ampF y (10 + ix n) (uF y (10 + ix n) v))), (0, .ref (am 0)), (1, .int v), (2, .int t), (3, .int n), (4, .int x4)]) hx hb dX4_pulses_198 hl (by decide) rfl (fun ls hl => ?_)
        refine lv_aload_n hx hb dX4_pulses_200 rfl (lv_at hl 2 rfl) ?_
        refine qGet (ci := 4) (v := .ref (am 4)) (C := RX4) (T := TX4) (N := 25) hx hb hts hin4 hown hK hP 0 rfl rfl 3 (by decide) (hts (.fieldLink RX4 20 "PartCurvesModel" "kindOf" "[I") (by decide +kernel)) (by simp [pF, zu, upd]) dX4_pulses_201 ?_
        refine lv_iload_n hx hb dX4_pulses_204 rfl (lv_at hl 5 rfl) ?_
        refine qIld (v := (((rdS y (10 + ix n) v t).2) (10 + ix n) 5)) hx hb hK hP 4 rfl (inR_vp (n := 3) rfl hn 4 (by decide)) rfl dX4_pulses_205 ?_
        refine lv_iconst (v := 3) hx hb dX4_pulses_206 rfl ?_
        refine lv_icmp_ne (tgt := 237) hx hb dX4_pulses_207 (by decide) (fun c_207 => ?_) (fun c_207 => ?_)
        · -- 207 taken
          exact qRv hx hb hr hlk hP hK hS dX4_pulses_237 (by subst hyo; exact pr_eq (by show _ = shutS _ _ _; unfold shutS; rw [if_neg (fun q => c_207 q.1)]) rfl)
        · -- 207 not taken
          refine lv_aload_n hx hb dX4_pulses_210 rfl (lv_at hl 2 rfl) ?_
          refine qGet (ci := 4) (v := .ref (am 10)) (C := RX4) (T := TX4) (N := 25) hx hb hts hin4 hown hK hP 0 rfl rfl 9 (by decide) (hts (.fieldLink RX4 38 "PartCurvesModel" "isOpen" "[Z") (by decide +kernel)) (by simp [pF, zu, upd]) dX4_pulses_211 ?_
          refine lv_iload_n hx hb dX4_pulses_214 rfl (lv_at hl 5 rfl) ?_
          refine qZld (v := (((rdS y (10 + ix n) v t).2) (10 + ix n) 2)) hx hb hK hP 10 rfl (inR_vp (n := 3) rfl hn 4 (by decide)) rfl dX4_pulses_215 ?_
          refine lv_if_eq (tgt := 237) hx hb dX4_pulses_216 (by decide) (fun c_216 => ?_) (fun c_216 => ?_)
          · -- 216 taken
            exact qRv hx hb hr hlk hP hK hS dX4_pulses_237 (by subst hyo; exact pr_eq (by show _ = shutS _ _ _; unfold shutS; rw [if_neg (fun q => q.2.1 c_216)]) rfl)
          · -- 216 not taken
            refine lv_iload hx hb dX4_pulses_219 (lv_at hl 0 rfl) ?_
            refine lv_aload_n hx hb dX4_pulses_221 rfl (lv_at hl 2 rfl) ?_
            refine lv_iload_n hx hb dX4_pulses_222 rfl (lv_at hl 5 rfl) ?_
            refine lv_iconst (v := 3) hx hb dX4_pulses_223 rfl ?_
            refine qVi (As := [.int n, .int 3]) (rest := [.int (ownd (rdS y (10 + ix n) v t).2 (10 + ix n) (ampF y (10 + ix n) (uF y (10 + ix n) v)))]) hx hb hml hown hts (kX4_number l g ((rdS y (10 + ix n) v t).2) (upd (upd (upd r 0 (uF y (10 + ix n) v)) 1 (ruF y (10 + ix n) (uF y (10 + ix n) v) v)) 2 (if 0 < (rdS y (10 + ix n) v t).1 then (rdS y (10 + ix n) v t).1 else -9)) hj (k := 3) (by decide) n hn) gX4_pulses_X4_number rfl 2 hdX4_number rfl ⟨Nat.le_of_ble_eq_true rfl, Nat.le_of_ble_eq_true rfl⟩ ⟨Nat.zero_le _, Nat.zero_le _⟩ hK hP hS (fun _ h => h) 0 4 rfl rfl rfl hl.1 rfl (Nat.le_of_ble_eq_true rfl) dX4_pulses_224 (fun H locs hP hS => ?_)
            refine lv_icmp_ge (tgt := 237) hx hb dX4_pulses_227 (by decide) (fun c_227 => ?_) (fun c_227 => ?_)
            · -- 227 taken
              have c_227n := i_le_t c_227
              exact qRv hx hb hr hlk hP hK hS dX4_pulses_237 (by subst hyo; exact pr_eq (by show _ = shutS _ _ _; unfold shutS; rw [if_neg (fun q => absurd q.2.2 c_227n)]) rfl)
            · -- 227 not taken
              have c_227n := i_le_f c_227
              refine lv_aload_n hx hb dX4_pulses_230 rfl (lv_at hl 2 rfl) ?_
              refine qGet (ci := 4) (v := .ref (am 10)) (C := RX4) (T := TX4) (N := 25) hx hb hts hin4 hown hK hP 0 rfl rfl 9 (by decide) (hts (.fieldLink RX4 38 "PartCurvesModel" "isOpen" "[Z") (by decide +kernel)) (by simp [pF, zu, upd]) dX4_pulses_231 ?_
              refine lv_iload_n hx hb dX4_pulses_234 rfl (lv_at hl 5 rfl) ?_
              refine lv_iconst (v := 0) hx hb dX4_pulses_235 rfl ?_
              refine qZst (j := (ix n)) (y := 0) (u' := (zu ((rdS y (10 + ix n) v t).2) (10 + ix n) 2 0, upd (upd (upd r 0 (uF y (10 + ix n) v)) 1 (ruF y (10 + ix n) (uF y (10 + ix n) v) v)) 2 (if 0 < (rdS y (10 + ix n) v t).1 then (rdS y (10 + ix n) v t).1 else -9))) hx hb hK hP (WMu_D g ((rdS y (10 + ix n) v t).2, upd (upd (upd r 0 (uF y (10 + ix n) v)) 1 (ruF y (10 + ix n) (uF y (10 + ix n) v) v)) 2 (if 0 < (rdS y (10 + ix n) v t).1 then (rdS y (10 + ix n) v t).1 else -9)) hj) hS 10 rfl (inR_vp (n := 3) rfl hn 4 (by decide)) rfl rfl (WM_f2 g am ((rdS y (10 + ix n) v t).2) (upd (upd (upd r 0 (uF y (10 + ix n) v)) 1 (ruF y (10 + ix n) (uF y (10 + ix n) v) v)) 2 (if 0 < (rdS y (10 + ix n) v t).1 then (rdS y (10 + ix n) v t).1 else -9)) (ix n) 0) dX4_pulses_236 (fun H locs hP hS => ?_)
              exact qRv hx hb hr hlk hP hK hS dX4_pulses_237 (by subst hyo; exact pr_eq (by show _ = shutS _ _ _; unfold shutS; rw [if_pos ⟨c_207, c_216, c_227n⟩]) rfl)
  refine lv_aload_n hx hb dX4_pulses_0 rfl (lv_at hl 0 rfl) ?_
  refine qVi (As := []) (rest := []) hx hb hml hown hts (kX4_inHand l g z r hj hI) gX4_pulses_X4_inHand rfl 0 hdX4_inHand rfl ⟨Nat.le_of_ble_eq_true rfl, Nat.le_of_ble_eq_true rfl⟩ ⟨Nat.zero_le _, Nat.zero_le _⟩ hK hP hS (fun _ h => h) 0 4 rfl rfl rfl hl.1 rfl (Nat.le_of_ble_eq_true rfl) dX4_pulses_1 (fun H locs hP hS => ?_)
  rw [hin]
  refine lv_istore_n (lv' := [(3, .int n), (0, .ref (am 0)), (1, .int v), (2, .int t)]) hx hb dX4_pulses_4 rfl hl (by decide) rfl (fun ls hl => ?_)
  refine lv_aload_n hx hb dX4_pulses_5 rfl (lv_at hl 1 rfl) ?_
  refine lv_iload_n hx hb dX4_pulses_6 rfl (lv_at hl 0 rfl) ?_
  refine lv_iload_n hx hb dX4_pulses_7 rfl (lv_at hl 2 rfl) ?_
  refine qVv (As := [.int n, .int v]) (rest := []) hx hb hml hown hts (kX4_finds l g z r hj hI n hn hl9 v hv) gX4_pulses_X4_finds rfl 2 hdX4_finds rfl ⟨Nat.le_of_ble_eq_true rfl, Nat.le_of_ble_eq_true rfl⟩ ⟨Nat.zero_le _, Nat.zero_le _⟩ hK hP hS (fun _ h => h) 0 4 rfl rfl rfl hl.1 rfl (Nat.le_of_ble_eq_true rfl) dX4_pulses_8 (fun H locs hP hS => ?_)
  refine lv_aload_n hx hb dX4_pulses_11 rfl (lv_at hl 1 rfl) ?_
  refine lv_iload_n hx hb dX4_pulses_12 rfl (lv_at hl 0 rfl) ?_
  refine qVi (As := [.int n]) (rest := []) hx hb hml hown hts (kX4_isForward l g z (upd (upd r 0 (uF z (10 + ix n) v)) 1 (ruF z (10 + ix n) (uF z (10 + ix n) v) v)) hj n hn) gX4_pulses_X4_isForward rfl 1 hdX4_isForward rfl ⟨Nat.le_of_ble_eq_true rfl, Nat.le_of_ble_eq_true rfl⟩ ⟨Nat.zero_le _, Nat.zero_le _⟩ hK hP hS (fun _ h => h) 0 4 rfl rfl rfl hl.1 rfl (Nat.le_of_ble_eq_true rfl) dX4_pulses_13 (fun H locs hP hS => ?_)
  refine lv_if_eq (tgt := 26) hx hb dX4_pulses_16 (by decide) (fun c_16 => ?_) (fun c_16 => ?_)
  · -- 16 taken
    have c_16 := bI_0 c_16
    refine lv_aload_n hx hb dX4_pulses_26 rfl (lv_at hl 1 rfl) ?_
    refine qGet (ci := 4) (v := .int (uF z (10 + ix n) v)) (C := RX4) (T := TX4) (N := 25) hx hb hts hin4 hown hK hP 0 rfl rfl 14 (by decide) (hts (.fieldLink RX4 125 "PartCurvesModel" "found" "I") (by decide +kernel)) (by simp [pF, zu, upd]) dX4_pulses_27 ?_
    refine lv_ineg hx hb dX4_pulses_30 ?_
    refine lv_topi (fun y31 e31 => ?_)
    obtain rfl := e31.trans (show _ = ownd z (10 + ix n) (uF z (10 + ix n) v) by simp only [ownd, if_neg (fun q => absurd ((fw_iff hI hl9 hp4).mpr q) (bn c_16))])
    refine lv_istore (lv' := [(4, .int (ownd z (10 + ix n) (uF z (10 + ix n) v))), (3, .int n), (0, .ref (am 0)), (1, .int v), (2, .int t)]) hx hb dX4_pulses_31 hl (by decide) rfl (fun ls hl => ?_)
    refine lv_aload_n hx hb dX4_pulses_33 rfl (lv_at hl 2 rfl) ?_
    refine qGet (ci := 4) (v := .ref (am 4)) (C := RX4) (T := TX4) (N := 25) hx hb hts hin4 hown hK hP 0 rfl rfl 3 (by decide) (hts (.fieldLink RX4 20 "PartCurvesModel" "kindOf" "[I") (by decide +kernel)) (by simp [pF, zu, upd]) dX4_pulses_34 ?_
    refine lv_iload_n hx hb dX4_pulses_37 rfl (lv_at hl 1 rfl) ?_
    refine qIld (v := (z (10 + ix n) 5)) hx hb hK hP 4 rfl (inR_vp (n := 3) rfl hn 4 (by decide)) rfl dX4_pulses_38 ?_
    refine lv_iconst (v := 3) hx hb dX4_pulses_39 rfl ?_
    refine lv_icmp_ne (tgt := 85) hx hb dX4_pulses_40 (by decide) (fun c_40 => ?_) (fun c_40 => ?_)
    · -- 40 taken
      exact tail z _ hI hn0 hl9 (by unfold opS; rw [if_neg (by simp [snB, c_40])]) _ _ hP hS ls (lv_sub hl [2, 3, 4, 1, 0] rfl)
    · -- 40 not taken
      refine lv_aload_n hx hb dX4_pulses_43 rfl (lv_at hl 2 rfl) ?_
      refine qGet (ci := 4) (v := .ref (am 10)) (C := RX4) (T := TX4) (N := 25) hx hb hts hin4 hown hK hP 0 rfl rfl 9 (by decide) (hts (.fieldLink RX4 38 "PartCurvesModel" "isOpen" "[Z") (by decide +kernel)) (by simp [pF, zu, upd]) dX4_pulses_44 ?_
      refine lv_iload_n hx hb dX4_pulses_47 rfl (lv_at hl 1 rfl) ?_
      refine qZld (v := (z (10 + ix n) 2)) hx hb hK hP 10 rfl (inR_vp (n := 3) rfl hn 4 (by decide)) rfl dX4_pulses_48 ?_
      refine lv_if_ne (tgt := 85) hx hb dX4_pulses_49 (by decide) (fun c_49 => ?_) (fun c_49 => ?_)
      · -- 49 taken
        exact tail z _ hI hn0 hl9 (by unfold opS; rw [if_neg (by simp [snB, c_49])]) _ _ hP hS ls (lv_sub hl [2, 3, 4, 1, 0] rfl)
      · -- 49 not taken
        refine lv_aload_n hx hb dX4_pulses_52 rfl (lv_at hl 2 rfl) ?_
        refine qGet (ci := 4) (v := .ref (am 9)) (C := RX4) (T := TX4) (N := 25) hx hb hts hin4 hown hK hP 0 rfl rfl 8 (by decide) (hts (.fieldLink RX4 35 "PartCurvesModel" "isBurnt" "[Z") (by decide +kernel)) (by simp [pF, zu, upd]) dX4_pulses_53 ?_
        refine lv_iload_n hx hb dX4_pulses_56 rfl (lv_at hl 1 rfl) ?_
        refine qZld (v := (z (10 + ix n) 1)) hx hb hK hP 9 rfl (inR_vp (n := 3) rfl hn 4 (by decide)) rfl dX4_pulses_57 ?_
        refine lv_if_ne (tgt := 85) hx hb dX4_pulses_58 (by decide) (fun c_58 => ?_) (fun c_58 => ?_)
        · -- 58 taken
          exact tail z _ hI hn0 hl9 (by unfold opS; rw [if_neg (by simp [snB, c_58])]) _ _ hP hS ls (lv_sub hl [2, 3, 4, 1, 0] rfl)
        · -- 58 not taken
          refine lv_iload hx hb dX4_pulses_61 (lv_at hl 0 rfl) ?_
          refine lv_aload_n hx hb dX4_pulses_63 rfl (lv_at hl 2 rfl) ?_
          refine lv_iload_n hx hb dX4_pulses_64 rfl (lv_at hl 1 rfl) ?_
          refine lv_iconst (v := 1) hx hb dX4_pulses_65 rfl ?_
          refine qVi (As := [.int n, .int 1]) (rest := [.int (ownd z (10 + ix n) (uF z (10 + ix n) v))]) hx hb hml hown hts (kX4_number l g z (upd (upd r 0 (uF z (10 + ix n) v)) 1 (ruF z (10 + ix n) (uF z (10 + ix n) v) v)) hj (k := 1) (by decide) n hn) gX4_pulses_X4_number rfl 2 hdX4_number rfl ⟨Nat.le_of_ble_eq_true rfl, Nat.le_of_ble_eq_true rfl⟩ ⟨Nat.zero_le _, Nat.zero_le _⟩ hK hP hS (fun _ h => h) 0 4 rfl rfl rfl hl.1 rfl (Nat.le_of_ble_eq_true rfl) dX4_pulses_66 (fun H locs hP hS => ?_)
          refine lv_icmp_lt (tgt := 85) hx hb dX4_pulses_69 (by decide) (fun c_69 => ?_) (fun c_69 => ?_)
          · -- 69 taken
            have c_69n := i_lt_t c_69
            exact tail z _ hI hn0 hl9 (by unfold opS; rw [if_neg (by simp [snB, c_69n])]) _ _ hP hS ls (lv_sub hl [2, 3, 4, 1, 0] rfl)
          · -- 69 not taken
            have c_69n := i_lt_f c_69
            have hI2 : qInv (zu z (10 + ix n) 2 1) := inv_zup hI hp4 (by decide) (pinv_2 (inv_p hI _ hp4) (Or.inr rfl))
            have hn2 : ¬ (zu z (10 + ix n) 2 1) 0 3 = 60 := by rw [zu_row z (10 + ix n) 2 0 1 (by omega)]; exact hn0
            have hl2 : hlB (zu z (10 + ix n) 2 1) = true := by rw [hl_keep (keep_p (by decide))]; exact hl9
            refine lv_aload_n hx hb dX4_pulses_72 rfl (lv_at hl 2 rfl) ?_
            refine qGet (ci := 4) (v := .ref (am 10)) (C := RX4) (T := TX4) (N := 25) hx hb hts hin4 hown hK hP 0 rfl rfl 9 (by decide) (hts (.fieldLink RX4 38 "PartCurvesModel" "isOpen" "[Z") (by decide +kernel)) (by simp [pF, zu, upd]) dX4_pulses_73 ?_
            refine lv_iload_n hx hb dX4_pulses_76 rfl (lv_at hl 1 rfl) ?_
            refine lv_iconst (v := 1) hx hb dX4_pulses_77 rfl ?_
            refine qZst (j := (ix n)) (y := 1) (u' := (zu z (10 + ix n) 2 1, upd (upd r 0 (uF z (10 + ix n) v)) 1 (ruF z (10 + ix n) (uF z (10 + ix n) v) v))) hx hb hK hP (WMu_D g (z, upd (upd r 0 (uF z (10 + ix n) v)) 1 (ruF z (10 + ix n) (uF z (10 + ix n) v) v)) hj) hS 10 rfl (inR_vp (n := 3) rfl hn 4 (by decide)) rfl rfl (WM_f2 g am z (upd (upd r 0 (uF z (10 + ix n) v)) 1 (ruF z (10 + ix n) (uF z (10 + ix n) v) v)) (ix n) 1) dX4_pulses_78 (fun H locs hP hS => ?_)
            refine lv_aload_n hx hb dX4_pulses_79 rfl (lv_at hl 2 rfl) ?_
            refine lv_iload_n hx hb dX4_pulses_80 rfl (lv_at hl 1 rfl) ?_
            refine lv_iload_n hx hb dX4_pulses_81 rfl (lv_at hl 3 rfl) ?_
            refine qVv (As := [.int n, .int v]) (rest := []) hx hb hml hown hts (kX4_finds l g (zu z (10 + ix n) 2 1) (upd (upd r 0 (uF z (10 + ix n) v)) 1 (ruF z (10 + ix n) (uF z (10 + ix n) v) v)) hj hI2 n hn hl2 v hv) gX4_pulses_X4_finds rfl 2 hdX4_finds rfl ⟨Nat.le_of_ble_eq_true rfl, Nat.le_of_ble_eq_true rfl⟩ ⟨Nat.zero_le _, Nat.zero_le _⟩ hK hP hS (fun _ h => h) 0 4 rfl rfl rfl hl.1 rfl (Nat.le_of_ble_eq_true rfl) dX4_pulses_82 (fun H locs hP hS => ?_)
            have hP : va_P g.1 vwCl (WMu g am (zu z (10 + ix n) 2 1, upd (upd r 0 (uF (zu z (10 + ix n) 2 1) (10 + ix n) v)) 1 (ruF (zu z (10 + ix n) 2 1) (10 + ix n) (uF (zu z (10 + ix n) 2 1) (10 + ix n) v) v))) H := by have h9 := hP; rw [upd_a1] at h9; exact h9
            exact tail (zu z (10 + ix n) 2 1) _ hI2 hn2 hl2 (by unfold opS; rw [if_pos (by simp [snB, c_40, c_49, c_58, c_69n])]) _ _ hP hS ls (lv_sub hl [2, 3, 4, 1, 0] rfl)
  · -- 16 not taken
    have c_16 := bI_n c_16
    refine lv_aload_n hx hb dX4_pulses_19 rfl (lv_at hl 1 rfl) ?_
    refine qGet (ci := 4) (v := .int (uF z (10 + ix n) v)) (C := RX4) (T := TX4) (N := 25) hx hb hts hin4 hown hK hP 0 rfl rfl 14 (by decide) (hts (.fieldLink RX4 125 "PartCurvesModel" "found" "I") (by decide +kernel)) (by simp [pF, zu, upd]) dX4_pulses_20 ?_
    refine lv_goto (tgt := 31) hx hb dX4_pulses_23 (by decide) ?_
    refine lv_topi (fun y31 e31 => ?_)
    obtain rfl := e31.trans (show _ = ownd z (10 + ix n) (uF z (10 + ix n) v) by simp only [ownd, if_pos ((fw_iff hI hl9 hp4).mp c_16)])
    refine lv_istore (lv' := [(4, .int (ownd z (10 + ix n) (uF z (10 + ix n) v))), (3, .int n), (0, .ref (am 0)), (1, .int v), (2, .int t)]) hx hb dX4_pulses_31 hl (by decide) rfl (fun ls hl => ?_)
    refine lv_aload_n hx hb dX4_pulses_33 rfl (lv_at hl 2 rfl) ?_
    refine qGet (ci := 4) (v := .ref (am 4)) (C := RX4) (T := TX4) (N := 25) hx hb hts hin4 hown hK hP 0 rfl rfl 3 (by decide) (hts (.fieldLink RX4 20 "PartCurvesModel" "kindOf" "[I") (by decide +kernel)) (by simp [pF, zu, upd]) dX4_pulses_34 ?_
    refine lv_iload_n hx hb dX4_pulses_37 rfl (lv_at hl 1 rfl) ?_
    refine qIld (v := (z (10 + ix n) 5)) hx hb hK hP 4 rfl (inR_vp (n := 3) rfl hn 4 (by decide)) rfl dX4_pulses_38 ?_
    refine lv_iconst (v := 3) hx hb dX4_pulses_39 rfl ?_
    refine lv_icmp_ne (tgt := 85) hx hb dX4_pulses_40 (by decide) (fun c_40 => ?_) (fun c_40 => ?_)
    · -- 40 taken
      exact tail z _ hI hn0 hl9 (by unfold opS; rw [if_neg (by simp [snB, c_40])]) _ _ hP hS ls (lv_sub hl [2, 3, 4, 1, 0] rfl)
    · -- 40 not taken
      refine lv_aload_n hx hb dX4_pulses_43 rfl (lv_at hl 2 rfl) ?_
      refine qGet (ci := 4) (v := .ref (am 10)) (C := RX4) (T := TX4) (N := 25) hx hb hts hin4 hown hK hP 0 rfl rfl 9 (by decide) (hts (.fieldLink RX4 38 "PartCurvesModel" "isOpen" "[Z") (by decide +kernel)) (by simp [pF, zu, upd]) dX4_pulses_44 ?_
      refine lv_iload_n hx hb dX4_pulses_47 rfl (lv_at hl 1 rfl) ?_
      refine qZld (v := (z (10 + ix n) 2)) hx hb hK hP 10 rfl (inR_vp (n := 3) rfl hn 4 (by decide)) rfl dX4_pulses_48 ?_
      refine lv_if_ne (tgt := 85) hx hb dX4_pulses_49 (by decide) (fun c_49 => ?_) (fun c_49 => ?_)
      · -- 49 taken
        exact tail z _ hI hn0 hl9 (by unfold opS; rw [if_neg (by simp [snB, c_49])]) _ _ hP hS ls (lv_sub hl [2, 3, 4, 1, 0] rfl)
      · -- 49 not taken
        refine lv_aload_n hx hb dX4_pulses_52 rfl (lv_at hl 2 rfl) ?_
        refine qGet (ci := 4) (v := .ref (am 9)) (C := RX4) (T := TX4) (N := 25) hx hb hts hin4 hown hK hP 0 rfl rfl 8 (by decide) (hts (.fieldLink RX4 35 "PartCurvesModel" "isBurnt" "[Z") (by decide +kernel)) (by simp [pF, zu, upd]) dX4_pulses_53 ?_
        refine lv_iload_n hx hb dX4_pulses_56 rfl (lv_at hl 1 rfl) ?_
        refine qZld (v := (z (10 + ix n) 1)) hx hb hK hP 9 rfl (inR_vp (n := 3) rfl hn 4 (by decide)) rfl dX4_pulses_57 ?_
        refine lv_if_ne (tgt := 85) hx hb dX4_pulses_58 (by decide) (fun c_58 => ?_) (fun c_58 => ?_)
        · -- 58 taken
          exact tail z _ hI hn0 hl9 (by unfold opS; rw [if_neg (by simp [snB, c_58])]) _ _ hP hS ls (lv_sub hl [2, 3, 4, 1, 0] rfl)
        · -- 58 not taken
          refine lv_iload hx hb dX4_pulses_61 (lv_at hl 0 rfl) ?_
          refine lv_aload_n hx hb dX4_pulses_63 rfl (lv_at hl 2 rfl) ?_
          refine lv_iload_n hx hb dX4_pulses_64 rfl (lv_at hl 1 rfl) ?_
          refine lv_iconst (v := 1) hx hb dX4_pulses_65 rfl ?_
          refine qVi (As := [.int n, .int 1]) (rest := [.int (ownd z (10 + ix n) (uF z (10 + ix n) v))]) hx hb hml hown hts (kX4_number l g z (upd (upd r 0 (uF z (10 + ix n) v)) 1 (ruF z (10 + ix n) (uF z (10 + ix n) v) v)) hj (k := 1) (by decide) n hn) gX4_pulses_X4_number rfl 2 hdX4_number rfl ⟨Nat.le_of_ble_eq_true rfl, Nat.le_of_ble_eq_true rfl⟩ ⟨Nat.zero_le _, Nat.zero_le _⟩ hK hP hS (fun _ h => h) 0 4 rfl rfl rfl hl.1 rfl (Nat.le_of_ble_eq_true rfl) dX4_pulses_66 (fun H locs hP hS => ?_)
          refine lv_icmp_lt (tgt := 85) hx hb dX4_pulses_69 (by decide) (fun c_69 => ?_) (fun c_69 => ?_)
          · -- 69 taken
            have c_69n := i_lt_t c_69
            exact tail z _ hI hn0 hl9 (by unfold opS; rw [if_neg (by simp [snB, c_69n])]) _ _ hP hS ls (lv_sub hl [2, 3, 4, 1, 0] rfl)
          · -- 69 not taken
            have c_69n := i_lt_f c_69
            have hI2 : qInv (zu z (10 + ix n) 2 1) := inv_zup hI hp4 (by decide) (pinv_2 (inv_p hI _ hp4) (Or.inr rfl))
            have hn2 : ¬ (zu z (10 + ix n) 2 1) 0 3 = 60 := by rw [zu_row z (10 + ix n) 2 0 1 (by omega)]; exact hn0
            have hl2 : hlB (zu z (10 + ix n) 2 1) = true := by rw [hl_keep (keep_p (by decide))]; exact hl9
            refine lv_aload_n hx hb dX4_pulses_72 rfl (lv_at hl 2 rfl) ?_
            refine qGet (ci := 4) (v := .ref (am 10)) (C := RX4) (T := TX4) (N := 25) hx hb hts hin4 hown hK hP 0 rfl rfl 9 (by decide) (hts (.fieldLink RX4 38 "PartCurvesModel" "isOpen" "[Z") (by decide +kernel)) (by simp [pF, zu, upd]) dX4_pulses_73 ?_
            refine lv_iload_n hx hb dX4_pulses_76 rfl (lv_at hl 1 rfl) ?_
            refine lv_iconst (v := 1) hx hb dX4_pulses_77 rfl ?_
            refine qZst (j := (ix n)) (y := 1) (u' := (zu z (10 + ix n) 2 1, upd (upd r 0 (uF z (10 + ix n) v)) 1 (ruF z (10 + ix n) (uF z (10 + ix n) v) v))) hx hb hK hP (WMu_D g (z, upd (upd r 0 (uF z (10 + ix n) v)) 1 (ruF z (10 + ix n) (uF z (10 + ix n) v) v)) hj) hS 10 rfl (inR_vp (n := 3) rfl hn 4 (by decide)) rfl rfl (WM_f2 g am z (upd (upd r 0 (uF z (10 + ix n) v)) 1 (ruF z (10 + ix n) (uF z (10 + ix n) v) v)) (ix n) 1) dX4_pulses_78 (fun H locs hP hS => ?_)
            refine lv_aload_n hx hb dX4_pulses_79 rfl (lv_at hl 2 rfl) ?_
            refine lv_iload_n hx hb dX4_pulses_80 rfl (lv_at hl 1 rfl) ?_
            refine lv_iload_n hx hb dX4_pulses_81 rfl (lv_at hl 3 rfl) ?_
            refine qVv (As := [.int n, .int v]) (rest := []) hx hb hml hown hts (kX4_finds l g (zu z (10 + ix n) 2 1) (upd (upd r 0 (uF z (10 + ix n) v)) 1 (ruF z (10 + ix n) (uF z (10 + ix n) v) v)) hj hI2 n hn hl2 v hv) gX4_pulses_X4_finds rfl 2 hdX4_finds rfl ⟨Nat.le_of_ble_eq_true rfl, Nat.le_of_ble_eq_true rfl⟩ ⟨Nat.zero_le _, Nat.zero_le _⟩ hK hP hS (fun _ h => h) 0 4 rfl rfl rfl hl.1 rfl (Nat.le_of_ble_eq_true rfl) dX4_pulses_82 (fun H locs hP hS => ?_)
            have hP : va_P g.1 vwCl (WMu g am (zu z (10 + ix n) 2 1, upd (upd r 0 (uF (zu z (10 + ix n) 2 1) (10 + ix n) v)) 1 (ruF (zu z (10 + ix n) 2 1) (10 + ix n) (uF (zu z (10 + ix n) 2 1) (10 + ix n) v) v))) H := by have h9 := hP; rw [upd_a1] at h9; exact h9
            exact tail (zu z (10 + ix n) 2 1) _ hI2 hn2 hl2 (by unfold opS; rw [if_pos (by simp [snB, c_40, c_49, c_58, c_69n])]) _ _ hP hS ls (lv_sub hl [2, 3, 4, 1, 0] rfl)
set_option maxHeartbeats 4000000 in
set_option maxRecDepth 100000 in
theorem kX4_cause (l : Launch) (g : qG) {am : Nat → Nat} (z : zS) (r : Nat → Int32) (hj : adInj 18 am) (so nu : Int32) (h3 : z 0 4 < 3) (hcc : inR (z 0 4) 0 3 = true) : qMv l yX4_cause wsX4_cause 0 g (WMu g am) (adOf 18 am) (z, r) [.ref (am 0), .int so, .int nu] (putS z so nu, r) := by
  refine qStart (cc := cX4_cause) (maxL := 3) (ret := none) (plainFor_of_name (by decide)) rfl (Nat.le_of_ble_eq_true rfl) ?_
  intro p e s m args below meth c hx hb hml hown hts hr hlk hP hK ls hl
  have hl : lv_has ls 3 [(0, .ref (am 0)), (1, .int so), (2, .int nu)] := hl
  have hS : va_S (adOf 18 am) s.heap s.heap [] := va_S.rf
  have hin4 : ∀ w ∈ u_ws RX4 TX4 25, w ∈ wsX4_cause := by decide +kernel
  refine lv_aload_n hx hb dX4_cause_0 rfl (lv_at hl 0 rfl) ?_
  refine qGet (ci := 4) (v := .ref (am 16)) (C := RX4) (T := TX4) (N := 25) hx hb hts hin4 hown hK hP 0 rfl rfl 22 (by decide) (hts (.fieldLink RX4 60 "PartCurvesModel" "causeSort" "[I") (by decide +kernel)) rfl dX4_cause_1 ?_
  refine lv_aload_n hx hb dX4_cause_4 rfl (lv_at hl 0 rfl) ?_
  refine qGet (ci := 4) (v := .int (z 0 4)) (C := RX4) (T := TX4) (N := 25) hx hb hts hin4 hown hK hP 0 rfl rfl 21 (by decide) (hts (.fieldLink RX4 139 "PartCurvesModel" "causes" "I") (by decide +kernel)) rfl dX4_cause_5 ?_
  refine lv_iload_n hx hb dX4_cause_8 rfl (lv_at hl 1 rfl) ?_
  refine qIst (j := (ix (z 0 4))) (u' := (zu z 6 (ix (z 0 4)) so, r)) hx hb hK hP (WMu_D g (z, r) hj) hS 16 rfl (ge_lt hcc (n := 3) rfl (by decide) (i_lt_t h3)).1 rfl (WM_16 g am z r (ix (z 0 4)) so) dX4_cause_9 (fun H locs hP hS => ?_)
  refine lv_aload_n hx hb dX4_cause_10 rfl (lv_at hl 0 rfl) ?_
  refine qGet (ci := 4) (v := .ref (am 17)) (C := RX4) (T := TX4) (N := 25) hx hb hts hin4 hown hK hP 0 rfl rfl 23 (by decide) (hts (.fieldLink RX4 63 "PartCurvesModel" "causeNumber" "[I") (by decide +kernel)) (by simp [pF, zu, upd]) dX4_cause_11 ?_
  refine lv_aload_n hx hb dX4_cause_14 rfl (lv_at hl 0 rfl) ?_
  refine qGet (ci := 4) (v := .int (z 0 4)) (C := RX4) (T := TX4) (N := 25) hx hb hts hin4 hown hK hP 0 rfl rfl 21 (by decide) (hts (.fieldLink RX4 139 "PartCurvesModel" "causes" "I") (by decide +kernel)) (by simp [pF, zu, upd]) dX4_cause_15 ?_
  refine lv_iload_n hx hb dX4_cause_18 rfl (lv_at hl 2 rfl) ?_
  refine qIst (j := (ix (z 0 4))) (u' := (zu (zu z 6 (ix (z 0 4)) so) 7 (ix (z 0 4)) nu, r)) hx hb hK hP (WMu_D g (zu z 6 (ix (z 0 4)) so, r) hj) hS 17 rfl (ge_lt hcc (n := 3) rfl (by decide) (i_lt_t h3)).1 rfl (WM_17 g am (zu z 6 (ix (z 0 4)) so) r (ix (z 0 4)) nu) dX4_cause_19 (fun H locs hP hS => ?_)
  refine lv_aload_n hx hb dX4_cause_20 rfl (lv_at hl 0 rfl) ?_
  refine lv_dup hx hb dX4_cause_21 rfl ?_
  refine qGet (ci := 4) (v := .int (z 0 4)) (C := RX4) (T := TX4) (N := 25) hx hb hts hin4 hown hK hP 0 rfl rfl 21 (by decide) (hts (.fieldLink RX4 139 "PartCurvesModel" "causes" "I") (by decide +kernel)) (by simp [pF, zu, upd]) dX4_cause_22 ?_
  refine lv_iconst (v := 1) hx hb dX4_cause_25 rfl ?_
  refine lv_iadd hx hb dX4_cause_26 ?_
  refine qPut (ci := 4) (ty := .int) (C := RX4) (T := TX4) (N := 25) (u' := (zu (zu (zu z 6 (ix (z 0 4)) so) 7 (ix (z 0 4)) nu) 0 4 ((z 0 4) + 1), r)) hx hb hts hin4 tyX4 tyX4_ok nmX4 hown hK hP (WMu_D g (zu (zu z 6 (ix (z 0 4)) so) 7 (ix (z 0 4)) nu, r) hj) hS 0 rfl rfl 21 (by decide) (hts (.fieldLink RX4 139 "PartCurvesModel" "causes" "I") (by decide +kernel)) rfl (by decide +kernel) rfl rfl (Nat.le_of_ble_eq_true rfl) (WM_cc g am (zu (zu z 6 (ix (z 0 4)) so) 7 (ix (z 0 4)) nu) r ((z 0 4) + 1)) dX4_cause_27 (fun H locs hP hS => ?_)
  exact qRv hx hb hr hlk hP hK hS dX4_cause_30 (by unfold putS; rw [if_pos h3])
set_option maxHeartbeats 4000000 in
set_option maxRecDepth 100000 in
theorem kX4_rests (l : Launch) (g : qG) {am : Nat → Nat} (z : zS) (r : Nat → Int32) (hj : adInj 18 am) (n : Nat) (hn : n ≤ 100) : qMv l yX4_rests wsX4_rests 0 g (WMu g am) (adOf 18 am) (z, r) [.ref (am 0), .int (nI n)] (coolA z n, r) := by
  refine qStart (cc := cX4_rests) (maxL := 4) (ret := none) (plainFor_of_name (by decide)) rfl (Nat.le_of_ble_eq_true rfl) ?_
  intro p e s m args below meth c hx hb hml hown hts hr hlk hP hK ls hl
  have hl : lv_has ls 4 [(0, .ref (am 0)), (1, .int (nI n))] := hl
  have hS : va_S (adOf 18 am) s.heap s.heap [] := va_S.rf
  have hin4 : ∀ w ∈ u_ws RX4 TX4 25, w ∈ wsX4_rests := by decide +kernel
  have inner : ∀ (k : Nat) (q j : Nat) (y : zS), j + k = 4 → (∀ (H : Heap) (locs : List Loc), va_P g.1 vwCl ((WMu g am) (coolR 1 k j y, r)) H → va_S (adOf 18 am) s.heap H locs → ∀ ls : Array Slot, lv_has ls 4 [(0, .ref (am 0)), (1, .int (nI n)), (2, .int (nI q))] → W p l e (rmL 0) s m args below meth c H locs 0 0 (MQ below (va_Qv (fun u9 => u9 = (coolA z n, r)) (qU g (WMu g am)) (adOf 18 am)) args s 0 0 (adOf 18 am)) (F0 m 41 ls [])) → ∀ (H : Heap) (locs : List Loc), va_P g.1 vwCl ((WMu g am) (y, r)) H → va_S (adOf 18 am) s.heap H locs → ∀ ls : Array Slot, lv_has ls 4 [(0, .ref (am 0)), (1, .int (nI n)), (2, .int (nI q)), (3, .int (nI j))] → W p l e (rmL 0) s m args below meth c H locs 0 0 (MQ below (va_Qv (fun u9 => u9 = (coolA z n, r)) (qU g (WMu g am)) (adOf 18 am)) args s 0 0 (adOf 18 am)) (F0 m 9 ls []) := by
    intro k
    induction k with
    | zero =>
      intro q j y hj2 hc H locs hP hS ls hl
      refine lv_iload_n hx hb dX4_rests_9 rfl (lv_at hl 3 rfl) ?_
      refine lv_iconst (v := 4) hx hb dX4_rests_10 rfl ?_
      refine lv_icmp_ge (tgt := 41) hx hb dX4_rests_11 (by decide) (fun c_11 => ?_) (fun c_11 => ?_)
      · -- 11 taken
        have c_11n := i_le_t c_11
        exact hc _ _ hP hS ls (lv_sub hl [0, 1, 2] rfl)
      · -- 11 not taken
        have c_11n := i_le_f c_11
        exact absurd (nI_lt' (b := 4) (by omega) (by omega) c_11) (by omega)
    | succ k ih =>
      intro q j y hj2 hc H locs hP hS ls hl
      refine lv_iload_n hx hb dX4_rests_9 rfl (lv_at hl 3 rfl) ?_
      refine lv_iconst (v := 4) hx hb dX4_rests_10 rfl ?_
      refine lv_icmp_ge (tgt := 41) hx hb dX4_rests_11 (by decide) (fun c_11 => ?_) (fun c_11 => ?_)
      · -- 11 taken
        have c_11n := i_le_t c_11
        exact absurd (nI_ge' (b := 4) (by omega) (by omega) c_11) (by omega)
      · -- 11 not taken
        have c_11n := i_le_f c_11
        refine lv_aload_n hx hb dX4_rests_14 rfl (lv_at hl 0 rfl) ?_
        refine qGet (ci := 4) (v := .ref (am 8)) (C := RX4) (T := TX4) (N := 25) hx hb hts hin4 hown hK hP 0 rfl rfl 7 (by decide) (hts (.fieldLink RX4 32 "PartCurvesModel" "heatOf" "[I") (by decide +kernel)) rfl dX4_rests_15 ?_
        refine lv_iload_n hx hb dX4_rests_18 rfl (lv_at hl 3 rfl) ?_
        refine lv_dup2_11 hx hb dX4_rests_19 rfl rfl ?_
        refine qIld (v := (y (10 + j) 6)) hx hb hK hP 8 rfl (vp_in_nI (n := j) (N := 4) (by omega) (by decide)) (congrArg (fun n => y (10 + n) 6) (nI_e j (by omega))) dX4_rests_20 ?_
        refine lv_aload_n hx hb dX4_rests_21 rfl (lv_at hl 0 rfl) ?_
        refine qGet (ci := 4) (v := .ref (am 8)) (C := RX4) (T := TX4) (N := 25) hx hb hts hin4 hown hK hP 0 rfl rfl 7 (by decide) (hts (.fieldLink RX4 32 "PartCurvesModel" "heatOf" "[I") (by decide +kernel)) rfl dX4_rests_22 ?_
        refine lv_iload_n hx hb dX4_rests_25 rfl (lv_at hl 3 rfl) ?_
        refine qIld (v := (y (10 + j) 6)) hx hb hK hP 8 rfl (vp_in_nI (n := j) (N := 4) (by omega) (by decide)) (congrArg (fun n => y (10 + n) 6) (nI_e j (by omega))) dX4_rests_26 ?_
        refine lv_bipush (v := 15) hx hb dX4_rests_27 (by decide) ?_
        refine lv_iadd hx hb dX4_rests_29 ?_
        refine lv_bipush (v := 16) hx hb dX4_rests_30 (by decide) ?_
        refine lv_idiv hx hb dX4_rests_32 (by decide) ?_
        refine lv_isub hx hb dX4_rests_33 ?_
        refine qIst (j := j) (u' := (zu y (10 + j) 6 ((y (10 + j) 6) - (((y (10 + j) 6) + 15) / 16)), r)) hx hb hK hP (WMu_D g (y, r) hj) hS 8 rfl (vp_in_nI (n := j) (N := 4) (by omega) (by decide)) (nI_e j (by omega)) (WM_f6 g am y r j ((y (10 + j) 6) - (((y (10 + j) 6) + 15) / 16))) dX4_rests_34 (fun H locs hP hS => ?_)
        refine lv_iinc (v := nI (j + 1)) (lv' := [(3, .int (nI (j + 1))), (0, .ref (am 0)), (1, .int (nI n)), (2, .int (nI q))]) hx hb dX4_rests_35 hl (k := 3) rfl (nI_1 j) (by decide) rfl (fun ls hl => ?_)
        refine lv_goto (tgt := 9) hx hb dX4_rests_38 (by decide) ?_
        exact ih q (j + 1) _ (by omega) hc _ _ hP hS ls (lv_sub hl [1, 2, 3, 0] rfl)
  have loop : ∀ (k : Nat) (q : Nat) (y : zS), q + k = n → coolA y k = coolA z n → ∀ (H : Heap) (locs : List Loc), va_P g.1 vwCl ((WMu g am) (y, r)) H → va_S (adOf 18 am) s.heap H locs → ∀ ls : Array Slot, lv_has ls 4 [(0, .ref (am 0)), (1, .int (nI n)), (2, .int (nI q))] → W p l e (rmL 0) s m args below meth c H locs 0 0 (MQ below (va_Qv (fun u9 => u9 = (coolA z n, r)) (qU g (WMu g am)) (adOf 18 am)) args s 0 0 (adOf 18 am)) (F0 m 2 ls []) := by
    intro k
    induction k with
    | zero =>
      intro q y hq2 hz H locs hP hS ls hl
      refine lv_iload_n hx hb dX4_rests_2 rfl (lv_at hl 2 rfl) ?_
      refine lv_iload_n hx hb dX4_rests_3 rfl (lv_at hl 1 rfl) ?_
      refine lv_icmp_ge (tgt := 47) hx hb dX4_rests_4 (by decide) (fun c_4 => ?_) (fun c_4 => ?_)
      · -- 4 taken
        have c_4n := i_le_t c_4
        exact qRv hx hb hr hlk hP hK hS dX4_rests_47 (by rw [← hz, cool_0])
      · -- 4 not taken
        have c_4n := i_le_f c_4
        exact absurd (nI_lt' (by omega) (by omega) c_4) (by omega)
    | succ k ih =>
      intro q y hq2 hz H locs hP hS ls hl
      refine lv_iload_n hx hb dX4_rests_2 rfl (lv_at hl 2 rfl) ?_
      refine lv_iload_n hx hb dX4_rests_3 rfl (lv_at hl 1 rfl) ?_
      refine lv_icmp_ge (tgt := 47) hx hb dX4_rests_4 (by decide) (fun c_4 => ?_) (fun c_4 => ?_)
      · -- 4 taken
        have c_4n := i_le_t c_4
        exact absurd (nI_ge' (by omega) (by omega) c_4) (by omega)
      · -- 4 not taken
        have c_4n := i_le_f c_4
        refine lv_iconst (v := 0) hx hb dX4_rests_7 rfl ?_
        refine lv_istore_n (lv' := [(3, .int 0), (0, .ref (am 0)), (1, .int (nI n)), (2, .int (nI q))]) hx hb dX4_rests_8 rfl hl (by decide) rfl (fun ls hl => ?_)
        refine inner 4 q 0 y rfl ?_ _ _ hP hS ls (lv_sub hl [1, 2, 3, 0] rfl)
        intro H locs hP hS ls hl
        refine lv_iinc (v := nI (q + 1)) (lv' := [(2, .int (nI (q + 1))), (0, .ref (am 0)), (1, .int (nI n))]) hx hb dX4_rests_41 hl (k := 2) rfl (nI_1 q) (by decide) rfl (fun ls hl => ?_)
        refine lv_goto (tgt := 2) hx hb dX4_rests_44 (by decide) ?_
        exact ih (q + 1) _ (by omega) (by rw [← hz]; exact cool_add y k) _ _ hP hS ls (lv_sub hl [1, 2, 0] rfl)
  refine lv_iconst (v := 0) hx hb dX4_rests_0 rfl ?_
  refine lv_istore_n (lv' := [(2, .int 0), (0, .ref (am 0)), (1, .int (nI n))]) hx hb dX4_rests_1 rfl hl (by decide) rfl (fun ls hl => ?_)
  exact loop n 0 z (Nat.zero_add n) rfl _ _ hP hS ls (lv_sub hl [1, 2, 0] rfl)
