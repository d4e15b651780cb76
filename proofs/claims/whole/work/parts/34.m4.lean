set_option maxHeartbeats 4000000 in
set_option maxRecDepth 100000 in
theorem kX4_pulse (l : Launch) (g : qG) {am : Nat → Nat} (z : zS) (r : Nat → Int32) (hj : adInj 18 am) (hI : qInv z) (v w : Int32) : qMiE l yX4_pulse wsX4_pulse 7 g (WMu g am) (adOf 18 am) (z, r) [.ref (am 0), .int v, .int w] ((s_pulse z v w).1) ((s_pulse z v w).2) := by
  refine qStart (cc := cX4_pulse) (maxL := 3) (ret := (some .int)) (plainFor_of_name (by decide)) rfl (Nat.le_of_ble_eq_true rfl) ?_
  intro p e s m args below meth c hx hb hml hown hts hr hlk hP hK ls hl
  have hl : lv_has ls 3 [(0, .ref (am 0)), (1, .int v), (2, .int w)] := hl
  have hS : va_S (adOf 18 am) s.heap s.heap [] := va_S.rf
  have hin4 : ∀ w ∈ u_ws RX4 TX4 25, w ∈ wsX4_pulse := by decide +kernel
  refine lv_iload_n hx hb dX4_pulse_0 rfl (lv_at hl 1 rfl) ?_
  refine lv_sipush (v := -3000) hx hb dX4_pulse_1 (by decide) ?_
  refine lv_sipush (v := 3000) hx hb dX4_pulse_4 (by decide) ?_
  refine qSi (As := [.int v, .int (-3000), .int 3000]) (rest := []) hx hb hml hown hts (kX4_within l g (Wd := (WMu g am)) (A := (adOf 18 am)) (z, r) v (-3000) 3000) gX4_pulse_X4_within rfl 3 hdX4_within rfl ⟨Nat.le_of_ble_eq_true rfl, Nat.le_of_ble_eq_true rfl⟩ ⟨Nat.zero_le _, Nat.zero_le _⟩ hK hP hS (fun _ h => h) hl.1 rfl (Nat.le_of_ble_eq_true rfl) dX4_pulse_7 (fun H locs hP hS => ?_)
  refine lv_if_eq (tgt := 23) hx hb dX4_pulse_10 (by decide) (fun c_10 => ?_) (fun c_10 => ?_)
  · -- 10 taken
    have c_10 := bI_0 c_10
    refine lv_bipush (v := -2) hx hb dX4_pulse_23 (by decide) ?_
    exact qRiE hx hb hr hlk hP hK hS dX4_pulse_25 (by unfold s_pulse; rw [if_neg (fun h => absurd h.1 (bn c_10))] <;> rfl) (by unfold s_pulse; rw [if_neg (fun h => absurd h.1 (bn c_10))] <;> rfl)
  · -- 10 not taken
    have c_10 := bI_n c_10
    refine lv_iload_n hx hb dX4_pulse_13 rfl (lv_at hl 2 rfl) ?_
    refine lv_iconst (v := 1) hx hb dX4_pulse_14 rfl ?_
    refine lv_bipush (v := 50) hx hb dX4_pulse_15 (by decide) ?_
    refine qSi (As := [.int w, .int 1, .int 50]) (rest := []) hx hb hml hown hts (kX4_within l g (Wd := (WMu g am)) (A := (adOf 18 am)) (z, r) w 1 50) gX4_pulse_X4_within rfl 3 hdX4_within rfl ⟨Nat.le_of_ble_eq_true rfl, Nat.le_of_ble_eq_true rfl⟩ ⟨Nat.zero_le _, Nat.zero_le _⟩ hK hP hS (fun _ h => h) hl.1 rfl (Nat.le_of_ble_eq_true rfl) dX4_pulse_17 (fun H locs hP hS => ?_)
    refine lv_if_ne (tgt := 26) hx hb dX4_pulse_20 (by decide) (fun c_20 => ?_) (fun c_20 => ?_)
    · -- 20 taken
      have c_20 := bI_n c_20
      refine lv_aload_n hx hb dX4_pulse_26 rfl (lv_at hl 0 rfl) ?_
      refine qGet (ci := 4) (v := .int (z 0 0)) (C := RX4) (T := TX4) (N := 25) hx hb hts hin4 hown hK hP 0 rfl rfl 11 (by decide) (hts (.fieldLink RX4 74 "PartCurvesModel" "isOn" "Z") (by decide +kernel)) rfl dX4_pulse_27 ?_
      refine lv_if_ne (tgt := 36) hx hb dX4_pulse_30 (by decide) (fun c_30 => ?_) (fun c_30 => ?_)
      · -- 30 taken
        refine lv_aload_n hx hb dX4_pulse_36 rfl (lv_at hl 0 rfl) ?_
        refine qGet (ci := 4) (v := .int (z 0 3)) (C := RX4) (T := TX4) (N := 25) hx hb hts hin4 hown hK hP 0 rfl rfl 16 (by decide) (hts (.fieldLink RX4 142 "PartCurvesModel" "readings" "I") (by decide +kernel)) rfl dX4_pulse_37 ?_
        refine lv_bipush (v := 60) hx hb dX4_pulse_40 (by decide) ?_
        refine lv_icmp_ne (tgt := 48) hx hb dX4_pulse_42 (by decide) (fun c_42 => ?_) (fun c_42 => ?_)
        · -- 42 taken
          have hne := hI.2.2.2.2.2.2.2 c_30
          have hin0 : inH (zu z 0 4 0) = inH z := inH_congr (keep_c (by decide))
          obtain ⟨-, hp4, -, -, -, -⟩ := inH_lt hne
          have hnf2 : ¬ zu z 0 4 0 0 3 = 60 := by rw [zu_col z 0 4 0 3 0 (by omega)]; exact c_42
          have hIq := inv_pulS (inv_cc0 hI) hp4 c_10 c_20 hnf2
          have hlq := pulS_low (z := zu z 0 4 0) (i := ix (inH z)) v w
          have h4q : (pulS (zu z 0 4 0) (10 + ix (inH z)) v w).2 0 4 = 0 := by rw [hlq.2.2, zu_same]
          have hinq : inH (pulS (zu z 0 4 0) (10 + ix (inH z)) v w).2 = inH z := (inH_congr hlq.1).trans hin0
          refine lv_aload_n hx hb dX4_pulse_48 rfl (lv_at hl 0 rfl) ?_
          refine lv_iconst (v := 0) hx hb dX4_pulse_49 rfl ?_
          refine qPut (ci := 4) (ty := .int) (C := RX4) (T := TX4) (N := 25) (u' := (zu z 0 4 0, r)) hx hb hts hin4 tyX4 tyX4_ok nmX4 hown hK hP (WMu_D g (z, r) hj) hS 0 rfl rfl 21 (by decide) (hts (.fieldLink RX4 139 "PartCurvesModel" "causes" "I") (by decide +kernel)) rfl (by decide +kernel) rfl rfl (Nat.le_of_ble_eq_true rfl) (WM_cc g am z r 0) dX4_pulse_50 (fun H locs hP hS => ?_)
          refine lv_aload_n hx hb dX4_pulse_53 rfl (lv_at hl 0 rfl) ?_
          refine lv_iload_n hx hb dX4_pulse_54 rfl (lv_at hl 1 rfl) ?_
          refine lv_iload_n hx hb dX4_pulse_55 rfl (lv_at hl 2 rfl) ?_
          refine qVv (As := [.int v, .int w]) (rest := []) hx hb hml hown hts (kX4_pulses l g (zu z 0 4 0) r hj (inv_cc0 hI) (inH z) hin0 hne v w c_10 c_20 hnf2) gX4_pulse_X4_pulses rfl 2 hdX4_pulses rfl ⟨Nat.le_of_ble_eq_true rfl, Nat.le_of_ble_eq_true rfl⟩ ⟨Nat.zero_le _, Nat.zero_le _⟩ hK hP hS (fun _ h => h) 0 4 rfl rfl rfl hl.1 rfl (Nat.le_of_ble_eq_true rfl) dX4_pulse_56 (fun H locs hP hS => ?_)
          refine lv_aload_n hx hb dX4_pulse_59 rfl (lv_at hl 0 rfl) ?_
          refine qGet (ci := 4) (v := .int (thF (zu z 0 4 0) (10 + ix (inH z)) v w)) (C := RX4) (T := TX4) (N := 25) hx hb hts hin4 hown hK hP 0 rfl rfl 24 (by decide) (hts (.fieldLink RX4 151 "PartCurvesModel" "tooHot" "I") (by decide +kernel)) (by simp [pF, zu, upd]) dX4_pulse_60 ?_
          refine lv_bipush (v := -9) hx hb dX4_pulse_63 (by decide) ?_
          refine lv_icmp_eq (tgt := 86) hx hb dX4_pulse_65 (by decide) (fun c_65 => ?_) (fun c_65 => ?_)
          · -- 65 taken
            refine lv_aload_n hx hb dX4_pulse_86 rfl (lv_at hl 0 rfl) ?_
            refine qGet (ci := 4) (v := .int (((pulS (zu z 0 4 0) (10 + ix (inH z)) v w).2) 0 3)) (C := RX4) (T := TX4) (N := 25) hx hb hts hin4 hown hK hP 0 rfl rfl 16 (by decide) (hts (.fieldLink RX4 142 "PartCurvesModel" "readings" "I") (by decide +kernel)) (by simp [pF, zu, upd]) dX4_pulse_87 ?_
            exact qRiE hx hb hr hlk hP hK hS dX4_pulse_90 (by unfold s_pulse; rw [if_pos ⟨c_10, c_20⟩, if_neg c_30, if_neg c_42, if_neg (th_0 c_65)] <;> rfl) (by unfold s_pulse; rw [if_pos ⟨c_10, c_20⟩, if_neg c_30, if_neg c_42, if_neg (th_0 c_65)] <;> rfl)
          · -- 65 not taken
            have hth := th_1 c_65
            refine lv_aload_n hx hb dX4_pulse_68 rfl (lv_at hl 0 rfl) ?_
            refine lv_iconst (v := 2) hx hb dX4_pulse_69 rfl ?_
            refine lv_aload_n hx hb dX4_pulse_70 rfl (lv_at hl 0 rfl) ?_
            refine qVi (As := []) (rest := [.int 2, .ref (am 0)]) hx hb hml hown hts (kX4_inHand l g ((pulS (zu z 0 4 0) (10 + ix (inH z)) v w).2) (upd (upd (upd r 0 (uF (opS (zu z 0 4 0) (10 + ix (inH z)) v) (10 + ix (inH z)) v)) 1 (ruF (opS (zu z 0 4 0) (10 + ix (inH z)) v) (10 + ix (inH z)) (uF (opS (zu z 0 4 0) (10 + ix (inH z)) v) (10 + ix (inH z)) v) v)) 2 (thF (zu z 0 4 0) (10 + ix (inH z)) v w)) hj hIq) gX4_pulse_X4_inHand rfl 0 hdX4_inHand rfl ⟨Nat.le_of_ble_eq_true rfl, Nat.le_of_ble_eq_true rfl⟩ ⟨Nat.zero_le _, Nat.zero_le _⟩ hK hP hS (fun _ h => h) 0 4 rfl rfl rfl hl.1 rfl (Nat.le_of_ble_eq_true rfl) dX4_pulse_71 (fun H locs hP hS => ?_)
            refine lv_nm (y := inH z) (hinq) ?_
            refine qVv (As := [.int 2, .int (inH z)]) (rest := []) hx hb hml hown hts (kX4_cause l g ((pulS (zu z 0 4 0) (10 + ix (inH z)) v w).2) (upd (upd (upd r 0 (uF (opS (zu z 0 4 0) (10 + ix (inH z)) v) (10 + ix (inH z)) v)) 1 (ruF (opS (zu z 0 4 0) (10 + ix (inH z)) v) (10 + ix (inH z)) (uF (opS (zu z 0 4 0) (10 + ix (inH z)) v) (10 + ix (inH z)) v) v)) 2 (thF (zu z 0 4 0) (10 + ix (inH z)) v w)) hj 2 (inH z) (by rw [h4q]; decide) hIq.2.2.2.2.1) gX4_pulse_X4_cause rfl 2 hdX4_cause rfl ⟨Nat.le_of_ble_eq_true rfl, Nat.le_of_ble_eq_true rfl⟩ ⟨Nat.zero_le _, Nat.zero_le _⟩ hK hP hS (fun _ h => h) 0 4 rfl rfl rfl hl.1 rfl (Nat.le_of_ble_eq_true rfl) dX4_pulse_74 (fun H locs hP hS => ?_)
            refine lv_aload_n hx hb dX4_pulse_77 rfl (lv_at hl 0 rfl) ?_
            refine lv_iconst (v := 3) hx hb dX4_pulse_78 rfl ?_
            refine lv_aload_n hx hb dX4_pulse_79 rfl (lv_at hl 0 rfl) ?_
            refine qGet (ci := 4) (v := .int ((upd (upd (upd r 0 (uF (opS (zu z 0 4 0) (10 + ix (inH z)) v) (10 + ix (inH z)) v)) 1 (ruF (opS (zu z 0 4 0) (10 + ix (inH z)) v) (10 + ix (inH z)) (uF (opS (zu z 0 4 0) (10 + ix (inH z)) v) (10 + ix (inH z)) v) v)) 2 (thF (zu z 0 4 0) (10 + ix (inH z)) v w)) 2)) (C := RX4) (T := TX4) (N := 25) hx hb hts hin4 hown hK hP 0 rfl rfl 24 (by decide) (hts (.fieldLink RX4 151 "PartCurvesModel" "tooHot" "I") (by decide +kernel)) (by simp [pF, zu, upd]) dX4_pulse_80 ?_
            refine lv_nm (y := (pulS (zu z 0 4 0) (10 + ix (inH z)) v w).1) (hth.2) ?_
            refine qVv (As := [.int 3, .int ((pulS (zu z 0 4 0) (10 + ix (inH z)) v w).1)]) (rest := []) hx hb hml hown hts (kX4_cause l g (putS ((pulS (zu z 0 4 0) (10 + ix (inH z)) v w).2) 2 (inH z)) (upd (upd (upd r 0 (uF (opS (zu z 0 4 0) (10 + ix (inH z)) v) (10 + ix (inH z)) v)) 1 (ruF (opS (zu z 0 4 0) (10 + ix (inH z)) v) (10 + ix (inH z)) (uF (opS (zu z 0 4 0) (10 + ix (inH z)) v) (10 + ix (inH z)) v) v)) 2 (thF (zu z 0 4 0) (10 + ix (inH z)) v w)) hj 3 ((pulS (zu z 0 4 0) (10 + ix (inH z)) v w).1) (by rw [put_4 (by rw [h4q]; decide), h4q]; decide) (inv_put hIq _ _).2.2.2.2.1) gX4_pulse_X4_cause rfl 2 hdX4_cause rfl ⟨Nat.le_of_ble_eq_true rfl, Nat.le_of_ble_eq_true rfl⟩ ⟨Nat.zero_le _, Nat.zero_le _⟩ hK hP hS (fun _ h => h) 0 4 rfl rfl rfl hl.1 rfl (Nat.le_of_ble_eq_true rfl) dX4_pulse_83 (fun H locs hP hS => ?_)
            refine lv_aload_n hx hb dX4_pulse_86 rfl (lv_at hl 0 rfl) ?_
            refine qGet (ci := 4) (v := .int ((putS (putS ((pulS (zu z 0 4 0) (10 + ix (inH z)) v w).2) 2 (inH z)) 3 ((pulS (zu z 0 4 0) (10 + ix (inH z)) v w).1)) 0 3)) (C := RX4) (T := TX4) (N := 25) hx hb hts hin4 hown hK hP 0 rfl rfl 16 (by decide) (hts (.fieldLink RX4 142 "PartCurvesModel" "readings" "I") (by decide +kernel)) (by simp [pF, zu, upd]) dX4_pulse_87 ?_
            exact qRiE hx hb hr hlk hP hK hS dX4_pulse_90 (by unfold s_pulse; rw [if_pos ⟨c_10, c_20⟩, if_neg c_30, if_neg c_42, if_pos hth.1] <;> rfl) (by unfold s_pulse; rw [if_pos ⟨c_10, c_20⟩, if_neg c_30, if_neg c_42, if_pos hth.1] <;> rfl)
        · -- 42 not taken
          refine lv_bipush (v := -4) hx hb dX4_pulse_45 (by decide) ?_
          exact qRiE hx hb hr hlk hP hK hS dX4_pulse_47 (by unfold s_pulse; rw [if_pos ⟨c_10, c_20⟩, if_neg c_30, if_pos c_42] <;> rfl) (by unfold s_pulse; rw [if_pos ⟨c_10, c_20⟩, if_neg c_30, if_pos c_42] <;> rfl)
      · -- 30 not taken
        refine lv_bipush (v := -3) hx hb dX4_pulse_33 (by decide) ?_
        exact qRiE hx hb hr hlk hP hK hS dX4_pulse_35 (by unfold s_pulse; rw [if_pos ⟨c_10, c_20⟩, if_pos c_30] <;> rfl) (by unfold s_pulse; rw [if_pos ⟨c_10, c_20⟩, if_pos c_30] <;> rfl)
    · -- 20 not taken
      have c_20 := bI_0 c_20
      refine lv_bipush (v := -2) hx hb dX4_pulse_23 (by decide) ?_
      exact qRiE hx hb hr hlk hP hK hS dX4_pulse_25 (by unfold s_pulse; rw [if_neg (fun h => absurd h.2 (bn c_20))] <;> rfl) (by unfold s_pulse; rw [if_neg (fun h => absurd h.2 (bn c_20))] <;> rfl)
set_option maxHeartbeats 4000000 in
set_option maxRecDepth 100000 in
theorem kX4_rest (l : Launch) (g : qG) {am : Nat → Nat} (z : zS) (r : Nat → Int32) (hj : adInj 18 am) (n : Int32) : qMi l yX4_rest wsX4_rest 2 g (WMu g am) (adOf 18 am) (z, r) [.ref (am 0), .int n] ((s_rest z n).1) ((s_rest z n).2, r) := by
  refine qStart (cc := cX4_rest) (maxL := 4) (ret := (some .int)) (plainFor_of_name (by decide)) rfl (Nat.le_of_ble_eq_true rfl) ?_
  intro p e s m args below meth c hx hb hml hown hts hr hlk hP hK ls hl
  have hl : lv_has ls 4 [(0, .ref (am 0)), (1, .int n)] := hl
  have hS : va_S (adOf 18 am) s.heap s.heap [] := va_S.rf
  have hin4 : ∀ w ∈ u_ws RX4 TX4 25, w ∈ wsX4_rest := by decide +kernel
  have loop : ∀ (k : Nat) (j : Nat) (t : Int32), inR n 0 100 = true → j + k = 4 → mxR (coolA z (ix n)) k j t = mxR (coolA z (ix n)) 4 0 0 → ∀ (H : Heap) (locs : List Loc), va_P g.1 vwCl ((WMu g am) (coolA z (ix n), r)) H → va_S (adOf 18 am) s.heap H locs → ∀ ls : Array Slot, lv_has ls 4 [(0, .ref (am 0)), (1, .int n), (2, .int t), (3, .int (nI j))] → W p l e (rmL 2) s m args below meth c H locs 0 0 (MQ below (va_Qi (fun q9 u9 => q9 = (s_rest z n).1 ∧ u9 = ((s_rest z n).2, r)) (qU g (WMu g am)) (adOf 18 am)) args s 0 0 (adOf 18 am)) (F0 m 22 ls []) := by
    intro k
    induction k with
    | zero =>
      intro j t hin hj2 hz H locs hP hS ls hl
      refine lv_iload_n hx hb dX4_rest_22 rfl (lv_at hl 3 rfl) ?_
      refine lv_iconst (v := 4) hx hb dX4_rest_23 rfl ?_
      refine lv_icmp_ge (tgt := 63) hx hb dX4_rest_24 (by decide) (fun c_24 => ?_) (fun c_24 => ?_)
      · -- 24 taken
        have c_24n := i_le_t c_24
        refine lv_iload_n hx hb dX4_rest_63 rfl (lv_at hl 2 rfl) ?_
        exact qRi hx hb hr hlk hP hK hS dX4_rest_64 (by unfold s_rest; rw [if_pos hin]; exact hz) (by unfold s_rest; rw [if_pos hin])
      · -- 24 not taken
        have c_24n := i_le_f c_24
        exact absurd (nI_lt' (b := 4) (by omega) (by omega) c_24) (by omega)
    | succ k ih =>
      intro j t hin hj2 hz H locs hP hS ls hl
      refine lv_iload_n hx hb dX4_rest_22 rfl (lv_at hl 3 rfl) ?_
      refine lv_iconst (v := 4) hx hb dX4_rest_23 rfl ?_
      refine lv_icmp_ge (tgt := 63) hx hb dX4_rest_24 (by decide) (fun c_24 => ?_) (fun c_24 => ?_)
      · -- 24 taken
        have c_24n := i_le_t c_24
        exact absurd (nI_ge' (b := 4) (by omega) (by omega) c_24) (by omega)
      · -- 24 not taken
        have c_24n := i_le_f c_24
        refine lv_aload_n hx hb dX4_rest_27 rfl (lv_at hl 0 rfl) ?_
        refine qGet (ci := 4) (v := .ref (am 1)) (C := RX4) (T := TX4) (N := 25) hx hb hts hin4 hown hK hP 0 rfl rfl 0 (by decide) (hts (.fieldLink RX4 7 "PartCurvesModel" "isThere" "[Z") (by decide +kernel)) rfl dX4_rest_28 ?_
        refine lv_iload_n hx hb dX4_rest_31 rfl (lv_at hl 3 rfl) ?_
        refine qZld (v := ((coolA z (ix n)) (10 + j) 0)) hx hb hK hP 1 rfl (vp_in_nI (n := j) (N := 4) (by omega) (by decide)) (congrArg (fun n9 => (coolA z (ix n)) (10 + n9) 0) (nI_e j (by omega))) dX4_rest_32 ?_
        refine lv_if_eq (tgt := 55) hx hb dX4_rest_33 (by decide) (fun c_33 => ?_) (fun c_33 => ?_)
        · -- 33 taken
          refine lv_iload_n hx hb dX4_rest_55 rfl (lv_at hl 2 rfl) ?_
          refine lv_istore_n (lv' := [(2, .int t), (0, .ref (am 0)), (1, .int n), (3, .int (nI j))]) hx hb dX4_rest_56 rfl hl (by decide) rfl (fun ls hl => ?_)
          refine lv_iinc (v := nI (j + 1)) (lv' := [(3, .int (nI (j + 1))), (2, .int t), (0, .ref (am 0)), (1, .int n)]) hx hb dX4_rest_57 hl (k := 3) rfl (nI_1 j) (by decide) rfl (fun ls hl => ?_)
          refine lv_goto (tgt := 22) hx hb dX4_rest_60 (by decide) ?_
          exact ih (j + 1) _ hin (by omega) (by rw [← hz, mxR, if_pos c_33]) _ _ hP hS ls (lv_sub hl [2, 3, 1, 0] rfl)
        · -- 33 not taken
          refine lv_aload_n hx hb dX4_rest_36 rfl (lv_at hl 0 rfl) ?_
          refine qGet (ci := 4) (v := .ref (am 8)) (C := RX4) (T := TX4) (N := 25) hx hb hts hin4 hown hK hP 0 rfl rfl 7 (by decide) (hts (.fieldLink RX4 32 "PartCurvesModel" "heatOf" "[I") (by decide +kernel)) rfl dX4_rest_37 ?_
          refine lv_iload_n hx hb dX4_rest_40 rfl (lv_at hl 3 rfl) ?_
          refine qIld (v := ((coolA z (ix n)) (10 + j) 6)) hx hb hK hP 8 rfl (vp_in_nI (n := j) (N := 4) (by omega) (by decide)) (congrArg (fun n9 => (coolA z (ix n)) (10 + n9) 6) (nI_e j (by omega))) dX4_rest_41 ?_
          refine lv_iload_n hx hb dX4_rest_42 rfl (lv_at hl 2 rfl) ?_
          refine lv_icmp_le (tgt := 55) hx hb dX4_rest_43 (by decide) (fun c_43 => ?_) (fun c_43 => ?_)
          · -- 43 taken
            have c_43n := i_le_t c_43
            refine lv_iload_n hx hb dX4_rest_55 rfl (lv_at hl 2 rfl) ?_
            refine lv_istore_n (lv' := [(2, .int t), (0, .ref (am 0)), (1, .int n), (3, .int (nI j))]) hx hb dX4_rest_56 rfl hl (by decide) rfl (fun ls hl => ?_)
            refine lv_iinc (v := nI (j + 1)) (lv' := [(3, .int (nI (j + 1))), (2, .int t), (0, .ref (am 0)), (1, .int n)]) hx hb dX4_rest_57 hl (k := 3) rfl (nI_1 j) (by decide) rfl (fun ls hl => ?_)
            refine lv_goto (tgt := 22) hx hb dX4_rest_60 (by decide) ?_
            exact ih (j + 1) _ hin (by omega) (by rw [← hz, mxR, if_neg c_33, maxI, if_neg c_43n]) _ _ hP hS ls (lv_sub hl [2, 3, 1, 0] rfl)
          · -- 43 not taken
            have c_43n := i_le_f c_43
            refine lv_aload_n hx hb dX4_rest_46 rfl (lv_at hl 0 rfl) ?_
            refine qGet (ci := 4) (v := .ref (am 8)) (C := RX4) (T := TX4) (N := 25) hx hb hts hin4 hown hK hP 0 rfl rfl 7 (by decide) (hts (.fieldLink RX4 32 "PartCurvesModel" "heatOf" "[I") (by decide +kernel)) rfl dX4_rest_47 ?_
            refine lv_iload_n hx hb dX4_rest_50 rfl (lv_at hl 3 rfl) ?_
            refine qIld (v := ((coolA z (ix n)) (10 + j) 6)) hx hb hK hP 8 rfl (vp_in_nI (n := j) (N := 4) (by omega) (by decide)) (congrArg (fun n9 => (coolA z (ix n)) (10 + n9) 6) (nI_e j (by omega))) dX4_rest_51 ?_
            refine lv_goto (tgt := 56) hx hb dX4_rest_52 (by decide) ?_
            refine lv_istore_n (lv' := [(2, .int ((coolA z (ix n)) (10 + j) 6)), (0, .ref (am 0)), (1, .int n), (3, .int (nI j))]) hx hb dX4_rest_56 rfl hl (by decide) rfl (fun ls hl => ?_)
            refine lv_iinc (v := nI (j + 1)) (lv' := [(3, .int (nI (j + 1))), (2, .int ((coolA z (ix n)) (10 + j) 6)), (0, .ref (am 0)), (1, .int n)]) hx hb dX4_rest_57 hl (k := 3) rfl (nI_1 j) (by decide) rfl (fun ls hl => ?_)
            refine lv_goto (tgt := 22) hx hb dX4_rest_60 (by decide) ?_
            exact ih (j + 1) _ hin (by omega) (by rw [← hz, mxR, if_neg c_33, maxI, if_pos c_43n]) _ _ hP hS ls (lv_sub hl [2, 3, 1, 0] rfl)
  refine lv_iload_n hx hb dX4_rest_0 rfl (lv_at hl 1 rfl) ?_
  refine lv_iconst (v := 0) hx hb dX4_rest_1 rfl ?_
  refine lv_bipush (v := 100) hx hb dX4_rest_2 (by decide) ?_
  refine qSi (As := [.int n, .int 0, .int 100]) (rest := []) hx hb hml hown hts (kX4_within l g (Wd := (WMu g am)) (A := (adOf 18 am)) (z, r) n 0 100) gX4_rest_X4_within rfl 3 hdX4_within rfl ⟨Nat.le_of_ble_eq_true rfl, Nat.le_of_ble_eq_true rfl⟩ ⟨Nat.zero_le _, Nat.zero_le _⟩ hK hP hS (fun _ h => h) hl.1 rfl (Nat.le_of_ble_eq_true rfl) dX4_rest_4 (fun H locs hP hS => ?_)
  refine lv_if_ne (tgt := 13) hx hb dX4_rest_7 (by decide) (fun c_7 => ?_) (fun c_7 => ?_)
  · -- 7 taken
    have c_7 := bI_n c_7
    obtain ⟨hn1, hn2, -⟩ := inR_ix (n := 100) rfl c_7
    refine lv_aload_n hx hb dX4_rest_13 rfl (lv_at hl 0 rfl) ?_
    refine lv_iload_n hx hb dX4_rest_14 rfl (lv_at hl 1 rfl) ?_
    refine lv_nm (y := nI (ix n)) (hn2) ?_
    refine qVv (As := [.int (nI (ix n))]) (rest := []) hx hb hml hown hts (kX4_rests l g z r hj (ix n) hn1) gX4_rest_X4_rests rfl 1 hdX4_rests rfl ⟨Nat.le_of_ble_eq_true rfl, Nat.le_of_ble_eq_true rfl⟩ ⟨Nat.zero_le _, Nat.zero_le _⟩ hK hP hS (fun _ h => h) 0 4 rfl rfl rfl hl.1 rfl (Nat.le_of_ble_eq_true rfl) dX4_rest_15 (fun H locs hP hS => ?_)
    refine lv_iconst (v := 0) hx hb dX4_rest_18 rfl ?_
    refine lv_istore_n (lv' := [(2, .int 0), (0, .ref (am 0)), (1, .int n)]) hx hb dX4_rest_19 rfl hl (by decide) rfl (fun ls hl => ?_)
    refine lv_iconst (v := 0) hx hb dX4_rest_20 rfl ?_
    refine lv_istore_n (lv' := [(3, .int 0), (2, .int 0), (0, .ref (am 0)), (1, .int n)]) hx hb dX4_rest_21 rfl hl (by decide) rfl (fun ls hl => ?_)
    exact loop 4 0 0 c_7 rfl rfl _ _ hP hS ls (lv_sub hl [2, 3, 1, 0] rfl)
  · -- 7 not taken
    have c_7 := bI_0 c_7
    refine lv_bipush (v := -2) hx hb dX4_rest_10 (by decide) ?_
    exact qRi hx hb hr hlk hP hK hS dX4_rest_12 (by unfold s_rest; rw [if_neg (bn c_7)] <;> rfl) (pr_eq (by unfold s_rest; rw [if_neg (bn c_7)] <;> rfl) rfl)
theorem all_M {a b st back : Int32} (hb : inR back 0 1 = true) : (if back = 1 then 2 * (nI (lastF a b st) + 1) - 1 else nI (lastF a b st) + 1) = nI (allF a b st back) := by
  unfold allF
  by_cases c : back = 1
  · rw [if_pos c, if_pos c, nI_1, show (2 : Int32) = nI 2 from rfl, pk_mul, show 2 * (lastF a b st + 1) = (2 * lastF a b st + 1) + 1 by omega, nI_pred]
  · rw [if_neg c, if_neg c, nI_1]
theorem at_M1 {j L : Nat} (h : j < L + 1) : nI j = nI (if j ≤ L then j else 2 * L - j) := by rw [if_pos (by omega)]
theorem at_M2 {a b st back : Int32} {j : Nat} (h : ¬ j < lastF a b st + 1) (hj : j < allF a b st back) : nI (allF a b st back) - 1 - nI j = nI (if j ≤ lastF a b st then j else 2 * lastF a b st - j) := by
  rw [if_neg (by omega)]
  have h2 : allF a b st back = 2 * lastF a b st + 1 := by
    unfold allF at hj ⊢
    by_cases c : back = 1
    · rw [if_pos c]
    · rw [if_neg c] at hj; omega
  rw [h2, nI_pred, pk_sub (by omega)]
theorem vM_n {a b st : Int32} {k : Nat} (h : b < a) : a - st * nI k = a + nI k * (if b < a then -st else st) := by
  rw [if_pos h, Int32.mul_neg, Int32.sub_eq_add_neg, Int32.mul_comm st]
theorem vM_p {a b st : Int32} {k : Nat} (h : ¬ b < a) : a + st * nI k = a + nI k * (if b < a then -st else st) := by
  rw [if_neg h, Int32.mul_comm st]
theorem room_M {x : Int32} {n : Nat} : (x + nI n ≤ 60) ↔ ¬ 60 < x + nI n := by
  rw [Int32.le_iff_toInt_le, Int32.lt_iff_toInt_lt]; omega
theorem cool_4 {z : zS} (hI : qInv z) (k : Nat) : coolA z k 0 4 = z 0 4 := by rw [(inv_coolA hI k).2.2 0 (by decide)]
set_option maxHeartbeats 4000000 in
set_option maxRecDepth 100000 in
theorem kX4_sweep (l : Launch) (g : qG) {am : Nat → Nat} (z : zS) (r : Nat → Int32) (hj : adInj 18 am) (hI : qInv z) (a b st w n back : Int32) : qMiE l yX4_sweep wsX4_sweep 7 g (WMu g am) (adOf 18 am) (z, r) [.ref (am 0), .int a, .int b, .int st, .int w, .int n, .int back] ((s_sweep z a b st w n back).1) ((s_sweep z a b st w n back).2) := by
  refine qStart (cc := cX4_sweep) (maxL := 11) (ret := (some .int)) (plainFor_of_name (by decide)) rfl (Nat.le_of_ble_eq_true rfl) ?_
  intro p e s m args below meth c hx hb hml hown hts hr hlk hP hK ls hl
  have hl : lv_has ls 11 [(0, .ref (am 0)), (1, .int a), (2, .int b), (3, .int st), (4, .int w), (5, .int n), (6, .int back)] := hl
  have hS : va_S (adOf 18 am) s.heap s.heap [] := va_S.rf
  have hin4 : ∀ w ∈ u_ws RX4 TX4 25, w ∈ wsX4_sweep := by decide +kernel
  have loop : ∀ (k : Nat) (j : Nat) (y : zS) (rr : Nat → Int32), isSw a b st w n back = true → ¬ z 0 0 = 0 → j + k = allF a b st back → qInv y → ix (y 0 3) + k ≤ 60 → keepP y z → y 0 4 = 0 → swR (10 + ix (inH z)) (inH z) a (if b < a then -st else st) w (ix n) (lastF a b st) (allF a b st back) k j y = s_sweep z a b st w n back → ∀ (H : Heap) (locs : List Loc), va_P g.1 vwCl ((WMu g am) (y, rr)) H → va_S (adOf 18 am) s.heap H locs → ∀ ls : Array Slot, lv_has ls 11 [(0, .ref (am 0)), (1, .int a), (2, .int b), (3, .int st), (4, .int w), (5, .int n), (6, .int back), (7, .int (nI (lastF a b st + 1))), (8, .int (nI (allF a b st back))), (9, .int (nI j))] → W p l e (rmL 7) s m args below meth c H locs 0 0 (MQ below (va_Qi (fun q9 u9 => q9 = (s_sweep z a b st w n back).1 ∧ u9.1 = (s_sweep z a b st w n back).2) (qU g (WMu g am)) (adOf 18 am)) args s 0 0 (adOf 18 am)) (F0 m 82 ls []) := by
    intro k
    induction k with
    | zero =>
      intro j y rr hsw hpw hj2 hIy hrr hky hy4 hz H locs hP hS ls hl
      have hsw6 := isSw_i hsw
      have hne := hI.2.2.2.2.2.2.2 hpw
      have hh := inH_lt hne
      have hp4 := hh.2.1
      have hsv := sw_v hsw6.1 hsw6.2.1 hsw6.2.2.1 (Nat.zero_le _)
      have hal := all_le (back := back) hsv.2.1
      have hal2 := all_2 a b st back
      obtain ⟨hn1, hn2, -⟩ := inR_ix (n := 100) rfl hsw6.2.2.2.2.2
      have hiny := inH_congr hky
      refine lv_iload hx hb dX4_sweep_82 (lv_at hl 9 rfl) ?_
      refine lv_iload hx hb dX4_sweep_84 (lv_at hl 8 rfl) ?_
      refine lv_icmp_ge (tgt := 190) hx hb dX4_sweep_86 (by decide) (fun c_86 => ?_) (fun c_86 => ?_)
      · -- 86 taken
        have c_86n := i_le_t c_86
        refine lv_iload hx hb dX4_sweep_190 (lv_at hl 8 rfl) ?_
        exact qRiE hx hb hr hlk hP hK hS dX4_sweep_192 (by rw [← hz]; rfl) (by rw [← hz]; rfl)
      · -- 86 not taken
        have c_86n := i_le_f c_86
        exact absurd (nI_lt' (by omega) (by omega) c_86) (by omega)
    | succ k ih =>
      intro j y rr hsw hpw hj2 hIy hrr hky hy4 hz H locs hP hS ls hl
      have hsw6 := isSw_i hsw
      have hne := hI.2.2.2.2.2.2.2 hpw
      have hh := inH_lt hne
      have hp4 := hh.2.1
      have hsv := sw_v hsw6.1 hsw6.2.1 hsw6.2.2.1 (Nat.zero_le _)
      have hal := all_le (back := back) hsv.2.1
      have hal2 := all_2 a b st back
      obtain ⟨hn1, hn2, -⟩ := inR_ix (n := 100) rfl hsw6.2.2.2.2.2
      have hiny := inH_congr hky
      have hnr := rc_nf hIy.2.2.2.1 hrr
      refine lv_iload hx hb dX4_sweep_82 (lv_at hl 9 rfl) ?_
      refine lv_iload hx hb dX4_sweep_84 (lv_at hl 8 rfl) ?_
      refine lv_icmp_ge (tgt := 190) hx hb dX4_sweep_86 (by decide) (fun c_86 => ?_) (fun c_86 => ?_)
      · -- 86 taken
        have c_86n := i_le_t c_86
        exact absurd (nI_ge' (by omega) (by omega) c_86) (by omega)
      · -- 86 not taken
        have c_86n := i_le_f c_86
        have hjl : j < allF a b st back := by omega
        refine lv_iload hx hb dX4_sweep_89 (lv_at hl 9 rfl) ?_
        refine lv_iload hx hb dX4_sweep_91 (lv_at hl 7 rfl) ?_
        refine lv_icmp_ge (tgt := 101) hx hb dX4_sweep_93 (by decide) (fun c_93 => ?_) (fun c_93 => ?_)
        · -- 93 taken
          have c_93n := i_le_t c_93
          refine lv_iload hx hb dX4_sweep_101 (lv_at hl 8 rfl) ?_
          refine lv_iconst (v := 1) hx hb dX4_sweep_103 rfl ?_
          refine lv_isub hx hb dX4_sweep_104 ?_
          refine lv_iload hx hb dX4_sweep_105 (lv_at hl 9 rfl) ?_
          refine lv_isub hx hb dX4_sweep_107 ?_
          refine lv_nm (y := nI (if j ≤ lastF a b st then j else 2 * lastF a b st - j)) (at_M2 (by have h9 := nI_ge' (by omega) (by omega) c_93; omega) (by omega)) ?_
          have hV := (sw_v hsw6.1 hsw6.2.1 hsw6.2.2.1 (k := if j ≤ lastF a b st then j else 2 * lastF a b st - j) (by split <;> omega)).1
          refine lv_istore (lv' := [(10, .int (nI (if j ≤ lastF a b st then j else 2 * lastF a b st - j))), (0, .ref (am 0)), (1, .int a), (2, .int b), (3, .int st), (4, .int w), (5, .int n), (6, .int back), (7, .int (nI (lastF a b st + 1))), (8, .int (nI (allF a b st back))), (9, .int (nI j))]) hx hb dX4_sweep_108 hl (by decide) rfl (fun ls hl => ?_)
          refine lv_aload_n hx hb dX4_sweep_110 rfl (lv_at hl 1 rfl) ?_
          refine lv_iload_n hx hb dX4_sweep_111 rfl (lv_at hl 3 rfl) ?_
          refine lv_iload_n hx hb dX4_sweep_112 rfl (lv_at hl 2 rfl) ?_
          refine lv_icmp_ge (tgt := 125) hx hb dX4_sweep_113 (by decide) (fun c_113 => ?_) (fun c_113 => ?_)
          · -- 113 taken
            have c_113n := i_le_t c_113
            refine lv_iload_n hx hb dX4_sweep_125 rfl (lv_at hl 2 rfl) ?_
            refine lv_iload_n hx hb dX4_sweep_126 rfl (lv_at hl 4 rfl) ?_
            refine lv_iload hx hb dX4_sweep_127 (lv_at hl 0 rfl) ?_
            refine lv_imul hx hb dX4_sweep_129 ?_
            refine lv_iadd hx hb dX4_sweep_130 ?_
            refine lv_nm (y := a + nI (if j ≤ lastF a b st then j else 2 * lastF a b st - j) * (if b < a then -st else st)) (vM_p c_113n) ?_
            refine lv_iload hx hb dX4_sweep_131 (lv_at hl 5 rfl) ?_
            refine qVv (As := [.int (a + nI (if j ≤ lastF a b st then j else 2 * lastF a b st - j) * (if b < a then -st else st)), .int w]) (rest := []) hx hb hml hown hts (kX4_pulses l g y rr hj hIy (inH z) hiny hne (a + nI (if j ≤ lastF a b st then j else 2 * lastF a b st - j) * (if b < a then -st else st)) w hV hsw6.2.2.2.1 hnr.1) gX4_sweep_X4_pulses rfl 2 hdX4_pulses rfl ⟨Nat.le_of_ble_eq_true rfl, Nat.le_of_ble_eq_true rfl⟩ ⟨Nat.zero_le _, Nat.zero_le _⟩ hK hP hS (fun _ h => h) 0 4 rfl rfl rfl hl.1 rfl (Nat.le_of_ble_eq_true rfl) dX4_sweep_133 (fun H locs hP hS => ?_)
            have hIq := inv_pulS hIy hp4 hV hsw6.2.2.2.1 hnr.1
            have hlq := pulS_low (z := y) (i := ix (inH z)) (a + nI (if j ≤ lastF a b st then j else 2 * lastF a b st - j) * (if b < a then -st else st)) w
            have h4q : (pulS y (10 + ix (inH z)) (a + nI (if j ≤ lastF a b st then j else 2 * lastF a b st - j) * (if b < a then -st else st)) w).2 0 4 = 0 := by rw [hlq.2.2]; exact hy4
            have hinq : inH (pulS y (10 + ix (inH z)) (a + nI (if j ≤ lastF a b st then j else 2 * lastF a b st - j) * (if b < a then -st else st)) w).2 = inH z := (inH_congr hlq.1).trans hiny
            refine lv_aload_n hx hb dX4_sweep_136 rfl (lv_at hl 1 rfl) ?_
            refine qGet (ci := 4) (v := .int (thF y (10 + ix (inH z)) (a + nI (if j ≤ lastF a b st then j else 2 * lastF a b st - j) * (if b < a then -st else st)) w)) (C := RX4) (T := TX4) (N := 25) hx hb hts hin4 hown hK hP 0 rfl rfl 24 (by decide) (hts (.fieldLink RX4 151 "PartCurvesModel" "tooHot" "I") (by decide +kernel)) (by simp [pF, zu, upd]) dX4_sweep_137 ?_
            refine lv_bipush (v := -9) hx hb dX4_sweep_140 (by decide) ?_
            refine lv_icmp_eq (tgt := 178) hx hb dX4_sweep_142 (by decide) (fun c_142 => ?_) (fun c_142 => ?_)
            · -- 142 taken
              refine lv_aload_n hx hb dX4_sweep_178 rfl (lv_at hl 1 rfl) ?_
              refine lv_iload hx hb dX4_sweep_179 (lv_at hl 6 rfl) ?_
              refine lv_nm (y := nI (ix n)) (hn2) ?_
              refine qVv (As := [.int (nI (ix n))]) (rest := []) hx hb hml hown hts (kX4_rests l g ((pulS y (10 + ix (inH z)) (a + nI (if j ≤ lastF a b st then j else 2 * lastF a b st - j) * (if b < a then -st else st)) w).2) (upd (upd (upd rr 0 (uF (opS y (10 + ix (inH z)) (a + nI (if j ≤ lastF a b st then j else 2 * lastF a b st - j) * (if b < a then -st else st))) (10 + ix (inH z)) (a + nI (if j ≤ lastF a b st then j else 2 * lastF a b st - j) * (if b < a then -st else st)))) 1 (ruF (opS y (10 + ix (inH z)) (a + nI (if j ≤ lastF a b st then j else 2 * lastF a b st - j) * (if b < a then -st else st))) (10 + ix (inH z)) (uF (opS y (10 + ix (inH z)) (a + nI (if j ≤ lastF a b st then j else 2 * lastF a b st - j) * (if b < a then -st else st))) (10 + ix (inH z)) (a + nI (if j ≤ lastF a b st then j else 2 * lastF a b st - j) * (if b < a then -st else st))) (a + nI (if j ≤ lastF a b st then j else 2 * lastF a b st - j) * (if b < a then -st else st)))) 2 (thF y (10 + ix (inH z)) (a + nI (if j ≤ lastF a b st then j else 2 * lastF a b st - j) * (if b < a then -st else st)) w)) hj (ix n) hn1) gX4_sweep_X4_rests rfl 1 hdX4_rests rfl ⟨Nat.le_of_ble_eq_true rfl, Nat.le_of_ble_eq_true rfl⟩ ⟨Nat.zero_le _, Nat.zero_le _⟩ hK hP hS (fun _ h => h) 0 4 rfl rfl rfl hl.1 rfl (Nat.le_of_ble_eq_true rfl) dX4_sweep_181 (fun H locs hP hS => ?_)
              refine lv_iinc (v := nI (j + 1)) (lv' := [(9, .int (nI (j + 1))), (10, .int (nI (if j ≤ lastF a b st then j else 2 * lastF a b st - j))), (0, .ref (am 0)), (1, .int a), (2, .int b), (3, .int st), (4, .int w), (5, .int n), (6, .int back), (7, .int (nI (lastF a b st + 1))), (8, .int (nI (allF a b st back)))]) hx hb dX4_sweep_184 hl (k := 10) rfl (nI_1 j) (by decide) rfl (fun ls hl => ?_)
              refine lv_goto (tgt := 82) hx hb dX4_sweep_187 (by decide) ?_
              exact ih (j + 1) _ _ hsw hpw (by omega) (inv_coolA hIq _).1 (by rw [(inv_coolA hIq _).2.2 0 (by omega), hlq.2.1]; exact hnr.2) ((inv_coolA hIq _).2.1.tr (hlq.1.tr hky)) (by rw [cool_4 hIq]; exact h4q) (by rw [← hz, swR, if_neg (th_0 c_142)]) _ _ hP hS ls (lv_sub hl [2, 3, 4, 5, 6, 7, 8, 9, 10, 0] rfl)
            · -- 142 not taken
              have hth := th_1 c_142
              refine lv_aload_n hx hb dX4_sweep_145 rfl (lv_at hl 1 rfl) ?_
              refine lv_iconst (v := 1) hx hb dX4_sweep_146 rfl ?_
              refine lv_iload hx hb dX4_sweep_147 (lv_at hl 10 rfl) ?_
              refine qVv (As := [.int 1, .int (nI j)]) (rest := []) hx hb hml hown hts (kX4_cause l g ((pulS y (10 + ix (inH z)) (a + nI (if j ≤ lastF a b st then j else 2 * lastF a b st - j) * (if b < a then -st else st)) w).2) (upd (upd (upd rr 0 (uF (opS y (10 + ix (inH z)) (a + nI (if j ≤ lastF a b st then j else 2 * lastF a b st - j) * (if b < a then -st else st))) (10 + ix (inH z)) (a + nI (if j ≤ lastF a b st then j else 2 * lastF a b st - j) * (if b < a then -st else st)))) 1 (ruF (opS y (10 + ix (inH z)) (a + nI (if j ≤ lastF a b st then j else 2 * lastF a b st - j) * (if b < a then -st else st))) (10 + ix (inH z)) (uF (opS y (10 + ix (inH z)) (a + nI (if j ≤ lastF a b st then j else 2 * lastF a b st - j) * (if b < a then -st else st))) (10 + ix (inH z)) (a + nI (if j ≤ lastF a b st then j else 2 * lastF a b st - j) * (if b < a then -st else st))) (a + nI (if j ≤ lastF a b st then j else 2 * lastF a b st - j) * (if b < a then -st else st)))) 2 (thF y (10 + ix (inH z)) (a + nI (if j ≤ lastF a b st then j else 2 * lastF a b st - j) * (if b < a then -st else st)) w)) hj 1 (nI j) (by rw [h4q]; decide) hIq.2.2.2.2.1) gX4_sweep_X4_cause rfl 2 hdX4_cause rfl ⟨Nat.le_of_ble_eq_true rfl, Nat.le_of_ble_eq_true rfl⟩ ⟨Nat.zero_le _, Nat.zero_le _⟩ hK hP hS (fun _ h => h) 0 4 rfl rfl rfl hl.1 rfl (Nat.le_of_ble_eq_true rfl) dX4_sweep_149 (fun H locs hP hS => ?_)
              refine lv_aload_n hx hb dX4_sweep_152 rfl (lv_at hl 1 rfl) ?_
              refine lv_iconst (v := 2) hx hb dX4_sweep_153 rfl ?_
              refine lv_aload_n hx hb dX4_sweep_154 rfl (lv_at hl 1 rfl) ?_
              refine qVi (As := []) (rest := [.int 2, .ref (am 0)]) hx hb hml hown hts (kX4_inHand l g (putS ((pulS y (10 + ix (inH z)) (a + nI (if j ≤ lastF a b st then j else 2 * lastF a b st - j) * (if b < a then -st else st)) w).2) 1 (nI j)) (upd (upd (upd rr 0 (uF (opS y (10 + ix (inH z)) (a + nI (if j ≤ lastF a b st then j else 2 * lastF a b st - j) * (if b < a then -st else st))) (10 + ix (inH z)) (a + nI (if j ≤ lastF a b st then j else 2 * lastF a b st - j) * (if b < a then -st else st)))) 1 (ruF (opS y (10 + ix (inH z)) (a + nI (if j ≤ lastF a b st then j else 2 * lastF a b st - j) * (if b < a then -st else st))) (10 + ix (inH z)) (uF (opS y (10 + ix (inH z)) (a + nI (if j ≤ lastF a b st then j else 2 * lastF a b st - j) * (if b < a then -st else st))) (10 + ix (inH z)) (a + nI (if j ≤ lastF a b st then j else 2 * lastF a b st - j) * (if b < a then -st else st))) (a + nI (if j ≤ lastF a b st then j else 2 * lastF a b st - j) * (if b < a then -st else st)))) 2 (thF y (10 + ix (inH z)) (a + nI (if j ≤ lastF a b st then j else 2 * lastF a b st - j) * (if b < a then -st else st)) w)) hj (inv_put hIq _ _)) gX4_sweep_X4_inHand rfl 0 hdX4_inHand rfl ⟨Nat.le_of_ble_eq_true rfl, Nat.le_of_ble_eq_true rfl⟩ ⟨Nat.zero_le _, Nat.zero_le _⟩ hK hP hS (fun _ h => h) 0 4 rfl rfl rfl hl.1 rfl (Nat.le_of_ble_eq_true rfl) dX4_sweep_155 (fun H locs hP hS => ?_)
              refine lv_nm (y := inH z) ((inH_congr (put_keep _ _)).trans hinq) ?_
              refine qVv (As := [.int 2, .int (inH z)]) (rest := []) hx hb hml hown hts (kX4_cause l g (putS ((pulS y (10 + ix (inH z)) (a + nI (if j ≤ lastF a b st then j else 2 * lastF a b st - j) * (if b < a then -st else st)) w).2) 1 (nI j)) (upd (upd (upd rr 0 (uF (opS y (10 + ix (inH z)) (a + nI (if j ≤ lastF a b st then j else 2 * lastF a b st - j) * (if b < a then -st else st))) (10 + ix (inH z)) (a + nI (if j ≤ lastF a b st then j else 2 * lastF a b st - j) * (if b < a then -st else st)))) 1 (ruF (opS y (10 + ix (inH z)) (a + nI (if j ≤ lastF a b st then j else 2 * lastF a b st - j) * (if b < a then -st else st))) (10 + ix (inH z)) (uF (opS y (10 + ix (inH z)) (a + nI (if j ≤ lastF a b st then j else 2 * lastF a b st - j) * (if b < a then -st else st))) (10 + ix (inH z)) (a + nI (if j ≤ lastF a b st then j else 2 * lastF a b st - j) * (if b < a then -st else st))) (a + nI (if j ≤ lastF a b st then j else 2 * lastF a b st - j) * (if b < a then -st else st)))) 2 (thF y (10 + ix (inH z)) (a + nI (if j ≤ lastF a b st then j else 2 * lastF a b st - j) * (if b < a then -st else st)) w)) hj 2 (inH z) (by rw [put_4 (by rw [h4q]; decide), h4q]; decide) (inv_put hIq _ _).2.2.2.2.1) gX4_sweep_X4_cause rfl 2 hdX4_cause rfl ⟨Nat.le_of_ble_eq_true rfl, Nat.le_of_ble_eq_true rfl⟩ ⟨Nat.zero_le _, Nat.zero_le _⟩ hK hP hS (fun _ h => h) 0 4 rfl rfl rfl hl.1 rfl (Nat.le_of_ble_eq_true rfl) dX4_sweep_158 (fun H locs hP hS => ?_)
              refine lv_aload_n hx hb dX4_sweep_161 rfl (lv_at hl 1 rfl) ?_
              refine lv_iconst (v := 3) hx hb dX4_sweep_162 rfl ?_
              refine lv_aload_n hx hb dX4_sweep_163 rfl (lv_at hl 1 rfl) ?_
              refine qGet (ci := 4) (v := .int ((upd (upd (upd rr 0 (uF (opS y (10 + ix (inH z)) (a + nI (if j ≤ lastF a b st then j else 2 * lastF a b st - j) * (if b < a then -st else st))) (10 + ix (inH z)) (a + nI (if j ≤ lastF a b st then j else 2 * lastF a b st - j) * (if b < a then -st else st)))) 1 (ruF (opS y (10 + ix (inH z)) (a + nI (if j ≤ lastF a b st then j else 2 * lastF a b st - j) * (if b < a then -st else st))) (10 + ix (inH z)) (uF (opS y (10 + ix (inH z)) (a + nI (if j ≤ lastF a b st then j else 2 * lastF a b st - j) * (if b < a then -st else st))) (10 + ix (inH z)) (a + nI (if j ≤ lastF a b st then j else 2 * lastF a b st - j) * (if b < a then -st else st))) (a + nI (if j ≤ lastF a b st then j else 2 * lastF a b st - j) * (if b < a then -st else st)))) 2 (thF y (10 + ix (inH z)) (a + nI (if j ≤ lastF a b st then j else 2 * lastF a b st - j) * (if b < a then -st else st)) w)) 2)) (C := RX4) (T := TX4) (N := 25) hx hb hts hin4 hown hK hP 0 rfl rfl 24 (by decide) (hts (.fieldLink RX4 151 "PartCurvesModel" "tooHot" "I") (by decide +kernel)) (by simp [pF, zu, upd]) dX4_sweep_164 ?_
              refine lv_nm (y := (pulS y (10 + ix (inH z)) (a + nI (if j ≤ lastF a b st then j else 2 * lastF a b st - j) * (if b < a then -st else st)) w).1) (hth.2) ?_
              refine qVv (As := [.int 3, .int ((pulS y (10 + ix (inH z)) (a + nI (if j ≤ lastF a b st then j else 2 * lastF a b st - j) * (if b < a then -st else st)) w).1)]) (rest := []) hx hb hml hown hts (kX4_cause l g (putS (putS ((pulS y (10 + ix (inH z)) (a + nI (if j ≤ lastF a b st then j else 2 * lastF a b st - j) * (if b < a then -st else st)) w).2) 1 (nI j)) 2 (inH z)) (upd (upd (upd rr 0 (uF (opS y (10 + ix (inH z)) (a + nI (if j ≤ lastF a b st then j else 2 * lastF a b st - j) * (if b < a then -st else st))) (10 + ix (inH z)) (a + nI (if j ≤ lastF a b st then j else 2 * lastF a b st - j) * (if b < a then -st else st)))) 1 (ruF (opS y (10 + ix (inH z)) (a + nI (if j ≤ lastF a b st then j else 2 * lastF a b st - j) * (if b < a then -st else st))) (10 + ix (inH z)) (uF (opS y (10 + ix (inH z)) (a + nI (if j ≤ lastF a b st then j else 2 * lastF a b st - j) * (if b < a then -st else st))) (10 + ix (inH z)) (a + nI (if j ≤ lastF a b st then j else 2 * lastF a b st - j) * (if b < a then -st else st))) (a + nI (if j ≤ lastF a b st then j else 2 * lastF a b st - j) * (if b < a then -st else st)))) 2 (thF y (10 + ix (inH z)) (a + nI (if j ≤ lastF a b st then j else 2 * lastF a b st - j) * (if b < a then -st else st)) w)) hj 3 ((pulS y (10 + ix (inH z)) (a + nI (if j ≤ lastF a b st then j else 2 * lastF a b st - j) * (if b < a then -st else st)) w).1) (by rw [put_4 (by rw [put_4 (by rw [h4q]; decide), h4q]; decide), put_4 (by rw [h4q]; decide), h4q]; decide) (inv_put (inv_put hIq _ _) _ _).2.2.2.2.1) gX4_sweep_X4_cause rfl 2 hdX4_cause rfl ⟨Nat.le_of_ble_eq_true rfl, Nat.le_of_ble_eq_true rfl⟩ ⟨Nat.zero_le _, Nat.zero_le _⟩ hK hP hS (fun _ h => h) 0 4 rfl rfl rfl hl.1 rfl (Nat.le_of_ble_eq_true rfl) dX4_sweep_167 (fun H locs hP hS => ?_)
              refine lv_bipush (v := -100) hx hb dX4_sweep_170 (by decide) ?_
              refine lv_iload hx hb dX4_sweep_172 (lv_at hl 10 rfl) ?_
              refine lv_iconst (v := 1) hx hb dX4_sweep_174 rfl ?_
              refine lv_iadd hx hb dX4_sweep_175 ?_
              refine lv_isub hx hb dX4_sweep_176 ?_
              exact qRiE hx hb hr hlk hP hK hS dX4_sweep_177 (by rw [← hz, swR, if_pos hth.1]) (by rw [← hz, swR, if_pos hth.1] <;> rfl)
          · -- 113 not taken
            have c_113n := i_le_f c_113
            refine lv_iload_n hx hb dX4_sweep_116 rfl (lv_at hl 2 rfl) ?_
            refine lv_iload_n hx hb dX4_sweep_117 rfl (lv_at hl 4 rfl) ?_
            refine lv_iload hx hb dX4_sweep_118 (lv_at hl 0 rfl) ?_
            refine lv_imul hx hb dX4_sweep_120 ?_
            refine lv_isub hx hb dX4_sweep_121 ?_
            refine lv_goto (tgt := 131) hx hb dX4_sweep_122 (by decide) ?_
            refine lv_nm (y := a + nI (if j ≤ lastF a b st then j else 2 * lastF a b st - j) * (if b < a then -st else st)) (vM_n c_113n) ?_
            refine lv_iload hx hb dX4_sweep_131 (lv_at hl 5 rfl) ?_
            refine qVv (As := [.int (a + nI (if j ≤ lastF a b st then j else 2 * lastF a b st - j) * (if b < a then -st else st)), .int w]) (rest := []) hx hb hml hown hts (kX4_pulses l g y rr hj hIy (inH z) hiny hne (a + nI (if j ≤ lastF a b st then j else 2 * lastF a b st - j) * (if b < a then -st else st)) w hV hsw6.2.2.2.1 hnr.1) gX4_sweep_X4_pulses rfl 2 hdX4_pulses rfl ⟨Nat.le_of_ble_eq_true rfl, Nat.le_of_ble_eq_true rfl⟩ ⟨Nat.zero_le _, Nat.zero_le _⟩ hK hP hS (fun _ h => h) 0 4 rfl rfl rfl hl.1 rfl (Nat.le_of_ble_eq_true rfl) dX4_sweep_133 (fun H locs hP hS => ?_)
            have hIq := inv_pulS hIy hp4 hV hsw6.2.2.2.1 hnr.1
            have hlq := pulS_low (z := y) (i := ix (inH z)) (a + nI (if j ≤ lastF a b st then j else 2 * lastF a b st - j) * (if b < a then -st else st)) w
            have h4q : (pulS y (10 + ix (inH z)) (a + nI (if j ≤ lastF a b st then j else 2 * lastF a b st - j) * (if b < a then -st else st)) w).2 0 4 = 0 := by rw [hlq.2.2]; exact hy4
            have hinq : inH (pulS y (10 + ix (inH z)) (a + nI (if j ≤ lastF a b st then j else 2 * lastF a b st - j) * (if b < a then -st else st)) w).2 = inH z := (inH_congr hlq.1).trans hiny
            refine lv_aload_n hx hb dX4_sweep_136 rfl (lv_at hl 1 rfl) ?_
            refine qGet (ci := 4) (v := .int (thF y (10 + ix (inH z)) (a + nI (if j ≤ lastF a b st then j else 2 * lastF a b st - j) * (if b < a then -st else st)) w)) (C := RX4) (T := TX4) (N := 25) hx hb hts hin4 hown hK hP 0 rfl rfl 24 (by decide) (hts (.fieldLink RX4 151 "PartCurvesModel" "tooHot" "I") (by decide +kernel)) (by simp [pF, zu, upd]) dX4_sweep_137 ?_
            refine lv_bipush (v := -9) hx hb dX4_sweep_140 (by decide) ?_
            refine lv_icmp_eq (tgt := 178) hx hb dX4_sweep_142 (by decide) (fun c_142 => ?_) (fun c_142 => ?_)
            · -- 142 taken
              refine lv_aload_n hx hb dX4_sweep_178 rfl (lv_at hl 1 rfl) ?_
              refine lv_iload hx hb dX4_sweep_179 (lv_at hl 6 rfl) ?_
              refine lv_nm (y := nI (ix n)) (hn2) ?_
              refine qVv (As := [.int (nI (ix n))]) (rest := []) hx hb hml hown hts (kX4_rests l g ((pulS y (10 + ix (inH z)) (a + nI (if j ≤ lastF a b st then j else 2 * lastF a b st - j) * (if b < a then -st else st)) w).2) (upd (upd (upd rr 0 (uF (opS y (10 + ix (inH z)) (a + nI (if j ≤ lastF a b st then j else 2 * lastF a b st - j) * (if b < a then -st else st))) (10 + ix (inH z)) (a + nI (if j ≤ lastF a b st then j else 2 * lastF a b st - j) * (if b < a then -st else st)))) 1 (ruF (opS y (10 + ix (inH z)) (a + nI (if j ≤ lastF a b st then j else 2 * lastF a b st - j) * (if b < a then -st else st))) (10 + ix (inH z)) (uF (opS y (10 + ix (inH z)) (a + nI (if j ≤ lastF a b st then j else 2 * lastF a b st - j) * (if b < a then -st else st))) (10 + ix (inH z)) (a + nI (if j ≤ lastF a b st then j else 2 * lastF a b st - j) * (if b < a then -st else st))) (a + nI (if j ≤ lastF a b st then j else 2 * lastF a b st - j) * (if b < a then -st else st)))) 2 (thF y (10 + ix (inH z)) (a + nI (if j ≤ lastF a b st then j else 2 * lastF a b st - j) * (if b < a then -st else st)) w)) hj (ix n) hn1) gX4_sweep_X4_rests rfl 1 hdX4_rests rfl ⟨Nat.le_of_ble_eq_true rfl, Nat.le_of_ble_eq_true rfl⟩ ⟨Nat.zero_le _, Nat.zero_le _⟩ hK hP hS (fun _ h => h) 0 4 rfl rfl rfl hl.1 rfl (Nat.le_of_ble_eq_true rfl) dX4_sweep_181 (fun H locs hP hS => ?_)
              refine lv_iinc (v := nI (j + 1)) (lv' := [(9, .int (nI (j + 1))), (10, .int (nI (if j ≤ lastF a b st then j else 2 * lastF a b st - j))), (0, .ref (am 0)), (1, .int a), (2, .int b), (3, .int st), (4, .int w), (5, .int n), (6, .int back), (7, .int (nI (lastF a b st + 1))), (8, .int (nI (allF a b st back)))]) hx hb dX4_sweep_184 hl (k := 10) rfl (nI_1 j) (by decide) rfl (fun ls hl => ?_)
              refine lv_goto (tgt := 82) hx hb dX4_sweep_187 (by decide) ?_
              exact ih (j + 1) _ _ hsw hpw (by omega) (inv_coolA hIq _).1 (by rw [(inv_coolA hIq _).2.2 0 (by omega), hlq.2.1]; exact hnr.2) ((inv_coolA hIq _).2.1.tr (hlq.1.tr hky)) (by rw [cool_4 hIq]; exact h4q) (by rw [← hz, swR, if_neg (th_0 c_142)]) _ _ hP hS ls (lv_sub hl [2, 3, 4, 5, 6, 7, 8, 9, 10, 0] rfl)
            · -- 142 not taken
              have hth := th_1 c_142
              refine lv_aload_n hx hb dX4_sweep_145 rfl (lv_at hl 1 rfl) ?_
              refine lv_iconst (v := 1) hx hb dX4_sweep_146 rfl ?_
              refine lv_iload hx hb dX4_sweep_147 (lv_at hl 10 rfl) ?_
              refine qVv (As := [.int 1, .int (nI j)]) (rest := []) hx hb hml hown hts (kX4_cause l g ((pulS y (10 + ix (inH z)) (a + nI (if j ≤ lastF a b st then j else 2 * lastF a b st - j) * (if b < a then -st else st)) w).2) (upd (upd (upd rr 0 (uF (opS y (10 + ix (inH z)) (a + nI (if j ≤ lastF a b st then j else 2 * lastF a b st - j) * (if b < a then -st else st))) (10 + ix (inH z)) (a + nI (if j ≤ lastF a b st then j else 2 * lastF a b st - j) * (if b < a then -st else st)))) 1 (ruF (opS y (10 + ix (inH z)) (a + nI (if j ≤ lastF a b st then j else 2 * lastF a b st - j) * (if b < a then -st else st))) (10 + ix (inH z)) (uF (opS y (10 + ix (inH z)) (a + nI (if j ≤ lastF a b st then j else 2 * lastF a b st - j) * (if b < a then -st else st))) (10 + ix (inH z)) (a + nI (if j ≤ lastF a b st then j else 2 * lastF a b st - j) * (if b < a then -st else st))) (a + nI (if j ≤ lastF a b st then j else 2 * lastF a b st - j) * (if b < a then -st else st)))) 2 (thF y (10 + ix (inH z)) (a + nI (if j ≤ lastF a b st then j else 2 * lastF a b st - j) * (if b < a then -st else st)) w)) hj 1 (nI j) (by rw [h4q]; decide) hIq.2.2.2.2.1) gX4_sweep_X4_cause rfl 2 hdX4_cause rfl ⟨Nat.le_of_ble_eq_true rfl, Nat.le_of_ble_eq_true rfl⟩ ⟨Nat.zero_le _, Nat.zero_le _⟩ hK hP hS (fun _ h => h) 0 4 rfl rfl rfl hl.1 rfl (Nat.le_of_ble_eq_true rfl) dX4_sweep_149 (fun H locs hP hS => ?_)
              refine lv_aload_n hx hb dX4_sweep_152 rfl (lv_at hl 1 rfl) ?_
              refine lv_iconst (v := 2) hx hb dX4_sweep_153 rfl ?_
              refine lv_aload_n hx hb dX4_sweep_154 rfl (lv_at hl 1 rfl) ?_
              refine qVi (As := []) (rest := [.int 2, .ref (am 0)]) hx hb hml hown hts (kX4_inHand l g (putS ((pulS y (10 + ix (inH z)) (a + nI (if j ≤ lastF a b st then j else 2 * lastF a b st - j) * (if b < a then -st else st)) w).2) 1 (nI j)) (upd (upd (upd rr 0 (uF (opS y (10 + ix (inH z)) (a + nI (if j ≤ lastF a b st then j else 2 * lastF a b st - j) * (if b < a then -st else st))) (10 + ix (inH z)) (a + nI (if j ≤ lastF a b st then j else 2 * lastF a b st - j) * (if b < a then -st else st)))) 1 (ruF (opS y (10 + ix (inH z)) (a + nI (if j ≤ lastF a b st then j else 2 * lastF a b st - j) * (if b < a then -st else st))) (10 + ix (inH z)) (uF (opS y (10 + ix (inH z)) (a + nI (if j ≤ lastF a b st then j else 2 * lastF a b st - j) * (if b < a then -st else st))) (10 + ix (inH z)) (a + nI (if j ≤ lastF a b st then j else 2 * lastF a b st - j) * (if b < a then -st else st))) (a + nI (if j ≤ lastF a b st then j else 2 * lastF a b st - j) * (if b < a then -st else st)))) 2 (thF y (10 + ix (inH z)) (a + nI (if j ≤ lastF a b st then j else 2 * lastF a b st - j) * (if b < a then -st else st)) w)) hj (inv_put hIq _ _)) gX4_sweep_X4_inHand rfl 0 hdX4_inHand rfl ⟨Nat.le_of_ble_eq_true rfl, Nat.le_of_ble_eq_true rfl⟩ ⟨Nat.zero_le _, Nat.zero_le _⟩ hK hP hS (fun _ h => h) 0 4 rfl rfl rfl hl.1 rfl (Nat.le_of_ble_eq_true rfl) dX4_sweep_155 (fun H locs hP hS => ?_)
              refine lv_nm (y := inH z) ((inH_congr (put_keep _ _)).trans hinq) ?_
              refine qVv (As := [.int 2, .int (inH z)]) (rest := []) hx hb hml hown hts (kX4_cause l g (putS ((pulS y (10 + ix (inH z)) (a + nI (if j ≤ lastF a b st then j else 2 * lastF a b st - j) * (if b < a then -st else st)) w).2) 1 (nI j)) (upd (upd (upd rr 0 (uF (opS y (10 + ix (inH z)) (a + nI (if j ≤ lastF a b st then j else 2 * lastF a b st - j) * (if b < a then -st else st))) (10 + ix (inH z)) (a + nI (if j ≤ lastF a b st then j else 2 * lastF a b st - j) * (if b < a then -st else st)))) 1 (ruF (opS y (10 + ix (inH z)) (a + nI (if j ≤ lastF a b st then j else 2 * lastF a b st - j) * (if b < a then -st else st))) (10 + ix (inH z)) (uF (opS y (10 + ix (inH z)) (a + nI (if j ≤ lastF a b st then j else 2 * lastF a b st - j) * (if b < a then -st else st))) (10 + ix (inH z)) (a + nI (if j ≤ lastF a b st then j else 2 * lastF a b st - j) * (if b < a then -st else st))) (a + nI (if j ≤ lastF a b st then j else 2 * lastF a b st - j) * (if b < a then -st else st)))) 2 (thF y (10 + ix (inH z)) (a + nI (if j ≤ lastF a b st then j else 2 * lastF a b st - j) * (if b < a then -st else st)) w)) hj 2 (inH z) (by rw [put_4 (by rw [h4q]; decide), h4q]; decide) (inv_put hIq _ _).2.2.2.2.1) gX4_sweep_X4_cause rfl 2 hdX4_cause rfl ⟨Nat.le_of_ble_eq_true rfl, Nat.le_of_ble_eq_true rfl⟩ ⟨Nat.zero_le _, Nat.zero_le _⟩ hK hP hS (fun _ h => h) 0 4 rfl rfl rfl hl.1 rfl (Nat.le_of_ble_eq_true rfl) dX4_sweep_158 (fun H locs hP hS => ?_)
              refine lv_aload_n hx hb dX4_sweep_161 rfl (lv_at hl 1 rfl) ?_
              refine lv_iconst (v := 3) hx hb dX4_sweep_162 rfl ?_
              refine lv_aload_n hx hb dX4_sweep_163 rfl (lv_at hl 1 rfl) ?_
              refine qGet (ci := 4) (v := .int ((upd (upd (upd rr 0 (uF (opS y (10 + ix (inH z)) (a + nI (if j ≤ lastF a b st then j else 2 * lastF a b st - j) * (if b < a then -st else st))) (10 + ix (inH z)) (a + nI (if j ≤ lastF a b st then j else 2 * lastF a b st - j) * (if b < a then -st else st)))) 1 (ruF (opS y (10 + ix (inH z)) (a + nI (if j ≤ lastF a b st then j else 2 * lastF a b st - j) * (if b < a then -st else st))) (10 + ix (inH z)) (uF (opS y (10 + ix (inH z)) (a + nI (if j ≤ lastF a b st then j else 2 * lastF a b st - j) * (if b < a then -st else st))) (10 + ix (inH z)) (a + nI (if j ≤ lastF a b st then j else 2 * lastF a b st - j) * (if b < a then -st else st))) (a + nI (if j ≤ lastF a b st then j else 2 * lastF a b st - j) * (if b < a then -st else st)))) 2 (thF y (10 + ix (inH z)) (a + nI (if j ≤ lastF a b st then j else 2 * lastF a b st - j) * (if b < a then -st else st)) w)) 2)) (C := RX4) (T := TX4) (N := 25) hx hb hts hin4 hown hK hP 0 rfl rfl 24 (by decide) (hts (.fieldLink RX4 151 "PartCurvesModel" "tooHot" "I") (by decide +kernel)) (by simp [pF, zu, upd]) dX4_sweep_164 ?_
              refine lv_nm (y := (pulS y (10 + ix (inH z)) (a + nI (if j ≤ lastF a b st then j else 2 * lastF a b st - j) * (if b < a then -st else st)) w).1) (hth.2) ?_
              refine qVv (As := [.int 3, .int ((pulS y (10 + ix (inH z)) (a + nI (if j ≤ lastF a b st then j else 2 * lastF a b st - j) * (if b < a then -st else st)) w).1)]) (rest := []) hx hb hml hown hts (kX4_cause l g (putS (putS ((pulS y (10 + ix (inH z)) (a + nI (if j ≤ lastF a b st then j else 2 * lastF a b st - j) * (if b < a then -st else st)) w).2) 1 (nI j)) 2 (inH z)) (upd (upd (upd rr 0 (uF (opS y (10 + ix (inH z)) (a + nI (if j ≤ lastF a b st then j else 2 * lastF a b st - j) * (if b < a then -st else st))) (10 + ix (inH z)) (a + nI (if j ≤ lastF a b st then j else 2 * lastF a b st - j) * (if b < a then -st else st)))) 1 (ruF (opS y (10 + ix (inH z)) (a + nI (if j ≤ lastF a b st then j else 2 * lastF a b st - j) * (if b < a then -st else st))) (10 + ix (inH z)) (uF (opS y (10 + ix (inH z)) (a + nI (if j ≤ lastF a b st then j else 2 * lastF a b st - j) * (if b < a then -st else st))) (10 + ix (inH z)) (a + nI (if j ≤ lastF a b st then j else 2 * lastF a b st - j) * (if b < a then -st else st))) (a + nI (if j ≤ lastF a b st then j else 2 * lastF a b st - j) * (if b < a then -st else st)))) 2 (thF y (10 + ix (inH z)) (a + nI (if j ≤ lastF a b st then j else 2 * lastF a b st - j) * (if b < a then -st else st)) w)) hj 3 ((pulS y (10 + ix (inH z)) (a + nI (if j ≤ lastF a b st then j else 2 * lastF a b st - j) * (if b < a then -st else st)) w).1) (by rw [put_4 (by rw [put_4 (by rw [h4q]; decide), h4q]; decide), put_4 (by rw [h4q]; decide), h4q]; decide) (inv_put (inv_put hIq _ _) _ _).2.2.2.2.1) gX4_sweep_X4_cause rfl 2 hdX4_cause rfl ⟨Nat.le_of_ble_eq_true rfl, Nat.le_of_ble_eq_true rfl⟩ ⟨Nat.zero_le _, Nat.zero_le _⟩ hK hP hS (fun _ h => h) 0 4 rfl rfl rfl hl.1 rfl (Nat.le_of_ble_eq_true rfl) dX4_sweep_167 (fun H locs hP hS => ?_)
              refine lv_bipush (v := -100) hx hb dX4_sweep_170 (by decide) ?_
              refine lv_iload hx hb dX4_sweep_172 (lv_at hl 10 rfl) ?_
              refine lv_iconst (v := 1) hx hb dX4_sweep_174 rfl ?_
              refine lv_iadd hx hb dX4_sweep_175 ?_
              refine lv_isub hx hb dX4_sweep_176 ?_
              exact qRiE hx hb hr hlk hP hK hS dX4_sweep_177 (by rw [← hz, swR, if_pos hth.1]) (by rw [← hz, swR, if_pos hth.1] <;> rfl)
        · -- 93 not taken
          have c_93n := i_le_f c_93
          refine lv_iload hx hb dX4_sweep_96 (lv_at hl 9 rfl) ?_
          refine lv_goto (tgt := 108) hx hb dX4_sweep_98 (by decide) ?_
          refine lv_nm (y := nI (if j ≤ lastF a b st then j else 2 * lastF a b st - j)) (at_M1 (nI_lt' (by omega) (by omega) c_93)) ?_
          have hV := (sw_v hsw6.1 hsw6.2.1 hsw6.2.2.1 (k := if j ≤ lastF a b st then j else 2 * lastF a b st - j) (by split <;> omega)).1
          refine lv_istore (lv' := [(10, .int (nI (if j ≤ lastF a b st then j else 2 * lastF a b st - j))), (0, .ref (am 0)), (1, .int a), (2, .int b), (3, .int st), (4, .int w), (5, .int n), (6, .int back), (7, .int (nI (lastF a b st + 1))), (8, .int (nI (allF a b st back))), (9, .int (nI j))]) hx hb dX4_sweep_108 hl (by decide) rfl (fun ls hl => ?_)
          refine lv_aload_n hx hb dX4_sweep_110 rfl (lv_at hl 1 rfl) ?_
          refine lv_iload_n hx hb dX4_sweep_111 rfl (lv_at hl 3 rfl) ?_
          refine lv_iload_n hx hb dX4_sweep_112 rfl (lv_at hl 2 rfl) ?_
          refine lv_icmp_ge (tgt := 125) hx hb dX4_sweep_113 (by decide) (fun c_113 => ?_) (fun c_113 => ?_)
          · -- 113 taken
            have c_113n := i_le_t c_113
            refine lv_iload_n hx hb dX4_sweep_125 rfl (lv_at hl 2 rfl) ?_
            refine lv_iload_n hx hb dX4_sweep_126 rfl (lv_at hl 4 rfl) ?_
            refine lv_iload hx hb dX4_sweep_127 (lv_at hl 0 rfl) ?_
            refine lv_imul hx hb dX4_sweep_129 ?_
            refine lv_iadd hx hb dX4_sweep_130 ?_
            refine lv_nm (y := a + nI (if j ≤ lastF a b st then j else 2 * lastF a b st - j) * (if b < a then -st else st)) (vM_p c_113n) ?_
            refine lv_iload hx hb dX4_sweep_131 (lv_at hl 5 rfl) ?_
            refine qVv (As := [.int (a + nI (if j ≤ lastF a b st then j else 2 * lastF a b st - j) * (if b < a then -st else st)), .int w]) (rest := []) hx hb hml hown hts (kX4_pulses l g y rr hj hIy (inH z) hiny hne (a + nI (if j ≤ lastF a b st then j else 2 * lastF a b st - j) * (if b < a then -st else st)) w hV hsw6.2.2.2.1 hnr.1) gX4_sweep_X4_pulses rfl 2 hdX4_pulses rfl ⟨Nat.le_of_ble_eq_true rfl, Nat.le_of_ble_eq_true rfl⟩ ⟨Nat.zero_le _, Nat.zero_le _⟩ hK hP hS (fun _ h => h) 0 4 rfl rfl rfl hl.1 rfl (Nat.le_of_ble_eq_true rfl) dX4_sweep_133 (fun H locs hP hS => ?_)
            have hIq := inv_pulS hIy hp4 hV hsw6.2.2.2.1 hnr.1
            have hlq := pulS_low (z := y) (i := ix (inH z)) (a + nI (if j ≤ lastF a b st then j else 2 * lastF a b st - j) * (if b < a then -st else st)) w
            have h4q : (pulS y (10 + ix (inH z)) (a + nI (if j ≤ lastF a b st then j else 2 * lastF a b st - j) * (if b < a then -st else st)) w).2 0 4 = 0 := by rw [hlq.2.2]; exact hy4
            have hinq : inH (pulS y (10 + ix (inH z)) (a + nI (if j ≤ lastF a b st then j else 2 * lastF a b st - j) * (if b < a then -st else st)) w).2 = inH z := (inH_congr hlq.1).trans hiny
            refine lv_aload_n hx hb dX4_sweep_136 rfl (lv_at hl 1 rfl) ?_
            refine qGet (ci := 4) (v := .int (thF y (10 + ix (inH z)) (a + nI (if j ≤ lastF a b st then j else 2 * lastF a b st - j) * (if b < a then -st else st)) w)) (C := RX4) (T := TX4) (N := 25) hx hb hts hin4 hown hK hP 0 rfl rfl 24 (by decide) (hts (.fieldLink RX4 151 "PartCurvesModel" "tooHot" "I") (by decide +kernel)) (by simp [pF, zu, upd]) dX4_sweep_137 ?_
            refine lv_bipush (v := -9) hx hb dX4_sweep_140 (by decide) ?_
            refine lv_icmp_eq (tgt := 178) hx hb dX4_sweep_142 (by decide) (fun c_142 => ?_) (fun c_142 => ?_)
            · -- 142 taken
              refine lv_aload_n hx hb dX4_sweep_178 rfl (lv_at hl 1 rfl) ?_
              refine lv_iload hx hb dX4_sweep_179 (lv_at hl 6 rfl) ?_
              refine lv_nm (y := nI (ix n)) (hn2) ?_
              refine qVv (As := [.int (nI (ix n))]) (rest := []) hx hb hml hown hts (kX4_rests l g ((pulS y (10 + ix (inH z)) (a + nI (if j ≤ lastF a b st then j else 2 * lastF a b st - j) * (if b < a then -st else st)) w).2) (upd (upd (upd rr 0 (uF (opS y (10 + ix (inH z)) (a + nI (if j ≤ lastF a b st then j else 2 * lastF a b st - j) * (if b < a then -st else st))) (10 + ix (inH z)) (a + nI (if j ≤ lastF a b st then j else 2 * lastF a b st - j) * (if b < a then -st else st)))) 1 (ruF (opS y (10 + ix (inH z)) (a + nI (if j ≤ lastF a b st then j else 2 * lastF a b st - j) * (if b < a then -st else st))) (10 + ix (inH z)) (uF (opS y (10 + ix (inH z)) (a + nI (if j ≤ lastF a b st then j else 2 * lastF a b st - j) * (if b < a then -st else st))) (10 + ix (inH z)) (a + nI (if j ≤ lastF a b st then j else 2 * lastF a b st - j) * (if b < a then -st else st))) (a + nI (if j ≤ lastF a b st then j else 2 * lastF a b st - j) * (if b < a then -st else st)))) 2 (thF y (10 + ix (inH z)) (a + nI (if j ≤ lastF a b st then j else 2 * lastF a b st - j) * (if b < a then -st else st)) w)) hj (ix n) hn1) gX4_sweep_X4_rests rfl 1 hdX4_rests rfl ⟨Nat.le_of_ble_eq_true rfl, Nat.le_of_ble_eq_true rfl⟩ ⟨Nat.zero_le _, Nat.zero_le _⟩ hK hP hS (fun _ h => h) 0 4 rfl rfl rfl hl.1 rfl (Nat.le_of_ble_eq_true rfl) dX4_sweep_181 (fun H locs hP hS => ?_)
              refine lv_iinc (v := nI (j + 1)) (lv' := [(9, .int (nI (j + 1))), (10, .int (nI (if j ≤ lastF a b st then j else 2 * lastF a b st - j))), (0, .ref (am 0)), (1, .int a), (2, .int b), (3, .int st), (4, .int w), (5, .int n), (6, .int back), (7, .int (nI (lastF a b st + 1))), (8, .int (nI (allF a b st back)))]) hx hb dX4_sweep_184 hl (k := 10) rfl (nI_1 j) (by decide) rfl (fun ls hl => ?_)
              refine lv_goto (tgt := 82) hx hb dX4_sweep_187 (by decide) ?_
              exact ih (j + 1) _ _ hsw hpw (by omega) (inv_coolA hIq _).1 (by rw [(inv_coolA hIq _).2.2 0 (by omega), hlq.2.1]; exact hnr.2) ((inv_coolA hIq _).2.1.tr (hlq.1.tr hky)) (by rw [cool_4 hIq]; exact h4q) (by rw [← hz, swR, if_neg (th_0 c_142)]) _ _ hP hS ls (lv_sub hl [2, 3, 4, 5, 6, 7, 8, 9, 10, 0] rfl)
            · -- 142 not taken
              have hth := th_1 c_142
              refine lv_aload_n hx hb dX4_sweep_145 rfl (lv_at hl 1 rfl) ?_
              refine lv_iconst (v := 1) hx hb dX4_sweep_146 rfl ?_
              refine lv_iload hx hb dX4_sweep_147 (lv_at hl 10 rfl) ?_
              refine qVv (As := [.int 1, .int (nI j)]) (rest := []) hx hb hml hown hts (kX4_cause l g ((pulS y (10 + ix (inH z)) (a + nI (if j ≤ lastF a b st then j else 2 * lastF a b st - j) * (if b < a then -st else st)) w).2) (upd (upd (upd rr 0 (uF (opS y (10 + ix (inH z)) (a + nI (if j ≤ lastF a b st then j else 2 * lastF a b st - j) * (if b < a then -st else st))) (10 + ix (inH z)) (a + nI (if j ≤ lastF a b st then j else 2 * lastF a b st - j) * (if b < a then -st else st)))) 1 (ruF (opS y (10 + ix (inH z)) (a + nI (if j ≤ lastF a b st then j else 2 * lastF a b st - j) * (if b < a then -st else st))) (10 + ix (inH z)) (uF (opS y (10 + ix (inH z)) (a + nI (if j ≤ lastF a b st then j else 2 * lastF a b st - j) * (if b < a then -st else st))) (10 + ix (inH z)) (a + nI (if j ≤ lastF a b st then j else 2 * lastF a b st - j) * (if b < a then -st else st))) (a + nI (if j ≤ lastF a b st then j else 2 * lastF a b st - j) * (if b < a then -st else st)))) 2 (thF y (10 + ix (inH z)) (a + nI (if j ≤ lastF a b st then j else 2 * lastF a b st - j) * (if b < a then -st else st)) w)) hj 1 (nI j) (by rw [h4q]; decide) hIq.2.2.2.2.1) gX4_sweep_X4_cause rfl 2 hdX4_cause rfl ⟨Nat.le_of_ble_eq_true rfl, Nat.le_of_ble_eq_true rfl⟩ ⟨Nat.zero_le _, Nat.zero_le _⟩ hK hP hS (fun _ h => h) 0 4 rfl rfl rfl hl.1 rfl (Nat.le_of_ble_eq_true rfl) dX4_sweep_149 (fun H locs hP hS => ?_)
              refine lv_aload_n hx hb dX4_sweep_152 rfl (lv_at hl 1 rfl) ?_
              refine lv_iconst (v := 2) hx hb dX4_sweep_153 rfl ?_
              refine lv_aload_n hx hb dX4_sweep_154 rfl (lv_at hl 1 rfl) ?_
              refine qVi (As := []) (rest := [.int 2, .ref (am 0)]) hx hb hml hown hts (kX4_inHand l g (putS ((pulS y (10 + ix (inH z)) (a + nI (if j ≤ lastF a b st then j else 2 * lastF a b st - j) * (if b < a then -st else st)) w).2) 1 (nI j)) (upd (upd (upd rr 0 (uF (opS y (10 + ix (inH z)) (a + nI (if j ≤ lastF a b st then j else 2 * lastF a b st - j) * (if b < a then -st else st))) (10 + ix (inH z)) (a + nI (if j ≤ lastF a b st then j else 2 * lastF a b st - j) * (if b < a then -st else st)))) 1 (ruF (opS y (10 + ix (inH z)) (a + nI (if j ≤ lastF a b st then j else 2 * lastF a b st - j) * (if b < a then -st else st))) (10 + ix (inH z)) (uF (opS y (10 + ix (inH z)) (a + nI (if j ≤ lastF a b st then j else 2 * lastF a b st - j) * (if b < a then -st else st))) (10 + ix (inH z)) (a + nI (if j ≤ lastF a b st then j else 2 * lastF a b st - j) * (if b < a then -st else st))) (a + nI (if j ≤ lastF a b st then j else 2 * lastF a b st - j) * (if b < a then -st else st)))) 2 (thF y (10 + ix (inH z)) (a + nI (if j ≤ lastF a b st then j else 2 * lastF a b st - j) * (if b < a then -st else st)) w)) hj (inv_put hIq _ _)) gX4_sweep_X4_inHand rfl 0 hdX4_inHand rfl ⟨Nat.le_of_ble_eq_true rfl, Nat.le_of_ble_eq_true rfl⟩ ⟨Nat.zero_le _, Nat.zero_le _⟩ hK hP hS (fun _ h => h) 0 4 rfl rfl rfl hl.1 rfl (Nat.le_of_ble_eq_true rfl) dX4_sweep_155 (fun H locs hP hS => ?_)
              refine lv_nm (y := inH z) ((inH_congr (put_keep _ _)).trans hinq) ?_
              refine qVv (As := [.int 2, .int (inH z)]) (rest := []) hx hb hml hown hts (kX4_cause l g (putS ((pulS y (10 + ix (inH z)) (a + nI (if j ≤ lastF a b st then j else 2 * lastF a b st - j) * (if b < a then -st else st)) w).2) 1 (nI j)) (upd (upd (upd rr 0 (uF (opS y (10 + ix (inH z)) (a + nI (if j ≤ lastF a b st then j else 2 * lastF a b st - j) * (if b < a then -st else st))) (10 + ix (inH z)) (a + nI (if j ≤ lastF a b st then j else 2 * lastF a b st - j) * (if b < a then -st else st)))) 1 (ruF (opS y (10 + ix (inH z)) (a + nI (if j ≤ lastF a b st then j else 2 * lastF a b st - j) * (if b < a then -st else st))) (10 + ix (inH z)) (uF (opS y (10 + ix (inH z)) (a + nI (if j ≤ lastF a b st then j else 2 * lastF a b st - j) * (if b < a then -st else st))) (10 + ix (inH z)) (a + nI (if j ≤ lastF a b st then j else 2 * lastF a b st - j) * (if b < a then -st else st))) (a + nI (if j ≤ lastF a b st then j else 2 * lastF a b st - j) * (if b < a then -st else st)))) 2 (thF y (10 + ix (inH z)) (a + nI (if j ≤ lastF a b st then j else 2 * lastF a b st - j) * (if b < a then -st else st)) w)) hj 2 (inH z) (by rw [put_4 (by rw [h4q]; decide), h4q]; decide) (inv_put hIq _ _).2.2.2.2.1) gX4_sweep_X4_cause rfl 2 hdX4_cause rfl ⟨Nat.le_of_ble_eq_true rfl, Nat.le_of_ble_eq_true rfl⟩ ⟨Nat.zero_le _, Nat.zero_le _⟩ hK hP hS (fun _ h => h) 0 4 rfl rfl rfl hl.1 rfl (Nat.le_of_ble_eq_true rfl) dX4_sweep_158 (fun H locs hP hS => ?_)
              refine lv_aload_n hx hb dX4_sweep_161 rfl (lv_at hl 1 rfl) ?_
              refine lv_iconst (v := 3) hx hb dX4_sweep_162 rfl ?_
              refine lv_aload_n hx hb dX4_sweep_163 rfl (lv_at hl 1 rfl) ?_
              refine qGet (ci := 4) (v := .int ((upd (upd (upd rr 0 (uF (opS y (10 + ix (inH z)) (a + nI (if j ≤ lastF a b st then j else 2 * lastF a b st - j) * (if b < a then -st else st))) (10 + ix (inH z)) (a + nI (if j ≤ lastF a b st then j else 2 * lastF a b st - j) * (if b < a then -st else st)))) 1 (ruF (opS y (10 + ix (inH z)) (a + nI (if j ≤ lastF a b st then j else 2 * lastF a b st - j) * (if b < a then -st else st))) (10 + ix (inH z)) (uF (opS y (10 + ix (inH z)) (a + nI (if j ≤ lastF a b st then j else 2 * lastF a b st - j) * (if b < a then -st else st))) (10 + ix (inH z)) (a + nI (if j ≤ lastF a b st then j else 2 * lastF a b st - j) * (if b < a then -st else st))) (a + nI (if j ≤ lastF a b st then j else 2 * lastF a b st - j) * (if b < a then -st else st)))) 2 (thF y (10 + ix (inH z)) (a + nI (if j ≤ lastF a b st then j else 2 * lastF a b st - j) * (if b < a then -st else st)) w)) 2)) (C := RX4) (T := TX4) (N := 25) hx hb hts hin4 hown hK hP 0 rfl rfl 24 (by decide) (hts (.fieldLink RX4 151 "PartCurvesModel" "tooHot" "I") (by decide +kernel)) (by simp [pF, zu, upd]) dX4_sweep_164 ?_
              refine lv_nm (y := (pulS y (10 + ix (inH z)) (a + nI (if j ≤ lastF a b st then j else 2 * lastF a b st - j) * (if b < a then -st else st)) w).1) (hth.2) ?_
              refine qVv (As := [.int 3, .int ((pulS y (10 + ix (inH z)) (a + nI (if j ≤ lastF a b st then j else 2 * lastF a b st - j) * (if b < a then -st else st)) w).1)]) (rest := []) hx hb hml hown hts (kX4_cause l g (putS (putS ((pulS y (10 + ix (inH z)) (a + nI (if j ≤ lastF a b st then j else 2 * lastF a b st - j) * (if b < a then -st else st)) w).2) 1 (nI j)) 2 (inH z)) (upd (upd (upd rr 0 (uF (opS y (10 + ix (inH z)) (a + nI (if j ≤ lastF a b st then j else 2 * lastF a b st - j) * (if b < a then -st else st))) (10 + ix (inH z)) (a + nI (if j ≤ lastF a b st then j else 2 * lastF a b st - j) * (if b < a then -st else st)))) 1 (ruF (opS y (10 + ix (inH z)) (a + nI (if j ≤ lastF a b st then j else 2 * lastF a b st - j) * (if b < a then -st else st))) (10 + ix (inH z)) (uF (opS y (10 + ix (inH z)) (a + nI (if j ≤ lastF a b st then j else 2 * lastF a b st - j) * (if b < a then -st else st))) (10 + ix (inH z)) (a + nI (if j ≤ lastF a b st then j else 2 * lastF a b st - j) * (if b < a then -st else st))) (a + nI (if j ≤ lastF a b st then j else 2 * lastF a b st - j) * (if b < a then -st else st)))) 2 (thF y (10 + ix (inH z)) (a + nI (if j ≤ lastF a b st then j else 2 * lastF a b st - j) * (if b < a then -st else st)) w)) hj 3 ((pulS y (10 + ix (inH z)) (a + nI (if j ≤ lastF a b st then j else 2 * lastF a b st - j) * (if b < a then -st else st)) w).1) (by rw [put_4 (by rw [put_4 (by rw [h4q]; decide), h4q]; decide), put_4 (by rw [h4q]; decide), h4q]; decide) (inv_put (inv_put hIq _ _) _ _).2.2.2.2.1) gX4_sweep_X4_cause rfl 2 hdX4_cause rfl ⟨Nat.le_of_ble_eq_true rfl, Nat.le_of_ble_eq_true rfl⟩ ⟨Nat.zero_le _, Nat.zero_le _⟩ hK hP hS (fun _ h => h) 0 4 rfl rfl rfl hl.1 rfl (Nat.le_of_ble_eq_true rfl) dX4_sweep_167 (fun H locs hP hS => ?_)
              refine lv_bipush (v := -100) hx hb dX4_sweep_170 (by decide) ?_
              refine lv_iload hx hb dX4_sweep_172 (lv_at hl 10 rfl) ?_
              refine lv_iconst (v := 1) hx hb dX4_sweep_174 rfl ?_
              refine lv_iadd hx hb dX4_sweep_175 ?_
              refine lv_isub hx hb dX4_sweep_176 ?_
              exact qRiE hx hb hr hlk hP hK hS dX4_sweep_177 (by rw [← hz, swR, if_pos hth.1]) (by rw [← hz, swR, if_pos hth.1] <;> rfl)
          · -- 113 not taken
            have c_113n := i_le_f c_113
            refine lv_iload_n hx hb dX4_sweep_116 rfl (lv_at hl 2 rfl) ?_
            refine lv_iload_n hx hb dX4_sweep_117 rfl (lv_at hl 4 rfl) ?_
            refine lv_iload hx hb dX4_sweep_118 (lv_at hl 0 rfl) ?_
            refine lv_imul hx hb dX4_sweep_120 ?_
            refine lv_isub hx hb dX4_sweep_121 ?_
            refine lv_goto (tgt := 131) hx hb dX4_sweep_122 (by decide) ?_
            refine lv_nm (y := a + nI (if j ≤ lastF a b st then j else 2 * lastF a b st - j) * (if b < a then -st else st)) (vM_n c_113n) ?_
            refine lv_iload hx hb dX4_sweep_131 (lv_at hl 5 rfl) ?_
            refine qVv (As := [.int (a + nI (if j ≤ lastF a b st then j else 2 * lastF a b st - j) * (if b < a then -st else st)), .int w]) (rest := []) hx hb hml hown hts (kX4_pulses l g y rr hj hIy (inH z) hiny hne (a + nI (if j ≤ lastF a b st then j else 2 * lastF a b st - j) * (if b < a then -st else st)) w hV hsw6.2.2.2.1 hnr.1) gX4_sweep_X4_pulses rfl 2 hdX4_pulses rfl ⟨Nat.le_of_ble_eq_true rfl, Nat.le_of_ble_eq_true rfl⟩ ⟨Nat.zero_le _, Nat.zero_le _⟩ hK hP hS (fun _ h => h) 0 4 rfl rfl rfl hl.1 rfl (Nat.le_of_ble_eq_true rfl) dX4_sweep_133 (fun H locs hP hS => ?_)
            have hIq := inv_pulS hIy hp4 hV hsw6.2.2.2.1 hnr.1
            have hlq := pulS_low (z := y) (i := ix (inH z)) (a + nI (if j ≤ lastF a b st then j else 2 * lastF a b st - j) * (if b < a then -st else st)) w
            have h4q : (pulS y (10 + ix (inH z)) (a + nI (if j ≤ lastF a b st then j else 2 * lastF a b st - j) * (if b < a then -st else st)) w).2 0 4 = 0 := by rw [hlq.2.2]; exact hy4
            have hinq : inH (pulS y (10 + ix (inH z)) (a + nI (if j ≤ lastF a b st then j else 2 * lastF a b st - j) * (if b < a then -st else st)) w).2 = inH z := (inH_congr hlq.1).trans hiny
            refine lv_aload_n hx hb dX4_sweep_136 rfl (lv_at hl 1 rfl) ?_
            refine qGet (ci := 4) (v := .int (thF y (10 + ix (inH z)) (a + nI (if j ≤ lastF a b st then j else 2 * lastF a b st - j) * (if b < a then -st else st)) w)) (C := RX4) (T := TX4) (N := 25) hx hb hts hin4 hown hK hP 0 rfl rfl 24 (by decide) (hts (.fieldLink RX4 151 "PartCurvesModel" "tooHot" "I") (by decide +kernel)) (by simp [pF, zu, upd]) dX4_sweep_137 ?_
            refine lv_bipush (v := -9) hx hb dX4_sweep_140 (by decide) ?_
            refine lv_icmp_eq (tgt := 178) hx hb dX4_sweep_142 (by decide) (fun c_142 => ?_) (fun c_142 => ?_)
            · -- 142 taken
              refine lv_aload_n hx hb dX4_sweep_178 rfl (lv_at hl 1 rfl) ?_
              refine lv_iload hx hb dX4_sweep_179 (lv_at hl 6 rfl) ?_
              refine lv_nm (y := nI (ix n)) (hn2) ?_
              refine qVv (As := [.int (nI (ix n))]) (rest := []) hx hb hml hown hts (kX4_rests l g ((pulS y (10 + ix (inH z)) (a + nI (if j ≤ lastF a b st then j else 2 * lastF a b st - j) * (if b < a then -st else st)) w).2) (upd (upd (upd rr 0 (uF (opS y (10 + ix (inH z)) (a + nI (if j ≤ lastF a b st then j else 2 * lastF a b st - j) * (if b < a then -st else st))) (10 + ix (inH z)) (a + nI (if j ≤ lastF a b st then j else 2 * lastF a b st - j) * (if b < a then -st else st)))) 1 (ruF (opS y (10 + ix (inH z)) (a + nI (if j ≤ lastF a b st then j else 2 * lastF a b st - j) * (if b < a then -st else st))) (10 + ix (inH z)) (uF (opS y (10 + ix (inH z)) (a + nI (if j ≤ lastF a b st then j else 2 * lastF a b st - j) * (if b < a then -st else st))) (10 + ix (inH z)) (a + nI (if j ≤ lastF a b st then j else 2 * lastF a b st - j) * (if b < a then -st else st))) (a + nI (if j ≤ lastF a b st then j else 2 * lastF a b st - j) * (if b < a then -st else st)))) 2 (thF y (10 + ix (inH z)) (a + nI (if j ≤ lastF a b st then j else 2 * lastF a b st - j) * (if b < a then -st else st)) w)) hj (ix n) hn1) gX4_sweep_X4_rests rfl 1 hdX4_rests rfl ⟨Nat.le_of_ble_eq_true rfl, Nat.le_of_ble_eq_true rfl⟩ ⟨Nat.zero_le _, Nat.zero_le _⟩ hK hP hS (fun _ h => h) 0 4 rfl rfl rfl hl.1 rfl (Nat.le_of_ble_eq_true rfl) dX4_sweep_181 (fun H locs hP hS => ?_)
              refine lv_iinc (v := nI (j + 1)) (lv' := [(9, .int (nI (j + 1))), (10, .int (nI (if j ≤ lastF a b st then j else 2 * lastF a b st - j))), (0, .ref (am 0)), (1, .int a), (2, .int b), (3, .int st), (4, .int w), (5, .int n), (6, .int back), (7, .int (nI (lastF a b st + 1))), (8, .int (nI (allF a b st back)))]) hx hb dX4_sweep_184 hl (k := 10) rfl (nI_1 j) (by decide) rfl (fun ls hl => ?_)
              refine lv_goto (tgt := 82) hx hb dX4_sweep_187 (by decide) ?_
              exact ih (j + 1) _ _ hsw hpw (by omega) (inv_coolA hIq _).1 (by rw [(inv_coolA hIq _).2.2 0 (by omega), hlq.2.1]; exact hnr.2) ((inv_coolA hIq _).2.1.tr (hlq.1.tr hky)) (by rw [cool_4 hIq]; exact h4q) (by rw [← hz, swR, if_neg (th_0 c_142)]) _ _ hP hS ls (lv_sub hl [2, 3, 4, 5, 6, 7, 8, 9, 10, 0] rfl)
            · -- 142 not taken
              have hth := th_1 c_142
              refine lv_aload_n hx hb dX4_sweep_145 rfl (lv_at hl 1 rfl) ?_
              refine lv_iconst (v := 1) hx hb dX4_sweep_146 rfl ?_
              refine lv_iload hx hb dX4_sweep_147 (lv_at hl 10 rfl) ?_
              refine qVv (As := [.int 1, .int (nI j)]) (rest := []) hx hb hml hown hts (kX4_cause l g ((pulS y (10 + ix (inH z)) (a + nI (if j ≤ lastF a b st then j else 2 * lastF a b st - j) * (if b < a then -st else st)) w).2) (upd (upd (upd rr 0 (uF (opS y (10 + ix (inH z)) (a + nI (if j ≤ lastF a b st then j else 2 * lastF a b st - j) * (if b < a then -st else st))) (10 + ix (inH z)) (a + nI (if j ≤ lastF a b st then j else 2 * lastF a b st - j) * (if b < a then -st else st)))) 1 (ruF (opS y (10 + ix (inH z)) (a + nI (if j ≤ lastF a b st then j else 2 * lastF a b st - j) * (if b < a then -st else st))) (10 + ix (inH z)) (uF (opS y (10 + ix (inH z)) (a + nI (if j ≤ lastF a b st then j else 2 * lastF a b st - j) * (if b < a then -st else st))) (10 + ix (inH z)) (a + nI (if j ≤ lastF a b st then j else 2 * lastF a b st - j) * (if b < a then -st else st))) (a + nI (if j ≤ lastF a b st then j else 2 * lastF a b st - j) * (if b < a then -st else st)))) 2 (thF y (10 + ix (inH z)) (a + nI (if j ≤ lastF a b st then j else 2 * lastF a b st - j) * (if b < a then -st else st)) w)) hj 1 (nI j) (by rw [h4q]; decide) hIq.2.2.2.2.1) gX4_sweep_X4_cause rfl 2 hdX4_cause rfl ⟨Nat.le_of_ble_eq_true rfl, Nat.le_of_ble_eq_true rfl⟩ ⟨Nat.zero_le _, Nat.zero_le _⟩ hK hP hS (fun _ h => h) 0 4 rfl rfl rfl hl.1 rfl (Nat.le_of_ble_eq_true rfl) dX4_sweep_149 (fun H locs hP hS => ?_)
              refine lv_aload_n hx hb dX4_sweep_152 rfl (lv_at hl 1 rfl) ?_
              refine lv_iconst (v := 2) hx hb dX4_sweep_153 rfl ?_
              refine lv_aload_n hx hb dX4_sweep_154 rfl (lv_at hl 1 rfl) ?_
              refine qVi (As := []) (rest := [.int 2, .ref (am 0)]) hx hb hml hown hts (kX4_inHand l g (putS ((pulS y (10 + ix (inH z)) (a + nI (if j ≤ lastF a b st then j else 2 * lastF a b st - j) * (if b < a then -st else st)) w).2) 1 (nI j)) (upd (upd (upd rr 0 (uF (opS y (10 + ix (inH z)) (a + nI (if j ≤ lastF a b st then j else 2 * lastF a b st - j) * (if b < a then -st else st))) (10 + ix (inH z)) (a + nI (if j ≤ lastF a b st then j else 2 * lastF a b st - j) * (if b < a then -st else st)))) 1 (ruF (opS y (10 + ix (inH z)) (a + nI (if j ≤ lastF a b st then j else 2 * lastF a b st - j) * (if b < a then -st else st))) (10 + ix (inH z)) (uF (opS y (10 + ix (inH z)) (a + nI (if j ≤ lastF a b st then j else 2 * lastF a b st - j) * (if b < a then -st else st))) (10 + ix (inH z)) (a + nI (if j ≤ lastF a b st then j else 2 * lastF a b st - j) * (if b < a then -st else st))) (a + nI (if j ≤ lastF a b st then j else 2 * lastF a b st - j) * (if b < a then -st else st)))) 2 (thF y (10 + ix (inH z)) (a + nI (if j ≤ lastF a b st then j else 2 * lastF a b st - j) * (if b < a then -st else st)) w)) hj (inv_put hIq _ _)) gX4_sweep_X4_inHand rfl 0 hdX4_inHand rfl ⟨Nat.le_of_ble_eq_true rfl, Nat.le_of_ble_eq_true rfl⟩ ⟨Nat.zero_le _, Nat.zero_le _⟩ hK hP hS (fun _ h => h) 0 4 rfl rfl rfl hl.1 rfl (Nat.le_of_ble_eq_true rfl) dX4_sweep_155 (fun H locs hP hS => ?_)
              refine lv_nm (y := inH z) ((inH_congr (put_keep _ _)).trans hinq) ?_
              refine qVv (As := [.int 2, .int (inH z)]) (rest := []) hx hb hml hown hts (kX4_cause l g (putS ((pulS y (10 + ix (inH z)) (a + nI (if j ≤ lastF a b st then j else 2 * lastF a b st - j) * (if b < a then -st else st)) w).2) 1 (nI j)) (upd (upd (upd rr 0 (uF (opS y (10 + ix (inH z)) (a + nI (if j ≤ lastF a b st then j else 2 * lastF a b st - j) * (if b < a then -st else st))) (10 + ix (inH z)) (a + nI (if j ≤ lastF a b st then j else 2 * lastF a b st - j) * (if b < a then -st else st)))) 1 (ruF (opS y (10 + ix (inH z)) (a + nI (if j ≤ lastF a b st then j else 2 * lastF a b st - j) * (if b < a then -st else st))) (10 + ix (inH z)) (uF (opS y (10 + ix (inH z)) (a + nI (if j ≤ lastF a b st then j else 2 * lastF a b st - j) * (if b < a then -st else st))) (10 + ix (inH z)) (a + nI (if j ≤ lastF a b st then j else 2 * lastF a b st - j) * (if b < a then -st else st))) (a + nI (if j ≤ lastF a b st then j else 2 * lastF a b st - j) * (if b < a then -st else st)))) 2 (thF y (10 + ix (inH z)) (a + nI (if j ≤ lastF a b st then j else 2 * lastF a b st - j) * (if b < a then -st else st)) w)) hj 2 (inH z) (by rw [put_4 (by rw [h4q]; decide), h4q]; decide) (inv_put hIq _ _).2.2.2.2.1) gX4_sweep_X4_cause rfl 2 hdX4_cause rfl ⟨Nat.le_of_ble_eq_true rfl, Nat.le_of_ble_eq_true rfl⟩ ⟨Nat.zero_le _, Nat.zero_le _⟩ hK hP hS (fun _ h => h) 0 4 rfl rfl rfl hl.1 rfl (Nat.le_of_ble_eq_true rfl) dX4_sweep_158 (fun H locs hP hS => ?_)
              refine lv_aload_n hx hb dX4_sweep_161 rfl (lv_at hl 1 rfl) ?_
              refine lv_iconst (v := 3) hx hb dX4_sweep_162 rfl ?_
              refine lv_aload_n hx hb dX4_sweep_163 rfl (lv_at hl 1 rfl) ?_
              refine qGet (ci := 4) (v := .int ((upd (upd (upd rr 0 (uF (opS y (10 + ix (inH z)) (a + nI (if j ≤ lastF a b st then j else 2 * lastF a b st - j) * (if b < a then -st else st))) (10 + ix (inH z)) (a + nI (if j ≤ lastF a b st then j else 2 * lastF a b st - j) * (if b < a then -st else st)))) 1 (ruF (opS y (10 + ix (inH z)) (a + nI (if j ≤ lastF a b st then j else 2 * lastF a b st - j) * (if b < a then -st else st))) (10 + ix (inH z)) (uF (opS y (10 + ix (inH z)) (a + nI (if j ≤ lastF a b st then j else 2 * lastF a b st - j) * (if b < a then -st else st))) (10 + ix (inH z)) (a + nI (if j ≤ lastF a b st then j else 2 * lastF a b st - j) * (if b < a then -st else st))) (a + nI (if j ≤ lastF a b st then j else 2 * lastF a b st - j) * (if b < a then -st else st)))) 2 (thF y (10 + ix (inH z)) (a + nI (if j ≤ lastF a b st then j else 2 * lastF a b st - j) * (if b < a then -st else st)) w)) 2)) (C := RX4) (T := TX4) (N := 25) hx hb hts hin4 hown hK hP 0 rfl rfl 24 (by decide) (hts (.fieldLink RX4 151 "PartCurvesModel" "tooHot" "I") (by decide +kernel)) (by simp [pF, zu, upd]) dX4_sweep_164 ?_
              refine lv_nm (y := (pulS y (10 + ix (inH z)) (a + nI (if j ≤ lastF a b st then j else 2 * lastF a b st - j) * (if b < a then -st else st)) w).1) (hth.2) ?_
              refine qVv (As := [.int 3, .int ((pulS y (10 + ix (inH z)) (a + nI (if j ≤ lastF a b st then j else 2 * lastF a b st - j) * (if b < a then -st else st)) w).1)]) (rest := []) hx hb hml hown hts (kX4_cause l g (putS (putS ((pulS y (10 + ix (inH z)) (a + nI (if j ≤ lastF a b st then j else 2 * lastF a b st - j) * (if b < a then -st else st)) w).2) 1 (nI j)) 2 (inH z)) (upd (upd (upd rr 0 (uF (opS y (10 + ix (inH z)) (a + nI (if j ≤ lastF a b st then j else 2 * lastF a b st - j) * (if b < a then -st else st))) (10 + ix (inH z)) (a + nI (if j ≤ lastF a b st then j else 2 * lastF a b st - j) * (if b < a then -st else st)))) 1 (ruF (opS y (10 + ix (inH z)) (a + nI (if j ≤ lastF a b st then j else 2 * lastF a b st - j) * (if b < a then -st else st))) (10 + ix (inH z)) (uF (opS y (10 + ix (inH z)) (a + nI (if j ≤ lastF a b st then j else 2 * lastF a b st - j) * (if b < a then -st else st))) (10 + ix (inH z)) (a + nI (if j ≤ lastF a b st then j else 2 * lastF a b st - j) * (if b < a then -st else st))) (a + nI (if j ≤ lastF a b st then j else 2 * lastF a b st - j) * (if b < a then -st else st)))) 2 (thF y (10 + ix (inH z)) (a + nI (if j ≤ lastF a b st then j else 2 * lastF a b st - j) * (if b < a then -st else st)) w)) hj 3 ((pulS y (10 + ix (inH z)) (a + nI (if j ≤ lastF a b st then j else 2 * lastF a b st - j) * (if b < a then -st else st)) w).1) (by rw [put_4 (by rw [put_4 (by rw [h4q]; decide), h4q]; decide), put_4 (by rw [h4q]; decide), h4q]; decide) (inv_put (inv_put hIq _ _) _ _).2.2.2.2.1) gX4_sweep_X4_cause rfl 2 hdX4_cause rfl ⟨Nat.le_of_ble_eq_true rfl, Nat.le_of_ble_eq_true rfl⟩ ⟨Nat.zero_le _, Nat.zero_le _⟩ hK hP hS (fun _ h => h) 0 4 rfl rfl rfl hl.1 rfl (Nat.le_of_ble_eq_true rfl) dX4_sweep_167 (fun H locs hP hS => ?_)
              refine lv_bipush (v := -100) hx hb dX4_sweep_170 (by decide) ?_
              refine lv_iload hx hb dX4_sweep_172 (lv_at hl 10 rfl) ?_
              refine lv_iconst (v := 1) hx hb dX4_sweep_174 rfl ?_
              refine lv_iadd hx hb dX4_sweep_175 ?_
              refine lv_isub hx hb dX4_sweep_176 ?_
              exact qRiE hx hb hr hlk hP hK hS dX4_sweep_177 (by rw [← hz, swR, if_pos hth.1]) (by rw [← hz, swR, if_pos hth.1] <;> rfl)
  refine lv_iload_n hx hb dX4_sweep_0 rfl (lv_at hl 1 rfl) ?_
  refine lv_iload_n hx hb dX4_sweep_1 rfl (lv_at hl 2 rfl) ?_
  refine lv_iload_n hx hb dX4_sweep_2 rfl (lv_at hl 3 rfl) ?_
  refine lv_iload hx hb dX4_sweep_3 (lv_at hl 4 rfl) ?_
  refine lv_iload hx hb dX4_sweep_5 (lv_at hl 5 rfl) ?_
  refine lv_iload hx hb dX4_sweep_7 (lv_at hl 6 rfl) ?_
  refine qSi (As := [.int a, .int b, .int st, .int w, .int n, .int back]) (rest := []) hx hb hml hown hts (kX4_isSweep l g (Wd := (WMu g am)) (A := (adOf 18 am)) (z, r) a b st w n back) gX4_sweep_X4_isSweep rfl 6 hdX4_isSweep rfl ⟨Nat.le_of_ble_eq_true rfl, Nat.le_of_ble_eq_true rfl⟩ ⟨Nat.zero_le _, Nat.zero_le _⟩ hK hP hS (fun _ h => h) hl.1 rfl (Nat.le_of_ble_eq_true rfl) dX4_sweep_9 (fun H locs hP hS => ?_)
  refine lv_if_ne (tgt := 18) hx hb dX4_sweep_12 (by decide) (fun c_12 => ?_) (fun c_12 => ?_)
  · -- 12 taken
    have c_12 := bI_n c_12
    have hsw6 := isSw_i c_12
    have hsv := sw_v hsw6.1 hsw6.2.1 hsw6.2.2.1 (Nat.zero_le _)
    have hal := all_le (back := back) hsv.2.1
    refine lv_aload_n hx hb dX4_sweep_18 rfl (lv_at hl 0 rfl) ?_
    refine qGet (ci := 4) (v := .int (z 0 0)) (C := RX4) (T := TX4) (N := 25) hx hb hts hin4 hown hK hP 0 rfl rfl 11 (by decide) (hts (.fieldLink RX4 74 "PartCurvesModel" "isOn" "Z") (by decide +kernel)) rfl dX4_sweep_19 ?_
    refine lv_if_ne (tgt := 28) hx hb dX4_sweep_22 (by decide) (fun c_22 => ?_) (fun c_22 => ?_)
    · -- 22 taken
      refine lv_iload_n hx hb dX4_sweep_28 rfl (lv_at hl 2 rfl) ?_
      refine lv_iload_n hx hb dX4_sweep_29 rfl (lv_at hl 1 rfl) ?_
      refine lv_isub hx hb dX4_sweep_30 ?_
      refine qSi (As := [.int (b - a)]) (rest := []) hx hb hml hown hts (kX4_size l g (Wd := (WMu g am)) (A := (adOf 18 am)) (z, r) (b - a)) gX4_sweep_X4_size rfl 1 hdX4_size rfl ⟨Nat.le_of_ble_eq_true rfl, Nat.le_of_ble_eq_true rfl⟩ ⟨Nat.zero_le _, Nat.zero_le _⟩ hK hP hS (fun _ h => h) hl.1 rfl (Nat.le_of_ble_eq_true rfl) dX4_sweep_31 (fun H locs hP hS => ?_)
      refine lv_iload_n hx hb dX4_sweep_34 rfl (lv_at hl 3 rfl) ?_
      refine lv_idiv hx hb dX4_sweep_35 (st_ne0 hsw6.2.2.1) ?_
      refine lv_nm (y := nI (lastF a b st)) (hsv.2.2) ?_
      refine lv_iconst (v := 1) hx hb dX4_sweep_36 rfl ?_
      refine lv_iadd hx hb dX4_sweep_37 ?_
      refine lv_nm (y := nI (lastF a b st + 1)) (nI_1 _) ?_
      refine lv_istore (lv' := [(7, .int (nI (lastF a b st + 1))), (0, .ref (am 0)), (1, .int a), (2, .int b), (3, .int st), (4, .int w), (5, .int n), (6, .int back)]) hx hb dX4_sweep_38 hl (by decide) rfl (fun ls hl => ?_)
      refine lv_iload hx hb dX4_sweep_40 (lv_at hl 7 rfl) ?_
      refine lv_iconst (v := 1) hx hb dX4_sweep_42 rfl ?_
      refine lv_icmp_ne (tgt := 55) hx hb dX4_sweep_43 (by decide) (fun c_43 => ?_) (fun c_43 => ?_)
      · -- 43 taken
        refine lv_iload hx hb dX4_sweep_55 (lv_at hl 0 rfl) ?_
        refine lv_nm (y := nI (allF a b st back)) (by have h9 := all_M (a := a) (b := b) (st := st) hsw6.2.2.2.2.1; rw [if_neg c_43, nI_1] at h9; exact h9) ?_
        refine lv_istore (lv' := [(8, .int (nI (allF a b st back))), (7, .int (nI (lastF a b st + 1))), (0, .ref (am 0)), (1, .int a), (2, .int b), (3, .int st), (4, .int w), (5, .int n), (6, .int back)]) hx hb dX4_sweep_57 hl (by decide) rfl (fun ls hl => ?_)
        refine lv_aload_n hx hb dX4_sweep_59 rfl (lv_at hl 2 rfl) ?_
        refine qGet (ci := 4) (v := .int (z 0 3)) (C := RX4) (T := TX4) (N := 25) hx hb hts hin4 hown hK hP 0 rfl rfl 16 (by decide) (hts (.fieldLink RX4 142 "PartCurvesModel" "readings" "I") (by decide +kernel)) rfl dX4_sweep_60 ?_
        refine lv_iload hx hb dX4_sweep_63 (lv_at hl 0 rfl) ?_
        refine lv_iadd hx hb dX4_sweep_65 ?_
        refine lv_bipush (v := 60) hx hb dX4_sweep_66 (by decide) ?_
        refine lv_icmp_le (tgt := 74) hx hb dX4_sweep_68 (by decide) (fun c_68 => ?_) (fun c_68 => ?_)
        · -- 68 taken
          have c_68n := i_le_t c_68
          refine lv_aload_n hx hb dX4_sweep_74 rfl (lv_at hl 2 rfl) ?_
          refine lv_iconst (v := 0) hx hb dX4_sweep_75 rfl ?_
          refine qPut (ci := 4) (ty := .int) (C := RX4) (T := TX4) (N := 25) (u' := (zu z 0 4 0, r)) hx hb hts hin4 tyX4 tyX4_ok nmX4 hown hK hP (WMu_D g (z, r) hj) hS 0 rfl rfl 21 (by decide) (hts (.fieldLink RX4 139 "PartCurvesModel" "causes" "I") (by decide +kernel)) rfl (by decide +kernel) rfl rfl (Nat.le_of_ble_eq_true rfl) (WM_cc g am z r 0) dX4_sweep_76 (fun H locs hP hS => ?_)
          refine lv_iconst (v := 0) hx hb dX4_sweep_79 rfl ?_
          refine lv_istore (lv' := [(9, .int 0), (8, .int (nI (allF a b st back))), (7, .int (nI (lastF a b st + 1))), (0, .ref (am 0)), (1, .int a), (2, .int b), (3, .int st), (4, .int w), (5, .int n), (6, .int back)]) hx hb dX4_sweep_80 hl (by decide) rfl (fun ls hl => ?_)
          exact loop (allF a b st back) 0 (zu z 0 4 0) r c_12 c_22 (Nat.zero_add _) (inv_cc0 hI) (by rw [zu_col z 0 4 0 3 0 (by omega)]; exact room_le (inv_rc hI) hal.1 c_68n) (keep_c (by decide)) (zu_same _ _ _ _) (by unfold s_sweep; rw [if_pos c_12, if_neg c_22, if_neg c_68n]) _ _ hP hS ls (lv_sub hl [3, 4, 5, 6, 7, 8, 9, 2, 1, 0] rfl)
        · -- 68 not taken
          have c_68n := i_le_f c_68
          refine lv_bipush (v := -4) hx hb dX4_sweep_71 (by decide) ?_
          exact qRiE hx hb hr hlk hP hK hS dX4_sweep_73 (by unfold s_sweep; rw [if_pos c_12, if_neg c_22, if_pos c_68n] <;> rfl) (by unfold s_sweep; rw [if_pos c_12, if_neg c_22, if_pos c_68n] <;> rfl)
      · -- 43 not taken
        refine lv_iconst (v := 2) hx hb dX4_sweep_46 rfl ?_
        refine lv_iload hx hb dX4_sweep_47 (lv_at hl 0 rfl) ?_
        refine lv_imul hx hb dX4_sweep_49 ?_
        refine lv_iconst (v := 1) hx hb dX4_sweep_50 rfl ?_
        refine lv_isub hx hb dX4_sweep_51 ?_
        refine lv_goto (tgt := 57) hx hb dX4_sweep_52 (by decide) ?_
        refine lv_nm (y := nI (allF a b st back)) (by have h9 := all_M (a := a) (b := b) (st := st) hsw6.2.2.2.2.1; rw [if_pos c_43, nI_1] at h9; exact h9) ?_
        refine lv_istore (lv' := [(8, .int (nI (allF a b st back))), (7, .int (nI (lastF a b st + 1))), (0, .ref (am 0)), (1, .int a), (2, .int b), (3, .int st), (4, .int w), (5, .int n), (6, .int back)]) hx hb dX4_sweep_57 hl (by decide) rfl (fun ls hl => ?_)
        refine lv_aload_n hx hb dX4_sweep_59 rfl (lv_at hl 2 rfl) ?_
        refine qGet (ci := 4) (v := .int (z 0 3)) (C := RX4) (T := TX4) (N := 25) hx hb hts hin4 hown hK hP 0 rfl rfl 16 (by decide) (hts (.fieldLink RX4 142 "PartCurvesModel" "readings" "I") (by decide +kernel)) rfl dX4_sweep_60 ?_
        refine lv_iload hx hb dX4_sweep_63 (lv_at hl 0 rfl) ?_
        refine lv_iadd hx hb dX4_sweep_65 ?_
        refine lv_bipush (v := 60) hx hb dX4_sweep_66 (by decide) ?_
        refine lv_icmp_le (tgt := 74) hx hb dX4_sweep_68 (by decide) (fun c_68 => ?_) (fun c_68 => ?_)
        · -- 68 taken
          have c_68n := i_le_t c_68
          refine lv_aload_n hx hb dX4_sweep_74 rfl (lv_at hl 2 rfl) ?_
          refine lv_iconst (v := 0) hx hb dX4_sweep_75 rfl ?_
          refine qPut (ci := 4) (ty := .int) (C := RX4) (T := TX4) (N := 25) (u' := (zu z 0 4 0, r)) hx hb hts hin4 tyX4 tyX4_ok nmX4 hown hK hP (WMu_D g (z, r) hj) hS 0 rfl rfl 21 (by decide) (hts (.fieldLink RX4 139 "PartCurvesModel" "causes" "I") (by decide +kernel)) rfl (by decide +kernel) rfl rfl (Nat.le_of_ble_eq_true rfl) (WM_cc g am z r 0) dX4_sweep_76 (fun H locs hP hS => ?_)
          refine lv_iconst (v := 0) hx hb dX4_sweep_79 rfl ?_
          refine lv_istore (lv' := [(9, .int 0), (8, .int (nI (allF a b st back))), (7, .int (nI (lastF a b st + 1))), (0, .ref (am 0)), (1, .int a), (2, .int b), (3, .int st), (4, .int w), (5, .int n), (6, .int back)]) hx hb dX4_sweep_80 hl (by decide) rfl (fun ls hl => ?_)
          exact loop (allF a b st back) 0 (zu z 0 4 0) r c_12 c_22 (Nat.zero_add _) (inv_cc0 hI) (by rw [zu_col z 0 4 0 3 0 (by omega)]; exact room_le (inv_rc hI) hal.1 c_68n) (keep_c (by decide)) (zu_same _ _ _ _) (by unfold s_sweep; rw [if_pos c_12, if_neg c_22, if_neg c_68n]) _ _ hP hS ls (lv_sub hl [3, 4, 5, 6, 7, 8, 9, 2, 1, 0] rfl)
        · -- 68 not taken
          have c_68n := i_le_f c_68
          refine lv_bipush (v := -4) hx hb dX4_sweep_71 (by decide) ?_
          exact qRiE hx hb hr hlk hP hK hS dX4_sweep_73 (by unfold s_sweep; rw [if_pos c_12, if_neg c_22, if_pos c_68n] <;> rfl) (by unfold s_sweep; rw [if_pos c_12, if_neg c_22, if_pos c_68n] <;> rfl)
    · -- 22 not taken
      refine lv_bipush (v := -3) hx hb dX4_sweep_25 (by decide) ?_
      exact qRiE hx hb hr hlk hP hK hS dX4_sweep_27 (by unfold s_sweep; rw [if_pos c_12, if_pos c_22] <;> rfl) (by unfold s_sweep; rw [if_pos c_12, if_pos c_22] <;> rfl)
  · -- 12 not taken
    have c_12 := bI_0 c_12
    refine lv_bipush (v := -2) hx hb dX4_sweep_15 (by decide) ?_
    exact qRiE hx hb hr hlk hP hK hS dX4_sweep_17 (by unfold s_sweep; rw [if_neg (bn c_12)] <;> rfl) (by unfold s_sweep; rw [if_neg (bn c_12)] <;> rfl)
set_option maxHeartbeats 4000000 in
set_option maxRecDepth 100000 in
theorem kX4_why (l : Launch) (g : qG) {am : Nat → Nat} (z : zS) (r : Nat → Int32) (hj : adInj 18 am) (k w : Int32) : qMi l yX4_why wsX4_why 1 g (WMu g am) (adOf 18 am) (z, r) [.ref (am 0), .int k, .int w] (s_why z k w) (z, r) := by
  refine qStart (cc := cX4_why) (maxL := 3) (ret := (some .int)) (plainFor_of_name (by decide)) rfl (Nat.le_of_ble_eq_true rfl) ?_
  intro p e s m args below meth c hx hb hml hown hts hr hlk hP hK ls hl
  have hl : lv_has ls 3 [(0, .ref (am 0)), (1, .int k), (2, .int w)] := hl
  have hS : va_S (adOf 18 am) s.heap s.heap [] := va_S.rf
  have hin4 : ∀ w ∈ u_ws RX4 TX4 25, w ∈ wsX4_why := by decide +kernel
  refine lv_iload_n hx hb dX4_why_0 rfl (lv_at hl 1 rfl) ?_
  refine lv_iconst (v := 0) hx hb dX4_why_1 rfl ?_
  refine lv_iconst (v := 2) hx hb dX4_why_2 rfl ?_
  refine qSi (As := [.int k, .int 0, .int 2]) (rest := []) hx hb hml hown hts (kX4_within l g (Wd := (WMu g am)) (A := (adOf 18 am)) (z, r) k 0 2) gX4_why_X4_within rfl 3 hdX4_within rfl ⟨Nat.le_of_ble_eq_true rfl, Nat.le_of_ble_eq_true rfl⟩ ⟨Nat.zero_le _, Nat.zero_le _⟩ hK hP hS (fun _ h => h) hl.1 rfl (Nat.le_of_ble_eq_true rfl) dX4_why_3 (fun H locs hP hS => ?_)
  refine lv_if_eq (tgt := 18) hx hb dX4_why_6 (by decide) (fun c_6 => ?_) (fun c_6 => ?_)
  · -- 6 taken
    have c_6 := bI_0 c_6
    refine lv_bipush (v := -2) hx hb dX4_why_18 (by decide) ?_
    exact qRi hx hb hr hlk hP hK hS dX4_why_20 (by unfold s_why; rw [if_neg (fun h => absurd h.1 (bn c_6))]) rfl
  · -- 6 not taken
    have c_6 := bI_n c_6
    refine lv_iload_n hx hb dX4_why_9 rfl (lv_at hl 2 rfl) ?_
    refine lv_iconst (v := 0) hx hb dX4_why_10 rfl ?_
    refine lv_iconst (v := 1) hx hb dX4_why_11 rfl ?_
    refine qSi (As := [.int w, .int 0, .int 1]) (rest := []) hx hb hml hown hts (kX4_within l g (Wd := (WMu g am)) (A := (adOf 18 am)) (z, r) w 0 1) gX4_why_X4_within rfl 3 hdX4_within rfl ⟨Nat.le_of_ble_eq_true rfl, Nat.le_of_ble_eq_true rfl⟩ ⟨Nat.zero_le _, Nat.zero_le _⟩ hK hP hS (fun _ h => h) hl.1 rfl (Nat.le_of_ble_eq_true rfl) dX4_why_12 (fun H locs hP hS => ?_)
    refine lv_if_ne (tgt := 21) hx hb dX4_why_15 (by decide) (fun c_15 => ?_) (fun c_15 => ?_)
    · -- 15 taken
      have c_15 := bI_n c_15
      refine lv_iload_n hx hb dX4_why_21 rfl (lv_at hl 1 rfl) ?_
      refine lv_aload_n hx hb dX4_why_22 rfl (lv_at hl 0 rfl) ?_
      refine qGet (ci := 4) (v := .int (z 0 4)) (C := RX4) (T := TX4) (N := 25) hx hb hts hin4 hown hK hP 0 rfl rfl 21 (by decide) (hts (.fieldLink RX4 139 "PartCurvesModel" "causes" "I") (by decide +kernel)) rfl dX4_why_23 ?_
      refine lv_icmp_lt (tgt := 34) hx hb dX4_why_26 (by decide) (fun c_26 => ?_) (fun c_26 => ?_)
      · -- 26 taken
        have c_26n := i_lt_t c_26
        refine lv_iload_n hx hb dX4_why_34 rfl (lv_at hl 2 rfl) ?_
        refine lv_if_ne (tgt := 47) hx hb dX4_why_35 (by decide) (fun c_35 => ?_) (fun c_35 => ?_)
        · -- 35 taken
          refine lv_aload_n hx hb dX4_why_47 rfl (lv_at hl 0 rfl) ?_
          refine qGet (ci := 4) (v := .ref (am 17)) (C := RX4) (T := TX4) (N := 25) hx hb hts hin4 hown hK hP 0 rfl rfl 23 (by decide) (hts (.fieldLink RX4 63 "PartCurvesModel" "causeNumber" "[I") (by decide +kernel)) rfl dX4_why_48 ?_
          refine lv_iload_n hx hb dX4_why_51 rfl (lv_at hl 1 rfl) ?_
          refine qIld (v := (z 7 (ix k))) hx hb hK hP 17 rfl (inR_vp (n := 2) rfl c_6 3 (by decide)) rfl dX4_why_52 ?_
          exact qRi hx hb hr hlk hP hK hS dX4_why_53 (by unfold s_why; rw [if_pos ⟨c_6, c_15⟩, if_neg c_26n, if_neg c_35] <;> rfl) rfl
        · -- 35 not taken
          refine lv_aload_n hx hb dX4_why_38 rfl (lv_at hl 0 rfl) ?_
          refine qGet (ci := 4) (v := .ref (am 16)) (C := RX4) (T := TX4) (N := 25) hx hb hts hin4 hown hK hP 0 rfl rfl 22 (by decide) (hts (.fieldLink RX4 60 "PartCurvesModel" "causeSort" "[I") (by decide +kernel)) rfl dX4_why_39 ?_
          refine lv_iload_n hx hb dX4_why_42 rfl (lv_at hl 1 rfl) ?_
          refine qIld (v := (z 6 (ix k))) hx hb hK hP 16 rfl (inR_vp (n := 2) rfl c_6 3 (by decide)) rfl dX4_why_43 ?_
          refine lv_goto (tgt := 53) hx hb dX4_why_44 (by decide) ?_
          exact qRi hx hb hr hlk hP hK hS dX4_why_53 (by unfold s_why; rw [if_pos ⟨c_6, c_15⟩, if_neg c_26n, if_pos c_35] <;> rfl) rfl
      · -- 26 not taken
        have c_26n := i_lt_f c_26
        refine lv_bipush (v := -9) hx hb dX4_why_29 (by decide) ?_
        refine lv_goto (tgt := 53) hx hb dX4_why_31 (by decide) ?_
        exact qRi hx hb hr hlk hP hK hS dX4_why_53 (by unfold s_why; rw [if_pos ⟨c_6, c_15⟩, if_pos c_26n] <;> rfl) rfl
    · -- 15 not taken
      have c_15 := bI_0 c_15
      refine lv_bipush (v := -2) hx hb dX4_why_18 (by decide) ?_
      exact qRi hx hb hr hlk hP hK hS dX4_why_20 (by unfold s_why; rw [if_neg (fun h => absurd h.2 (bn c_15))]) rfl
set_option maxHeartbeats 4000000 in
set_option maxRecDepth 100000 in
theorem kX4_isReading (l : Launch) (g : qG) {am : Nat → Nat} (z : zS) (r : Nat → Int32) (hj : adInj 18 am) (hI : qInv z) (k : Int32) : qMi l yX4_isReading wsX4_isReading 1 g (WMu g am) (adOf 18 am) (z, r) [.ref (am 0), .int k] (bI (hasB z k)) (z, r) := by
  refine qStart (cc := cX4_isReading) (maxL := 2) (ret := (some .boolean)) (plainFor_of_name (by decide)) rfl (Nat.le_of_ble_eq_true rfl) ?_
  intro p e s m args below meth c hx hb hml hown hts hr hlk hP hK ls hl
  have hl : lv_has ls 2 [(0, .ref (am 0)), (1, .int k)] := hl
  have hS : va_S (adOf 18 am) s.heap s.heap [] := va_S.rf
  have hin4 : ∀ w ∈ u_ws RX4 TX4 25, w ∈ wsX4_isReading := by decide +kernel
  refine lv_iload_n hx hb dX4_isReading_0 rfl (lv_at hl 1 rfl) ?_
  refine lv_iconst (v := 0) hx hb dX4_isReading_1 rfl ?_
  refine lv_aload_n hx hb dX4_isReading_2 rfl (lv_at hl 0 rfl) ?_
  refine qGet (ci := 4) (v := .int (z 0 3)) (C := RX4) (T := TX4) (N := 25) hx hb hts hin4 hown hK hP 0 rfl rfl 16 (by decide) (hts (.fieldLink RX4 142 "PartCurvesModel" "readings" "I") (by decide +kernel)) rfl dX4_isReading_3 ?_
  refine lv_iconst (v := 1) hx hb dX4_isReading_6 rfl ?_
  refine lv_isub hx hb dX4_isReading_7 ?_
  refine qSi (As := [.int k, .int 0, .int ((z 0 3) - 1)]) (rest := []) hx hb hml hown hts (kX4_within l g (Wd := (WMu g am)) (A := (adOf 18 am)) (z, r) k 0 ((z 0 3) - 1)) gX4_isReading_X4_within rfl 3 hdX4_within rfl ⟨Nat.le_of_ble_eq_true rfl, Nat.le_of_ble_eq_true rfl⟩ ⟨Nat.zero_le _, Nat.zero_le _⟩ hK hP hS (fun _ h => h) hl.1 rfl (Nat.le_of_ble_eq_true rfl) dX4_isReading_8 (fun H locs hP hS => ?_)
  exact qRz hx hb hr hlk (bI_nar _) hP hK hS dX4_isReading_11 (by rw [has_M hI]) rfl
set_option maxHeartbeats 4000000 in
set_option maxRecDepth 100000 in
theorem kX4_reading (l : Launch) (g : qG) {am : Nat → Nat} (z : zS) (r : Nat → Int32) (hj : adInj 18 am) (hI : qInv z) (k w : Int32) : qMi l yX4_reading wsX4_reading 2 g (WMu g am) (adOf 18 am) (z, r) [.ref (am 0), .int k, .int w] (s_reading z k w) (z, r) := by
  refine qStart (cc := cX4_reading) (maxL := 3) (ret := (some .int)) (plainFor_of_name (by decide)) rfl (Nat.le_of_ble_eq_true rfl) ?_
  intro p e s m args below meth c hx hb hml hown hts hr hlk hP hK ls hl
  have hl : lv_has ls 3 [(0, .ref (am 0)), (1, .int k), (2, .int w)] := hl
  have hS : va_S (adOf 18 am) s.heap s.heap [] := va_S.rf
  have hin4 : ∀ w ∈ u_ws RX4 TX4 25, w ∈ wsX4_reading := by decide +kernel
  refine lv_aload_n hx hb dX4_reading_0 rfl (lv_at hl 0 rfl) ?_
  refine lv_iload_n hx hb dX4_reading_1 rfl (lv_at hl 1 rfl) ?_
  refine qVi (As := [.int k]) (rest := []) hx hb hml hown hts (kX4_isReading l g z r hj hI k) gX4_reading_X4_isReading rfl 1 hdX4_isReading rfl ⟨Nat.le_of_ble_eq_true rfl, Nat.le_of_ble_eq_true rfl⟩ ⟨Nat.zero_le _, Nat.zero_le _⟩ hK hP hS (fun _ h => h) 0 4 rfl rfl rfl hl.1 rfl (Nat.le_of_ble_eq_true rfl) dX4_reading_2 (fun H locs hP hS => ?_)
  refine lv_if_ne (tgt := 10) hx hb dX4_reading_5 (by decide) (fun c_5 => ?_) (fun c_5 => ?_)
  · -- 5 taken
    have c_5 := bI_n c_5
    refine lv_iload_n hx hb dX4_reading_10 rfl (lv_at hl 2 rfl) ?_
    by_cases c_11_is0 : w = 0
    · -- 11 is 0
      refine lv_tableIn (tgt := 40) hx hb dX4_reading_11 (by rw [c_11_is0]; decide) (by rw [c_11_is0]; decide) (by rw [c_11_is0]; rfl) (by decide) ?_
      refine lv_aload_n hx hb dX4_reading_40 rfl (lv_at hl 0 rfl) ?_
      refine qGet (ci := 4) (v := .ref (am 12)) (C := RX4) (T := TX4) (N := 25) hx hb hts hin4 hown hK hP 0 rfl rfl 17 (by decide) (hts (.fieldLink RX4 48 "PartCurvesModel" "forced" "[I") (by decide +kernel)) rfl dX4_reading_41 ?_
      refine lv_iload_n hx hb dX4_reading_44 rfl (lv_at hl 1 rfl) ?_
      refine qIld (v := (z 2 (ix k))) hx hb hK hP 12 rfl (has_i hI c_5).2.2 rfl dX4_reading_45 ?_
      refine lv_sipush (v := 10000) hx hb dX4_reading_46 (by decide) ?_
      refine lv_iadd hx hb dX4_reading_49 ?_
      exact qRi hx hb hr hlk hP hK hS dX4_reading_50 (by unfold s_reading; rw [if_pos c_5, if_pos c_11_is0] <;> rfl) rfl
    by_cases c_11_is1 : w = 1
    · -- 11 is 1
      refine lv_tableIn (tgt := 51) hx hb dX4_reading_11 (by rw [c_11_is1]; decide) (by rw [c_11_is1]; decide) (by rw [c_11_is1]; rfl) (by decide) ?_
      refine lv_aload_n hx hb dX4_reading_51 rfl (lv_at hl 0 rfl) ?_
      refine qGet (ci := 4) (v := .ref (am 13)) (C := RX4) (T := TX4) (N := 25) hx hb hts hin4 hown hK hP 0 rfl rfl 18 (by decide) (hts (.fieldLink RX4 51 "PartCurvesModel" "toldVolts" "[I") (by decide +kernel)) rfl dX4_reading_52 ?_
      refine lv_iload_n hx hb dX4_reading_55 rfl (lv_at hl 1 rfl) ?_
      refine qIld (v := (z 3 (ix k))) hx hb hK hP 13 rfl (has_i hI c_5).2.2 rfl dX4_reading_56 ?_
      refine lv_sipush (v := 10000) hx hb dX4_reading_57 (by decide) ?_
      refine lv_iadd hx hb dX4_reading_60 ?_
      exact qRi hx hb hr hlk hP hK hS dX4_reading_61 (by unfold s_reading; rw [if_pos c_5, if_neg c_11_is0, if_pos c_11_is1] <;> rfl) rfl
    by_cases c_11_is2 : w = 2
    · -- 11 is 2
      refine lv_tableIn (tgt := 62) hx hb dX4_reading_11 (by rw [c_11_is2]; decide) (by rw [c_11_is2]; decide) (by rw [c_11_is2]; rfl) (by decide) ?_
      refine lv_aload_n hx hb dX4_reading_62 rfl (lv_at hl 0 rfl) ?_
      refine qGet (ci := 4) (v := .ref (am 14)) (C := RX4) (T := TX4) (N := 25) hx hb hts hin4 hown hK hP 0 rfl rfl 19 (by decide) (hts (.fieldLink RX4 54 "PartCurvesModel" "ampsOf" "[I") (by decide +kernel)) rfl dX4_reading_63 ?_
      refine lv_iload_n hx hb dX4_reading_66 rfl (lv_at hl 1 rfl) ?_
      refine qIld (v := (z 4 (ix k))) hx hb hK hP 14 rfl (has_i hI c_5).2.2 rfl dX4_reading_67 ?_
      refine lv_ldc (v := 50000) hx hb hown (hts (.constant RX4 112 (50000)) (by decide +kernel)) dX4_reading_68 ?_
      refine lv_iadd hx hb dX4_reading_70 ?_
      exact qRi hx hb hr hlk hP hK hS dX4_reading_71 (by unfold s_reading; rw [if_pos c_5, if_neg c_11_is0, if_neg c_11_is1, if_pos c_11_is2] <;> rfl) rfl
    by_cases c_11_is3 : w = 3
    · -- 11 is 3
      refine lv_tableIn (tgt := 72) hx hb dX4_reading_11 (by rw [c_11_is3]; decide) (by rw [c_11_is3]; decide) (by rw [c_11_is3]; rfl) (by decide) ?_
      refine lv_aload_n hx hb dX4_reading_72 rfl (lv_at hl 0 rfl) ?_
      refine qGet (ci := 4) (v := .ref (am 15)) (C := RX4) (T := TX4) (N := 25) hx hb hts hin4 hown hK hP 0 rfl rfl 20 (by decide) (hts (.fieldLink RX4 57 "PartCurvesModel" "ruleOf" "[I") (by decide +kernel)) rfl dX4_reading_73 ?_
      refine lv_iload_n hx hb dX4_reading_76 rfl (lv_at hl 1 rfl) ?_
      refine qIld (v := (z 5 (ix k))) hx hb hK hP 15 rfl (has_i hI c_5).2.2 rfl dX4_reading_77 ?_
      exact qRi hx hb hr hlk hP hK hS dX4_reading_78 (by unfold s_reading; rw [if_pos c_5, if_neg c_11_is0, if_neg c_11_is1, if_neg c_11_is2, if_pos c_11_is3] <;> rfl) rfl
    refine lv_tableOut (tgt := 79) hx hb dX4_reading_11 (by have := ne_toInt c_11_is0 (k := 0) rfl; have := ne_toInt c_11_is1 (k := 1) rfl; have := ne_toInt c_11_is2 (k := 2) rfl; have := ne_toInt c_11_is3 (k := 3) rfl; omega) (by decide) ?_
    refine lv_bipush (v := -2) hx hb dX4_reading_79 (by decide) ?_
    exact qRi hx hb hr hlk hP hK hS dX4_reading_81 (by unfold s_reading; rw [if_pos c_5, if_neg c_11_is0, if_neg c_11_is1, if_neg c_11_is2, if_neg c_11_is3] <;> rfl) rfl
  · -- 5 not taken
    have c_5 := bI_0 c_5
    refine lv_iconst (v := -1) hx hb dX4_reading_8 rfl ?_
    exact qRi hx hb hr hlk hP hK hS dX4_reading_9 (by unfold s_reading; rw [if_neg (bn c_5)] <;> rfl) rfl
set_option maxHeartbeats 4000000 in
set_option maxRecDepth 100000 in
theorem kX4_clear (l : Launch) (g : qG) {am : Nat → Nat} (z : zS) (r : Nat → Int32) (hj : adInj 18 am) : qMi l yX4_clear wsX4_clear 0 g (WMu g am) (adOf 18 am) (z, r) [.ref (am 0)] ((s_clear z).1) ((s_clear z).2, r) := by
  refine qStart (cc := cX4_clear) (maxL := 2) (ret := (some .int)) (plainFor_of_name (by decide)) rfl (Nat.le_of_ble_eq_true rfl) ?_
  intro p e s m args below meth c hx hb hml hown hts hr hlk hP hK ls hl
  have hl : lv_has ls 2 [(0, .ref (am 0))] := hl
  have hS : va_S (adOf 18 am) s.heap s.heap [] := va_S.rf
  have hin4 : ∀ w ∈ u_ws RX4 TX4 25, w ∈ wsX4_clear := by decide +kernel
  refine lv_aload_n hx hb dX4_clear_0 rfl (lv_at hl 0 rfl) ?_
  refine qGet (ci := 4) (v := .int (z 0 3)) (C := RX4) (T := TX4) (N := 25) hx hb hts hin4 hown hK hP 0 rfl rfl 16 (by decide) (hts (.fieldLink RX4 142 "PartCurvesModel" "readings" "I") (by decide +kernel)) rfl dX4_clear_1 ?_
  refine lv_istore_n (lv' := [(1, .int (z 0 3)), (0, .ref (am 0))]) hx hb dX4_clear_4 rfl hl (by decide) rfl (fun ls hl => ?_)
  refine lv_aload_n hx hb dX4_clear_5 rfl (lv_at hl 1 rfl) ?_
  refine lv_iconst (v := 0) hx hb dX4_clear_6 rfl ?_
  refine qPut (ci := 4) (ty := .int) (C := RX4) (T := TX4) (N := 25) (u' := (zu z 0 3 0, r)) hx hb hts hin4 tyX4 tyX4_ok nmX4 hown hK hP (WMu_D g (z, r) hj) hS 0 rfl rfl 16 (by decide) (hts (.fieldLink RX4 142 "PartCurvesModel" "readings" "I") (by decide +kernel)) rfl (by decide +kernel) rfl rfl (Nat.le_of_ble_eq_true rfl) (WM_rc g am z r 0) dX4_clear_7 (fun H locs hP hS => ?_)
  refine lv_iload_n hx hb dX4_clear_10 rfl (lv_at hl 0 rfl) ?_
  exact qRi hx hb hr hlk hP hK hS dX4_clear_11 rfl (pr_eq rfl rfl)
set_option maxHeartbeats 4000000 in
set_option maxRecDepth 100000 in
theorem kX4_off (l : Launch) (g : qG) {am : Nat → Nat} (z : zS) (r : Nat → Int32) (hj : adInj 18 am) {i a b : Nat} (hi : i < 60) (ha : a < 60) (hb6 : b < 60) : qMl l yX4_off wsX4_off 0 g (WMu g am) (adOf 18 am) (z, r) [.ref (am 0), .int (nI i), .int (nI a), .int (nI b)] (offF z i a b) (z, r) := by
  refine qStart (cc := cX4_off) (maxL := 6) (ret := (some .long)) (plainFor_of_name (by decide)) rfl (Nat.le_of_ble_eq_true rfl) ?_
  intro p e s m args below meth c hx hb hml hown hts hr hlk hP hK ls hl
  have hl : lv_has ls 6 [(0, .ref (am 0)), (1, .int (nI i)), (2, .int (nI a)), (3, .int (nI b))] := hl
  have hS : va_S (adOf 18 am) s.heap s.heap [] := va_S.rf
  have hin4 : ∀ w ∈ u_ws RX4 TX4 25, w ∈ wsX4_off := by decide +kernel
  refine lv_aload_n hx hb dX4_off_0 rfl (lv_at hl 0 rfl) ?_
  refine qGet (ci := 4) (v := .ref (am 13)) (C := RX4) (T := TX4) (N := 25) hx hb hts hin4 hown hK hP 0 rfl rfl 18 (by decide) (hts (.fieldLink RX4 51 "PartCurvesModel" "toldVolts" "[I") (by decide +kernel)) rfl dX4_off_1 ?_
  refine lv_iload_n hx hb dX4_off_4 rfl (lv_at hl 1 rfl) ?_
  refine qIld (v := (z 3 i)) hx hb hK hP 13 rfl (vp_in_nI (n := i) (N := 60) hi (by decide)) (congrArg (z 3) (nI_e i (Nat.lt_trans hi (by decide)))) dX4_off_5 ?_
  refine lv_aload_n hx hb dX4_off_6 rfl (lv_at hl 0 rfl) ?_
  refine qGet (ci := 4) (v := .ref (am 13)) (C := RX4) (T := TX4) (N := 25) hx hb hts hin4 hown hK hP 0 rfl rfl 18 (by decide) (hts (.fieldLink RX4 51 "PartCurvesModel" "toldVolts" "[I") (by decide +kernel)) rfl dX4_off_7 ?_
  refine lv_iload_n hx hb dX4_off_10 rfl (lv_at hl 2 rfl) ?_
  refine qIld (v := (z 3 a)) hx hb hK hP 13 rfl (vp_in_nI (n := a) (N := 60) ha (by decide)) (congrArg (z 3) (nI_e a (Nat.lt_trans ha (by decide)))) dX4_off_11 ?_
  refine lv_isub hx hb dX4_off_12 ?_
  refine lv_i2l hx hb dX4_off_13 rfl ?_
  refine lv_aload_n hx hb dX4_off_14 rfl (lv_at hl 0 rfl) ?_
  refine qGet (ci := 4) (v := .ref (am 14)) (C := RX4) (T := TX4) (N := 25) hx hb hts hin4 hown hK hP 0 rfl rfl 19 (by decide) (hts (.fieldLink RX4 54 "PartCurvesModel" "ampsOf" "[I") (by decide +kernel)) rfl dX4_off_15 ?_
  refine lv_iload_n hx hb dX4_off_18 rfl (lv_at hl 3 rfl) ?_
  refine qIld (v := (z 4 b)) hx hb hK hP 14 rfl (vp_in_nI (n := b) (N := 60) hb6 (by decide)) (congrArg (z 4) (nI_e b (Nat.lt_trans hb6 (by decide)))) dX4_off_19 ?_
  refine lv_aload_n hx hb dX4_off_20 rfl (lv_at hl 0 rfl) ?_
  refine qGet (ci := 4) (v := .ref (am 14)) (C := RX4) (T := TX4) (N := 25) hx hb hts hin4 hown hK hP 0 rfl rfl 19 (by decide) (hts (.fieldLink RX4 54 "PartCurvesModel" "ampsOf" "[I") (by decide +kernel)) rfl dX4_off_21 ?_
  refine lv_iload_n hx hb dX4_off_24 rfl (lv_at hl 2 rfl) ?_
  refine qIld (v := (z 4 a)) hx hb hK hP 14 rfl (vp_in_nI (n := a) (N := 60) ha (by decide)) (congrArg (z 4) (nI_e a (Nat.lt_trans ha (by decide)))) dX4_off_25 ?_
  refine lv_isub hx hb dX4_off_26 ?_
  refine lv_i2l hx hb dX4_off_27 rfl ?_
  refine lv_lmul hx hb dX4_off_28 ?_
  refine lv_aload_n hx hb dX4_off_29 rfl (lv_at hl 0 rfl) ?_
  refine qGet (ci := 4) (v := .ref (am 14)) (C := RX4) (T := TX4) (N := 25) hx hb hts hin4 hown hK hP 0 rfl rfl 19 (by decide) (hts (.fieldLink RX4 54 "PartCurvesModel" "ampsOf" "[I") (by decide +kernel)) rfl dX4_off_30 ?_
  refine lv_iload_n hx hb dX4_off_33 rfl (lv_at hl 1 rfl) ?_
  refine qIld (v := (z 4 i)) hx hb hK hP 14 rfl (vp_in_nI (n := i) (N := 60) hi (by decide)) (congrArg (z 4) (nI_e i (Nat.lt_trans hi (by decide)))) dX4_off_34 ?_
  refine lv_aload_n hx hb dX4_off_35 rfl (lv_at hl 0 rfl) ?_
  refine qGet (ci := 4) (v := .ref (am 14)) (C := RX4) (T := TX4) (N := 25) hx hb hts hin4 hown hK hP 0 rfl rfl 19 (by decide) (hts (.fieldLink RX4 54 "PartCurvesModel" "ampsOf" "[I") (by decide +kernel)) rfl dX4_off_36 ?_
  refine lv_iload_n hx hb dX4_off_39 rfl (lv_at hl 2 rfl) ?_
  refine qIld (v := (z 4 a)) hx hb hK hP 14 rfl (vp_in_nI (n := a) (N := 60) ha (by decide)) (congrArg (z 4) (nI_e a (Nat.lt_trans ha (by decide)))) dX4_off_40 ?_
  refine lv_isub hx hb dX4_off_41 ?_
  refine lv_i2l hx hb dX4_off_42 rfl ?_
  refine lv_aload_n hx hb dX4_off_43 rfl (lv_at hl 0 rfl) ?_
  refine qGet (ci := 4) (v := .ref (am 13)) (C := RX4) (T := TX4) (N := 25) hx hb hts hin4 hown hK hP 0 rfl rfl 18 (by decide) (hts (.fieldLink RX4 51 "PartCurvesModel" "toldVolts" "[I") (by decide +kernel)) rfl dX4_off_44 ?_
  refine lv_iload_n hx hb dX4_off_47 rfl (lv_at hl 3 rfl) ?_
  refine qIld (v := (z 3 b)) hx hb hK hP 13 rfl (vp_in_nI (n := b) (N := 60) hb6 (by decide)) (congrArg (z 3) (nI_e b (Nat.lt_trans hb6 (by decide)))) dX4_off_48 ?_
  refine lv_aload_n hx hb dX4_off_49 rfl (lv_at hl 0 rfl) ?_
  refine qGet (ci := 4) (v := .ref (am 13)) (C := RX4) (T := TX4) (N := 25) hx hb hts hin4 hown hK hP 0 rfl rfl 18 (by decide) (hts (.fieldLink RX4 51 "PartCurvesModel" "toldVolts" "[I") (by decide +kernel)) rfl dX4_off_50 ?_
  refine lv_iload_n hx hb dX4_off_53 rfl (lv_at hl 2 rfl) ?_
  refine qIld (v := (z 3 a)) hx hb hK hP 13 rfl (vp_in_nI (n := a) (N := 60) ha (by decide)) (congrArg (z 3) (nI_e a (Nat.lt_trans ha (by decide)))) dX4_off_54 ?_
  refine lv_isub hx hb dX4_off_55 ?_
  refine lv_i2l hx hb dX4_off_56 rfl ?_
  refine lv_lmul hx hb dX4_off_57 ?_
  refine lv_lsub hx hb dX4_off_58 ?_
  refine lv_lstore (lv' := [(4, .long (((((z 3 i) - (z 3 a)).toInt64) * (((z 4 b) - (z 4 a)).toInt64)) - ((((z 4 i) - (z 4 a)).toInt64) * (((z 3 b) - (z 3 a)).toInt64)))), (0, .ref (am 0)), (1, .int (nI i)), (2, .int (nI a)), (3, .int (nI b))]) hx hb dX4_off_59 hl (by decide) rfl (fun ls hl => ?_)
  refine lv_lload hx hb dX4_off_61 (lv_at hl 0 rfl) ?_
  refine lv_lconst (v := 0) hx hb dX4_off_63 rfl ?_
  refine W.lcmp hx hb dX4_off_64 ?_
  refine lv_if_ge (tgt := 74) hx hb dX4_off_65 (by decide) (fun c_65 => ?_) (fun c_65 => ?_)
  · -- 65 taken
    rw [lg_cmp_ge] at c_65
    refine lv_lload hx hb dX4_off_74 (lv_at hl 0 rfl) ?_
    exact qRl hx hb hr hlk hP hK hS dX4_off_76 (by unfold offF; rw [absL_M, if_neg (l_le_t c_65)]) rfl
  · -- 65 not taken
    rw [lg_cmp_ge] at c_65
    refine lv_lload hx hb dX4_off_68 (lv_at hl 0 rfl) ?_
    refine lv_lneg hx hb dX4_off_70 ?_
    refine lv_goto (tgt := 76) hx hb dX4_off_71 (by decide) ?_
    exact qRl hx hb hr hlk hP hK hS dX4_off_76 (by unfold offF; rw [absL_M, if_pos (l_le_f c_65)]) rfl
set_option maxHeartbeats 4000000 in
set_option maxRecDepth 100000 in
theorem kX4_knee (l : Launch) (g : qG) {am : Nat → Nat} (z : zS) (r : Nat → Int32) (hj : adInj 18 am) (hI : qInv z) (a b : Int32) : qMi l yX4_knee wsX4_knee 2 g (WMu g am) (adOf 18 am) (z, r) [.ref (am 0), .int a, .int b] (s_knee z a b) (z, r) := by
  refine qStart (cc := cX4_knee) (maxL := 8) (ret := (some .int)) (plainFor_of_name (by decide)) rfl (Nat.le_of_ble_eq_true rfl) ?_
  intro p e s m args below meth c hx hb hml hown hts hr hlk hP hK ls hl
  have hl : lv_has ls 8 [(0, .ref (am 0)), (1, .int a), (2, .int b)] := hl
  have hS : va_S (adOf 18 am) s.heap s.heap [] := va_S.rf
  have loop : ∀ (k : Nat) (j : Nat) (pt : Int32) (far : Int64), (ix a < 60 ∧ a = nI (ix a) ∧ vp_in a 60) → (ix b < 60 ∧ b = nI (ix b) ∧ vp_in b 60) → s_knee z a b = knF z (ix a) (ix b) → j + k = ix b + 1 → knR z (ix a) (ix b) k j pt far = knF z (ix a) (ix b) → ∀ (H : Heap) (locs : List Loc), va_P g.1 vwCl ((WMu g am) (z, r)) H → va_S (adOf 18 am) s.heap H locs → ∀ ls : Array Slot, lv_has ls 8 [(0, .ref (am 0)), (1, .int a), (2, .int b), (3, .int pt), (4, .long far), (6, .int (nI j))] → W p l e (rmL 2) s m args below meth c H locs 0 0 (MQ below (va_Qi (fun q9 u9 => q9 = s_knee z a b ∧ u9 = (z, r)) (qU g (WMu g am)) (adOf 18 am)) args s 0 0 (adOf 18 am)) (F0 m 35 ls []) := by
    intro k
    induction k with
    | zero =>
      intro j pt far hka hkb hsk hj2 hz H locs hP hS ls hl
      refine lv_iload hx hb dX4_knee_35 (lv_at hl 5 rfl) ?_
      refine lv_iload_n hx hb dX4_knee_37 rfl (lv_at hl 2 rfl) ?_
      refine lv_nm (y := nI (ix b)) (hkb.2.1) ?_
      refine lv_icmp_gt (tgt := 100) hx hb dX4_knee_38 (by decide) (fun c_38 => ?_) (fun c_38 => ?_)
      · -- 38 taken
        have c_38n := i_lt_t c_38
        refine lv_iload_n hx hb dX4_knee_100 rfl (lv_at hl 3 rfl) ?_
        exact qRi hx hb hr hlk hP hK hS dX4_knee_101 (by rw [hsk]; exact hz) rfl
      · -- 38 not taken
        have c_38n := i_lt_f c_38
        exact absurd (nI_gtf (by omega) (by omega) c_38) (by omega)
    | succ k ih =>
      intro j pt far hka hkb hsk hj2 hz H locs hP hS ls hl
      refine lv_iload hx hb dX4_knee_35 (lv_at hl 5 rfl) ?_
      refine lv_iload_n hx hb dX4_knee_37 rfl (lv_at hl 2 rfl) ?_
      refine lv_nm (y := nI (ix b)) (hkb.2.1) ?_
      refine lv_icmp_gt (tgt := 100) hx hb dX4_knee_38 (by decide) (fun c_38 => ?_) (fun c_38 => ?_)
      · -- 38 taken
        have c_38n := i_lt_t c_38
        exact absurd (nI_gtt (by omega) (by omega) c_38) (by omega)
      · -- 38 not taken
        have c_38n := i_lt_f c_38
        refine lv_aload_n hx hb dX4_knee_41 rfl (lv_at hl 0 rfl) ?_
        refine lv_iload hx hb dX4_knee_42 (lv_at hl 5 rfl) ?_
        refine lv_iload_n hx hb dX4_knee_44 rfl (lv_at hl 1 rfl) ?_
        refine lv_nm (y := nI (ix a)) (hka.2.1) ?_
        refine lv_iload_n hx hb dX4_knee_45 rfl (lv_at hl 2 rfl) ?_
        refine lv_nm (y := nI (ix b)) (hkb.2.1) ?_
        refine qVl (As := [.int (nI j), .int (nI (ix a)), .int (nI (ix b))]) (rest := []) hx hb hml hown hts (kX4_off l g z r hj (by omega) hka.1 hkb.1) gX4_knee_X4_off rfl 3 hdX4_off rfl ⟨Nat.le_of_ble_eq_true rfl, Nat.le_of_ble_eq_true rfl⟩ ⟨Nat.zero_le _, Nat.zero_le _⟩ hK hP hS (fun _ h => h) 0 4 rfl rfl rfl hl.1 rfl (Nat.le_of_ble_eq_true rfl) dX4_knee_46 (fun H locs hP hS => ?_)
        refine lv_lload hx hb dX4_knee_49 (lv_at hl 4 rfl) ?_
        refine W.lcmp hx hb dX4_knee_51 ?_
        refine lv_if_le (tgt := 59) hx hb dX4_knee_52 (by decide) (fun c_52 => ?_) (fun c_52 => ?_)
        · -- 52 taken
          rw [lg_cmp_le] at c_52
          have c_52n := l_le_t c_52
          refine lv_iconst (v := 0) hx hb dX4_knee_59 rfl ?_
          refine lv_istore (lv' := [(7, .int 0), (0, .ref (am 0)), (1, .int a), (2, .int b), (3, .int pt), (4, .long far), (6, .int (nI j))]) hx hb dX4_knee_60 hl (by decide) rfl (fun ls hl => ?_)
          refine lv_iload hx hb dX4_knee_62 (lv_at hl 0 rfl) ?_
          refine lv_if_eq (tgt := 72) hx hb dX4_knee_64 (by decide) (fun c_64 => ?_) (fun c_64 => ?_)
          · -- 64 taken
            refine lv_iload_n hx hb dX4_knee_72 rfl (lv_at hl 4 rfl) ?_
            refine lv_istore_n (lv' := [(3, .int pt), (7, .int 0), (0, .ref (am 0)), (1, .int a), (2, .int b), (4, .long far), (6, .int (nI j))]) hx hb dX4_knee_73 rfl hl (by decide) rfl (fun ls hl => ?_)
            refine lv_iload hx hb dX4_knee_74 (lv_at hl 1 rfl) ?_
            refine lv_if_eq (tgt := 90) hx hb dX4_knee_76 (by decide) (fun c_76 => ?_) (fun c_76 => ?_)
            · -- 76 taken
              refine lv_lload hx hb dX4_knee_90 (lv_at hl 5 rfl) ?_
              refine lv_lstore (lv' := [(4, .long far), (3, .int pt), (7, .int 0), (0, .ref (am 0)), (1, .int a), (2, .int b), (6, .int (nI j))]) hx hb dX4_knee_92 hl (by decide) rfl (fun ls hl => ?_)
              refine lv_iinc (v := nI (j + 1)) (lv' := [(6, .int (nI (j + 1))), (4, .long far), (3, .int pt), (7, .int 0), (0, .ref (am 0)), (1, .int a), (2, .int b)]) hx hb dX4_knee_94 hl (k := 6) rfl (nI_1 j) (by decide) rfl (fun ls hl => ?_)
              refine lv_goto (tgt := 35) hx hb dX4_knee_97 (by decide) ?_
              exact ih (j + 1) _ _ hka hkb hsk (by omega) (by rw [← hz, knR, if_neg c_52n]) _ _ hP hS ls (lv_sub hl [4, 5, 6, 2, 1, 0] rfl)
            · -- 76 not taken
              exact absurd c_64 c_76
          · -- 64 not taken
            exact absurd rfl c_64
        · -- 52 not taken
          rw [lg_cmp_le] at c_52
          have c_52n := l_le_f c_52
          refine lv_iconst (v := 1) hx hb dX4_knee_55 rfl ?_
          refine lv_goto (tgt := 60) hx hb dX4_knee_56 (by decide) ?_
          refine lv_istore (lv' := [(7, .int 1), (0, .ref (am 0)), (1, .int a), (2, .int b), (3, .int pt), (4, .long far), (6, .int (nI j))]) hx hb dX4_knee_60 hl (by decide) rfl (fun ls hl => ?_)
          refine lv_iload hx hb dX4_knee_62 (lv_at hl 0 rfl) ?_
          refine lv_if_eq (tgt := 72) hx hb dX4_knee_64 (by decide) (fun c_64 => ?_) (fun c_64 => ?_)
          · -- 64 taken
            exact absurd c_64 (by decide)
          · -- 64 not taken
            refine lv_iload hx hb dX4_knee_67 (lv_at hl 6 rfl) ?_
            refine lv_goto (tgt := 73) hx hb dX4_knee_69 (by decide) ?_
            refine lv_istore_n (lv' := [(3, .int (nI j)), (7, .int 1), (0, .ref (am 0)), (1, .int a), (2, .int b), (4, .long far), (6, .int (nI j))]) hx hb dX4_knee_73 rfl hl (by decide) rfl (fun ls hl => ?_)
            refine lv_iload hx hb dX4_knee_74 (lv_at hl 1 rfl) ?_
            refine lv_if_eq (tgt := 90) hx hb dX4_knee_76 (by decide) (fun c_76 => ?_) (fun c_76 => ?_)
            · -- 76 taken
              exact absurd c_76 c_64
            · -- 76 not taken
              refine lv_aload_n hx hb dX4_knee_79 rfl (lv_at hl 2 rfl) ?_
              refine lv_iload hx hb dX4_knee_80 (lv_at hl 6 rfl) ?_
              refine lv_iload_n hx hb dX4_knee_82 rfl (lv_at hl 3 rfl) ?_
              refine lv_nm (y := nI (ix a)) (hka.2.1) ?_
              refine lv_iload_n hx hb dX4_knee_83 rfl (lv_at hl 4 rfl) ?_
              refine lv_nm (y := nI (ix b)) (hkb.2.1) ?_
              refine qVl (As := [.int (nI j), .int (nI (ix a)), .int (nI (ix b))]) (rest := []) hx hb hml hown hts (kX4_off l g z r hj (by omega) hka.1 hkb.1) gX4_knee_X4_off rfl 3 hdX4_off rfl ⟨Nat.le_of_ble_eq_true rfl, Nat.le_of_ble_eq_true rfl⟩ ⟨Nat.zero_le _, Nat.zero_le _⟩ hK hP hS (fun _ h => h) 0 4 rfl rfl rfl hl.1 rfl (Nat.le_of_ble_eq_true rfl) dX4_knee_84 (fun H locs hP hS => ?_)
              refine lv_goto (tgt := 92) hx hb dX4_knee_87 (by decide) ?_
              refine lv_lstore (lv' := [(4, .long (offF z j (ix a) (ix b))), (3, .int (nI j)), (7, .int 1), (0, .ref (am 0)), (1, .int a), (2, .int b), (6, .int (nI j))]) hx hb dX4_knee_92 hl (by decide) rfl (fun ls hl => ?_)
              refine lv_iinc (v := nI (j + 1)) (lv' := [(6, .int (nI (j + 1))), (4, .long (offF z j (ix a) (ix b))), (3, .int (nI j)), (7, .int 1), (0, .ref (am 0)), (1, .int a), (2, .int b)]) hx hb dX4_knee_94 hl (k := 6) rfl (nI_1 j) (by decide) rfl (fun ls hl => ?_)
              refine lv_goto (tgt := 35) hx hb dX4_knee_97 (by decide) ?_
              exact ih (j + 1) _ _ hka hkb hsk (by omega) (by rw [← hz, knR, if_pos c_52n]) _ _ hP hS ls (lv_sub hl [4, 5, 6, 2, 1, 0] rfl)
  refine lv_aload_n hx hb dX4_knee_0 rfl (lv_at hl 0 rfl) ?_
  refine lv_iload_n hx hb dX4_knee_1 rfl (lv_at hl 1 rfl) ?_
  refine qVi (As := [.int a]) (rest := []) hx hb hml hown hts (kX4_isReading l g z r hj hI a) gX4_knee_X4_isReading rfl 1 hdX4_isReading rfl ⟨Nat.le_of_ble_eq_true rfl, Nat.le_of_ble_eq_true rfl⟩ ⟨Nat.zero_le _, Nat.zero_le _⟩ hK hP hS (fun _ h => h) 0 4 rfl rfl rfl hl.1 rfl (Nat.le_of_ble_eq_true rfl) dX4_knee_2 (fun H locs hP hS => ?_)
  refine lv_if_eq (tgt := 16) hx hb dX4_knee_5 (by decide) (fun c_5 => ?_) (fun c_5 => ?_)
  · -- 5 taken
    have c_5 := bI_0 c_5
    refine lv_iconst (v := -1) hx hb dX4_knee_16 rfl ?_
    exact qRi hx hb hr hlk hP hK hS dX4_knee_17 (by unfold s_knee; rw [if_neg (fun h => absurd h.1 (bn c_5))] <;> rfl) rfl
  · -- 5 not taken
    have c_5 := bI_n c_5
    refine lv_aload_n hx hb dX4_knee_8 rfl (lv_at hl 0 rfl) ?_
    refine lv_iload_n hx hb dX4_knee_9 rfl (lv_at hl 2 rfl) ?_
    refine qVi (As := [.int b]) (rest := []) hx hb hml hown hts (kX4_isReading l g z r hj hI b) gX4_knee_X4_isReading rfl 1 hdX4_isReading rfl ⟨Nat.le_of_ble_eq_true rfl, Nat.le_of_ble_eq_true rfl⟩ ⟨Nat.zero_le _, Nat.zero_le _⟩ hK hP hS (fun _ h => h) 0 4 rfl rfl rfl hl.1 rfl (Nat.le_of_ble_eq_true rfl) dX4_knee_10 (fun H locs hP hS => ?_)
    refine lv_if_ne (tgt := 18) hx hb dX4_knee_13 (by decide) (fun c_13 => ?_) (fun c_13 => ?_)
    · -- 13 taken
      have c_13 := bI_n c_13
      refine lv_iload_n hx hb dX4_knee_18 rfl (lv_at hl 1 rfl) ?_
      refine lv_iload_n hx hb dX4_knee_19 rfl (lv_at hl 2 rfl) ?_
      refine lv_icmp_le (tgt := 26) hx hb dX4_knee_20 (by decide) (fun c_20 => ?_) (fun c_20 => ?_)
      · -- 20 taken
        have c_20n := i_le_t c_20
        have hka := has_i hI c_5
        have hkb := has_i hI c_13
        have hle := ix_le hka.2.1 hkb.2.1 hka.1 hkb.1 c_20n
        have hsk : s_knee z a b = knF z (ix a) (ix b) := by unfold s_knee; rw [if_pos ⟨c_5, c_13⟩, if_neg c_20n]
        refine lv_bipush (v := -9) hx hb dX4_knee_26 (by decide) ?_
        refine lv_istore_n (lv' := [(3, .int (-9)), (0, .ref (am 0)), (1, .int a), (2, .int b)]) hx hb dX4_knee_28 rfl hl (by decide) rfl (fun ls hl => ?_)
        refine lv_lconst (v := 0) hx hb dX4_knee_29 rfl ?_
        refine lv_lstore (lv' := [(4, .long 0), (3, .int (-9)), (0, .ref (am 0)), (1, .int a), (2, .int b)]) hx hb dX4_knee_30 hl (by decide) rfl (fun ls hl => ?_)
        refine lv_iload_n hx hb dX4_knee_32 rfl (lv_at hl 3 rfl) ?_
        refine lv_nm (y := nI (ix a)) (hka.2.1) ?_
        refine lv_istore (lv' := [(6, .int (nI (ix a))), (4, .long 0), (3, .int (-9)), (0, .ref (am 0)), (1, .int a), (2, .int b)]) hx hb dX4_knee_33 hl (by decide) rfl (fun ls hl => ?_)
        exact loop (ix b + 1 - ix a) (ix a) (-9) 0 hka hkb hsk (by omega) rfl _ _ hP hS ls (lv_sub hl [3, 4, 5, 2, 1, 0] rfl)
      · -- 20 not taken
        have c_20n := i_le_f c_20
        refine lv_bipush (v := -2) hx hb dX4_knee_23 (by decide) ?_
        exact qRi hx hb hr hlk hP hK hS dX4_knee_25 (by unfold s_knee; rw [if_pos ⟨c_5, c_13⟩, if_pos c_20n] <;> rfl) rfl
    · -- 13 not taken
      have c_13 := bI_0 c_13
      refine lv_iconst (v := -1) hx hb dX4_knee_16 rfl ?_
      exact qRi hx hb hr hlk hP hK hS dX4_knee_17 (by unfold s_knee; rw [if_neg (fun h => absurd h.2 (bn c_13))] <;> rfl) rfl
set_option maxHeartbeats 4000000 in
set_option maxRecDepth 100000 in
theorem kX4_gap (l : Launch) (g : qG) {am : Nat → Nat} (z : zS) (r : Nat → Int32) (hj : adInj 18 am) (hI : qInv z) (a b : Int32) : qMi l yX4_gap wsX4_gap 2 g (WMu g am) (adOf 18 am) (z, r) [.ref (am 0), .int a, .int b] (s_gap z a b) (z, r) := by
  refine qStart (cc := cX4_gap) (maxL := 7) (ret := (some .int)) (plainFor_of_name (by decide)) rfl (Nat.le_of_ble_eq_true rfl) ?_
  intro p e s m args below meth c hx hb hml hown hts hr hlk hP hK ls hl
  have hl : lv_has ls 7 [(0, .ref (am 0)), (1, .int a), (2, .int b)] := hl
  have hS : va_S (adOf 18 am) s.heap s.heap [] := va_S.rf
  have hin4 : ∀ w ∈ u_ws RX4 TX4 25, w ∈ wsX4_gap := by decide +kernel
  have inner : ∀ (k : Nat) (x y : Nat) (t : Int32), (ix a < 60 ∧ a = nI (ix a) ∧ vp_in a 60) → (ix b < 60 ∧ b = nI (ix b) ∧ vp_in b 60) → x ≤ ix b → y + k = x → (∀ (H : Heap) (locs : List Loc), va_P g.1 vwCl ((WMu g am) (z, r)) H → va_S (adOf 18 am) s.heap H locs → ∀ ls : Array Slot, lv_has ls 7 [(0, .ref (am 0)), (1, .int a), (2, .int b), (3, .int (gmI z x k y t)), (4, .int (nI x))] → W p l e (rmL 2) s m args below meth c H locs 0 0 (MQ below (va_Qi (fun q9 u9 => q9 = s_gap z a b ∧ u9 = (z, r)) (qU g (WMu g am)) (adOf 18 am)) args s 0 0 (adOf 18 am)) (F0 m 107 ls [])) → ∀ (H : Heap) (locs : List Loc), va_P g.1 vwCl ((WMu g am) (z, r)) H → va_S (adOf 18 am) s.heap H locs → ∀ ls : Array Slot, lv_has ls 7 [(0, .ref (am 0)), (1, .int a), (2, .int b), (3, .int t), (4, .int (nI x)), (5, .int (nI y))] → W p l e (rmL 2) s m args below meth c H locs 0 0 (MQ below (va_Qi (fun q9 u9 => q9 = s_gap z a b ∧ u9 = (z, r)) (qU g (WMu g am)) (adOf 18 am)) args s 0 0 (adOf 18 am)) (F0 m 40 ls []) := by
    intro k
    induction k with
    | zero =>
      intro x y t hka hkb hx2 hy2 hc H locs hP hS ls hl
      refine lv_iload hx hb dX4_gap_40 (lv_at hl 5 rfl) ?_
      refine lv_iload hx hb dX4_gap_42 (lv_at hl 4 rfl) ?_
      refine lv_icmp_ge (tgt := 107) hx hb dX4_gap_44 (by decide) (fun c_44 => ?_) (fun c_44 => ?_)
      · -- 44 taken
        have c_44n := i_le_t c_44
        exact hc _ _ hP hS ls (lv_sub hl [0, 1, 2, 3, 4] rfl)
      · -- 44 not taken
        have c_44n := i_le_f c_44
        exact absurd (nI_lt' (by omega) (by omega) c_44) (by omega)
    | succ k ih =>
      intro x y t hka hkb hx2 hy2 hc H locs hP hS ls hl
      refine lv_iload hx hb dX4_gap_40 (lv_at hl 5 rfl) ?_
      refine lv_iload hx hb dX4_gap_42 (lv_at hl 4 rfl) ?_
      refine lv_icmp_ge (tgt := 107) hx hb dX4_gap_44 (by decide) (fun c_44 => ?_) (fun c_44 => ?_)
      · -- 44 taken
        have c_44n := i_le_t c_44
        exact absurd (nI_ge' (by omega) (by omega) c_44) (by omega)
      · -- 44 not taken
        have c_44n := i_le_f c_44
        refine lv_aload_n hx hb dX4_gap_47 rfl (lv_at hl 0 rfl) ?_
        refine qGet (ci := 4) (v := .ref (am 12)) (C := RX4) (T := TX4) (N := 25) hx hb hts hin4 hown hK hP 0 rfl rfl 17 (by decide) (hts (.fieldLink RX4 48 "PartCurvesModel" "forced" "[I") (by decide +kernel)) rfl dX4_gap_48 ?_
        refine lv_iload hx hb dX4_gap_51 (lv_at hl 4 rfl) ?_
        refine qIld (v := (z 2 x)) hx hb hK hP 12 rfl (vp_in_nI (n := x) (N := 60) (by omega) (by decide)) (congrArg (z 2) (nI_e x (by omega))) dX4_gap_53 ?_
        refine lv_aload_n hx hb dX4_gap_54 rfl (lv_at hl 0 rfl) ?_
        refine qGet (ci := 4) (v := .ref (am 12)) (C := RX4) (T := TX4) (N := 25) hx hb hts hin4 hown hK hP 0 rfl rfl 17 (by decide) (hts (.fieldLink RX4 48 "PartCurvesModel" "forced" "[I") (by decide +kernel)) rfl dX4_gap_55 ?_
        refine lv_iload hx hb dX4_gap_58 (lv_at hl 5 rfl) ?_
        refine qIld (v := (z 2 y)) hx hb hK hP 12 rfl (vp_in_nI (n := y) (N := 60) (by omega) (by decide)) (congrArg (z 2) (nI_e y (by omega))) dX4_gap_60 ?_
        refine lv_icmp_ne (tgt := 85) hx hb dX4_gap_61 (by decide) (fun c_61 => ?_) (fun c_61 => ?_)
        · -- 61 taken
          refine lv_iconst (v := 0) hx hb dX4_gap_85 rfl ?_
          refine lv_nm (y := gmV z x y) (by unfold gmV; rw [if_neg c_61]) ?_
          refine lv_istore (lv' := [(6, .int (gmV z x y)), (0, .ref (am 0)), (1, .int a), (2, .int b), (3, .int t), (4, .int (nI x)), (5, .int (nI y))]) hx hb dX4_gap_86 hl (by decide) rfl (fun ls hl => ?_)
          refine lv_iload hx hb dX4_gap_88 (lv_at hl 0 rfl) ?_
          refine lv_iload_n hx hb dX4_gap_90 rfl (lv_at hl 4 rfl) ?_
          refine lv_icmp_le (tgt := 99) hx hb dX4_gap_91 (by decide) (fun c_91 => ?_) (fun c_91 => ?_)
          · -- 91 taken
            have c_91n := i_le_t c_91
            refine lv_iload_n hx hb dX4_gap_99 rfl (lv_at hl 4 rfl) ?_
            refine lv_istore_n (lv' := [(3, .int t), (6, .int (gmV z x y)), (0, .ref (am 0)), (1, .int a), (2, .int b), (4, .int (nI x)), (5, .int (nI y))]) hx hb dX4_gap_100 rfl hl (by decide) rfl (fun ls hl => ?_)
            refine lv_iinc (v := nI (y + 1)) (lv' := [(5, .int (nI (y + 1))), (3, .int t), (6, .int (gmV z x y)), (0, .ref (am 0)), (1, .int a), (2, .int b), (4, .int (nI x))]) hx hb dX4_gap_101 hl (k := 6) rfl (nI_1 y) (by decide) rfl (fun ls hl => ?_)
            refine lv_goto (tgt := 40) hx hb dX4_gap_104 (by decide) ?_
            exact ih x (y + 1) _ hka hkb (by omega) (by omega) (by rw [gmI, if_neg c_91n] at hc; exact hc) _ _ hP hS ls (lv_sub hl [3, 4, 5, 1, 6, 0] rfl)
          · -- 91 not taken
            have c_91n := i_le_f c_91
            refine lv_iload hx hb dX4_gap_94 (lv_at hl 0 rfl) ?_
            refine lv_goto (tgt := 100) hx hb dX4_gap_96 (by decide) ?_
            refine lv_istore_n (lv' := [(3, .int (gmV z x y)), (6, .int (gmV z x y)), (0, .ref (am 0)), (1, .int a), (2, .int b), (4, .int (nI x)), (5, .int (nI y))]) hx hb dX4_gap_100 rfl hl (by decide) rfl (fun ls hl => ?_)
            refine lv_iinc (v := nI (y + 1)) (lv' := [(5, .int (nI (y + 1))), (3, .int (gmV z x y)), (6, .int (gmV z x y)), (0, .ref (am 0)), (1, .int a), (2, .int b), (4, .int (nI x))]) hx hb dX4_gap_101 hl (k := 6) rfl (nI_1 y) (by decide) rfl (fun ls hl => ?_)
            refine lv_goto (tgt := 40) hx hb dX4_gap_104 (by decide) ?_
            exact ih x (y + 1) _ hka hkb (by omega) (by omega) (by rw [gmI, if_pos c_91n] at hc; exact hc) _ _ hP hS ls (lv_sub hl [3, 4, 5, 1, 6, 0] rfl)
        · -- 61 not taken
          refine lv_aload_n hx hb dX4_gap_64 rfl (lv_at hl 0 rfl) ?_
          refine qGet (ci := 4) (v := .ref (am 14)) (C := RX4) (T := TX4) (N := 25) hx hb hts hin4 hown hK hP 0 rfl rfl 19 (by decide) (hts (.fieldLink RX4 54 "PartCurvesModel" "ampsOf" "[I") (by decide +kernel)) rfl dX4_gap_65 ?_
          refine lv_iload hx hb dX4_gap_68 (lv_at hl 4 rfl) ?_
          refine qIld (v := (z 4 x)) hx hb hK hP 14 rfl (vp_in_nI (n := x) (N := 60) (by omega) (by decide)) (congrArg (z 4) (nI_e x (by omega))) dX4_gap_70 ?_
          refine lv_aload_n hx hb dX4_gap_71 rfl (lv_at hl 0 rfl) ?_
          refine qGet (ci := 4) (v := .ref (am 14)) (C := RX4) (T := TX4) (N := 25) hx hb hts hin4 hown hK hP 0 rfl rfl 19 (by decide) (hts (.fieldLink RX4 54 "PartCurvesModel" "ampsOf" "[I") (by decide +kernel)) rfl dX4_gap_72 ?_
          refine lv_iload hx hb dX4_gap_75 (lv_at hl 5 rfl) ?_
          refine qIld (v := (z 4 y)) hx hb hK hP 14 rfl (vp_in_nI (n := y) (N := 60) (by omega) (by decide)) (congrArg (z 4) (nI_e y (by omega))) dX4_gap_77 ?_
          refine lv_isub hx hb dX4_gap_78 ?_
          refine qSi (As := [.int ((z 4 x) - (z 4 y))]) (rest := []) hx hb hml hown hts (kX4_size l g (Wd := (WMu g am)) (A := (adOf 18 am)) (z, r) ((z 4 x) - (z 4 y))) gX4_gap_X4_size rfl 1 hdX4_size rfl ⟨Nat.le_of_ble_eq_true rfl, Nat.le_of_ble_eq_true rfl⟩ ⟨Nat.zero_le _, Nat.zero_le _⟩ hK hP hS (fun _ h => h) hl.1 rfl (Nat.le_of_ble_eq_true rfl) dX4_gap_79 (fun H locs hP hS => ?_)
          refine lv_goto (tgt := 86) hx hb dX4_gap_82 (by decide) ?_
          refine lv_nm (y := gmV z x y) (by unfold gmV; rw [if_pos c_61]) ?_
          refine lv_istore (lv' := [(6, .int (gmV z x y)), (0, .ref (am 0)), (1, .int a), (2, .int b), (3, .int t), (4, .int (nI x)), (5, .int (nI y))]) hx hb dX4_gap_86 hl (by decide) rfl (fun ls hl => ?_)
          refine lv_iload hx hb dX4_gap_88 (lv_at hl 0 rfl) ?_
          refine lv_iload_n hx hb dX4_gap_90 rfl (lv_at hl 4 rfl) ?_
          refine lv_icmp_le (tgt := 99) hx hb dX4_gap_91 (by decide) (fun c_91 => ?_) (fun c_91 => ?_)
          · -- 91 taken
            have c_91n := i_le_t c_91
            refine lv_iload_n hx hb dX4_gap_99 rfl (lv_at hl 4 rfl) ?_
            refine lv_istore_n (lv' := [(3, .int t), (6, .int (gmV z x y)), (0, .ref (am 0)), (1, .int a), (2, .int b), (4, .int (nI x)), (5, .int (nI y))]) hx hb dX4_gap_100 rfl hl (by decide) rfl (fun ls hl => ?_)
            refine lv_iinc (v := nI (y + 1)) (lv' := [(5, .int (nI (y + 1))), (3, .int t), (6, .int (gmV z x y)), (0, .ref (am 0)), (1, .int a), (2, .int b), (4, .int (nI x))]) hx hb dX4_gap_101 hl (k := 6) rfl (nI_1 y) (by decide) rfl (fun ls hl => ?_)
            refine lv_goto (tgt := 40) hx hb dX4_gap_104 (by decide) ?_
            exact ih x (y + 1) _ hka hkb (by omega) (by omega) (by rw [gmI, if_neg c_91n] at hc; exact hc) _ _ hP hS ls (lv_sub hl [3, 4, 5, 1, 6, 0] rfl)
          · -- 91 not taken
            have c_91n := i_le_f c_91
            refine lv_iload hx hb dX4_gap_94 (lv_at hl 0 rfl) ?_
            refine lv_goto (tgt := 100) hx hb dX4_gap_96 (by decide) ?_
            refine lv_istore_n (lv' := [(3, .int (gmV z x y)), (6, .int (gmV z x y)), (0, .ref (am 0)), (1, .int a), (2, .int b), (4, .int (nI x)), (5, .int (nI y))]) hx hb dX4_gap_100 rfl hl (by decide) rfl (fun ls hl => ?_)
            refine lv_iinc (v := nI (y + 1)) (lv' := [(5, .int (nI (y + 1))), (3, .int (gmV z x y)), (6, .int (gmV z x y)), (0, .ref (am 0)), (1, .int a), (2, .int b), (4, .int (nI x))]) hx hb dX4_gap_101 hl (k := 6) rfl (nI_1 y) (by decide) rfl (fun ls hl => ?_)
            refine lv_goto (tgt := 40) hx hb dX4_gap_104 (by decide) ?_
            exact ih x (y + 1) _ hka hkb (by omega) (by omega) (by rw [gmI, if_pos c_91n] at hc; exact hc) _ _ hP hS ls (lv_sub hl [3, 4, 5, 1, 6, 0] rfl)
  have loop : ∀ (k : Nat) (x : Nat) (t : Int32), (ix a < 60 ∧ a = nI (ix a) ∧ vp_in a 60) → (ix b < 60 ∧ b = nI (ix b) ∧ vp_in b 60) → ix a ≤ ix b → s_gap z a b = gpF z (ix a) (ix b) → ix a ≤ x → x + k = ix b + 1 → gmR z (ix a) k x t = gmF z (ix a) (ix b) → ∀ (H : Heap) (locs : List Loc), va_P g.1 vwCl ((WMu g am) (z, r)) H → va_S (adOf 18 am) s.heap H locs → ∀ ls : Array Slot, lv_has ls 7 [(0, .ref (am 0)), (1, .int a), (2, .int b), (3, .int t), (4, .int (nI x))] → W p l e (rmL 2) s m args below meth c H locs 0 0 (MQ below (va_Qi (fun q9 u9 => q9 = s_gap z a b ∧ u9 = (z, r)) (qU g (WMu g am)) (adOf 18 am)) args s 0 0 (adOf 18 am)) (F0 m 31 ls []) := by
    intro k
    induction k with
    | zero =>
      intro x t hka hkb hle hsk hax hx2 hz H locs hP hS ls hl
      refine lv_iload hx hb dX4_gap_31 (lv_at hl 4 rfl) ?_
      refine lv_iload_n hx hb dX4_gap_33 rfl (lv_at hl 2 rfl) ?_
      refine lv_nm (y := nI (ix b)) (hkb.2.1) ?_
      refine lv_icmp_gt (tgt := 113) hx hb dX4_gap_34 (by decide) (fun c_34 => ?_) (fun c_34 => ?_)
      · -- 34 taken
        have c_34n := i_lt_t c_34
        refine lv_iload_n hx hb dX4_gap_113 rfl (lv_at hl 3 rfl) ?_
        exact qRi hx hb hr hlk hP hK hS dX4_gap_114 (by rw [hsk, ← gm_eq z hle]; exact hz) rfl
      · -- 34 not taken
        have c_34n := i_lt_f c_34
        exact absurd (nI_gtf (by omega) (by omega) c_34) (by omega)
    | succ k ih =>
      intro x t hka hkb hle hsk hax hx2 hz H locs hP hS ls hl
      refine lv_iload hx hb dX4_gap_31 (lv_at hl 4 rfl) ?_
      refine lv_iload_n hx hb dX4_gap_33 rfl (lv_at hl 2 rfl) ?_
      refine lv_nm (y := nI (ix b)) (hkb.2.1) ?_
      refine lv_icmp_gt (tgt := 113) hx hb dX4_gap_34 (by decide) (fun c_34 => ?_) (fun c_34 => ?_)
      · -- 34 taken
        have c_34n := i_lt_t c_34
        exact absurd (nI_gtt (by omega) (by omega) c_34) (by omega)
      · -- 34 not taken
        have c_34n := i_lt_f c_34
        refine lv_iload_n hx hb dX4_gap_37 rfl (lv_at hl 1 rfl) ?_
        refine lv_nm (y := nI (ix a)) (hka.2.1) ?_
        refine lv_istore (lv' := [(5, .int (nI (ix a))), (0, .ref (am 0)), (1, .int a), (2, .int b), (3, .int t), (4, .int (nI x))]) hx hb dX4_gap_38 hl (by decide) rfl (fun ls hl => ?_)
        refine inner (x - ix a) x (ix a) t hka hkb (by omega) (by omega) ?_ _ _ hP hS ls (lv_sub hl [1, 2, 3, 4, 5, 0] rfl)
        intro H locs hP hS ls hl
        refine lv_iinc (v := nI (x + 1)) (lv' := [(4, .int (nI (x + 1))), (0, .ref (am 0)), (1, .int a), (2, .int b), (3, .int (gmI z x (x - ix a) (ix a) t))]) hx hb dX4_gap_107 hl (k := 4) rfl (nI_1 x) (by decide) rfl (fun ls hl => ?_)
        refine lv_goto (tgt := 31) hx hb dX4_gap_110 (by decide) ?_
        exact ih (x + 1) _ hka hkb hle hsk (by omega) (by omega) (by rw [← hz]; rfl) _ _ hP hS ls (lv_sub hl [1, 2, 3, 4, 0] rfl)
  refine lv_aload_n hx hb dX4_gap_0 rfl (lv_at hl 0 rfl) ?_
  refine lv_iload_n hx hb dX4_gap_1 rfl (lv_at hl 1 rfl) ?_
  refine qVi (As := [.int a]) (rest := []) hx hb hml hown hts (kX4_isReading l g z r hj hI a) gX4_gap_X4_isReading rfl 1 hdX4_isReading rfl ⟨Nat.le_of_ble_eq_true rfl, Nat.le_of_ble_eq_true rfl⟩ ⟨Nat.zero_le _, Nat.zero_le _⟩ hK hP hS (fun _ h => h) 0 4 rfl rfl rfl hl.1 rfl (Nat.le_of_ble_eq_true rfl) dX4_gap_2 (fun H locs hP hS => ?_)
  refine lv_if_eq (tgt := 16) hx hb dX4_gap_5 (by decide) (fun c_5 => ?_) (fun c_5 => ?_)
  · -- 5 taken
    have c_5 := bI_0 c_5
    refine lv_iconst (v := -1) hx hb dX4_gap_16 rfl ?_
    exact qRi hx hb hr hlk hP hK hS dX4_gap_17 (by unfold s_gap; rw [if_neg (fun h => absurd h.1 (bn c_5))] <;> rfl) rfl
  · -- 5 not taken
    have c_5 := bI_n c_5
    refine lv_aload_n hx hb dX4_gap_8 rfl (lv_at hl 0 rfl) ?_
    refine lv_iload_n hx hb dX4_gap_9 rfl (lv_at hl 2 rfl) ?_
    refine qVi (As := [.int b]) (rest := []) hx hb hml hown hts (kX4_isReading l g z r hj hI b) gX4_gap_X4_isReading rfl 1 hdX4_isReading rfl ⟨Nat.le_of_ble_eq_true rfl, Nat.le_of_ble_eq_true rfl⟩ ⟨Nat.zero_le _, Nat.zero_le _⟩ hK hP hS (fun _ h => h) 0 4 rfl rfl rfl hl.1 rfl (Nat.le_of_ble_eq_true rfl) dX4_gap_10 (fun H locs hP hS => ?_)
    refine lv_if_ne (tgt := 18) hx hb dX4_gap_13 (by decide) (fun c_13 => ?_) (fun c_13 => ?_)
    · -- 13 taken
      have c_13 := bI_n c_13
      refine lv_iload_n hx hb dX4_gap_18 rfl (lv_at hl 1 rfl) ?_
      refine lv_iload_n hx hb dX4_gap_19 rfl (lv_at hl 2 rfl) ?_
      refine lv_icmp_le (tgt := 26) hx hb dX4_gap_20 (by decide) (fun c_20 => ?_) (fun c_20 => ?_)
      · -- 20 taken
        have c_20n := i_le_t c_20
        have hka := has_i hI c_5
        have hkb := has_i hI c_13
        have hle := ix_le hka.2.1 hkb.2.1 hka.1 hkb.1 c_20n
        have hsk : s_gap z a b = gpF z (ix a) (ix b) := by unfold s_gap; rw [if_pos ⟨c_5, c_13⟩, if_neg c_20n]
        refine lv_iconst (v := 0) hx hb dX4_gap_26 rfl ?_
        refine lv_istore_n (lv' := [(3, .int 0), (0, .ref (am 0)), (1, .int a), (2, .int b)]) hx hb dX4_gap_27 rfl hl (by decide) rfl (fun ls hl => ?_)
        refine lv_iload_n hx hb dX4_gap_28 rfl (lv_at hl 2 rfl) ?_
        refine lv_nm (y := nI (ix a)) (hka.2.1) ?_
        refine lv_istore (lv' := [(4, .int (nI (ix a))), (3, .int 0), (0, .ref (am 0)), (1, .int a), (2, .int b)]) hx hb dX4_gap_29 hl (by decide) rfl (fun ls hl => ?_)
        exact loop (ix b + 1 - ix a) (ix a) 0 hka hkb hle hsk (Nat.le_refl _) (by omega) rfl _ _ hP hS ls (lv_sub hl [2, 3, 4, 1, 0] rfl)
      · -- 20 not taken
        have c_20n := i_le_f c_20
        refine lv_bipush (v := -2) hx hb dX4_gap_23 (by decide) ?_
        exact qRi hx hb hr hlk hP hK hS dX4_gap_25 (by unfold s_gap; rw [if_pos ⟨c_5, c_13⟩, if_pos c_20n] <;> rfl) rfl
    · -- 13 not taken
      have c_13 := bI_0 c_13
      refine lv_iconst (v := -1) hx hb dX4_gap_16 rfl ?_
      exact qRi hx hb hr hlk hP hK hS dX4_gap_17 (by unfold s_gap; rw [if_neg (fun h => absurd h.2 (bn c_13))] <;> rfl) rfl
