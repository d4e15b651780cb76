theorem pos_of_le {x : Int32} (h : 1 ≤ x) : 0 < x.toInt := by have := Int32.le_iff_toInt_le.mp h; have e : (1 : Int32).toInt = 1 := rfl; omega
theorem zu_zu (z : zS) (i j : Nat) (v w : Int32) : zu (zu z i j v) i j w = zu z i j w := by
  funext a b; simp only [zu]; by_cases h : a = i <;> by_cases h2 : b = j <;> simp [h, h2]
theorem zu_self (z : zS) (i j : Nat) : zu z i j (z i j) = z := by
  funext a b; simp only [zu]; by_cases h : a = i
  · by_cases h2 : b = j
    · rw [if_pos h, if_pos h2, h, h2]
    · rw [if_pos h, if_neg h2]
  · rw [if_neg h]
theorem num4 {w : Int32} (h : inR w 0 4 = true) (h0 : ¬ w = 0) (h1 : ¬ w = 1) (h2 : ¬ w = 2) (h3 : ¬ w = 3) : ix w = 4 := by
  obtain ⟨a, b, c⟩ := inR_ix (n := 4) rfl h
  have g0 := ne_toInt h0 (k := 0) rfl
  have g1 := ne_toInt h1 (k := 1) rfl
  have g2 := ne_toInt h2 (k := 2) rfl
  have g3 := ne_toInt h3 (k := 3) rfl
  omega
theorem lt3 {a b : Int32} (h : ¬ b ≤ a) : a < b := by
  rw [Int32.lt_iff_toInt_lt]; rw [Int32.le_iff_toInt_le] at h; omega
theorem nlt3 {a b : Int32} (h : b ≤ a) : ¬ a < b := by
  rw [Int32.lt_iff_toInt_lt]; rw [Int32.le_iff_toInt_le] at h; omega
set_option maxHeartbeats 4000000 in
set_option maxRecDepth 100000 in
theorem kX1_coldAmps (l : Launch) (g : qG) {ad : Nat → Nat} (z : zS) (hj : adInj 15 ad) {i : Nat} (hi : i < 4) (v : Int32) : qMi l yX1_coldAmps wsX1_coldAmps 1 g (WX g ad) (adOf 15 ad) z [.ref (ad (10 + i)), .int v] (coldF (z (10 + i)) v) z := by
  refine qStart (cc := cX1_coldAmps) (maxL := 3) (ret := (some .int)) (plainFor_of_name (by decide)) rfl (Nat.le_of_ble_eq_true rfl) ?_
  intro p e s m args below meth c hx hb hml hown hts hr hlk hP hK ls hl
  have hl : lv_has ls 3 [(0, .ref (ad (10 + i))), (1, .int v)] := hl
  have hS : va_S (adOf 15 ad) s.heap s.heap [] := va_S.rf
  have hin1 : ∀ w ∈ u_ws RX1 TX1 12, w ∈ wsX1_coldAmps := by decide +kernel
  refine lv_aload_n hx hb dX1_coldAmps_0 rfl (lv_at hl 0 rfl) ?_
  refine qGet (ci := 1) (v := .int (z (10 + i) 5)) (C := RX1) (T := TX1) (N := 12) hx hb hts hin1 hown hK hP (10 + i) (WX_p g ad z hi) rfl 5 (by decide) (hts (.fieldLink RX1 33 "PartCurves$Part" "kind" "I") (by decide +kernel)) rfl dX1_coldAmps_1 ?_
  refine lv_if_eq (tgt := 22) hx hb dX1_coldAmps_4 (by decide) (fun c_4 => ?_) (fun c_4 => ?_)
  · -- 4 taken
    refine lv_iload_n hx hb dX1_coldAmps_22 rfl (lv_at hl 1 rfl) ?_
    refine lv_aload_n hx hb dX1_coldAmps_23 rfl (lv_at hl 0 rfl) ?_
    refine qGet (ci := 1) (v := .int (z (10 + i) 7)) (C := RX1) (T := TX1) (N := 12) hx hb hts hin1 hown hK hP (10 + i) (WX_p g ad z hi) rfl 7 (by decide) (hts (.fieldLink RX1 39 "PartCurves$Part" "g" "I") (by decide +kernel)) rfl dX1_coldAmps_24 ?_
    refine lv_imul hx hb dX1_coldAmps_27 ?_
    refine lv_sipush (v := 1000) hx hb dX1_coldAmps_28 (by decide) ?_
    refine qSi (As := [.int (v * (z (10 + i) 7)), .int 1000]) (rest := []) hx hb hml hown hts (kJ9_floorDiv l g (Wd := (WX g ad)) (A := (adOf 15 ad)) z (v * (z (10 + i) 7)) 1000 (by decide)) gX1_coldAmps_J9_floorDiv_7cf53 rfl 2 hdJ9_floorDiv_7cf53 rfl ⟨Nat.le_of_ble_eq_true rfl, Nat.le_of_ble_eq_true rfl⟩ ⟨Nat.zero_le _, Nat.zero_le _⟩ hK hP hS (fun _ h => h) hl.1 rfl (Nat.le_of_ble_eq_true rfl) dX1_coldAmps_31 (fun H locs hP hS => ?_)
    exact qRi hx hb hr hlk hP hK hS dX1_coldAmps_34 (by first | rfl | simp [coldF, c_4]) (by first | rfl | simp [coldF, c_4])
  · -- 4 not taken
    refine lv_aload_n hx hb dX1_coldAmps_7 rfl (lv_at hl 0 rfl) ?_
    refine qGet (ci := 1) (v := .int (z (10 + i) 5)) (C := RX1) (T := TX1) (N := 12) hx hb hts hin1 hown hK hP (10 + i) (WX_p g ad z hi) rfl 5 (by decide) (hts (.fieldLink RX1 33 "PartCurves$Part" "kind" "I") (by decide +kernel)) rfl dX1_coldAmps_8 ?_
    refine lv_iconst (v := 3) hx hb dX1_coldAmps_11 rfl ?_
    refine lv_icmp_ne (tgt := 35) hx hb dX1_coldAmps_12 (by decide) (fun c_12 => ?_) (fun c_12 => ?_)
    · -- 12 taken
      refine lv_iload_n hx hb dX1_coldAmps_35 rfl (lv_at hl 1 rfl) ?_
      refine lv_aload_n hx hb dX1_coldAmps_36 rfl (lv_at hl 0 rfl) ?_
      refine qGet (ci := 1) (v := .int (z (10 + i) 9)) (C := RX1) (T := TX1) (N := 12) hx hb hts hin1 hown hK hP (10 + i) (WX_p g ad z hi) rfl 9 (by decide) (hts (.fieldLink RX1 45 "PartCurves$Part" "h" "I") (by decide +kernel)) rfl dX1_coldAmps_37 ?_
      refine lv_imul hx hb dX1_coldAmps_40 ?_
      refine lv_sipush (v := 1000) hx hb dX1_coldAmps_41 (by decide) ?_
      refine qSi (As := [.int (v * (z (10 + i) 9)), .int 1000]) (rest := []) hx hb hml hown hts (kJ9_floorDiv l g (Wd := (WX g ad)) (A := (adOf 15 ad)) z (v * (z (10 + i) 9)) 1000 (by decide)) gX1_coldAmps_J9_floorDiv_7cf53 rfl 2 hdJ9_floorDiv_7cf53 rfl ⟨Nat.le_of_ble_eq_true rfl, Nat.le_of_ble_eq_true rfl⟩ ⟨Nat.zero_le _, Nat.zero_le _⟩ hK hP hS (fun _ h => h) hl.1 rfl (Nat.le_of_ble_eq_true rfl) dX1_coldAmps_44 (fun H locs hP hS => ?_)
      refine lv_istore_n (lv' := [(2, .int (fdv (v * (z (10 + i) 9)) 1000)), (0, .ref (ad (10 + i))), (1, .int v)]) hx hb dX1_coldAmps_47 rfl hl (by decide) rfl (fun ls hl => ?_)
      refine lv_iload_n hx hb dX1_coldAmps_48 rfl (lv_at hl 2 rfl) ?_
      refine lv_aload_n hx hb dX1_coldAmps_49 rfl (lv_at hl 1 rfl) ?_
      refine qGet (ci := 1) (v := .int (z (10 + i) 8)) (C := RX1) (T := TX1) (N := 12) hx hb hts hin1 hown hK hP (10 + i) (WX_p g ad z hi) rfl 8 (by decide) (hts (.fieldLink RX1 42 "PartCurves$Part" "k" "I") (by decide +kernel)) rfl dX1_coldAmps_50 ?_
      refine lv_icmp_le (tgt := 84) hx hb dX1_coldAmps_53 (by decide) (fun c_53 => ?_) (fun c_53 => ?_)
      · -- 53 taken
        have c_53n := i_le_t c_53
        refine lv_iload_n hx hb dX1_coldAmps_84 rfl (lv_at hl 2 rfl) ?_
        refine lv_aload_n hx hb dX1_coldAmps_85 rfl (lv_at hl 1 rfl) ?_
        refine qGet (ci := 1) (v := .int (z (10 + i) 8)) (C := RX1) (T := TX1) (N := 12) hx hb hts hin1 hown hK hP (10 + i) (WX_p g ad z hi) rfl 8 (by decide) (hts (.fieldLink RX1 42 "PartCurves$Part" "k" "I") (by decide +kernel)) rfl dX1_coldAmps_86 ?_
        refine lv_ineg hx hb dX1_coldAmps_89 ?_
        refine lv_icmp_ge (tgt := 121) hx hb dX1_coldAmps_90 (by decide) (fun c_90 => ?_) (fun c_90 => ?_)
        · -- 90 taken
          have c_90n := i_le_t c_90
          refine lv_iload_n hx hb dX1_coldAmps_121 rfl (lv_at hl 0 rfl) ?_
          exact qRi hx hb hr hlk hP hK hS dX1_coldAmps_122 (by first | rfl | simp [coldF, c_4, c_12, c_53, c_53n, c_90, c_90n]) (by first | rfl | simp [coldF, c_4, c_12, c_53, c_53n, c_90, c_90n])
        · -- 90 not taken
          have c_90n := i_le_f c_90
          refine lv_aload_n hx hb dX1_coldAmps_93 rfl (lv_at hl 1 rfl) ?_
          refine qGet (ci := 1) (v := .int (z (10 + i) 5)) (C := RX1) (T := TX1) (N := 12) hx hb hts hin1 hown hK hP (10 + i) (WX_p g ad z hi) rfl 5 (by decide) (hts (.fieldLink RX1 33 "PartCurves$Part" "kind" "I") (by decide +kernel)) rfl dX1_coldAmps_94 ?_
          refine lv_iconst (v := 2) hx hb dX1_coldAmps_97 rfl ?_
          refine lv_icmp_ne (tgt := 121) hx hb dX1_coldAmps_98 (by decide) (fun c_98 => ?_) (fun c_98 => ?_)
          · -- 98 taken
            refine lv_iload_n hx hb dX1_coldAmps_121 rfl (lv_at hl 0 rfl) ?_
            exact qRi hx hb hr hlk hP hK hS dX1_coldAmps_122 (by first | rfl | simp [coldF, c_4, c_12, c_53, c_53n, c_90, c_90n, c_98]) (by first | rfl | simp [coldF, c_4, c_12, c_53, c_53n, c_90, c_90n, c_98])
          · -- 98 not taken
            refine lv_iload_n hx hb dX1_coldAmps_101 rfl (lv_at hl 0 rfl) ?_
            refine lv_iload_n hx hb dX1_coldAmps_102 rfl (lv_at hl 2 rfl) ?_
            refine lv_aload_n hx hb dX1_coldAmps_103 rfl (lv_at hl 1 rfl) ?_
            refine qGet (ci := 1) (v := .int (z (10 + i) 8)) (C := RX1) (T := TX1) (N := 12) hx hb hts hin1 hown hK hP (10 + i) (WX_p g ad z hi) rfl 8 (by decide) (hts (.fieldLink RX1 42 "PartCurves$Part" "k" "I") (by decide +kernel)) rfl dX1_coldAmps_104 ?_
            refine lv_iadd hx hb dX1_coldAmps_107 ?_
            refine lv_aload_n hx hb dX1_coldAmps_108 rfl (lv_at hl 1 rfl) ?_
            refine qGet (ci := 1) (v := .int (z (10 + i) 7)) (C := RX1) (T := TX1) (N := 12) hx hb hts hin1 hown hK hP (10 + i) (WX_p g ad z hi) rfl 7 (by decide) (hts (.fieldLink RX1 39 "PartCurves$Part" "g" "I") (by decide +kernel)) rfl dX1_coldAmps_109 ?_
            refine lv_imul hx hb dX1_coldAmps_112 ?_
            refine lv_sipush (v := 1000) hx hb dX1_coldAmps_113 (by decide) ?_
            refine qSi (As := [.int ((v + (z (10 + i) 8)) * (z (10 + i) 7)), .int 1000]) (rest := [.int (fdv (v * (z (10 + i) 9)) 1000)]) hx hb hml hown hts (kJ9_floorDiv l g (Wd := (WX g ad)) (A := (adOf 15 ad)) z ((v + (z (10 + i) 8)) * (z (10 + i) 7)) 1000 (by decide)) gX1_coldAmps_J9_floorDiv_7cf53 rfl 2 hdJ9_floorDiv_7cf53 rfl ⟨Nat.le_of_ble_eq_true rfl, Nat.le_of_ble_eq_true rfl⟩ ⟨Nat.zero_le _, Nat.zero_le _⟩ hK hP hS (fun _ h => h) hl.1 rfl (Nat.le_of_ble_eq_true rfl) dX1_coldAmps_116 (fun H locs hP hS => ?_)
            refine lv_iadd hx hb dX1_coldAmps_119 ?_
            refine lv_istore_n (lv' := [(2, .int ((fdv (v * (z (10 + i) 9)) 1000) + (fdv ((v + (z (10 + i) 8)) * (z (10 + i) 7)) 1000))), (0, .ref (ad (10 + i))), (1, .int v)]) hx hb dX1_coldAmps_120 rfl hl (by decide) rfl (fun ls hl => ?_)
            refine lv_iload_n hx hb dX1_coldAmps_121 rfl (lv_at hl 0 rfl) ?_
            exact qRi hx hb hr hlk hP hK hS dX1_coldAmps_122 (by first | rfl | simp [coldF, c_4, c_12, c_53, c_53n, c_90, c_90n, c_98]) (by first | rfl | simp [coldF, c_4, c_12, c_53, c_53n, c_90, c_90n, c_98])
      · -- 53 not taken
        have c_53n := i_le_f c_53
        refine lv_aload_n hx hb dX1_coldAmps_56 rfl (lv_at hl 1 rfl) ?_
        refine qGet (ci := 1) (v := .int (z (10 + i) 5)) (C := RX1) (T := TX1) (N := 12) hx hb hts hin1 hown hK hP (10 + i) (WX_p g ad z hi) rfl 5 (by decide) (hts (.fieldLink RX1 33 "PartCurves$Part" "kind" "I") (by decide +kernel)) rfl dX1_coldAmps_57 ?_
        refine lv_iconst (v := 3) hx hb dX1_coldAmps_60 rfl ?_
        refine lv_icmp_eq (tgt := 84) hx hb dX1_coldAmps_61 (by decide) (fun c_61 => ?_) (fun c_61 => ?_)
        · -- 61 taken
          exact absurd c_61 c_12
        · -- 61 not taken
          refine lv_iload_n hx hb dX1_coldAmps_64 rfl (lv_at hl 0 rfl) ?_
          refine lv_iload_n hx hb dX1_coldAmps_65 rfl (lv_at hl 2 rfl) ?_
          refine lv_aload_n hx hb dX1_coldAmps_66 rfl (lv_at hl 1 rfl) ?_
          refine qGet (ci := 1) (v := .int (z (10 + i) 8)) (C := RX1) (T := TX1) (N := 12) hx hb hts hin1 hown hK hP (10 + i) (WX_p g ad z hi) rfl 8 (by decide) (hts (.fieldLink RX1 42 "PartCurves$Part" "k" "I") (by decide +kernel)) rfl dX1_coldAmps_67 ?_
          refine lv_isub hx hb dX1_coldAmps_70 ?_
          refine lv_aload_n hx hb dX1_coldAmps_71 rfl (lv_at hl 1 rfl) ?_
          refine qGet (ci := 1) (v := .int (z (10 + i) 7)) (C := RX1) (T := TX1) (N := 12) hx hb hts hin1 hown hK hP (10 + i) (WX_p g ad z hi) rfl 7 (by decide) (hts (.fieldLink RX1 39 "PartCurves$Part" "g" "I") (by decide +kernel)) rfl dX1_coldAmps_72 ?_
          refine lv_imul hx hb dX1_coldAmps_75 ?_
          refine lv_sipush (v := 1000) hx hb dX1_coldAmps_76 (by decide) ?_
          refine qSi (As := [.int ((v - (z (10 + i) 8)) * (z (10 + i) 7)), .int 1000]) (rest := [.int (fdv (v * (z (10 + i) 9)) 1000)]) hx hb hml hown hts (kJ9_floorDiv l g (Wd := (WX g ad)) (A := (adOf 15 ad)) z ((v - (z (10 + i) 8)) * (z (10 + i) 7)) 1000 (by decide)) gX1_coldAmps_J9_floorDiv_7cf53 rfl 2 hdJ9_floorDiv_7cf53 rfl ⟨Nat.le_of_ble_eq_true rfl, Nat.le_of_ble_eq_true rfl⟩ ⟨Nat.zero_le _, Nat.zero_le _⟩ hK hP hS (fun _ h => h) hl.1 rfl (Nat.le_of_ble_eq_true rfl) dX1_coldAmps_79 (fun H locs hP hS => ?_)
          refine lv_iadd hx hb dX1_coldAmps_82 ?_
          refine lv_istore_n (lv' := [(2, .int ((fdv (v * (z (10 + i) 9)) 1000) + (fdv ((v - (z (10 + i) 8)) * (z (10 + i) 7)) 1000))), (0, .ref (ad (10 + i))), (1, .int v)]) hx hb dX1_coldAmps_83 rfl hl (by decide) rfl (fun ls hl => ?_)
          refine lv_iload_n hx hb dX1_coldAmps_84 rfl (lv_at hl 2 rfl) ?_
          refine lv_aload_n hx hb dX1_coldAmps_85 rfl (lv_at hl 1 rfl) ?_
          refine qGet (ci := 1) (v := .int (z (10 + i) 8)) (C := RX1) (T := TX1) (N := 12) hx hb hts hin1 hown hK hP (10 + i) (WX_p g ad z hi) rfl 8 (by decide) (hts (.fieldLink RX1 42 "PartCurves$Part" "k" "I") (by decide +kernel)) rfl dX1_coldAmps_86 ?_
          refine lv_ineg hx hb dX1_coldAmps_89 ?_
          refine lv_icmp_ge (tgt := 121) hx hb dX1_coldAmps_90 (by decide) (fun c_90 => ?_) (fun c_90 => ?_)
          · -- 90 taken
            have c_90n := i_le_t c_90
            refine lv_iload_n hx hb dX1_coldAmps_121 rfl (lv_at hl 0 rfl) ?_
            exact qRi hx hb hr hlk hP hK hS dX1_coldAmps_122 (by first | rfl | simp [coldF, c_4, c_12, c_53, c_53n, c_61, c_90, c_90n]) (by first | rfl | simp [coldF, c_4, c_12, c_53, c_53n, c_61, c_90, c_90n])
          · -- 90 not taken
            have c_90n := i_le_f c_90
            refine lv_aload_n hx hb dX1_coldAmps_93 rfl (lv_at hl 1 rfl) ?_
            refine qGet (ci := 1) (v := .int (z (10 + i) 5)) (C := RX1) (T := TX1) (N := 12) hx hb hts hin1 hown hK hP (10 + i) (WX_p g ad z hi) rfl 5 (by decide) (hts (.fieldLink RX1 33 "PartCurves$Part" "kind" "I") (by decide +kernel)) rfl dX1_coldAmps_94 ?_
            refine lv_iconst (v := 2) hx hb dX1_coldAmps_97 rfl ?_
            refine lv_icmp_ne (tgt := 121) hx hb dX1_coldAmps_98 (by decide) (fun c_98 => ?_) (fun c_98 => ?_)
            · -- 98 taken
              refine lv_iload_n hx hb dX1_coldAmps_121 rfl (lv_at hl 0 rfl) ?_
              exact qRi hx hb hr hlk hP hK hS dX1_coldAmps_122 (by first | rfl | simp [coldF, c_4, c_12, c_53, c_53n, c_61, c_90, c_90n, c_98]) (by first | rfl | simp [coldF, c_4, c_12, c_53, c_53n, c_61, c_90, c_90n, c_98])
            · -- 98 not taken
              refine lv_iload_n hx hb dX1_coldAmps_101 rfl (lv_at hl 0 rfl) ?_
              refine lv_iload_n hx hb dX1_coldAmps_102 rfl (lv_at hl 2 rfl) ?_
              refine lv_aload_n hx hb dX1_coldAmps_103 rfl (lv_at hl 1 rfl) ?_
              refine qGet (ci := 1) (v := .int (z (10 + i) 8)) (C := RX1) (T := TX1) (N := 12) hx hb hts hin1 hown hK hP (10 + i) (WX_p g ad z hi) rfl 8 (by decide) (hts (.fieldLink RX1 42 "PartCurves$Part" "k" "I") (by decide +kernel)) rfl dX1_coldAmps_104 ?_
              refine lv_iadd hx hb dX1_coldAmps_107 ?_
              refine lv_aload_n hx hb dX1_coldAmps_108 rfl (lv_at hl 1 rfl) ?_
              refine qGet (ci := 1) (v := .int (z (10 + i) 7)) (C := RX1) (T := TX1) (N := 12) hx hb hts hin1 hown hK hP (10 + i) (WX_p g ad z hi) rfl 7 (by decide) (hts (.fieldLink RX1 39 "PartCurves$Part" "g" "I") (by decide +kernel)) rfl dX1_coldAmps_109 ?_
              refine lv_imul hx hb dX1_coldAmps_112 ?_
              refine lv_sipush (v := 1000) hx hb dX1_coldAmps_113 (by decide) ?_
              refine qSi (As := [.int ((v + (z (10 + i) 8)) * (z (10 + i) 7)), .int 1000]) (rest := [.int ((fdv (v * (z (10 + i) 9)) 1000) + (fdv ((v - (z (10 + i) 8)) * (z (10 + i) 7)) 1000))]) hx hb hml hown hts (kJ9_floorDiv l g (Wd := (WX g ad)) (A := (adOf 15 ad)) z ((v + (z (10 + i) 8)) * (z (10 + i) 7)) 1000 (by decide)) gX1_coldAmps_J9_floorDiv_7cf53 rfl 2 hdJ9_floorDiv_7cf53 rfl ⟨Nat.le_of_ble_eq_true rfl, Nat.le_of_ble_eq_true rfl⟩ ⟨Nat.zero_le _, Nat.zero_le _⟩ hK hP hS (fun _ h => h) hl.1 rfl (Nat.le_of_ble_eq_true rfl) dX1_coldAmps_116 (fun H locs hP hS => ?_)
              refine lv_iadd hx hb dX1_coldAmps_119 ?_
              refine lv_istore_n (lv' := [(2, .int (((fdv (v * (z (10 + i) 9)) 1000) + (fdv ((v - (z (10 + i) 8)) * (z (10 + i) 7)) 1000)) + (fdv ((v + (z (10 + i) 8)) * (z (10 + i) 7)) 1000))), (0, .ref (ad (10 + i))), (1, .int v)]) hx hb dX1_coldAmps_120 rfl hl (by decide) rfl (fun ls hl => ?_)
              refine lv_iload_n hx hb dX1_coldAmps_121 rfl (lv_at hl 0 rfl) ?_
              exact qRi hx hb hr hlk hP hK hS dX1_coldAmps_122 (by first | rfl | simp [coldF, c_4, c_12, c_53, c_53n, c_61, c_90, c_90n, c_98]) (by first | rfl | simp [coldF, c_4, c_12, c_53, c_53n, c_61, c_90, c_90n, c_98])
    · -- 12 not taken
      refine lv_aload_n hx hb dX1_coldAmps_15 rfl (lv_at hl 0 rfl) ?_
      refine qGet (ci := 1) (v := .int (z (10 + i) 2)) (C := RX1) (T := TX1) (N := 12) hx hb hts hin1 hown hK hP (10 + i) (WX_p g ad z hi) rfl 2 (by decide) (hts (.fieldLink RX1 23 "PartCurves$Part" "open" "Z") (by decide +kernel)) rfl dX1_coldAmps_16 ?_
      refine lv_if_eq (tgt := 35) hx hb dX1_coldAmps_19 (by decide) (fun c_19 => ?_) (fun c_19 => ?_)
      · -- 19 taken
        refine lv_iload_n hx hb dX1_coldAmps_35 rfl (lv_at hl 1 rfl) ?_
        refine lv_aload_n hx hb dX1_coldAmps_36 rfl (lv_at hl 0 rfl) ?_
        refine qGet (ci := 1) (v := .int (z (10 + i) 9)) (C := RX1) (T := TX1) (N := 12) hx hb hts hin1 hown hK hP (10 + i) (WX_p g ad z hi) rfl 9 (by decide) (hts (.fieldLink RX1 45 "PartCurves$Part" "h" "I") (by decide +kernel)) rfl dX1_coldAmps_37 ?_
        refine lv_imul hx hb dX1_coldAmps_40 ?_
        refine lv_sipush (v := 1000) hx hb dX1_coldAmps_41 (by decide) ?_
        refine qSi (As := [.int (v * (z (10 + i) 9)), .int 1000]) (rest := []) hx hb hml hown hts (kJ9_floorDiv l g (Wd := (WX g ad)) (A := (adOf 15 ad)) z (v * (z (10 + i) 9)) 1000 (by decide)) gX1_coldAmps_J9_floorDiv_7cf53 rfl 2 hdJ9_floorDiv_7cf53 rfl ⟨Nat.le_of_ble_eq_true rfl, Nat.le_of_ble_eq_true rfl⟩ ⟨Nat.zero_le _, Nat.zero_le _⟩ hK hP hS (fun _ h => h) hl.1 rfl (Nat.le_of_ble_eq_true rfl) dX1_coldAmps_44 (fun H locs hP hS => ?_)
        refine lv_istore_n (lv' := [(2, .int (fdv (v * (z (10 + i) 9)) 1000)), (0, .ref (ad (10 + i))), (1, .int v)]) hx hb dX1_coldAmps_47 rfl hl (by decide) rfl (fun ls hl => ?_)
        refine lv_iload_n hx hb dX1_coldAmps_48 rfl (lv_at hl 2 rfl) ?_
        refine lv_aload_n hx hb dX1_coldAmps_49 rfl (lv_at hl 1 rfl) ?_
        refine qGet (ci := 1) (v := .int (z (10 + i) 8)) (C := RX1) (T := TX1) (N := 12) hx hb hts hin1 hown hK hP (10 + i) (WX_p g ad z hi) rfl 8 (by decide) (hts (.fieldLink RX1 42 "PartCurves$Part" "k" "I") (by decide +kernel)) rfl dX1_coldAmps_50 ?_
        refine lv_icmp_le (tgt := 84) hx hb dX1_coldAmps_53 (by decide) (fun c_53 => ?_) (fun c_53 => ?_)
        · -- 53 taken
          have c_53n := i_le_t c_53
          refine lv_iload_n hx hb dX1_coldAmps_84 rfl (lv_at hl 2 rfl) ?_
          refine lv_aload_n hx hb dX1_coldAmps_85 rfl (lv_at hl 1 rfl) ?_
          refine qGet (ci := 1) (v := .int (z (10 + i) 8)) (C := RX1) (T := TX1) (N := 12) hx hb hts hin1 hown hK hP (10 + i) (WX_p g ad z hi) rfl 8 (by decide) (hts (.fieldLink RX1 42 "PartCurves$Part" "k" "I") (by decide +kernel)) rfl dX1_coldAmps_86 ?_
          refine lv_ineg hx hb dX1_coldAmps_89 ?_
          refine lv_icmp_ge (tgt := 121) hx hb dX1_coldAmps_90 (by decide) (fun c_90 => ?_) (fun c_90 => ?_)
          · -- 90 taken
            have c_90n := i_le_t c_90
            refine lv_iload_n hx hb dX1_coldAmps_121 rfl (lv_at hl 0 rfl) ?_
            exact qRi hx hb hr hlk hP hK hS dX1_coldAmps_122 (by first | rfl | simp [coldF, c_4, c_12, c_19, c_53, c_53n, c_90, c_90n]) (by first | rfl | simp [coldF, c_4, c_12, c_19, c_53, c_53n, c_90, c_90n])
          · -- 90 not taken
            have c_90n := i_le_f c_90
            refine lv_aload_n hx hb dX1_coldAmps_93 rfl (lv_at hl 1 rfl) ?_
            refine qGet (ci := 1) (v := .int (z (10 + i) 5)) (C := RX1) (T := TX1) (N := 12) hx hb hts hin1 hown hK hP (10 + i) (WX_p g ad z hi) rfl 5 (by decide) (hts (.fieldLink RX1 33 "PartCurves$Part" "kind" "I") (by decide +kernel)) rfl dX1_coldAmps_94 ?_
            refine lv_iconst (v := 2) hx hb dX1_coldAmps_97 rfl ?_
            refine lv_icmp_ne (tgt := 121) hx hb dX1_coldAmps_98 (by decide) (fun c_98 => ?_) (fun c_98 => ?_)
            · -- 98 taken
              refine lv_iload_n hx hb dX1_coldAmps_121 rfl (lv_at hl 0 rfl) ?_
              exact qRi hx hb hr hlk hP hK hS dX1_coldAmps_122 (by first | rfl | simp [coldF, c_4, c_12, c_19, c_53, c_53n, c_90, c_90n, c_98]) (by first | rfl | simp [coldF, c_4, c_12, c_19, c_53, c_53n, c_90, c_90n, c_98])
            · -- 98 not taken
              exact absurd (c_12.symm.trans c_98) (by decide)
        · -- 53 not taken
          have c_53n := i_le_f c_53
          refine lv_aload_n hx hb dX1_coldAmps_56 rfl (lv_at hl 1 rfl) ?_
          refine qGet (ci := 1) (v := .int (z (10 + i) 5)) (C := RX1) (T := TX1) (N := 12) hx hb hts hin1 hown hK hP (10 + i) (WX_p g ad z hi) rfl 5 (by decide) (hts (.fieldLink RX1 33 "PartCurves$Part" "kind" "I") (by decide +kernel)) rfl dX1_coldAmps_57 ?_
          refine lv_iconst (v := 3) hx hb dX1_coldAmps_60 rfl ?_
          refine lv_icmp_eq (tgt := 84) hx hb dX1_coldAmps_61 (by decide) (fun c_61 => ?_) (fun c_61 => ?_)
          · -- 61 taken
            refine lv_iload_n hx hb dX1_coldAmps_84 rfl (lv_at hl 2 rfl) ?_
            refine lv_aload_n hx hb dX1_coldAmps_85 rfl (lv_at hl 1 rfl) ?_
            refine qGet (ci := 1) (v := .int (z (10 + i) 8)) (C := RX1) (T := TX1) (N := 12) hx hb hts hin1 hown hK hP (10 + i) (WX_p g ad z hi) rfl 8 (by decide) (hts (.fieldLink RX1 42 "PartCurves$Part" "k" "I") (by decide +kernel)) rfl dX1_coldAmps_86 ?_
            refine lv_ineg hx hb dX1_coldAmps_89 ?_
            refine lv_icmp_ge (tgt := 121) hx hb dX1_coldAmps_90 (by decide) (fun c_90 => ?_) (fun c_90 => ?_)
            · -- 90 taken
              have c_90n := i_le_t c_90
              refine lv_iload_n hx hb dX1_coldAmps_121 rfl (lv_at hl 0 rfl) ?_
              exact qRi hx hb hr hlk hP hK hS dX1_coldAmps_122 (by first | rfl | simp [coldF, c_4, c_12, c_19, c_53, c_53n, c_61, c_90, c_90n]) (by first | rfl | simp [coldF, c_4, c_12, c_19, c_53, c_53n, c_61, c_90, c_90n])
            · -- 90 not taken
              have c_90n := i_le_f c_90
              refine lv_aload_n hx hb dX1_coldAmps_93 rfl (lv_at hl 1 rfl) ?_
              refine qGet (ci := 1) (v := .int (z (10 + i) 5)) (C := RX1) (T := TX1) (N := 12) hx hb hts hin1 hown hK hP (10 + i) (WX_p g ad z hi) rfl 5 (by decide) (hts (.fieldLink RX1 33 "PartCurves$Part" "kind" "I") (by decide +kernel)) rfl dX1_coldAmps_94 ?_
              refine lv_iconst (v := 2) hx hb dX1_coldAmps_97 rfl ?_
              refine lv_icmp_ne (tgt := 121) hx hb dX1_coldAmps_98 (by decide) (fun c_98 => ?_) (fun c_98 => ?_)
              · -- 98 taken
                refine lv_iload_n hx hb dX1_coldAmps_121 rfl (lv_at hl 0 rfl) ?_
                exact qRi hx hb hr hlk hP hK hS dX1_coldAmps_122 (by first | rfl | simp [coldF, c_4, c_12, c_19, c_53, c_53n, c_61, c_90, c_90n, c_98]) (by first | rfl | simp [coldF, c_4, c_12, c_19, c_53, c_53n, c_61, c_90, c_90n, c_98])
              · -- 98 not taken
                exact absurd (c_12.symm.trans c_98) (by decide)
          · -- 61 not taken
            exact absurd c_12 c_61
      · -- 19 not taken
        refine lv_iload_n hx hb dX1_coldAmps_22 rfl (lv_at hl 1 rfl) ?_
        refine lv_aload_n hx hb dX1_coldAmps_23 rfl (lv_at hl 0 rfl) ?_
        refine qGet (ci := 1) (v := .int (z (10 + i) 7)) (C := RX1) (T := TX1) (N := 12) hx hb hts hin1 hown hK hP (10 + i) (WX_p g ad z hi) rfl 7 (by decide) (hts (.fieldLink RX1 39 "PartCurves$Part" "g" "I") (by decide +kernel)) rfl dX1_coldAmps_24 ?_
        refine lv_imul hx hb dX1_coldAmps_27 ?_
        refine lv_sipush (v := 1000) hx hb dX1_coldAmps_28 (by decide) ?_
        refine qSi (As := [.int (v * (z (10 + i) 7)), .int 1000]) (rest := []) hx hb hml hown hts (kJ9_floorDiv l g (Wd := (WX g ad)) (A := (adOf 15 ad)) z (v * (z (10 + i) 7)) 1000 (by decide)) gX1_coldAmps_J9_floorDiv_7cf53 rfl 2 hdJ9_floorDiv_7cf53 rfl ⟨Nat.le_of_ble_eq_true rfl, Nat.le_of_ble_eq_true rfl⟩ ⟨Nat.zero_le _, Nat.zero_le _⟩ hK hP hS (fun _ h => h) hl.1 rfl (Nat.le_of_ble_eq_true rfl) dX1_coldAmps_31 (fun H locs hP hS => ?_)
        exact qRi hx hb hr hlk hP hK hS dX1_coldAmps_34 (by first | rfl | simp [coldF, c_4, c_12, c_19]) (by first | rfl | simp [coldF, c_4, c_12, c_19])
set_option maxHeartbeats 4000000 in
set_option maxRecDepth 100000 in
theorem kX1_ownAmps (l : Launch) (g : qG) {ad : Nat → Nat} (z : zS) (hj : adInj 15 ad) {i : Nat} (hi : i < 4) (v : Int32) : qMi l yX1_ownAmps wsX1_ownAmps 2 g (WX g ad) (adOf 15 ad) z [.ref (ad (10 + i)), .int v] (ownF (z (10 + i)) v) z := by
  refine qStart (cc := cX1_ownAmps) (maxL := 3) (ret := (some .int)) (plainFor_of_name (by decide)) rfl (Nat.le_of_ble_eq_true rfl) ?_
  intro p e s m args below meth c hx hb hml hown hts hr hlk hP hK ls hl
  have hl : lv_has ls 3 [(0, .ref (ad (10 + i))), (1, .int v)] := hl
  have hS : va_S (adOf 15 ad) s.heap s.heap [] := va_S.rf
  have hin1 : ∀ w ∈ u_ws RX1 TX1 12, w ∈ wsX1_ownAmps := by decide +kernel
  refine lv_sipush (v := 1000) hx hb dX1_ownAmps_0 (by decide) ?_
  refine lv_aload_n hx hb dX1_ownAmps_3 rfl (lv_at hl 0 rfl) ?_
  refine qGet (ci := 1) (v := .int (z (10 + i) 11)) (C := RX1) (T := TX1) (N := 12) hx hb hts hin1 hown hK hP (10 + i) (WX_p g ad z hi) rfl 11 (by decide) (hts (.fieldLink RX1 51 "PartCurves$Part" "c" "I") (by decide +kernel)) rfl dX1_ownAmps_4 ?_
  refine lv_aload_n hx hb dX1_ownAmps_7 rfl (lv_at hl 0 rfl) ?_
  refine qGet (ci := 1) (v := .int (z (10 + i) 6)) (C := RX1) (T := TX1) (N := 12) hx hb hts hin1 hown hK hP (10 + i) (WX_p g ad z hi) rfl 6 (by decide) (hts (.fieldLink RX1 36 "PartCurves$Part" "heat" "I") (by decide +kernel)) rfl dX1_ownAmps_8 ?_
  refine lv_imul hx hb dX1_ownAmps_11 ?_
  refine lv_iadd hx hb dX1_ownAmps_12 ?_
  refine lv_istore_n (lv' := [(2, .int (1000 + ((z (10 + i) 11) * (z (10 + i) 6)))), (0, .ref (ad (10 + i))), (1, .int v)]) hx hb dX1_ownAmps_13 rfl hl (by decide) rfl (fun ls hl => ?_)
  refine lv_aload_n hx hb dX1_ownAmps_14 rfl (lv_at hl 1 rfl) ?_
  refine qGet (ci := 1) (v := .int (z (10 + i) 1)) (C := RX1) (T := TX1) (N := 12) hx hb hts hin1 hown hK hP (10 + i) (WX_p g ad z hi) rfl 1 (by decide) (hts (.fieldLink RX1 20 "PartCurves$Part" "burnt" "Z") (by decide +kernel)) rfl dX1_ownAmps_15 ?_
  refine lv_if_ne (tgt := 26) hx hb dX1_ownAmps_18 (by decide) (fun c_18 => ?_) (fun c_18 => ?_)
  · -- 18 taken
    refine lv_iconst (v := 0) hx hb dX1_ownAmps_26 rfl ?_
    exact qRi hx hb hr hlk hP hK hS dX1_ownAmps_27 (by first | rfl | simp [ownF, c_18]) (by first | rfl | simp [ownF, c_18])
  · -- 18 not taken
    refine lv_iload_n hx hb dX1_ownAmps_21 rfl (lv_at hl 0 rfl) ?_
    refine lv_iconst (v := 1) hx hb dX1_ownAmps_22 rfl ?_
    refine lv_icmp_ge (tgt := 28) hx hb dX1_ownAmps_23 (by decide) (fun c_23 => ?_) (fun c_23 => ?_)
    · -- 23 taken
      have c_23n := i_le_t c_23
      refine lv_sipush (v := 1000) hx hb dX1_ownAmps_28 (by decide) ?_
      refine lv_aload_n hx hb dX1_ownAmps_31 rfl (lv_at hl 1 rfl) ?_
      refine lv_iload_n hx hb dX1_ownAmps_32 rfl (lv_at hl 2 rfl) ?_
      refine qVi (As := [.int v]) (rest := [.int 1000]) hx hb hml hown hts (kX1_coldAmps l g z hj hi v) gX1_ownAmps_X1_coldAmps rfl 1 hdX1_coldAmps rfl ⟨Nat.le_of_ble_eq_true rfl, Nat.le_of_ble_eq_true rfl⟩ ⟨Nat.zero_le _, Nat.zero_le _⟩ hK hP hS (fun _ h => h) (10 + i) 1 rfl rfl (WX_p g ad z hi) hl.1 rfl (Nat.le_of_ble_eq_true rfl) dX1_ownAmps_33 (fun H locs hP hS => ?_)
      refine lv_imul hx hb dX1_ownAmps_36 ?_
      refine lv_iload_n hx hb dX1_ownAmps_37 rfl (lv_at hl 0 rfl) ?_
      refine qSi (As := [.int (1000 * (coldF (z (10 + i)) v)), .int (1000 + ((z (10 + i) 11) * (z (10 + i) 6)))]) (rest := []) hx hb hml hown hts (kJ9_floorDiv l g (Wd := (WX g ad)) (A := (adOf 15 ad)) z (1000 * (coldF (z (10 + i)) v)) (1000 + ((z (10 + i) 11) * (z (10 + i) 6))) (pos_of_le c_23)) gX1_ownAmps_J9_floorDiv_7cf53 rfl 2 hdJ9_floorDiv_7cf53 rfl ⟨Nat.le_of_ble_eq_true rfl, Nat.le_of_ble_eq_true rfl⟩ ⟨Nat.zero_le _, Nat.zero_le _⟩ hK hP hS (fun _ h => h) hl.1 rfl (Nat.le_of_ble_eq_true rfl) dX1_ownAmps_38 (fun H locs hP hS => ?_)
      exact qRi hx hb hr hlk hP hK hS dX1_ownAmps_41 (by first | rfl | simp [ownF, c_18, c_23, c_23n]) (by first | rfl | simp [ownF, c_18, c_23, c_23n])
    · -- 23 not taken
      have c_23n := i_le_f c_23
      refine lv_iconst (v := 0) hx hb dX1_ownAmps_26 rfl ?_
      exact qRi hx hb hr hlk hP hK hS dX1_ownAmps_27 (by first | rfl | simp [ownF, c_18, c_23, c_23n]) (by first | rfl | simp [ownF, c_18, c_23, c_23n])
set_option maxHeartbeats 4000000 in
set_option maxRecDepth 100000 in
theorem kX1_snapsOpenAt (l : Launch) (g : qG) {ad : Nat → Nat} (z : zS) (hj : adInj 15 ad) {i : Nat} (hi : i < 4) (v : Int32) : qMi l yX1_snapsOpenAt wsX1_snapsOpenAt 0 g (WX g ad) (adOf 15 ad) z [.ref (ad (10 + i)), .int v] (bI (snB (z (10 + i)) v)) z := by
  refine qStart (cc := cX1_snapsOpenAt) (maxL := 2) (ret := (some .boolean)) (plainFor_of_name (by decide)) rfl (Nat.le_of_ble_eq_true rfl) ?_
  intro p e s m args below meth c hx hb hml hown hts hr hlk hP hK ls hl
  have hl : lv_has ls 2 [(0, .ref (ad (10 + i))), (1, .int v)] := hl
  have hS : va_S (adOf 15 ad) s.heap s.heap [] := va_S.rf
  have hin1 : ∀ w ∈ u_ws RX1 TX1 12, w ∈ wsX1_snapsOpenAt := by decide +kernel
  refine lv_aload_n hx hb dX1_snapsOpenAt_0 rfl (lv_at hl 0 rfl) ?_
  refine qGet (ci := 1) (v := .int (z (10 + i) 5)) (C := RX1) (T := TX1) (N := 12) hx hb hts hin1 hown hK hP (10 + i) (WX_p g ad z hi) rfl 5 (by decide) (hts (.fieldLink RX1 33 "PartCurves$Part" "kind" "I") (by decide +kernel)) rfl dX1_snapsOpenAt_1 ?_
  refine lv_iconst (v := 3) hx hb dX1_snapsOpenAt_4 rfl ?_
  refine lv_icmp_ne (tgt := 34) hx hb dX1_snapsOpenAt_5 (by decide) (fun c_5 => ?_) (fun c_5 => ?_)
  · -- 5 taken
    refine lv_iconst (v := 0) hx hb dX1_snapsOpenAt_34 rfl ?_
    exact qRz hx hb hr hlk rfl hP hK hS dX1_snapsOpenAt_35 (by first | rfl | simp [bI, snB, c_5]) (by first | rfl | simp [bI, snB, c_5])
  · -- 5 not taken
    refine lv_aload_n hx hb dX1_snapsOpenAt_8 rfl (lv_at hl 0 rfl) ?_
    refine qGet (ci := 1) (v := .int (z (10 + i) 2)) (C := RX1) (T := TX1) (N := 12) hx hb hts hin1 hown hK hP (10 + i) (WX_p g ad z hi) rfl 2 (by decide) (hts (.fieldLink RX1 23 "PartCurves$Part" "open" "Z") (by decide +kernel)) rfl dX1_snapsOpenAt_9 ?_
    refine lv_if_ne (tgt := 34) hx hb dX1_snapsOpenAt_12 (by decide) (fun c_12 => ?_) (fun c_12 => ?_)
    · -- 12 taken
      refine lv_iconst (v := 0) hx hb dX1_snapsOpenAt_34 rfl ?_
      exact qRz hx hb hr hlk rfl hP hK hS dX1_snapsOpenAt_35 (by first | rfl | simp [bI, snB, c_5, c_12]) (by first | rfl | simp [bI, snB, c_5, c_12])
    · -- 12 not taken
      refine lv_aload_n hx hb dX1_snapsOpenAt_15 rfl (lv_at hl 0 rfl) ?_
      refine qGet (ci := 1) (v := .int (z (10 + i) 1)) (C := RX1) (T := TX1) (N := 12) hx hb hts hin1 hown hK hP (10 + i) (WX_p g ad z hi) rfl 1 (by decide) (hts (.fieldLink RX1 20 "PartCurves$Part" "burnt" "Z") (by decide +kernel)) rfl dX1_snapsOpenAt_16 ?_
      refine lv_if_ne (tgt := 34) hx hb dX1_snapsOpenAt_19 (by decide) (fun c_19 => ?_) (fun c_19 => ?_)
      · -- 19 taken
        refine lv_iconst (v := 0) hx hb dX1_snapsOpenAt_34 rfl ?_
        exact qRz hx hb hr hlk rfl hP hK hS dX1_snapsOpenAt_35 (by first | rfl | simp [bI, snB, c_5, c_12, c_19]) (by first | rfl | simp [bI, snB, c_5, c_12, c_19])
      · -- 19 not taken
        refine lv_iload_n hx hb dX1_snapsOpenAt_22 rfl (lv_at hl 1 rfl) ?_
        refine lv_aload_n hx hb dX1_snapsOpenAt_23 rfl (lv_at hl 0 rfl) ?_
        refine qGet (ci := 1) (v := .int (z (10 + i) 8)) (C := RX1) (T := TX1) (N := 12) hx hb hts hin1 hown hK hP (10 + i) (WX_p g ad z hi) rfl 8 (by decide) (hts (.fieldLink RX1 42 "PartCurves$Part" "k" "I") (by decide +kernel)) rfl dX1_snapsOpenAt_24 ?_
        refine lv_icmp_lt (tgt := 34) hx hb dX1_snapsOpenAt_27 (by decide) (fun c_27 => ?_) (fun c_27 => ?_)
        · -- 27 taken
          have c_27n := i_lt_t c_27
          refine lv_iconst (v := 0) hx hb dX1_snapsOpenAt_34 rfl ?_
          exact qRz hx hb hr hlk rfl hP hK hS dX1_snapsOpenAt_35 (by first | rfl | simp [bI, snB, c_5, c_12, c_19, c_27, c_27n]) (by first | rfl | simp [bI, snB, c_5, c_12, c_19, c_27, c_27n])
        · -- 27 not taken
          have c_27n := i_lt_f c_27
          refine lv_iconst (v := 1) hx hb dX1_snapsOpenAt_30 rfl ?_
          refine lv_goto (tgt := 35) hx hb dX1_snapsOpenAt_31 (by decide) ?_
          exact qRz hx hb hr hlk rfl hP hK hS dX1_snapsOpenAt_35 (by first | rfl | simp [bI, snB, c_5, c_12, c_19, c_27, c_27n]) (by first | rfl | simp [bI, snB, c_5, c_12, c_19, c_27, c_27n])
set_option maxHeartbeats 4000000 in
set_option maxRecDepth 100000 in
theorem kX1_shutBelow (l : Launch) (g : qG) {ad : Nat → Nat} (z : zS) (hj : adInj 15 ad) {i : Nat} (hi : i < 4) (v : Int32) : qMv l yX1_shutBelow wsX1_shutBelow 0 g (WX g ad) (adOf 15 ad) z [.ref (ad (10 + i)), .int v] (shutS z (10 + i) v) := by
  refine qStart (cc := cX1_shutBelow) (maxL := 2) (ret := none) (plainFor_of_name (by decide)) rfl (Nat.le_of_ble_eq_true rfl) ?_
  intro p e s m args below meth c hx hb hml hown hts hr hlk hP hK ls hl
  have hl : lv_has ls 2 [(0, .ref (ad (10 + i))), (1, .int v)] := hl
  have hS : va_S (adOf 15 ad) s.heap s.heap [] := va_S.rf
  have hin1 : ∀ w ∈ u_ws RX1 TX1 12, w ∈ wsX1_shutBelow := by decide +kernel
  refine lv_aload_n hx hb dX1_shutBelow_0 rfl (lv_at hl 0 rfl) ?_
  refine qGet (ci := 1) (v := .int (z (10 + i) 5)) (C := RX1) (T := TX1) (N := 12) hx hb hts hin1 hown hK hP (10 + i) (WX_p g ad z hi) rfl 5 (by decide) (hts (.fieldLink RX1 33 "PartCurves$Part" "kind" "I") (by decide +kernel)) rfl dX1_shutBelow_1 ?_
  refine lv_iconst (v := 3) hx hb dX1_shutBelow_4 rfl ?_
  refine lv_icmp_ne (tgt := 28) hx hb dX1_shutBelow_5 (by decide) (fun c_5 => ?_) (fun c_5 => ?_)
  · -- 5 taken
    exact qRv hx hb hr hlk hP hK hS dX1_shutBelow_28 (by first | rfl | simp [shutS, c_5])
  · -- 5 not taken
    refine lv_aload_n hx hb dX1_shutBelow_8 rfl (lv_at hl 0 rfl) ?_
    refine qGet (ci := 1) (v := .int (z (10 + i) 2)) (C := RX1) (T := TX1) (N := 12) hx hb hts hin1 hown hK hP (10 + i) (WX_p g ad z hi) rfl 2 (by decide) (hts (.fieldLink RX1 23 "PartCurves$Part" "open" "Z") (by decide +kernel)) rfl dX1_shutBelow_9 ?_
    refine lv_if_eq (tgt := 28) hx hb dX1_shutBelow_12 (by decide) (fun c_12 => ?_) (fun c_12 => ?_)
    · -- 12 taken
      exact qRv hx hb hr hlk hP hK hS dX1_shutBelow_28 (by first | rfl | simp [shutS, c_5, c_12])
    · -- 12 not taken
      refine lv_iload_n hx hb dX1_shutBelow_15 rfl (lv_at hl 1 rfl) ?_
      refine lv_aload_n hx hb dX1_shutBelow_16 rfl (lv_at hl 0 rfl) ?_
      refine qGet (ci := 1) (v := .int (z (10 + i) 10)) (C := RX1) (T := TX1) (N := 12) hx hb hts hin1 hown hK hP (10 + i) (WX_p g ad z hi) rfl 10 (by decide) (hts (.fieldLink RX1 48 "PartCurves$Part" "m" "I") (by decide +kernel)) rfl dX1_shutBelow_17 ?_
      refine lv_icmp_ge (tgt := 28) hx hb dX1_shutBelow_20 (by decide) (fun c_20 => ?_) (fun c_20 => ?_)
      · -- 20 taken
        have c_20n := i_le_t c_20
        exact qRv hx hb hr hlk hP hK hS dX1_shutBelow_28 (by first | rfl | simp [shutS, c_5, c_12, c_20, c_20n])
      · -- 20 not taken
        have c_20n := i_le_f c_20
        refine lv_aload_n hx hb dX1_shutBelow_23 rfl (lv_at hl 0 rfl) ?_
        refine lv_iconst (v := 0) hx hb dX1_shutBelow_24 rfl ?_
        refine qPut (ci := 1) (ty := .boolean) (C := RX1) (T := TX1) (N := 12) (u' := zu z (10 + i) 2 0) hx hb hts hin1 tyX1 tyX1_ok nmX1 hown hK hP (WX_D g z hj) hS (10 + i) (WX_p g ad z hi) rfl 2 (by decide) (hts (.fieldLink RX1 23 "PartCurves$Part" "open" "Z") (by decide +kernel)) rfl (by decide +kernel) rfl rfl (Nat.le_of_ble_eq_true rfl) (WX_part g ad z hi 0 (k := 2) (by decide)) dX1_shutBelow_25 (fun H locs hP hS => ?_)
        exact qRv hx hb hr hlk hP hK hS dX1_shutBelow_28 (by first | rfl | simp [shutS, c_5, c_12, c_20, c_20n])
set_option maxHeartbeats 4000000 in
set_option maxRecDepth 100000 in
theorem kX1_warm (l : Launch) (g : qG) {ad : Nat → Nat} (z : zS) (hj : adInj 15 ad) {i : Nat} (hi : i < 4) (u a w : Int32) : qMi l yX1_warm wsX1_warm 1 g (WX g ad) (adOf 15 ad) z [.ref (ad (10 + i)), .int u, .int a, .int w] ((warmS z (10 + i) u a w).1) ((warmS z (10 + i) u a w).2) := by
  refine qStart (cc := cX1_warm) (maxL := 7) (ret := (some .int)) (plainFor_of_name (by decide)) rfl (Nat.le_of_ble_eq_true rfl) ?_
  intro p e s m args below meth c hx hb hml hown hts hr hlk hP hK ls hl
  have hl : lv_has ls 7 [(0, .ref (ad (10 + i))), (1, .int u), (2, .int a), (3, .int w)] := hl
  have hS : va_S (adOf 15 ad) s.heap s.heap [] := va_S.rf
  have hin1 : ∀ w ∈ u_ws RX1 TX1 12, w ∈ wsX1_warm := by decide +kernel
  refine lv_iload_n hx hb dX1_warm_0 rfl (lv_at hl 1 rfl) ?_
  refine lv_i2l hx hb dX1_warm_1 rfl ?_
  refine lv_iload_n hx hb dX1_warm_2 rfl (lv_at hl 2 rfl) ?_
  refine lv_i2l hx hb dX1_warm_3 rfl ?_
  refine lv_lmul hx hb dX1_warm_4 ?_
  refine lv_iload_n hx hb dX1_warm_5 rfl (lv_at hl 3 rfl) ?_
  refine lv_i2l hx hb dX1_warm_6 rfl ?_
  refine lv_lmul hx hb dX1_warm_7 ?_
  refine va_mabs_long hx hb (hml.trans hl.1.symm) hown (hts (.methodLink RX1 64 Lib.MathLoose.abs_long.x) (by decide +kernel)) (hts (.static Lib.MathLoose.abs_long.x) (by decide +kernel)) (hts (.initialized "java/lang/Math") (by decide +kernel)) (hts (.code Lib.MathLoose.abs_long.x Lib.MathLoose.abs_long.code 2 (some .long)) (by decide +kernel)) (Nat.le_of_ble_eq_true rfl) (Nat.le_of_ble_eq_true rfl) (Nat.zero_le _) (Nat.zero_le _) dX1_warm_8 ?_
  refine lv_lstore (lv' := [(4, .long (absL ((u.toInt64 * a.toInt64) * w.toInt64))), (0, .ref (ad (10 + i))), (1, .int u), (2, .int a), (3, .int w)]) hx hb dX1_warm_11 hl (by decide) rfl (fun ls hl => ?_)
  refine lv_aload_n hx hb dX1_warm_13 rfl (lv_at hl 1 rfl) ?_
  refine qGet (ci := 1) (v := .int (z (10 + i) 6)) (C := RX1) (T := TX1) (N := 12) hx hb hts hin1 hown hK hP (10 + i) (WX_p g ad z hi) rfl 6 (by decide) (hts (.fieldLink RX1 36 "PartCurves$Part" "heat" "I") (by decide +kernel)) rfl dX1_warm_14 ?_
  refine lv_lload hx hb dX1_warm_17 (lv_at hl 0 rfl) ?_
  refine lv_ldc2 (v := 500000) hx hb hown (hts (.constantLong RX1 68 (500000)) (by decide +kernel)) dX1_warm_19 ?_
  refine lv_ldiv hx hb dX1_warm_22 (by decide) ?_
  refine lv_l2i hx hb dX1_warm_23 rfl ?_
  refine lv_iadd hx hb dX1_warm_24 ?_
  refine lv_istore (lv' := [(6, .int ((z (10 + i) 6) + (((absL ((u.toInt64 * a.toInt64) * w.toInt64)) / 500000).toInt32))), (4, .long (absL ((u.toInt64 * a.toInt64) * w.toInt64))), (0, .ref (ad (10 + i))), (1, .int u), (2, .int a), (3, .int w)]) hx hb dX1_warm_25 hl (by decide) rfl (fun ls hl => ?_)
  refine lv_aload_n hx hb dX1_warm_27 rfl (lv_at hl 2 rfl) ?_
  refine lv_iload hx hb dX1_warm_28 (lv_at hl 0 rfl) ?_
  refine lv_sipush (v := 1000) hx hb dX1_warm_30 (by decide) ?_
  refine va_mmin hx hb (hml.trans hl.1.symm) hown (hts (.methodLink RX1 70 Lib.Math.min.name) (by decide +kernel)) (hts (.static Lib.Math.min.name) (by decide +kernel)) (hts (.initialized "java/lang/Math") (by decide +kernel)) (hts (.code Lib.Math.min.name Lib.Math.min.code 2 (some .int)) (by decide +kernel)) (Nat.le_of_ble_eq_true rfl) (Nat.le_of_ble_eq_true rfl) (Nat.zero_le _) (Nat.zero_le _) dX1_warm_33 ?_
  refine qPut (ci := 1) (ty := .int) (C := RX1) (T := TX1) (N := 12) (u' := zu z (10 + i) 6 (minI ((z (10 + i) 6) + (((absL ((u.toInt64 * a.toInt64) * w.toInt64)) / 500000).toInt32)) 1000)) hx hb hts hin1 tyX1 tyX1_ok nmX1 hown hK hP (WX_D g z hj) hS (10 + i) (WX_p g ad z hi) rfl 6 (by decide) (hts (.fieldLink RX1 36 "PartCurves$Part" "heat" "I") (by decide +kernel)) rfl (by decide +kernel) rfl rfl (Nat.le_of_ble_eq_true rfl) (WX_part g ad z hi (minI ((z (10 + i) 6) + (((absL ((u.toInt64 * a.toInt64) * w.toInt64)) / 500000).toInt32)) 1000) (k := 6) (by decide)) dX1_warm_36 (fun H locs hP hS => ?_)
  refine lv_iload hx hb dX1_warm_39 (lv_at hl 0 rfl) ?_
  refine lv_sipush (v := 1000) hx hb dX1_warm_41 (by decide) ?_
  refine lv_icmp_lt (tgt := 54) hx hb dX1_warm_44 (by decide) (fun c_44 => ?_) (fun c_44 => ?_)
  · -- 44 taken
    have c_44n := i_lt_t c_44
    refine lv_iconst (v := 0) hx hb dX1_warm_54 rfl ?_
    exact qRi hx hb hr hlk hP hK hS dX1_warm_55 (by first | rfl | simp [warmS, wldF, c_44, c_44n]) (by first | rfl | simp [warmS, wldF, c_44, c_44n])
  · -- 44 not taken
    have c_44n := i_lt_f c_44
    refine lv_aload_n hx hb dX1_warm_47 rfl (lv_at hl 2 rfl) ?_
    refine qGet (ci := 1) (v := .int (z (10 + i) 1)) (C := RX1) (T := TX1) (N := 12) hx hb hts hin1 hown hK hP (10 + i) (WX_p g ad (zu z (10 + i) 6 (minI ((z (10 + i) 6) + (((absL ((u.toInt64 * a.toInt64) * w.toInt64)) / 500000).toInt32)) 1000)) hi) rfl 1 (by decide) (hts (.fieldLink RX1 20 "PartCurves$Part" "burnt" "Z") (by decide +kernel)) (by simp [pF, zu, upd]) dX1_warm_48 ?_
    refine lv_if_eq (tgt := 56) hx hb dX1_warm_51 (by decide) (fun c_51 => ?_) (fun c_51 => ?_)
    · -- 51 taken
      refine lv_aload_n hx hb dX1_warm_56 rfl (lv_at hl 2 rfl) ?_
      refine lv_iconst (v := 1) hx hb dX1_warm_57 rfl ?_
      refine qPut (ci := 1) (ty := .boolean) (C := RX1) (T := TX1) (N := 12) (u' := zu (zu z (10 + i) 6 (minI ((z (10 + i) 6) + (((absL ((u.toInt64 * a.toInt64) * w.toInt64)) / 500000).toInt32)) 1000)) (10 + i) 1 1) hx hb hts hin1 tyX1 tyX1_ok nmX1 hown hK hP (WX_D g (zu z (10 + i) 6 (minI ((z (10 + i) 6) + (((absL ((u.toInt64 * a.toInt64) * w.toInt64)) / 500000).toInt32)) 1000)) hj) hS (10 + i) (WX_p g ad (zu z (10 + i) 6 (minI ((z (10 + i) 6) + (((absL ((u.toInt64 * a.toInt64) * w.toInt64)) / 500000).toInt32)) 1000)) hi) rfl 1 (by decide) (hts (.fieldLink RX1 20 "PartCurves$Part" "burnt" "Z") (by decide +kernel)) rfl (by decide +kernel) rfl rfl (Nat.le_of_ble_eq_true rfl) (WX_part g ad (zu z (10 + i) 6 (minI ((z (10 + i) 6) + (((absL ((u.toInt64 * a.toInt64) * w.toInt64)) / 500000).toInt32)) 1000)) hi 1 (k := 1) (by decide)) dX1_warm_58 (fun H locs hP hS => ?_)
      refine lv_iload hx hb dX1_warm_61 (lv_at hl 0 rfl) ?_
      refine lv_sipush (v := 999) hx hb dX1_warm_63 (by decide) ?_
      refine lv_isub hx hb dX1_warm_66 ?_
      exact qRi hx hb hr hlk hP hK hS dX1_warm_67 (by first | rfl | simp [warmS, wldF, c_44, c_44n, c_51]) (by first | rfl | simp [warmS, wldF, c_44, c_44n, c_51])
    · -- 51 not taken
      refine lv_iconst (v := 0) hx hb dX1_warm_54 rfl ?_
      exact qRi hx hb hr hlk hP hK hS dX1_warm_55 (by first | rfl | simp [warmS, wldF, c_44, c_44n, c_51]) (by first | rfl | simp [warmS, wldF, c_44, c_44n, c_51])
set_option maxHeartbeats 4000000 in
set_option maxRecDepth 100000 in
theorem kX1_renew (l : Launch) (g : qG) {ad : Nat → Nat} (z : zS) (hj : adInj 15 ad) {i : Nat} (hi : i < 4) (first other kind : Int32) : qMv l yX1_renew wsX1_renew 0 g (WX g ad) (adOf 15 ad) z [.ref (ad (10 + i)), .int first, .int other, .int kind] (renewS z (10 + i) first other kind) := by
  refine qStart (cc := cX1_renew) (maxL := 4) (ret := none) (plainFor_of_name (by decide)) rfl (Nat.le_of_ble_eq_true rfl) ?_
  intro p e s m args below meth c hx hb hml hown hts hr hlk hP hK ls hl
  have hl : lv_has ls 4 [(0, .ref (ad (10 + i))), (1, .int first), (2, .int other), (3, .int kind)] := hl
  have hS : va_S (adOf 15 ad) s.heap s.heap [] := va_S.rf
  have hin1 : ∀ w ∈ u_ws RX1 TX1 12, w ∈ wsX1_renew := by decide +kernel
  refine lv_aload_n hx hb dX1_renew_0 rfl (lv_at hl 0 rfl) ?_
  refine lv_iconst (v := 1) hx hb dX1_renew_1 rfl ?_
  refine qPut (ci := 1) (ty := .boolean) (C := RX1) (T := TX1) (N := 12) (u' := zu z (10 + i) 0 1) hx hb hts hin1 tyX1 tyX1_ok nmX1 hown hK hP (WX_D g z hj) hS (10 + i) (WX_p g ad z hi) rfl 0 (by decide) (hts (.fieldLink RX1 16 "PartCurves$Part" "there" "Z") (by decide +kernel)) rfl (by decide +kernel) rfl rfl (Nat.le_of_ble_eq_true rfl) (WX_part g ad z hi 1 (k := 0) (by decide)) dX1_renew_2 (fun H locs hP hS => ?_)
  refine lv_aload_n hx hb dX1_renew_5 rfl (lv_at hl 0 rfl) ?_
  refine lv_iconst (v := 0) hx hb dX1_renew_6 rfl ?_
  refine qPut (ci := 1) (ty := .boolean) (C := RX1) (T := TX1) (N := 12) (u' := zu (zu z (10 + i) 0 1) (10 + i) 1 0) hx hb hts hin1 tyX1 tyX1_ok nmX1 hown hK hP (WX_D g (zu z (10 + i) 0 1) hj) hS (10 + i) (WX_p g ad (zu z (10 + i) 0 1) hi) rfl 1 (by decide) (hts (.fieldLink RX1 20 "PartCurves$Part" "burnt" "Z") (by decide +kernel)) rfl (by decide +kernel) rfl rfl (Nat.le_of_ble_eq_true rfl) (WX_part g ad (zu z (10 + i) 0 1) hi 0 (k := 1) (by decide)) dX1_renew_7 (fun H locs hP hS => ?_)
  refine lv_aload_n hx hb dX1_renew_10 rfl (lv_at hl 0 rfl) ?_
  refine lv_iconst (v := 0) hx hb dX1_renew_11 rfl ?_
  refine qPut (ci := 1) (ty := .boolean) (C := RX1) (T := TX1) (N := 12) (u' := zu (zu (zu z (10 + i) 0 1) (10 + i) 1 0) (10 + i) 2 0) hx hb hts hin1 tyX1 tyX1_ok nmX1 hown hK hP (WX_D g (zu (zu z (10 + i) 0 1) (10 + i) 1 0) hj) hS (10 + i) (WX_p g ad (zu (zu z (10 + i) 0 1) (10 + i) 1 0) hi) rfl 2 (by decide) (hts (.fieldLink RX1 23 "PartCurves$Part" "open" "Z") (by decide +kernel)) rfl (by decide +kernel) rfl rfl (Nat.le_of_ble_eq_true rfl) (WX_part g ad (zu (zu z (10 + i) 0 1) (10 + i) 1 0) hi 0 (k := 2) (by decide)) dX1_renew_12 (fun H locs hP hS => ?_)
  refine lv_aload_n hx hb dX1_renew_15 rfl (lv_at hl 0 rfl) ?_
  refine lv_iload_n hx hb dX1_renew_16 rfl (lv_at hl 1 rfl) ?_
  refine qPut (ci := 1) (ty := .int) (C := RX1) (T := TX1) (N := 12) (u' := zu (zu (zu (zu z (10 + i) 0 1) (10 + i) 1 0) (10 + i) 2 0) (10 + i) 3 first) hx hb hts hin1 tyX1 tyX1_ok nmX1 hown hK hP (WX_D g (zu (zu (zu z (10 + i) 0 1) (10 + i) 1 0) (10 + i) 2 0) hj) hS (10 + i) (WX_p g ad (zu (zu (zu z (10 + i) 0 1) (10 + i) 1 0) (10 + i) 2 0) hi) rfl 3 (by decide) (hts (.fieldLink RX1 26 "PartCurves$Part" "first" "I") (by decide +kernel)) rfl (by decide +kernel) rfl rfl (Nat.le_of_ble_eq_true rfl) (WX_part g ad (zu (zu (zu z (10 + i) 0 1) (10 + i) 1 0) (10 + i) 2 0) hi first (k := 3) (by decide)) dX1_renew_17 (fun H locs hP hS => ?_)
  refine lv_aload_n hx hb dX1_renew_20 rfl (lv_at hl 0 rfl) ?_
  refine lv_iload_n hx hb dX1_renew_21 rfl (lv_at hl 2 rfl) ?_
  refine qPut (ci := 1) (ty := .int) (C := RX1) (T := TX1) (N := 12) (u' := zu (zu (zu (zu (zu z (10 + i) 0 1) (10 + i) 1 0) (10 + i) 2 0) (10 + i) 3 first) (10 + i) 4 other) hx hb hts hin1 tyX1 tyX1_ok nmX1 hown hK hP (WX_D g (zu (zu (zu (zu z (10 + i) 0 1) (10 + i) 1 0) (10 + i) 2 0) (10 + i) 3 first) hj) hS (10 + i) (WX_p g ad (zu (zu (zu (zu z (10 + i) 0 1) (10 + i) 1 0) (10 + i) 2 0) (10 + i) 3 first) hi) rfl 4 (by decide) (hts (.fieldLink RX1 30 "PartCurves$Part" "other" "I") (by decide +kernel)) rfl (by decide +kernel) rfl rfl (Nat.le_of_ble_eq_true rfl) (WX_part g ad (zu (zu (zu (zu z (10 + i) 0 1) (10 + i) 1 0) (10 + i) 2 0) (10 + i) 3 first) hi other (k := 4) (by decide)) dX1_renew_22 (fun H locs hP hS => ?_)
  refine lv_aload_n hx hb dX1_renew_25 rfl (lv_at hl 0 rfl) ?_
  refine lv_iload_n hx hb dX1_renew_26 rfl (lv_at hl 3 rfl) ?_
  refine qPut (ci := 1) (ty := .int) (C := RX1) (T := TX1) (N := 12) (u' := zu (zu (zu (zu (zu (zu z (10 + i) 0 1) (10 + i) 1 0) (10 + i) 2 0) (10 + i) 3 first) (10 + i) 4 other) (10 + i) 5 kind) hx hb hts hin1 tyX1 tyX1_ok nmX1 hown hK hP (WX_D g (zu (zu (zu (zu (zu z (10 + i) 0 1) (10 + i) 1 0) (10 + i) 2 0) (10 + i) 3 first) (10 + i) 4 other) hj) hS (10 + i) (WX_p g ad (zu (zu (zu (zu (zu z (10 + i) 0 1) (10 + i) 1 0) (10 + i) 2 0) (10 + i) 3 first) (10 + i) 4 other) hi) rfl 5 (by decide) (hts (.fieldLink RX1 33 "PartCurves$Part" "kind" "I") (by decide +kernel)) rfl (by decide +kernel) rfl rfl (Nat.le_of_ble_eq_true rfl) (WX_part g ad (zu (zu (zu (zu (zu z (10 + i) 0 1) (10 + i) 1 0) (10 + i) 2 0) (10 + i) 3 first) (10 + i) 4 other) hi kind (k := 5) (by decide)) dX1_renew_27 (fun H locs hP hS => ?_)
  refine lv_aload_n hx hb dX1_renew_30 rfl (lv_at hl 0 rfl) ?_
  refine lv_iconst (v := 0) hx hb dX1_renew_31 rfl ?_
  refine qPut (ci := 1) (ty := .int) (C := RX1) (T := TX1) (N := 12) (u' := zu (zu (zu (zu (zu (zu (zu z (10 + i) 0 1) (10 + i) 1 0) (10 + i) 2 0) (10 + i) 3 first) (10 + i) 4 other) (10 + i) 5 kind) (10 + i) 6 0) hx hb hts hin1 tyX1 tyX1_ok nmX1 hown hK hP (WX_D g (zu (zu (zu (zu (zu (zu z (10 + i) 0 1) (10 + i) 1 0) (10 + i) 2 0) (10 + i) 3 first) (10 + i) 4 other) (10 + i) 5 kind) hj) hS (10 + i) (WX_p g ad (zu (zu (zu (zu (zu (zu z (10 + i) 0 1) (10 + i) 1 0) (10 + i) 2 0) (10 + i) 3 first) (10 + i) 4 other) (10 + i) 5 kind) hi) rfl 6 (by decide) (hts (.fieldLink RX1 36 "PartCurves$Part" "heat" "I") (by decide +kernel)) rfl (by decide +kernel) rfl rfl (Nat.le_of_ble_eq_true rfl) (WX_part g ad (zu (zu (zu (zu (zu (zu z (10 + i) 0 1) (10 + i) 1 0) (10 + i) 2 0) (10 + i) 3 first) (10 + i) 4 other) (10 + i) 5 kind) hi 0 (k := 6) (by decide)) dX1_renew_32 (fun H locs hP hS => ?_)
  refine lv_aload_n hx hb dX1_renew_35 rfl (lv_at hl 0 rfl) ?_
  refine lv_sipush (v := 1000) hx hb dX1_renew_36 (by decide) ?_
  refine qPut (ci := 1) (ty := .int) (C := RX1) (T := TX1) (N := 12) (u' := zu (zu (zu (zu (zu (zu (zu (zu z (10 + i) 0 1) (10 + i) 1 0) (10 + i) 2 0) (10 + i) 3 first) (10 + i) 4 other) (10 + i) 5 kind) (10 + i) 6 0) (10 + i) 7 1000) hx hb hts hin1 tyX1 tyX1_ok nmX1 hown hK hP (WX_D g (zu (zu (zu (zu (zu (zu (zu z (10 + i) 0 1) (10 + i) 1 0) (10 + i) 2 0) (10 + i) 3 first) (10 + i) 4 other) (10 + i) 5 kind) (10 + i) 6 0) hj) hS (10 + i) (WX_p g ad (zu (zu (zu (zu (zu (zu (zu z (10 + i) 0 1) (10 + i) 1 0) (10 + i) 2 0) (10 + i) 3 first) (10 + i) 4 other) (10 + i) 5 kind) (10 + i) 6 0) hi) rfl 7 (by decide) (hts (.fieldLink RX1 39 "PartCurves$Part" "g" "I") (by decide +kernel)) rfl (by decide +kernel) rfl rfl (Nat.le_of_ble_eq_true rfl) (WX_part g ad (zu (zu (zu (zu (zu (zu (zu z (10 + i) 0 1) (10 + i) 1 0) (10 + i) 2 0) (10 + i) 3 first) (10 + i) 4 other) (10 + i) 5 kind) (10 + i) 6 0) hi 1000 (k := 7) (by decide)) dX1_renew_39 (fun H locs hP hS => ?_)
  refine lv_aload_n hx hb dX1_renew_42 rfl (lv_at hl 0 rfl) ?_
  refine lv_sipush (v := 600) hx hb dX1_renew_43 (by decide) ?_
  refine qPut (ci := 1) (ty := .int) (C := RX1) (T := TX1) (N := 12) (u' := zu (zu (zu (zu (zu (zu (zu (zu (zu z (10 + i) 0 1) (10 + i) 1 0) (10 + i) 2 0) (10 + i) 3 first) (10 + i) 4 other) (10 + i) 5 kind) (10 + i) 6 0) (10 + i) 7 1000) (10 + i) 8 600) hx hb hts hin1 tyX1 tyX1_ok nmX1 hown hK hP (WX_D g (zu (zu (zu (zu (zu (zu (zu (zu z (10 + i) 0 1) (10 + i) 1 0) (10 + i) 2 0) (10 + i) 3 first) (10 + i) 4 other) (10 + i) 5 kind) (10 + i) 6 0) (10 + i) 7 1000) hj) hS (10 + i) (WX_p g ad (zu (zu (zu (zu (zu (zu (zu (zu z (10 + i) 0 1) (10 + i) 1 0) (10 + i) 2 0) (10 + i) 3 first) (10 + i) 4 other) (10 + i) 5 kind) (10 + i) 6 0) (10 + i) 7 1000) hi) rfl 8 (by decide) (hts (.fieldLink RX1 42 "PartCurves$Part" "k" "I") (by decide +kernel)) rfl (by decide +kernel) rfl rfl (Nat.le_of_ble_eq_true rfl) (WX_part g ad (zu (zu (zu (zu (zu (zu (zu (zu z (10 + i) 0 1) (10 + i) 1 0) (10 + i) 2 0) (10 + i) 3 first) (10 + i) 4 other) (10 + i) 5 kind) (10 + i) 6 0) (10 + i) 7 1000) hi 600 (k := 8) (by decide)) dX1_renew_46 (fun H locs hP hS => ?_)
  refine lv_aload_n hx hb dX1_renew_49 rfl (lv_at hl 0 rfl) ?_
  refine lv_iconst (v := 0) hx hb dX1_renew_50 rfl ?_
  refine qPut (ci := 1) (ty := .int) (C := RX1) (T := TX1) (N := 12) (u' := zu (zu (zu (zu (zu (zu (zu (zu (zu (zu z (10 + i) 0 1) (10 + i) 1 0) (10 + i) 2 0) (10 + i) 3 first) (10 + i) 4 other) (10 + i) 5 kind) (10 + i) 6 0) (10 + i) 7 1000) (10 + i) 8 600) (10 + i) 9 0) hx hb hts hin1 tyX1 tyX1_ok nmX1 hown hK hP (WX_D g (zu (zu (zu (zu (zu (zu (zu (zu (zu z (10 + i) 0 1) (10 + i) 1 0) (10 + i) 2 0) (10 + i) 3 first) (10 + i) 4 other) (10 + i) 5 kind) (10 + i) 6 0) (10 + i) 7 1000) (10 + i) 8 600) hj) hS (10 + i) (WX_p g ad (zu (zu (zu (zu (zu (zu (zu (zu (zu z (10 + i) 0 1) (10 + i) 1 0) (10 + i) 2 0) (10 + i) 3 first) (10 + i) 4 other) (10 + i) 5 kind) (10 + i) 6 0) (10 + i) 7 1000) (10 + i) 8 600) hi) rfl 9 (by decide) (hts (.fieldLink RX1 45 "PartCurves$Part" "h" "I") (by decide +kernel)) rfl (by decide +kernel) rfl rfl (Nat.le_of_ble_eq_true rfl) (WX_part g ad (zu (zu (zu (zu (zu (zu (zu (zu (zu z (10 + i) 0 1) (10 + i) 1 0) (10 + i) 2 0) (10 + i) 3 first) (10 + i) 4 other) (10 + i) 5 kind) (10 + i) 6 0) (10 + i) 7 1000) (10 + i) 8 600) hi 0 (k := 9) (by decide)) dX1_renew_51 (fun H locs hP hS => ?_)
  refine lv_aload_n hx hb dX1_renew_54 rfl (lv_at hl 0 rfl) ?_
  refine lv_iconst (v := 0) hx hb dX1_renew_55 rfl ?_
  refine qPut (ci := 1) (ty := .int) (C := RX1) (T := TX1) (N := 12) (u' := zu (zu (zu (zu (zu (zu (zu (zu (zu (zu (zu z (10 + i) 0 1) (10 + i) 1 0) (10 + i) 2 0) (10 + i) 3 first) (10 + i) 4 other) (10 + i) 5 kind) (10 + i) 6 0) (10 + i) 7 1000) (10 + i) 8 600) (10 + i) 9 0) (10 + i) 10 0) hx hb hts hin1 tyX1 tyX1_ok nmX1 hown hK hP (WX_D g (zu (zu (zu (zu (zu (zu (zu (zu (zu (zu z (10 + i) 0 1) (10 + i) 1 0) (10 + i) 2 0) (10 + i) 3 first) (10 + i) 4 other) (10 + i) 5 kind) (10 + i) 6 0) (10 + i) 7 1000) (10 + i) 8 600) (10 + i) 9 0) hj) hS (10 + i) (WX_p g ad (zu (zu (zu (zu (zu (zu (zu (zu (zu (zu z (10 + i) 0 1) (10 + i) 1 0) (10 + i) 2 0) (10 + i) 3 first) (10 + i) 4 other) (10 + i) 5 kind) (10 + i) 6 0) (10 + i) 7 1000) (10 + i) 8 600) (10 + i) 9 0) hi) rfl 10 (by decide) (hts (.fieldLink RX1 48 "PartCurves$Part" "m" "I") (by decide +kernel)) rfl (by decide +kernel) rfl rfl (Nat.le_of_ble_eq_true rfl) (WX_part g ad (zu (zu (zu (zu (zu (zu (zu (zu (zu (zu z (10 + i) 0 1) (10 + i) 1 0) (10 + i) 2 0) (10 + i) 3 first) (10 + i) 4 other) (10 + i) 5 kind) (10 + i) 6 0) (10 + i) 7 1000) (10 + i) 8 600) (10 + i) 9 0) hi 0 (k := 10) (by decide)) dX1_renew_56 (fun H locs hP hS => ?_)
  refine lv_aload_n hx hb dX1_renew_59 rfl (lv_at hl 0 rfl) ?_
  refine lv_iconst (v := 0) hx hb dX1_renew_60 rfl ?_
  refine qPut (ci := 1) (ty := .int) (C := RX1) (T := TX1) (N := 12) (u' := zu (zu (zu (zu (zu (zu (zu (zu (zu (zu (zu (zu z (10 + i) 0 1) (10 + i) 1 0) (10 + i) 2 0) (10 + i) 3 first) (10 + i) 4 other) (10 + i) 5 kind) (10 + i) 6 0) (10 + i) 7 1000) (10 + i) 8 600) (10 + i) 9 0) (10 + i) 10 0) (10 + i) 11 0) hx hb hts hin1 tyX1 tyX1_ok nmX1 hown hK hP (WX_D g (zu (zu (zu (zu (zu (zu (zu (zu (zu (zu (zu z (10 + i) 0 1) (10 + i) 1 0) (10 + i) 2 0) (10 + i) 3 first) (10 + i) 4 other) (10 + i) 5 kind) (10 + i) 6 0) (10 + i) 7 1000) (10 + i) 8 600) (10 + i) 9 0) (10 + i) 10 0) hj) hS (10 + i) (WX_p g ad (zu (zu (zu (zu (zu (zu (zu (zu (zu (zu (zu z (10 + i) 0 1) (10 + i) 1 0) (10 + i) 2 0) (10 + i) 3 first) (10 + i) 4 other) (10 + i) 5 kind) (10 + i) 6 0) (10 + i) 7 1000) (10 + i) 8 600) (10 + i) 9 0) (10 + i) 10 0) hi) rfl 11 (by decide) (hts (.fieldLink RX1 51 "PartCurves$Part" "c" "I") (by decide +kernel)) rfl (by decide +kernel) rfl rfl (Nat.le_of_ble_eq_true rfl) (WX_part g ad (zu (zu (zu (zu (zu (zu (zu (zu (zu (zu (zu z (10 + i) 0 1) (10 + i) 1 0) (10 + i) 2 0) (10 + i) 3 first) (10 + i) 4 other) (10 + i) 5 kind) (10 + i) 6 0) (10 + i) 7 1000) (10 + i) 8 600) (10 + i) 9 0) (10 + i) 10 0) hi 0 (k := 11) (by decide)) dX1_renew_61 (fun H locs hP hS => ?_)
  exact qRv hx hb hr hlk hP hK hS dX1_renew_64 (by first | rfl | simp [renewS])
set_option maxHeartbeats 4000000 in
set_option maxRecDepth 100000 in
theorem kX1_number (l : Launch) (g : qG) {ad : Nat → Nat} (z : zS) (hj : adInj 15 ad) {i : Nat} (hi : i < 4) (w : Int32) (hw : inR w 0 4 = true) : qMi l yX1_number wsX1_number 0 g (WX g ad) (adOf 15 ad) z [.ref (ad (10 + i)), .int w] (z (10 + i) (7 + ix w)) z := by
  refine qStart (cc := cX1_number) (maxL := 2) (ret := (some .int)) (plainFor_of_name (by decide)) rfl (Nat.le_of_ble_eq_true rfl) ?_
  intro p e s m args below meth c hx hb hml hown hts hr hlk hP hK ls hl
  have hl : lv_has ls 2 [(0, .ref (ad (10 + i))), (1, .int w)] := hl
  have hS : va_S (adOf 15 ad) s.heap s.heap [] := va_S.rf
  have hin1 : ∀ w ∈ u_ws RX1 TX1 12, w ∈ wsX1_number := by decide +kernel
  refine lv_iload_n hx hb dX1_number_0 rfl (lv_at hl 1 rfl) ?_
  by_cases c_1_is0 : w = 0
  · -- 1 is 0
    refine lv_tableIn (tgt := 32) hx hb dX1_number_1 (by rw [c_1_is0]; decide) (by rw [c_1_is0]; decide) (by rw [c_1_is0]; rfl) (by decide) ?_
    refine lv_aload_n hx hb dX1_number_32 rfl (lv_at hl 0 rfl) ?_
    refine qGet (ci := 1) (v := .int (z (10 + i) 7)) (C := RX1) (T := TX1) (N := 12) hx hb hts hin1 hown hK hP (10 + i) (WX_p g ad z hi) rfl 7 (by decide) (hts (.fieldLink RX1 39 "PartCurves$Part" "g" "I") (by decide +kernel)) rfl dX1_number_33 ?_
    exact qRi hx hb hr hlk hP hK hS dX1_number_36 (by rw [c_1_is0]; rfl) rfl
  by_cases c_1_is1 : w = 1
  · -- 1 is 1
    refine lv_tableIn (tgt := 37) hx hb dX1_number_1 (by rw [c_1_is1]; decide) (by rw [c_1_is1]; decide) (by rw [c_1_is1]; rfl) (by decide) ?_
    refine lv_aload_n hx hb dX1_number_37 rfl (lv_at hl 0 rfl) ?_
    refine qGet (ci := 1) (v := .int (z (10 + i) 8)) (C := RX1) (T := TX1) (N := 12) hx hb hts hin1 hown hK hP (10 + i) (WX_p g ad z hi) rfl 8 (by decide) (hts (.fieldLink RX1 42 "PartCurves$Part" "k" "I") (by decide +kernel)) rfl dX1_number_38 ?_
    exact qRi hx hb hr hlk hP hK hS dX1_number_41 (by rw [c_1_is1]; rfl) rfl
  by_cases c_1_is2 : w = 2
  · -- 1 is 2
    refine lv_tableIn (tgt := 42) hx hb dX1_number_1 (by rw [c_1_is2]; decide) (by rw [c_1_is2]; decide) (by rw [c_1_is2]; rfl) (by decide) ?_
    refine lv_aload_n hx hb dX1_number_42 rfl (lv_at hl 0 rfl) ?_
    refine qGet (ci := 1) (v := .int (z (10 + i) 9)) (C := RX1) (T := TX1) (N := 12) hx hb hts hin1 hown hK hP (10 + i) (WX_p g ad z hi) rfl 9 (by decide) (hts (.fieldLink RX1 45 "PartCurves$Part" "h" "I") (by decide +kernel)) rfl dX1_number_43 ?_
    exact qRi hx hb hr hlk hP hK hS dX1_number_46 (by rw [c_1_is2]; rfl) rfl
  by_cases c_1_is3 : w = 3
  · -- 1 is 3
    refine lv_tableIn (tgt := 47) hx hb dX1_number_1 (by rw [c_1_is3]; decide) (by rw [c_1_is3]; decide) (by rw [c_1_is3]; rfl) (by decide) ?_
    refine lv_aload_n hx hb dX1_number_47 rfl (lv_at hl 0 rfl) ?_
    refine qGet (ci := 1) (v := .int (z (10 + i) 10)) (C := RX1) (T := TX1) (N := 12) hx hb hts hin1 hown hK hP (10 + i) (WX_p g ad z hi) rfl 10 (by decide) (hts (.fieldLink RX1 48 "PartCurves$Part" "m" "I") (by decide +kernel)) rfl dX1_number_48 ?_
    exact qRi hx hb hr hlk hP hK hS dX1_number_51 (by rw [c_1_is3]; rfl) rfl
  refine lv_tableOut (tgt := 52) hx hb dX1_number_1 (by have := ne_toInt c_1_is0 (k := 0) rfl; have := ne_toInt c_1_is1 (k := 1) rfl; have := ne_toInt c_1_is2 (k := 2) rfl; have := ne_toInt c_1_is3 (k := 3) rfl; omega) (by decide) ?_
  refine lv_aload_n hx hb dX1_number_52 rfl (lv_at hl 0 rfl) ?_
  refine qGet (ci := 1) (v := .int (z (10 + i) 11)) (C := RX1) (T := TX1) (N := 12) hx hb hts hin1 hown hK hP (10 + i) (WX_p g ad z hi) rfl 11 (by decide) (hts (.fieldLink RX1 51 "PartCurves$Part" "c" "I") (by decide +kernel)) rfl dX1_number_53 ?_
  exact qRi hx hb hr hlk hP hK hS dX1_number_56 (by rw [num4 hw c_1_is0 c_1_is1 c_1_is2 c_1_is3]) rfl
set_option maxHeartbeats 4000000 in
set_option maxRecDepth 100000 in
theorem kX1_putNumber (l : Launch) (g : qG) {ad : Nat → Nat} (z : zS) (hj : adInj 15 ad) {i : Nat} (hi : i < 4) (w v : Int32) (hw : inR w 0 4 = true) : qMv l yX1_putNumber wsX1_putNumber 0 g (WX g ad) (adOf 15 ad) z [.ref (ad (10 + i)), .int w, .int v] (zu z (10 + i) (7 + ix w) v) := by
  refine qStart (cc := cX1_putNumber) (maxL := 3) (ret := none) (plainFor_of_name (by decide)) rfl (Nat.le_of_ble_eq_true rfl) ?_
  intro p e s m args below meth c hx hb hml hown hts hr hlk hP hK ls hl
  have hl : lv_has ls 3 [(0, .ref (ad (10 + i))), (1, .int w), (2, .int v)] := hl
  have hS : va_S (adOf 15 ad) s.heap s.heap [] := va_S.rf
  have hin1 : ∀ w ∈ u_ws RX1 TX1 12, w ∈ wsX1_putNumber := by decide +kernel
  refine lv_iload_n hx hb dX1_putNumber_0 rfl (lv_at hl 1 rfl) ?_
  by_cases c_1_is0 : w = 0
  · -- 1 is 0
    refine lv_tableIn (tgt := 32) hx hb dX1_putNumber_1 (by rw [c_1_is0]; decide) (by rw [c_1_is0]; decide) (by rw [c_1_is0]; rfl) (by decide) ?_
    refine lv_aload_n hx hb dX1_putNumber_32 rfl (lv_at hl 0 rfl) ?_
    refine lv_iload_n hx hb dX1_putNumber_33 rfl (lv_at hl 2 rfl) ?_
    refine qPut (ci := 1) (ty := .int) (C := RX1) (T := TX1) (N := 12) (u' := zu z (10 + i) 7 v) hx hb hts hin1 tyX1 tyX1_ok nmX1 hown hK hP (WX_D g z hj) hS (10 + i) (WX_p g ad z hi) rfl 7 (by decide) (hts (.fieldLink RX1 39 "PartCurves$Part" "g" "I") (by decide +kernel)) rfl (by decide +kernel) rfl rfl (Nat.le_of_ble_eq_true rfl) (WX_part g ad z hi v (k := 7) (by decide)) dX1_putNumber_34 (fun H locs hP hS => ?_)
    refine lv_goto (tgt := 69) hx hb dX1_putNumber_37 (by decide) ?_
    exact qRv hx hb hr hlk hP hK hS dX1_putNumber_69 (by rw [c_1_is0]; rfl)
  by_cases c_1_is1 : w = 1
  · -- 1 is 1
    refine lv_tableIn (tgt := 40) hx hb dX1_putNumber_1 (by rw [c_1_is1]; decide) (by rw [c_1_is1]; decide) (by rw [c_1_is1]; rfl) (by decide) ?_
    refine lv_aload_n hx hb dX1_putNumber_40 rfl (lv_at hl 0 rfl) ?_
    refine lv_iload_n hx hb dX1_putNumber_41 rfl (lv_at hl 2 rfl) ?_
    refine qPut (ci := 1) (ty := .int) (C := RX1) (T := TX1) (N := 12) (u' := zu z (10 + i) 8 v) hx hb hts hin1 tyX1 tyX1_ok nmX1 hown hK hP (WX_D g z hj) hS (10 + i) (WX_p g ad z hi) rfl 8 (by decide) (hts (.fieldLink RX1 42 "PartCurves$Part" "k" "I") (by decide +kernel)) rfl (by decide +kernel) rfl rfl (Nat.le_of_ble_eq_true rfl) (WX_part g ad z hi v (k := 8) (by decide)) dX1_putNumber_42 (fun H locs hP hS => ?_)
    refine lv_goto (tgt := 69) hx hb dX1_putNumber_45 (by decide) ?_
    exact qRv hx hb hr hlk hP hK hS dX1_putNumber_69 (by rw [c_1_is1]; rfl)
  by_cases c_1_is2 : w = 2
  · -- 1 is 2
    refine lv_tableIn (tgt := 48) hx hb dX1_putNumber_1 (by rw [c_1_is2]; decide) (by rw [c_1_is2]; decide) (by rw [c_1_is2]; rfl) (by decide) ?_
    refine lv_aload_n hx hb dX1_putNumber_48 rfl (lv_at hl 0 rfl) ?_
    refine lv_iload_n hx hb dX1_putNumber_49 rfl (lv_at hl 2 rfl) ?_
    refine qPut (ci := 1) (ty := .int) (C := RX1) (T := TX1) (N := 12) (u' := zu z (10 + i) 9 v) hx hb hts hin1 tyX1 tyX1_ok nmX1 hown hK hP (WX_D g z hj) hS (10 + i) (WX_p g ad z hi) rfl 9 (by decide) (hts (.fieldLink RX1 45 "PartCurves$Part" "h" "I") (by decide +kernel)) rfl (by decide +kernel) rfl rfl (Nat.le_of_ble_eq_true rfl) (WX_part g ad z hi v (k := 9) (by decide)) dX1_putNumber_50 (fun H locs hP hS => ?_)
    refine lv_goto (tgt := 69) hx hb dX1_putNumber_53 (by decide) ?_
    exact qRv hx hb hr hlk hP hK hS dX1_putNumber_69 (by rw [c_1_is2]; rfl)
  by_cases c_1_is3 : w = 3
  · -- 1 is 3
    refine lv_tableIn (tgt := 56) hx hb dX1_putNumber_1 (by rw [c_1_is3]; decide) (by rw [c_1_is3]; decide) (by rw [c_1_is3]; rfl) (by decide) ?_
    refine lv_aload_n hx hb dX1_putNumber_56 rfl (lv_at hl 0 rfl) ?_
    refine lv_iload_n hx hb dX1_putNumber_57 rfl (lv_at hl 2 rfl) ?_
    refine qPut (ci := 1) (ty := .int) (C := RX1) (T := TX1) (N := 12) (u' := zu z (10 + i) 10 v) hx hb hts hin1 tyX1 tyX1_ok nmX1 hown hK hP (WX_D g z hj) hS (10 + i) (WX_p g ad z hi) rfl 10 (by decide) (hts (.fieldLink RX1 48 "PartCurves$Part" "m" "I") (by decide +kernel)) rfl (by decide +kernel) rfl rfl (Nat.le_of_ble_eq_true rfl) (WX_part g ad z hi v (k := 10) (by decide)) dX1_putNumber_58 (fun H locs hP hS => ?_)
    refine lv_goto (tgt := 69) hx hb dX1_putNumber_61 (by decide) ?_
    exact qRv hx hb hr hlk hP hK hS dX1_putNumber_69 (by rw [c_1_is3]; rfl)
  refine lv_tableOut (tgt := 64) hx hb dX1_putNumber_1 (by have := ne_toInt c_1_is0 (k := 0) rfl; have := ne_toInt c_1_is1 (k := 1) rfl; have := ne_toInt c_1_is2 (k := 2) rfl; have := ne_toInt c_1_is3 (k := 3) rfl; omega) (by decide) ?_
  refine lv_aload_n hx hb dX1_putNumber_64 rfl (lv_at hl 0 rfl) ?_
  refine lv_iload_n hx hb dX1_putNumber_65 rfl (lv_at hl 2 rfl) ?_
  refine qPut (ci := 1) (ty := .int) (C := RX1) (T := TX1) (N := 12) (u' := zu z (10 + i) 11 v) hx hb hts hin1 tyX1 tyX1_ok nmX1 hown hK hP (WX_D g z hj) hS (10 + i) (WX_p g ad z hi) rfl 11 (by decide) (hts (.fieldLink RX1 51 "PartCurves$Part" "c" "I") (by decide +kernel)) rfl (by decide +kernel) rfl rfl (Nat.le_of_ble_eq_true rfl) (WX_part g ad z hi v (k := 11) (by decide)) dX1_putNumber_66 (fun H locs hP hS => ?_)
  exact qRv hx hb hr hlk hP hK hS dX1_putNumber_69 (by rw [num4 hw c_1_is0 c_1_is1 c_1_is2 c_1_is3])
set_option maxHeartbeats 4000000 in
set_option maxRecDepth 100000 in
theorem kX1_cool (l : Launch) (g : qG) {ad : Nat → Nat} (z : zS) (hj : adInj 15 ad) {i : Nat} (hi : i < 4) (n : Nat) (hn : n ≤ 100) : qMv l yX1_cool wsX1_cool 0 g (WX g ad) (adOf 15 ad) z [.ref (ad (10 + i)), .int (nI n)] (zu z (10 + i) 6 (coolN n (z (10 + i) 6))) := by
  refine qStart (cc := cX1_cool) (maxL := 3) (ret := none) (plainFor_of_name (by decide)) rfl (Nat.le_of_ble_eq_true rfl) ?_
  intro p e s m args below meth c hx hb hml hown hts hr hlk hP hK ls hl
  have hl : lv_has ls 3 [(0, .ref (ad (10 + i))), (1, .int (nI n))] := hl
  have hS : va_S (adOf 15 ad) s.heap s.heap [] := va_S.rf
  have hin1 : ∀ w ∈ u_ws RX1 TX1 12, w ∈ wsX1_cool := by decide +kernel
  have loop : ∀ (k : Nat) (j : Nat) (y : zS), j + k = n → zu y (10 + i) 6 (coolN k (y (10 + i) 6)) = zu z (10 + i) 6 (coolN n (z (10 + i) 6)) → ∀ (H : Heap) (locs : List Loc), va_P g.1 vwCl ((WX g ad) y) H → va_S (adOf 15 ad) s.heap H locs → ∀ ls : Array Slot, lv_has ls 3 [(0, .ref (ad (10 + i))), (1, .int (nI n)), (2, .int (nI j))] → W p l e (rmL 0) s m args below meth c H locs 0 0 (MQ below (va_Qv (fun u9 => u9 = zu z (10 + i) 6 (coolN n (z (10 + i) 6))) (qU g (WX g ad)) (adOf 15 ad)) args s 0 0 (adOf 15 ad)) (F0 m 2 ls []) := by
    intro k
    induction k with
    | zero =>
      intro j y hj2 hz H locs hP hS ls hl
      refine lv_iload_n hx hb dX1_cool_2 rfl (lv_at hl 2 rfl) ?_
      refine lv_iload_n hx hb dX1_cool_3 rfl (lv_at hl 1 rfl) ?_
      refine lv_icmp_ge (tgt := 32) hx hb dX1_cool_4 (by decide) (fun c_4 => ?_) (fun c_4 => ?_)
      · -- 4 taken
        have c_4n := i_le_t c_4
        exact qRv hx hb hr hlk hP hK hS dX1_cool_32 (by rw [← hz]; exact (zu_self _ _ _).symm)
      · -- 4 not taken
        have c_4n := i_le_f c_4
        exact absurd (nI_lt' (by omega) (by omega) c_4) (by omega)
    | succ k ih =>
      intro j y hj2 hz H locs hP hS ls hl
      refine lv_iload_n hx hb dX1_cool_2 rfl (lv_at hl 2 rfl) ?_
      refine lv_iload_n hx hb dX1_cool_3 rfl (lv_at hl 1 rfl) ?_
      refine lv_icmp_ge (tgt := 32) hx hb dX1_cool_4 (by decide) (fun c_4 => ?_) (fun c_4 => ?_)
      · -- 4 taken
        have c_4n := i_le_t c_4
        exact absurd (nI_ge' (by omega) (by omega) c_4) (by omega)
      · -- 4 not taken
        have c_4n := i_le_f c_4
        refine lv_aload_n hx hb dX1_cool_7 rfl (lv_at hl 0 rfl) ?_
        refine lv_dup hx hb dX1_cool_8 rfl ?_
        refine qGet (ci := 1) (v := .int (y (10 + i) 6)) (C := RX1) (T := TX1) (N := 12) hx hb hts hin1 hown hK hP (10 + i) (WX_p g ad y hi) rfl 6 (by decide) (hts (.fieldLink RX1 36 "PartCurves$Part" "heat" "I") (by decide +kernel)) rfl dX1_cool_9 ?_
        refine lv_aload_n hx hb dX1_cool_12 rfl (lv_at hl 0 rfl) ?_
        refine qGet (ci := 1) (v := .int (y (10 + i) 6)) (C := RX1) (T := TX1) (N := 12) hx hb hts hin1 hown hK hP (10 + i) (WX_p g ad y hi) rfl 6 (by decide) (hts (.fieldLink RX1 36 "PartCurves$Part" "heat" "I") (by decide +kernel)) rfl dX1_cool_13 ?_
        refine lv_bipush (v := 15) hx hb dX1_cool_16 (by decide) ?_
        refine lv_iadd hx hb dX1_cool_18 ?_
        refine lv_bipush (v := 16) hx hb dX1_cool_19 (by decide) ?_
        refine lv_idiv hx hb dX1_cool_21 (by decide) ?_
        refine lv_isub hx hb dX1_cool_22 ?_
        refine qPut (ci := 1) (ty := .int) (C := RX1) (T := TX1) (N := 12) (u' := zu y (10 + i) 6 ((y (10 + i) 6) - (((y (10 + i) 6) + 15) / 16))) hx hb hts hin1 tyX1 tyX1_ok nmX1 hown hK hP (WX_D g y hj) hS (10 + i) (WX_p g ad y hi) rfl 6 (by decide) (hts (.fieldLink RX1 36 "PartCurves$Part" "heat" "I") (by decide +kernel)) rfl (by decide +kernel) rfl rfl (Nat.le_of_ble_eq_true rfl) (WX_part g ad y hi ((y (10 + i) 6) - (((y (10 + i) 6) + 15) / 16)) (k := 6) (by decide)) dX1_cool_23 (fun H locs hP hS => ?_)
        refine lv_iinc (v := nI (j + 1)) (lv' := [(2, .int (nI (j + 1))), (0, .ref (ad (10 + i))), (1, .int (nI n))]) hx hb dX1_cool_26 hl (k := 2) rfl (nI_1 j) (by decide) rfl (fun ls hl => ?_)
        refine lv_goto (tgt := 2) hx hb dX1_cool_29 (by decide) ?_
        exact ih (j + 1) _ (by omega) (by rw [zu_zu, zu_same]; exact hz) _ _ hP hS ls (lv_sub hl [1, 2, 0] rfl)
  refine lv_iconst (v := 0) hx hb dX1_cool_0 rfl ?_
  refine lv_istore_n (lv' := [(2, .int 0), (0, .ref (ad (10 + i))), (1, .int (nI n))]) hx hb dX1_cool_1 rfl hl (by decide) rfl (fun ls hl => ?_)
  exact loop n 0 z (Nat.zero_add n) rfl _ _ hP hS ls (lv_sub hl [1, 2, 0] rfl)
set_option maxHeartbeats 4000000 in
set_option maxRecDepth 100000 in
theorem kX0_clearAll (l : Launch) (g : qG) {ad : Nat → Nat} (z : zS) (hj : adInj 15 ad) : qMv l yX0_clearAll wsX0_clearAll 0 g (WX g ad) (adOf 15 ad) z [.ref (ad 14)] (zu z 0 4 0) := by
  refine qStart (cc := cX0_clearAll) (maxL := 1) (ret := none) (plainFor_of_name (by decide)) rfl (Nat.le_of_ble_eq_true rfl) ?_
  intro p e s m args below meth c hx hb hml hown hts hr hlk hP hK ls hl
  have hl : lv_has ls 1 [(0, .ref (ad 14))] := hl
  have hS : va_S (adOf 15 ad) s.heap s.heap [] := va_S.rf
  have hin0 : ∀ w ∈ u_ws RX0 TX0 3, w ∈ wsX0_clearAll := by decide +kernel
  refine lv_aload_n hx hb dX0_clearAll_0 rfl (lv_at hl 0 rfl) ?_
  refine lv_iconst (v := 0) hx hb dX0_clearAll_1 rfl ?_
  refine qPut (ci := 0) (ty := .int) (C := RX0) (T := TX0) (N := 3) (u' := zu z 0 4 0) hx hb hts hin0 tyX0 tyX0_ok nmX0 hown hK hP (WX_D g z hj) hS 14 rfl rfl 2 (by decide) (hts (.fieldLink RX0 16 "PartCurves$Causes" "count" "I") (by decide +kernel)) rfl (by decide +kernel) rfl rfl (Nat.le_of_ble_eq_true rfl) (WX_cc g ad z 0) dX0_clearAll_2 (fun H locs hP hS => ?_)
  exact qRv hx hb hr hlk hP hK hS dX0_clearAll_5 (by first | rfl | simp [])
theorem inv_cc {z : zS} (hI : qInv z) : inR (z 0 4) 0 3 = true := hI.2.2.2.2.1
theorem inv_rc {z : zS} (hI : qInv z) : inR (z 0 3) 0 60 = true := hI.2.2.2.1
theorem ge_lt {a b : Int32} {n : Nat} (ha : inR a 0 b = true) {m : Int32} (hm : m.toInt = n) (hb : b.toInt < 2147483648) (h : ¬ m ≤ a) : vp_in a n ∧ ix a < n := by
  have h1 := inR_iff.mp ha
  have h2 : a.toInt < m.toInt := by
    rcases Int.lt_or_le a.toInt m.toInt with q | q
    · exact q
    · exact absurd (Int32.le_iff_toInt_le.mpr q) h
  have h3 : (0 : Int32).toInt = 0 := rfl
  rw [h3] at h1
  refine ⟨vp_in_iff.mpr ⟨h1.1, by omega⟩, ?_⟩
  obtain ⟨k, hk, e⟩ := nI_of (x := a) (fun q => by have := (fb_sgnI a).mp q; omega)
  rw [e, ix_nI hk]
  rw [e, nI_toInt hk] at h2
  omega
set_option maxHeartbeats 4000000 in
set_option maxRecDepth 100000 in
theorem kX0_put (l : Launch) (g : qG) {ad : Nat → Nat} (z : zS) (hj : adInj 15 ad) (t v : Int32) (hcc : inR (z 0 4) 0 3 = true) : qMv l yX0_put wsX0_put 0 g (WX g ad) (adOf 15 ad) z [.ref (ad 14), .int t, .int v] (putS z t v) := by
  refine qStart (cc := cX0_put) (maxL := 3) (ret := none) (plainFor_of_name (by decide)) rfl (Nat.le_of_ble_eq_true rfl) ?_
  intro p e s m args below meth c hx hb hml hown hts hr hlk hP hK ls hl
  have hl : lv_has ls 3 [(0, .ref (ad 14)), (1, .int t), (2, .int v)] := hl
  have hS : va_S (adOf 15 ad) s.heap s.heap [] := va_S.rf
  have hin0 : ∀ w ∈ u_ws RX0 TX0 3, w ∈ wsX0_put := by decide +kernel
  refine lv_aload_n hx hb dX0_put_0 rfl (lv_at hl 0 rfl) ?_
  refine qGet (ci := 0) (v := .int (z 0 4)) (C := RX0) (T := TX0) (N := 3) hx hb hts hin0 hown hK hP 14 rfl rfl 2 (by decide) (hts (.fieldLink RX0 16 "PartCurves$Causes" "count" "I") (by decide +kernel)) rfl dX0_put_1 ?_
  refine lv_iconst (v := 3) hx hb dX0_put_4 rfl ?_
  refine lv_icmp_ge (tgt := 38) hx hb dX0_put_5 (by decide) (fun c_5 => ?_) (fun c_5 => ?_)
  · -- 5 taken
    have c_5n := i_le_t c_5
    exact qRv hx hb hr hlk hP hK hS dX0_put_38 (by simp [putS, nlt3 c_5])
  · -- 5 not taken
    have c_5n := i_le_f c_5
    refine lv_aload_n hx hb dX0_put_8 rfl (lv_at hl 0 rfl) ?_
    refine qGet (ci := 0) (v := .ref (ad 6)) (C := RX0) (T := TX0) (N := 3) hx hb hts hin0 hown hK hP 14 rfl rfl 0 (by decide) (hts (.fieldLink RX0 9 "PartCurves$Causes" "sorts" "[I") (by decide +kernel)) rfl dX0_put_9 ?_
    refine lv_aload_n hx hb dX0_put_12 rfl (lv_at hl 0 rfl) ?_
    refine qGet (ci := 0) (v := .int (z 0 4)) (C := RX0) (T := TX0) (N := 3) hx hb hts hin0 hown hK hP 14 rfl rfl 2 (by decide) (hts (.fieldLink RX0 16 "PartCurves$Causes" "count" "I") (by decide +kernel)) rfl dX0_put_13 ?_
    refine lv_iload_n hx hb dX0_put_16 rfl (lv_at hl 1 rfl) ?_
    refine qIst (j := (ix (z 0 4))) (u' := zu z 6 (ix (z 0 4)) t) hx hb hK hP (WX_D g z hj) hS 6 rfl (ge_lt hcc (n := 3) rfl (by decide) c_5).1 rfl (WX_6 g ad z (ix (z 0 4)) t) dX0_put_17 (fun H locs hP hS => ?_)
    refine lv_aload_n hx hb dX0_put_18 rfl (lv_at hl 0 rfl) ?_
    refine qGet (ci := 0) (v := .ref (ad 7)) (C := RX0) (T := TX0) (N := 3) hx hb hts hin0 hown hK hP 14 rfl rfl 1 (by decide) (hts (.fieldLink RX0 13 "PartCurves$Causes" "numbers" "[I") (by decide +kernel)) (by simp [pF, zu, upd]) dX0_put_19 ?_
    refine lv_aload_n hx hb dX0_put_22 rfl (lv_at hl 0 rfl) ?_
    refine qGet (ci := 0) (v := .int (z 0 4)) (C := RX0) (T := TX0) (N := 3) hx hb hts hin0 hown hK hP 14 rfl rfl 2 (by decide) (hts (.fieldLink RX0 16 "PartCurves$Causes" "count" "I") (by decide +kernel)) (by simp [pF, zu, upd]) dX0_put_23 ?_
    refine lv_iload_n hx hb dX0_put_26 rfl (lv_at hl 2 rfl) ?_
    refine qIst (j := (ix (z 0 4))) (u' := zu (zu z 6 (ix (z 0 4)) t) 7 (ix (z 0 4)) v) hx hb hK hP (WX_D g (zu z 6 (ix (z 0 4)) t) hj) hS 7 rfl (ge_lt hcc (n := 3) rfl (by decide) c_5).1 rfl (WX_7 g ad (zu z 6 (ix (z 0 4)) t) (ix (z 0 4)) v) dX0_put_27 (fun H locs hP hS => ?_)
    refine lv_aload_n hx hb dX0_put_28 rfl (lv_at hl 0 rfl) ?_
    refine lv_dup hx hb dX0_put_29 rfl ?_
    refine qGet (ci := 0) (v := .int (z 0 4)) (C := RX0) (T := TX0) (N := 3) hx hb hts hin0 hown hK hP 14 rfl rfl 2 (by decide) (hts (.fieldLink RX0 16 "PartCurves$Causes" "count" "I") (by decide +kernel)) (by simp [pF, zu, upd]) dX0_put_30 ?_
    refine lv_iconst (v := 1) hx hb dX0_put_33 rfl ?_
    refine lv_iadd hx hb dX0_put_34 ?_
    refine qPut (ci := 0) (ty := .int) (C := RX0) (T := TX0) (N := 3) (u' := zu (zu (zu z 6 (ix (z 0 4)) t) 7 (ix (z 0 4)) v) 0 4 ((z 0 4) + 1)) hx hb hts hin0 tyX0 tyX0_ok nmX0 hown hK hP (WX_D g (zu (zu z 6 (ix (z 0 4)) t) 7 (ix (z 0 4)) v) hj) hS 14 rfl rfl 2 (by decide) (hts (.fieldLink RX0 16 "PartCurves$Causes" "count" "I") (by decide +kernel)) rfl (by decide +kernel) rfl rfl (Nat.le_of_ble_eq_true rfl) (WX_cc g ad (zu (zu z 6 (ix (z 0 4)) t) 7 (ix (z 0 4)) v) ((z 0 4) + 1)) dX0_put_35 (fun H locs hP hS => ?_)
    exact qRv hx hb hr hlk hP hK hS dX0_put_38 (by simp [putS, lt3 c_5])
set_option maxHeartbeats 4000000 in
set_option maxRecDepth 100000 in
theorem kX2_has (l : Launch) (g : qG) {ad : Nat → Nat} (z : zS) (hj : adInj 15 ad) (k : Int32) : qMi l yX2_has wsX2_has 0 g (WX g ad) (adOf 15 ad) z [.ref (ad 9), .int k] (bI (hasB z k)) z := by
  refine qStart (cc := cX2_has) (maxL := 2) (ret := (some .boolean)) (plainFor_of_name (by decide)) rfl (Nat.le_of_ble_eq_true rfl) ?_
  intro p e s m args below meth c hx hb hml hown hts hr hlk hP hK ls hl
  have hl : lv_has ls 2 [(0, .ref (ad 9)), (1, .int k)] := hl
  have hS : va_S (adOf 15 ad) s.heap s.heap [] := va_S.rf
  have hin2 : ∀ w ∈ u_ws RX2 TX2 5, w ∈ wsX2_has := by decide +kernel
  refine lv_iload_n hx hb dX2_has_0 rfl (lv_at hl 1 rfl) ?_
  refine lv_if_lt (tgt := 16) hx hb dX2_has_1 (by decide) (fun c_1 => ?_) (fun c_1 => ?_)
  · -- 1 taken
    have c_1n := i_lt_t c_1
    refine lv_iconst (v := 0) hx hb dX2_has_16 rfl ?_
    exact qRz hx hb hr hlk rfl hP hK hS dX2_has_17 (by first | rfl | simp [bI, hasB, c_1, c_1n]) (by first | rfl | simp [bI, hasB, c_1, c_1n])
  · -- 1 not taken
    have c_1n := i_lt_f c_1
    refine lv_iload_n hx hb dX2_has_4 rfl (lv_at hl 1 rfl) ?_
    refine lv_aload_n hx hb dX2_has_5 rfl (lv_at hl 0 rfl) ?_
    refine qGet (ci := 2) (v := .int (z 0 3)) (C := RX2) (T := TX2) (N := 5) hx hb hts hin2 hown hK hP 9 rfl rfl 4 (by decide) (hts (.fieldLink RX2 24 "PartCurves$Readings" "count" "I") (by decide +kernel)) rfl dX2_has_6 ?_
    refine lv_icmp_ge (tgt := 16) hx hb dX2_has_9 (by decide) (fun c_9 => ?_) (fun c_9 => ?_)
    · -- 9 taken
      have c_9n := i_le_t c_9
      refine lv_iconst (v := 0) hx hb dX2_has_16 rfl ?_
      exact qRz hx hb hr hlk rfl hP hK hS dX2_has_17 (by first | rfl | simp [bI, hasB, c_1, c_1n, c_9, c_9n]) (by first | rfl | simp [bI, hasB, c_1, c_1n, c_9, c_9n])
    · -- 9 not taken
      have c_9n := i_le_f c_9
      refine lv_iconst (v := 1) hx hb dX2_has_12 rfl ?_
      refine lv_goto (tgt := 17) hx hb dX2_has_13 (by decide) ?_
      exact qRz hx hb hr hlk rfl hP hK hS dX2_has_17 (by first | rfl | simp [bI, hasB, c_1, c_1n, c_9, c_9n]) (by first | rfl | simp [bI, hasB, c_1, c_1n, c_9, c_9n])
set_option maxHeartbeats 4000000 in
set_option maxRecDepth 100000 in
theorem kX2_room (l : Launch) (g : qG) {ad : Nat → Nat} (z : zS) (hj : adInj 15 ad) : qMi l yX2_room wsX2_room 0 g (WX g ad) (adOf 15 ad) z [.ref (ad 9)] (60 - z 0 3) z := by
  refine qStart (cc := cX2_room) (maxL := 1) (ret := (some .int)) (plainFor_of_name (by decide)) rfl (Nat.le_of_ble_eq_true rfl) ?_
  intro p e s m args below meth c hx hb hml hown hts hr hlk hP hK ls hl
  have hl : lv_has ls 1 [(0, .ref (ad 9))] := hl
  have hS : va_S (adOf 15 ad) s.heap s.heap [] := va_S.rf
  have hin2 : ∀ w ∈ u_ws RX2 TX2 5, w ∈ wsX2_room := by decide +kernel
  refine lv_bipush (v := 60) hx hb dX2_room_0 (by decide) ?_
  refine lv_aload_n hx hb dX2_room_2 rfl (lv_at hl 0 rfl) ?_
  refine qGet (ci := 2) (v := .int (z 0 3)) (C := RX2) (T := TX2) (N := 5) hx hb hts hin2 hown hK hP 9 rfl rfl 4 (by decide) (hts (.fieldLink RX2 24 "PartCurves$Readings" "count" "I") (by decide +kernel)) rfl dX2_room_3 ?_
  refine lv_isub hx hb dX2_room_6 ?_
  exact qRi hx hb hr hlk hP hK hS dX2_room_7 (by first | rfl | simp []) (by first | rfl | simp [])
theorem rm_1 (x : Int32) (hx : inR x 0 60 = true) : (1 ≤ 60 - x) ↔ ¬ x = 60 := by
  have h := inR_iff.mp hx
  have e0 : (0 : Int32).toInt = 0 := rfl
  have e1 : (60 : Int32).toInt = 60 := rfl
  have e2 : (1 : Int32).toInt = 1 := rfl
  rw [e0, e1] at h
  rw [Int32.le_iff_toInt_le, fb_subI (by rw [e1]; omega) (by rw [e1]; omega), e1, e2, ← Int32.toInt_inj, e1]
  omega
theorem room_in {x : Int32} (hx : inR x 0 60 = true) (h : ¬ x = 60) : vp_in x 60 := by
  have h1 := inR_iff.mp hx
  have e0 : (0 : Int32).toInt = 0 := rfl
  have e1 : (60 : Int32).toInt = 60 := rfl
  rw [e0, e1] at h1
  have := ne_toInt h (k := 60) rfl
  exact vp_in_iff.mpr ⟨h1.1, by omega⟩
set_option maxHeartbeats 4000000 in
set_option maxRecDepth 100000 in
theorem kX2_add (l : Launch) (g : qG) {ad : Nat → Nat} (z : zS) (hj : adInj 15 ad) (v t a r : Int32) (hrc : inR (z 0 3) 0 60 = true) (hnf : ¬ z 0 3 = 60) : qMv l yX2_add wsX2_add 1 g (WX g ad) (adOf 15 ad) z [.ref (ad 9), .int v, .int t, .int a, .int r] (addS z v t a r) := by
  refine qStart (cc := cX2_add) (maxL := 5) (ret := none) (plainFor_of_name (by decide)) rfl (Nat.le_of_ble_eq_true rfl) ?_
  intro p e s m args below meth c hx hb hml hown hts hr hlk hP hK ls hl
  have hl : lv_has ls 5 [(0, .ref (ad 9)), (1, .int v), (2, .int t), (3, .int a), (4, .int r)] := hl
  have hS : va_S (adOf 15 ad) s.heap s.heap [] := va_S.rf
  have hin2 : ∀ w ∈ u_ws RX2 TX2 5, w ∈ wsX2_add := by decide +kernel
  refine lv_aload_n hx hb dX2_add_0 rfl (lv_at hl 0 rfl) ?_
  refine qVi (As := []) (rest := []) hx hb hml hown hts (kX2_room l g z hj) gX2_add_X2_room rfl 0 hdX2_room rfl ⟨Nat.le_of_ble_eq_true rfl, Nat.le_of_ble_eq_true rfl⟩ ⟨Nat.zero_le _, Nat.zero_le _⟩ hK hP hS (fun _ h => h) 9 2 rfl rfl rfl hl.1 rfl (Nat.le_of_ble_eq_true rfl) dX2_add_1 (fun H locs hP hS => ?_)
  refine lv_iconst (v := 1) hx hb dX2_add_4 rfl ?_
  refine lv_icmp_ge (tgt := 9) hx hb dX2_add_5 (by decide) (fun c_5 => ?_) (fun c_5 => ?_)
  · -- 5 taken
    have c_5n := i_le_t c_5
    refine lv_aload_n hx hb dX2_add_9 rfl (lv_at hl 0 rfl) ?_
    refine qGet (ci := 2) (v := .ref (ad 2)) (C := RX2) (T := TX2) (N := 5) hx hb hts hin2 hown hK hP 9 rfl rfl 0 (by decide) (hts (.fieldLink RX2 11 "PartCurves$Readings" "forced" "[I") (by decide +kernel)) rfl dX2_add_10 ?_
    refine lv_aload_n hx hb dX2_add_13 rfl (lv_at hl 0 rfl) ?_
    refine qGet (ci := 2) (v := .int (z 0 3)) (C := RX2) (T := TX2) (N := 5) hx hb hts hin2 hown hK hP 9 rfl rfl 4 (by decide) (hts (.fieldLink RX2 24 "PartCurves$Readings" "count" "I") (by decide +kernel)) rfl dX2_add_14 ?_
    refine lv_iload_n hx hb dX2_add_17 rfl (lv_at hl 1 rfl) ?_
    refine qIst (j := (ix (z 0 3))) (u' := zu z 2 (ix (z 0 3)) v) hx hb hK hP (WX_D g z hj) hS 2 rfl (room_in hrc hnf) rfl (WX_2 g ad z (ix (z 0 3)) v) dX2_add_18 (fun H locs hP hS => ?_)
    refine lv_aload_n hx hb dX2_add_19 rfl (lv_at hl 0 rfl) ?_
    refine qGet (ci := 2) (v := .ref (ad 3)) (C := RX2) (T := TX2) (N := 5) hx hb hts hin2 hown hK hP 9 rfl rfl 1 (by decide) (hts (.fieldLink RX2 15 "PartCurves$Readings" "told" "[I") (by decide +kernel)) (by simp [pF, zu, upd]) dX2_add_20 ?_
    refine lv_aload_n hx hb dX2_add_23 rfl (lv_at hl 0 rfl) ?_
    refine qGet (ci := 2) (v := .int (z 0 3)) (C := RX2) (T := TX2) (N := 5) hx hb hts hin2 hown hK hP 9 rfl rfl 4 (by decide) (hts (.fieldLink RX2 24 "PartCurves$Readings" "count" "I") (by decide +kernel)) (by simp [pF, zu, upd]) dX2_add_24 ?_
    refine lv_iload_n hx hb dX2_add_27 rfl (lv_at hl 2 rfl) ?_
    refine qIst (j := (ix (z 0 3))) (u' := zu (zu z 2 (ix (z 0 3)) v) 3 (ix (z 0 3)) t) hx hb hK hP (WX_D g (zu z 2 (ix (z 0 3)) v) hj) hS 3 rfl (room_in hrc hnf) rfl (WX_3 g ad (zu z 2 (ix (z 0 3)) v) (ix (z 0 3)) t) dX2_add_28 (fun H locs hP hS => ?_)
    refine lv_aload_n hx hb dX2_add_29 rfl (lv_at hl 0 rfl) ?_
    refine qGet (ci := 2) (v := .ref (ad 4)) (C := RX2) (T := TX2) (N := 5) hx hb hts hin2 hown hK hP 9 rfl rfl 2 (by decide) (hts (.fieldLink RX2 18 "PartCurves$Readings" "flowed" "[I") (by decide +kernel)) (by simp [pF, zu, upd]) dX2_add_30 ?_
    refine lv_aload_n hx hb dX2_add_33 rfl (lv_at hl 0 rfl) ?_
    refine qGet (ci := 2) (v := .int (z 0 3)) (C := RX2) (T := TX2) (N := 5) hx hb hts hin2 hown hK hP 9 rfl rfl 4 (by decide) (hts (.fieldLink RX2 24 "PartCurves$Readings" "count" "I") (by decide +kernel)) (by simp [pF, zu, upd]) dX2_add_34 ?_
    refine lv_iload_n hx hb dX2_add_37 rfl (lv_at hl 3 rfl) ?_
    refine qIst (j := (ix (z 0 3))) (u' := zu (zu (zu z 2 (ix (z 0 3)) v) 3 (ix (z 0 3)) t) 4 (ix (z 0 3)) a) hx hb hK hP (WX_D g (zu (zu z 2 (ix (z 0 3)) v) 3 (ix (z 0 3)) t) hj) hS 4 rfl (room_in hrc hnf) rfl (WX_4 g ad (zu (zu z 2 (ix (z 0 3)) v) 3 (ix (z 0 3)) t) (ix (z 0 3)) a) dX2_add_38 (fun H locs hP hS => ?_)
    refine lv_aload_n hx hb dX2_add_39 rfl (lv_at hl 0 rfl) ?_
    refine qGet (ci := 2) (v := .ref (ad 5)) (C := RX2) (T := TX2) (N := 5) hx hb hts hin2 hown hK hP 9 rfl rfl 3 (by decide) (hts (.fieldLink RX2 21 "PartCurves$Readings" "rules" "[I") (by decide +kernel)) (by simp [pF, zu, upd]) dX2_add_40 ?_
    refine lv_aload_n hx hb dX2_add_43 rfl (lv_at hl 0 rfl) ?_
    refine qGet (ci := 2) (v := .int (z 0 3)) (C := RX2) (T := TX2) (N := 5) hx hb hts hin2 hown hK hP 9 rfl rfl 4 (by decide) (hts (.fieldLink RX2 24 "PartCurves$Readings" "count" "I") (by decide +kernel)) (by simp [pF, zu, upd]) dX2_add_44 ?_
    refine lv_iload hx hb dX2_add_47 (lv_at hl 4 rfl) ?_
    refine qIst (j := (ix (z 0 3))) (u' := zu (zu (zu (zu z 2 (ix (z 0 3)) v) 3 (ix (z 0 3)) t) 4 (ix (z 0 3)) a) 5 (ix (z 0 3)) r) hx hb hK hP (WX_D g (zu (zu (zu z 2 (ix (z 0 3)) v) 3 (ix (z 0 3)) t) 4 (ix (z 0 3)) a) hj) hS 5 rfl (room_in hrc hnf) rfl (WX_5 g ad (zu (zu (zu z 2 (ix (z 0 3)) v) 3 (ix (z 0 3)) t) 4 (ix (z 0 3)) a) (ix (z 0 3)) r) dX2_add_49 (fun H locs hP hS => ?_)
    refine lv_aload_n hx hb dX2_add_50 rfl (lv_at hl 0 rfl) ?_
    refine lv_dup hx hb dX2_add_51 rfl ?_
    refine qGet (ci := 2) (v := .int (z 0 3)) (C := RX2) (T := TX2) (N := 5) hx hb hts hin2 hown hK hP 9 rfl rfl 4 (by decide) (hts (.fieldLink RX2 24 "PartCurves$Readings" "count" "I") (by decide +kernel)) (by simp [pF, zu, upd]) dX2_add_52 ?_
    refine lv_iconst (v := 1) hx hb dX2_add_55 rfl ?_
    refine lv_iadd hx hb dX2_add_56 ?_
    refine qPut (ci := 2) (ty := .int) (C := RX2) (T := TX2) (N := 5) (u' := zu (zu (zu (zu (zu z 2 (ix (z 0 3)) v) 3 (ix (z 0 3)) t) 4 (ix (z 0 3)) a) 5 (ix (z 0 3)) r) 0 3 ((z 0 3) + 1)) hx hb hts hin2 tyX2 tyX2_ok nmX2 hown hK hP (WX_D g (zu (zu (zu (zu z 2 (ix (z 0 3)) v) 3 (ix (z 0 3)) t) 4 (ix (z 0 3)) a) 5 (ix (z 0 3)) r) hj) hS 9 rfl rfl 4 (by decide) (hts (.fieldLink RX2 24 "PartCurves$Readings" "count" "I") (by decide +kernel)) rfl (by decide +kernel) rfl rfl (Nat.le_of_ble_eq_true rfl) (WX_rc g ad (zu (zu (zu (zu z 2 (ix (z 0 3)) v) 3 (ix (z 0 3)) t) 4 (ix (z 0 3)) a) 5 (ix (z 0 3)) r) ((z 0 3) + 1)) dX2_add_57 (fun H locs hP hS => ?_)
    exact qRv hx hb hr hlk hP hK hS dX2_add_60 (by first | rfl | simp [addS, c_5, c_5n])
  · -- 5 not taken
    have c_5n := i_le_f c_5
    exact absurd ((rm_1 _ hrc).mpr hnf) c_5
theorem cnt_lt {x : Int32} (hx : inR x 0 60 = true) {j : Nat} (h : ¬ x ≤ nI j) (hj : j < 2 ^ 31) : j < ix x := by
  obtain ⟨h1, h2, h3⟩ := inR_ix (n := 60) rfl hx
  rw [h2] at h
  exact nI_lt' hj (by omega) h
theorem cnt_ge {x : Int32} (hx : inR x 0 60 = true) {j : Nat} (h : x ≤ nI j) (hj : j < 2 ^ 31) : ix x ≤ j := by
  obtain ⟨h1, h2, h3⟩ := inR_ix (n := 60) rfl hx
  rw [h2] at h
  exact nI_ge' hj (by omega) h
set_option maxHeartbeats 4000000 in
set_option maxRecDepth 100000 in
theorem kX2_withRule (l : Launch) (g : qG) {ad : Nat → Nat} (z : zS) (hj : adInj 15 ad) (r : Int32) (hrc : inR (z 0 3) 0 60 = true) : qMi l yX2_withRule wsX2_withRule 0 g (WX g ad) (adOf 15 ad) z [.ref (ad 9), .int r] (wrF z r) z := by
  refine qStart (cc := cX2_withRule) (maxL := 4) (ret := (some .int)) (plainFor_of_name (by decide)) rfl (Nat.le_of_ble_eq_true rfl) ?_
  intro p e s m args below meth c hx hb hml hown hts hr hlk hP hK ls hl
  have hl : lv_has ls 4 [(0, .ref (ad 9)), (1, .int r)] := hl
  have hS : va_S (adOf 15 ad) s.heap s.heap [] := va_S.rf
  have hin2 : ∀ w ∈ u_ws RX2 TX2 5, w ∈ wsX2_withRule := by decide +kernel
  have loop : ∀ (k : Nat) (j : Nat) (g2 : Int32), j + k = ix (z 0 3) → wrR z r k j g2 = wrF z r → ∀ (H : Heap) (locs : List Loc), va_P g.1 vwCl ((WX g ad) z) H → va_S (adOf 15 ad) s.heap H locs → ∀ ls : Array Slot, lv_has ls 4 [(0, .ref (ad 9)), (1, .int r), (2, .int g2), (3, .int (nI j))] → W p l e (rmL 0) s m args below meth c H locs 0 0 (MQ below (va_Qi (fun q9 u9 => q9 = wrF z r ∧ u9 = z) (qU g (WX g ad)) (adOf 15 ad)) args s 0 0 (adOf 15 ad)) (F0 m 4 ls []) := by
    intro k
    induction k with
    | zero =>
      intro j g2 hj2 hz H locs hP hS ls hl
      refine lv_iload_n hx hb dX2_withRule_4 rfl (lv_at hl 3 rfl) ?_
      refine lv_aload_n hx hb dX2_withRule_5 rfl (lv_at hl 0 rfl) ?_
      refine qGet (ci := 2) (v := .int (z 0 3)) (C := RX2) (T := TX2) (N := 5) hx hb hts hin2 hown hK hP 9 rfl rfl 4 (by decide) (hts (.fieldLink RX2 24 "PartCurves$Readings" "count" "I") (by decide +kernel)) rfl dX2_withRule_6 ?_
      refine lv_icmp_ge (tgt := 31) hx hb dX2_withRule_9 (by decide) (fun c_9 => ?_) (fun c_9 => ?_)
      · -- 9 taken
        have c_9n := i_le_t c_9
        refine lv_iload_n hx hb dX2_withRule_31 rfl (lv_at hl 2 rfl) ?_
        exact qRi hx hb hr hlk hP hK hS dX2_withRule_32 hz rfl
      · -- 9 not taken
        have c_9n := i_le_f c_9
        exact absurd (cnt_lt hrc c_9 (by have := (inR_ix (n := 60) rfl hrc).1; omega)) (by omega)
    | succ k ih =>
      intro j g2 hj2 hz H locs hP hS ls hl
      refine lv_iload_n hx hb dX2_withRule_4 rfl (lv_at hl 3 rfl) ?_
      refine lv_aload_n hx hb dX2_withRule_5 rfl (lv_at hl 0 rfl) ?_
      refine qGet (ci := 2) (v := .int (z 0 3)) (C := RX2) (T := TX2) (N := 5) hx hb hts hin2 hown hK hP 9 rfl rfl 4 (by decide) (hts (.fieldLink RX2 24 "PartCurves$Readings" "count" "I") (by decide +kernel)) rfl dX2_withRule_6 ?_
      refine lv_icmp_ge (tgt := 31) hx hb dX2_withRule_9 (by decide) (fun c_9 => ?_) (fun c_9 => ?_)
      · -- 9 taken
        have c_9n := i_le_t c_9
        exact absurd (cnt_ge hrc c_9 (by have := (inR_ix (n := 60) rfl hrc).1; omega)) (by omega)
      · -- 9 not taken
        have c_9n := i_le_f c_9
        refine lv_aload_n hx hb dX2_withRule_12 rfl (lv_at hl 0 rfl) ?_
        refine qGet (ci := 2) (v := .ref (ad 5)) (C := RX2) (T := TX2) (N := 5) hx hb hts hin2 hown hK hP 9 rfl rfl 3 (by decide) (hts (.fieldLink RX2 21 "PartCurves$Readings" "rules" "[I") (by decide +kernel)) rfl dX2_withRule_13 ?_
        refine lv_iload_n hx hb dX2_withRule_16 rfl (lv_at hl 3 rfl) ?_
        refine qIld (v := (z 5 j)) hx hb hK hP 5 rfl (vp_in_nI (n := j) (N := 60) (by have := (inR_ix (n := 60) rfl hrc).1; omega) (by decide)) (congrArg (z 5) (nI_e j (by have := (inR_ix (n := 60) rfl hrc).1; omega))) dX2_withRule_17 ?_
        refine lv_iload_n hx hb dX2_withRule_18 rfl (lv_at hl 1 rfl) ?_
        refine lv_icmp_ne (tgt := 25) hx hb dX2_withRule_19 (by decide) (fun c_19 => ?_) (fun c_19 => ?_)
        · -- 19 taken
          refine lv_iinc (v := nI (j + 1)) (lv' := [(3, .int (nI (j + 1))), (0, .ref (ad 9)), (1, .int r), (2, .int g2)]) hx hb dX2_withRule_25 hl (k := 3) rfl (nI_1 j) (by decide) rfl (fun ls hl => ?_)
          refine lv_goto (tgt := 4) hx hb dX2_withRule_28 (by decide) ?_
          exact ih (j + 1) _ (by omega) (by rw [← hz]; simp [wrR, c_19]) _ _ hP hS ls (lv_sub hl [1, 2, 3, 0] rfl)
        · -- 19 not taken
          refine lv_iinc (v := g2 + 1) (lv' := [(2, .int (g2 + 1)), (0, .ref (ad 9)), (1, .int r), (3, .int (nI j))]) hx hb dX2_withRule_22 hl (k := 2) rfl rfl (by decide) rfl (fun ls hl => ?_)
          refine lv_iinc (v := nI (j + 1)) (lv' := [(3, .int (nI (j + 1))), (2, .int (g2 + 1)), (0, .ref (ad 9)), (1, .int r)]) hx hb dX2_withRule_25 hl (k := 3) rfl (nI_1 j) (by decide) rfl (fun ls hl => ?_)
          refine lv_goto (tgt := 4) hx hb dX2_withRule_28 (by decide) ?_
          exact ih (j + 1) _ (by omega) (by rw [← hz]; simp [wrR, c_19]) _ _ hP hS ls (lv_sub hl [2, 3, 1, 0] rfl)
  refine lv_iconst (v := 0) hx hb dX2_withRule_0 rfl ?_
  refine lv_istore_n (lv' := [(2, .int 0), (0, .ref (ad 9)), (1, .int r)]) hx hb dX2_withRule_1 rfl hl (by decide) rfl (fun ls hl => ?_)
  refine lv_iconst (v := 0) hx hb dX2_withRule_2 rfl ?_
  refine lv_istore_n (lv' := [(3, .int 0), (2, .int 0), (0, .ref (ad 9)), (1, .int r)]) hx hb dX2_withRule_3 rfl hl (by decide) rfl (fun ls hl => ?_)
  exact loop (ix (z 0 3)) 0 0 (Nat.zero_add _) rfl _ _ hP hS ls (lv_sub hl [2, 3, 1, 0] rfl)
