theorem renew_M (z : zS) (p : Nat) (f o k : Int32) : zu (zu (zu (zu (zu (zu (zu (zu (zu (zu (zu (zu z p 0 1) p 3 f) p 4 o) p 5 k) p 7 1000) p 8 600) p 9 0) p 10 0) p 11 0) p 6 0) p 1 0) p 2 0 = renewS z p f o k := by
  funext a b
  unfold renewS
  by_cases h : a = p
  · rw [h]
    rcases (show b = 0 ∨ b = 1 ∨ b = 2 ∨ b = 3 ∨ b = 4 ∨ b = 5 ∨ b = 6 ∨ b = 7 ∨ b = 8 ∨ b = 9 ∨ b = 10 ∨ b = 11 ∨ 12 ≤ b by omega) with rfl | rfl | rfl | rfl | rfl | rfl | rfl | rfl | rfl | rfl | rfl | rfl | hb
    iterate 12 (simp [zu])
    have e : ∀ k, k < 12 → ¬ b = k := fun k hk => by omega
    simp only [zu, if_neg (e 0 (by omega)), if_neg (e 1 (by omega)), if_neg (e 2 (by omega)), if_neg (e 3 (by omega)), if_neg (e 4 (by omega)), if_neg (e 5 (by omega)), if_neg (e 6 (by omega)), if_neg (e 7 (by omega)), if_neg (e 8 (by omega)), if_neg (e 9 (by omega)), if_neg (e 10 (by omega)), if_neg (e 11 (by omega))]
  · simp only [zu, if_neg h]
theorem tk_M {w v : Int32} : (inR w 0 4 = true ∧ inR v (leastN (ix w)) (mostN (ix w)) = true) ↔ takesB w v = true := by
  constructor
  · rintro ⟨h1, h2⟩
    have h1 := inR_b h1 (x := 0) (y := 4) rfl rfl
    unfold inR at h2
    rw [Bool.and_eq_true, decide_eq_true_eq, decide_eq_true_eq] at h2
    unfold takesB
    have a1 : 0 ≤ w := Int32.le_iff_toInt_le.mpr (by rw [i0]; exact h1.1)
    have a2 : w < 5 := Int32.lt_iff_toInt_lt.mpr (by rw [show (5 : Int32).toInt = 5 from rfl]; omega)
    simp [a1, a2, h2.1, h2.2]
  · intro h
    obtain ⟨-, h2, h3, h4⟩ := takes_ix h
    exact ⟨h2, by unfold inR; simp [h3, h4]⟩
theorem nI_is {v : Int32} {n : Nat} {b : Int32} (hb : b.toInt = n) (h : inR v 0 b = true) : v = nI (ix v) := (inR_ix hb h).2.1
theorem ix_lt5 {w : Int32} (h : inR w 0 4 = true) : ix w < 5 := Nat.lt_of_le_of_lt (inR_ix (n := 4) rfl h).1 (by decide)
theorem sh_M {z : zS} (hI : qInv z) {t q : Int32} (ht : inR t 0 3 = true) (h2 : t < 2) (hq : inR q 0 7 = true) : ((z 1 (ix (1 - t)) >>> (q &&& 31)) &&& 1 = 1) ↔ shortsB z t (sh q) = true := by
  rcases t01 ht h2 with rfl | rfl
  · have h := bit_1 (inv_pn hI 1 (by decide)) hq
    have e : ix ((1 : Int32) - 0) = 1 := rfl
    rw [e, h]
    simp [shortsB]
  · have h := bit_1 (inv_pn hI 0 (by decide)) hq
    have e : ix ((1 : Int32) - 1) = 0 := rfl
    rw [e, h]
    simp [shortsB]
theorem sh_no {z : zS} {t x : Int32} (h : ¬ t < 2) : ¬ shortsB z t x = true := by
  have h0 : ¬ t = 0 := fun q => h (by rw [q]; decide)
  have h1 : ¬ t = 1 := fun q => h (by rw [q]; decide)
  simp [shortsB, h0, h1]
theorem vp_1t {t : Int32} (ht : inR t 0 3 = true) (h2 : t < 2) : vp_in (1 - t) 4 := by
  rcases t01 ht h2 with rfl | rfl
  · exact vp_in_iff.mpr ⟨by decide, by decide⟩
  · exact vp_in_iff.mpr ⟨by decide, by decide⟩
theorem rel_M {x q v : Int32} (hx : inR x 0 255 = true) (hq : inR q 0 7 = true) (hv : inR v 0 1 = true) : (x &&& (((1 : Int32) <<< (q &&& 31)) ^^^ (-1))) ||| (v <<< (q &&& 31)) = if v = 1 then x ||| sh q else x &&& (sh q ^^^ (-1)) := by
  rcases in01 hv with rfl | rfl
  · rw [if_neg (by decide)]; exact (bit_eq hx hq).2.2
  · rw [if_pos rfl]; exact (bit_eq hx hq).2.1
theorem has_M {z : zS} (hI : qInv z) {k : Int32} : inR k 0 (z 0 3 - 1) = hasB z k := by
  have h := inR_b (inv_rc hI) (x := 0) (y := 60) rfl rfl
  have e1 : (1 : Int32).toInt = 1 := rfl
  have e : (z 0 3 - 1).toInt = (z 0 3).toInt - 1 := by rw [fb_subI (by rw [e1]; omega) (by rw [e1]; omega), e1]
  unfold inR hasB
  congr 1
  rw [decide_eq_decide, Int32.le_iff_toInt_le, Int32.lt_iff_toInt_lt, e]
  omega
set_option maxHeartbeats 4000000 in
set_option maxRecDepth 100000 in
theorem kX4_part (l : Launch) (g : qG) {am : Nat → Nat} (z : zS) (r : Nat → Int32) (hj : adInj 18 am) (n first other kind : Int32) : qMi l yX4_part wsX4_part 2 g (WMu g am) (adOf 18 am) (z, r) [.ref (am 0), .int n, .int first, .int other, .int kind] ((s_part z n first other kind).1) ((s_part z n first other kind).2, r) := by
  refine qStart (cc := cX4_part) (maxL := 6) (ret := (some .int)) (plainFor_of_name (by decide)) rfl (Nat.le_of_ble_eq_true rfl) ?_
  intro p e s m args below meth c hx hb hml hown hts hr hlk hP hK ls hl
  have hl : lv_has ls 6 [(0, .ref (am 0)), (1, .int n), (2, .int first), (3, .int other), (4, .int kind)] := hl
  have hS : va_S (adOf 18 am) s.heap s.heap [] := va_S.rf
  have hin4 : ∀ w ∈ u_ws RX4 TX4 25, w ∈ wsX4_part := by decide +kernel
  refine lv_iload_n hx hb dX4_part_0 rfl (lv_at hl 1 rfl) ?_
  refine lv_iconst (v := 0) hx hb dX4_part_1 rfl ?_
  refine lv_iconst (v := 3) hx hb dX4_part_2 rfl ?_
  refine qSi (As := [.int n, .int 0, .int 3]) (rest := []) hx hb hml hown hts (kX4_within l g (Wd := (WMu g am)) (A := (adOf 18 am)) (z, r) n 0 3) gX4_part_X4_within rfl 3 hdX4_within rfl ⟨Nat.le_of_ble_eq_true rfl, Nat.le_of_ble_eq_true rfl⟩ ⟨Nat.zero_le _, Nat.zero_le _⟩ hK hP hS (fun _ h => h) hl.1 rfl (Nat.le_of_ble_eq_true rfl) dX4_part_3 (fun H locs hP hS => ?_)
  refine lv_if_eq (tgt := 23) hx hb dX4_part_6 (by decide) (fun c_6 => ?_) (fun c_6 => ?_)
  · -- 6 taken
    have c_6 := bI_0 c_6
    refine lv_iconst (v := -1) hx hb dX4_part_23 rfl ?_
    exact qRi hx hb hr hlk hP hK hS dX4_part_24 (by unfold s_part; rw [if_neg (fun h => absurd h.1 (bn c_6))] <;> rfl) (pr_eq (by unfold s_part; rw [if_neg (fun h => absurd h.1 (bn c_6))] <;> rfl) rfl)
  · -- 6 not taken
    have c_6 := bI_n c_6
    refine lv_iload_n hx hb dX4_part_9 rfl (lv_at hl 2 rfl) ?_
    refine qSi (As := [.int first]) (rest := []) hx hb hml hown hts (kX4_isPin l g (Wd := (WMu g am)) (A := (adOf 18 am)) (z, r) first) gX4_part_X4_isPin rfl 1 hdX4_isPin rfl ⟨Nat.le_of_ble_eq_true rfl, Nat.le_of_ble_eq_true rfl⟩ ⟨Nat.zero_le _, Nat.zero_le _⟩ hK hP hS (fun _ h => h) hl.1 rfl (Nat.le_of_ble_eq_true rfl) dX4_part_10 (fun H locs hP hS => ?_)
    refine lv_if_eq (tgt := 23) hx hb dX4_part_13 (by decide) (fun c_13 => ?_) (fun c_13 => ?_)
    · -- 13 taken
      have c_13 := bI_0 c_13
      refine lv_iconst (v := -1) hx hb dX4_part_23 rfl ?_
      exact qRi hx hb hr hlk hP hK hS dX4_part_24 (by unfold s_part; rw [if_neg (fun h => absurd h.2.1 (bn c_13))] <;> rfl) (pr_eq (by unfold s_part; rw [if_neg (fun h => absurd h.2.1 (bn c_13))] <;> rfl) rfl)
    · -- 13 not taken
      have c_13 := bI_n c_13
      refine lv_iload_n hx hb dX4_part_16 rfl (lv_at hl 3 rfl) ?_
      refine qSi (As := [.int other]) (rest := []) hx hb hml hown hts (kX4_isPin l g (Wd := (WMu g am)) (A := (adOf 18 am)) (z, r) other) gX4_part_X4_isPin rfl 1 hdX4_isPin rfl ⟨Nat.le_of_ble_eq_true rfl, Nat.le_of_ble_eq_true rfl⟩ ⟨Nat.zero_le _, Nat.zero_le _⟩ hK hP hS (fun _ h => h) hl.1 rfl (Nat.le_of_ble_eq_true rfl) dX4_part_17 (fun H locs hP hS => ?_)
      refine lv_if_ne (tgt := 25) hx hb dX4_part_20 (by decide) (fun c_20 => ?_) (fun c_20 => ?_)
      · -- 20 taken
        have c_20 := bI_n c_20
        refine lv_iload hx hb dX4_part_25 (lv_at hl 4 rfl) ?_
        refine lv_iconst (v := 0) hx hb dX4_part_27 rfl ?_
        refine lv_iconst (v := 3) hx hb dX4_part_28 rfl ?_
        refine qSi (As := [.int kind, .int 0, .int 3]) (rest := []) hx hb hml hown hts (kX4_within l g (Wd := (WMu g am)) (A := (adOf 18 am)) (z, r) kind 0 3) gX4_part_X4_within rfl 3 hdX4_within rfl ⟨Nat.le_of_ble_eq_true rfl, Nat.le_of_ble_eq_true rfl⟩ ⟨Nat.zero_le _, Nat.zero_le _⟩ hK hP hS (fun _ h => h) hl.1 rfl (Nat.le_of_ble_eq_true rfl) dX4_part_29 (fun H locs hP hS => ?_)
        refine lv_if_ne (tgt := 38) hx hb dX4_part_32 (by decide) (fun c_32 => ?_) (fun c_32 => ?_)
        · -- 32 taken
          have c_32 := bI_n c_32
          refine lv_iload_n hx hb dX4_part_38 rfl (lv_at hl 2 rfl) ?_
          refine lv_iload_n hx hb dX4_part_39 rfl (lv_at hl 3 rfl) ?_
          refine lv_icmp_eq (tgt := 50) hx hb dX4_part_40 (by decide) (fun c_40 => ?_) (fun c_40 => ?_)
          · -- 40 taken
            refine lv_bipush (v := -3) hx hb dX4_part_50 (by decide) ?_
            exact qRi hx hb hr hlk hP hK hS dX4_part_52 (by unfold s_part; rw [if_pos ⟨c_6, c_13, c_20⟩, if_pos c_32, if_pos (Or.inl c_40)] <;> rfl) (pr_eq (by unfold s_part; rw [if_pos ⟨c_6, c_13, c_20⟩, if_pos c_32, if_pos (Or.inl c_40)] <;> rfl) rfl)
          · -- 40 not taken
            refine lv_aload_n hx hb dX4_part_43 rfl (lv_at hl 0 rfl) ?_
            refine qGet (ci := 4) (v := .int (z 0 0)) (C := RX4) (T := TX4) (N := 25) hx hb hts hin4 hown hK hP 0 rfl rfl 11 (by decide) (hts (.fieldLink RX4 74 "PartCurvesModel" "isOn" "Z") (by decide +kernel)) rfl dX4_part_44 ?_
            refine lv_if_eq (tgt := 53) hx hb dX4_part_47 (by decide) (fun c_47 => ?_) (fun c_47 => ?_)
            · -- 47 taken
              refine lv_aload_n hx hb dX4_part_53 rfl (lv_at hl 0 rfl) ?_
              refine qGet (ci := 4) (v := .ref (am 1)) (C := RX4) (T := TX4) (N := 25) hx hb hts hin4 hown hK hP 0 rfl rfl 0 (by decide) (hts (.fieldLink RX4 7 "PartCurvesModel" "isThere" "[Z") (by decide +kernel)) rfl dX4_part_54 ?_
              refine lv_iload_n hx hb dX4_part_57 rfl (lv_at hl 1 rfl) ?_
              refine qZld (v := (z (10 + ix n) 0)) hx hb hK hP 1 rfl (inR_vp (n := 3) rfl c_6 4 (by decide)) rfl dX4_part_58 ?_
              refine lv_if_eq (tgt := 66) hx hb dX4_part_59 (by decide) (fun c_59 => ?_) (fun c_59 => ?_)
              · -- 59 taken
                refine lv_iconst (v := 0) hx hb dX4_part_66 rfl ?_
                refine lv_istore (lv' := [(5, .int 0), (0, .ref (am 0)), (1, .int n), (2, .int first), (3, .int other), (4, .int kind)]) hx hb dX4_part_67 hl (by decide) rfl (fun ls hl => ?_)
                refine lv_aload_n hx hb dX4_part_69 rfl (lv_at hl 1 rfl) ?_
                refine qGet (ci := 4) (v := .ref (am 1)) (C := RX4) (T := TX4) (N := 25) hx hb hts hin4 hown hK hP 0 rfl rfl 0 (by decide) (hts (.fieldLink RX4 7 "PartCurvesModel" "isThere" "[Z") (by decide +kernel)) rfl dX4_part_70 ?_
                refine lv_iload_n hx hb dX4_part_73 rfl (lv_at hl 2 rfl) ?_
                refine lv_iconst (v := 1) hx hb dX4_part_74 rfl ?_
                refine qZst (j := (ix n)) (y := 1) (u' := (zu z (10 + ix n) 0 1, r)) hx hb hK hP (WMu_D g (z, r) hj) hS 1 rfl (inR_vp (n := 3) rfl c_6 4 (by decide)) rfl rfl (WM_f0 g am z r (ix n) 1) dX4_part_75 (fun H locs hP hS => ?_)
                refine lv_aload_n hx hb dX4_part_76 rfl (lv_at hl 1 rfl) ?_
                refine qGet (ci := 4) (v := .ref (am 2)) (C := RX4) (T := TX4) (N := 25) hx hb hts hin4 hown hK hP 0 rfl rfl 1 (by decide) (hts (.fieldLink RX4 13 "PartCurvesModel" "firstOf" "[I") (by decide +kernel)) (by simp [pF, zu, upd]) dX4_part_77 ?_
                refine lv_iload_n hx hb dX4_part_80 rfl (lv_at hl 2 rfl) ?_
                refine lv_iload_n hx hb dX4_part_81 rfl (lv_at hl 3 rfl) ?_
                refine qIst (j := (ix n)) (u' := (zu (zu z (10 + ix n) 0 1) (10 + ix n) 3 first, r)) hx hb hK hP (WMu_D g (zu z (10 + ix n) 0 1, r) hj) hS 2 rfl (inR_vp (n := 3) rfl c_6 4 (by decide)) rfl (WM_f3 g am (zu z (10 + ix n) 0 1) r (ix n) first) dX4_part_82 (fun H locs hP hS => ?_)
                refine lv_aload_n hx hb dX4_part_83 rfl (lv_at hl 1 rfl) ?_
                refine qGet (ci := 4) (v := .ref (am 3)) (C := RX4) (T := TX4) (N := 25) hx hb hts hin4 hown hK hP 0 rfl rfl 2 (by decide) (hts (.fieldLink RX4 17 "PartCurvesModel" "otherOf" "[I") (by decide +kernel)) (by simp [pF, zu, upd]) dX4_part_84 ?_
                refine lv_iload_n hx hb dX4_part_87 rfl (lv_at hl 2 rfl) ?_
                refine lv_iload_n hx hb dX4_part_88 rfl (lv_at hl 4 rfl) ?_
                refine qIst (j := (ix n)) (u' := (zu (zu (zu z (10 + ix n) 0 1) (10 + ix n) 3 first) (10 + ix n) 4 other, r)) hx hb hK hP (WMu_D g (zu (zu z (10 + ix n) 0 1) (10 + ix n) 3 first, r) hj) hS 3 rfl (inR_vp (n := 3) rfl c_6 4 (by decide)) rfl (WM_f4 g am (zu (zu z (10 + ix n) 0 1) (10 + ix n) 3 first) r (ix n) other) dX4_part_89 (fun H locs hP hS => ?_)
                refine lv_aload_n hx hb dX4_part_90 rfl (lv_at hl 1 rfl) ?_
                refine qGet (ci := 4) (v := .ref (am 4)) (C := RX4) (T := TX4) (N := 25) hx hb hts hin4 hown hK hP 0 rfl rfl 3 (by decide) (hts (.fieldLink RX4 20 "PartCurvesModel" "kindOf" "[I") (by decide +kernel)) (by simp [pF, zu, upd]) dX4_part_91 ?_
                refine lv_iload_n hx hb dX4_part_94 rfl (lv_at hl 2 rfl) ?_
                refine lv_iload hx hb dX4_part_95 (lv_at hl 5 rfl) ?_
                refine qIst (j := (ix n)) (u' := (zu (zu (zu (zu z (10 + ix n) 0 1) (10 + ix n) 3 first) (10 + ix n) 4 other) (10 + ix n) 5 kind, r)) hx hb hK hP (WMu_D g (zu (zu (zu z (10 + ix n) 0 1) (10 + ix n) 3 first) (10 + ix n) 4 other, r) hj) hS 4 rfl (inR_vp (n := 3) rfl c_6 4 (by decide)) rfl (WM_f5 g am (zu (zu (zu z (10 + ix n) 0 1) (10 + ix n) 3 first) (10 + ix n) 4 other) r (ix n) kind) dX4_part_97 (fun H locs hP hS => ?_)
                refine lv_aload_n hx hb dX4_part_98 rfl (lv_at hl 1 rfl) ?_
                refine qGet (ci := 4) (v := .ref (am 5)) (C := RX4) (T := TX4) (N := 25) hx hb hts hin4 hown hK hP 0 rfl rfl 4 (by decide) (hts (.fieldLink RX4 23 "PartCurvesModel" "numberOf" "[I") (by decide +kernel)) (by simp [pF, zu, upd]) dX4_part_99 ?_
                refine lv_iconst (v := 5) hx hb dX4_part_102 rfl ?_
                refine lv_iload_n hx hb dX4_part_103 rfl (lv_at hl 2 rfl) ?_
                refine lv_imul hx hb dX4_part_104 ?_
                refine lv_iconst (v := 0) hx hb dX4_part_105 rfl ?_
                refine lv_iadd hx hb dX4_part_106 ?_
                refine lv_sipush (v := 1000) hx hb dX4_part_107 (by decide) ?_
                refine qIst (j := (5 * (ix n) + 0)) (u' := (zu (zu (zu (zu (zu z (10 + ix n) 0 1) (10 + ix n) 3 first) (10 + ix n) 4 other) (10 + ix n) 5 kind) (10 + ix n) 7 1000, r)) hx hb hK hP (WMu_D g (zu (zu (zu (zu z (10 + ix n) 0 1) (10 + ix n) 3 first) (10 + ix n) 4 other) (10 + ix n) 5 kind, r) hj) hS 5 rfl (num_ix c_6 (k := 0) (by decide)).2.1 (num_ix c_6 (k := 0) (by decide)).2.2 (WM_n g am (zu (zu (zu (zu z (10 + ix n) 0 1) (10 + ix n) 3 first) (10 + ix n) 4 other) (10 + ix n) 5 kind) r (ix n) 0 1000 (by decide)) dX4_part_110 (fun H locs hP hS => ?_)
                refine lv_aload_n hx hb dX4_part_111 rfl (lv_at hl 1 rfl) ?_
                refine qGet (ci := 4) (v := .ref (am 5)) (C := RX4) (T := TX4) (N := 25) hx hb hts hin4 hown hK hP 0 rfl rfl 4 (by decide) (hts (.fieldLink RX4 23 "PartCurvesModel" "numberOf" "[I") (by decide +kernel)) (by simp [pF, zu, upd]) dX4_part_112 ?_
                refine lv_iconst (v := 5) hx hb dX4_part_115 rfl ?_
                refine lv_iload_n hx hb dX4_part_116 rfl (lv_at hl 2 rfl) ?_
                refine lv_imul hx hb dX4_part_117 ?_
                refine lv_iconst (v := 1) hx hb dX4_part_118 rfl ?_
                refine lv_iadd hx hb dX4_part_119 ?_
                refine lv_sipush (v := 600) hx hb dX4_part_120 (by decide) ?_
                refine qIst (j := (5 * (ix n) + 1)) (u' := (zu (zu (zu (zu (zu (zu z (10 + ix n) 0 1) (10 + ix n) 3 first) (10 + ix n) 4 other) (10 + ix n) 5 kind) (10 + ix n) 7 1000) (10 + ix n) 8 600, r)) hx hb hK hP (WMu_D g (zu (zu (zu (zu (zu z (10 + ix n) 0 1) (10 + ix n) 3 first) (10 + ix n) 4 other) (10 + ix n) 5 kind) (10 + ix n) 7 1000, r) hj) hS 5 rfl (num_ix c_6 (k := 1) (by decide)).2.1 (num_ix c_6 (k := 1) (by decide)).2.2 (WM_n g am (zu (zu (zu (zu (zu z (10 + ix n) 0 1) (10 + ix n) 3 first) (10 + ix n) 4 other) (10 + ix n) 5 kind) (10 + ix n) 7 1000) r (ix n) 1 600 (by decide)) dX4_part_123 (fun H locs hP hS => ?_)
                refine lv_aload_n hx hb dX4_part_124 rfl (lv_at hl 1 rfl) ?_
                refine qGet (ci := 4) (v := .ref (am 5)) (C := RX4) (T := TX4) (N := 25) hx hb hts hin4 hown hK hP 0 rfl rfl 4 (by decide) (hts (.fieldLink RX4 23 "PartCurvesModel" "numberOf" "[I") (by decide +kernel)) (by simp [pF, zu, upd]) dX4_part_125 ?_
                refine lv_iconst (v := 5) hx hb dX4_part_128 rfl ?_
                refine lv_iload_n hx hb dX4_part_129 rfl (lv_at hl 2 rfl) ?_
                refine lv_imul hx hb dX4_part_130 ?_
                refine lv_iconst (v := 2) hx hb dX4_part_131 rfl ?_
                refine lv_iadd hx hb dX4_part_132 ?_
                refine lv_iconst (v := 0) hx hb dX4_part_133 rfl ?_
                refine qIst (j := (5 * (ix n) + 2)) (u' := (zu (zu (zu (zu (zu (zu (zu z (10 + ix n) 0 1) (10 + ix n) 3 first) (10 + ix n) 4 other) (10 + ix n) 5 kind) (10 + ix n) 7 1000) (10 + ix n) 8 600) (10 + ix n) 9 0, r)) hx hb hK hP (WMu_D g (zu (zu (zu (zu (zu (zu z (10 + ix n) 0 1) (10 + ix n) 3 first) (10 + ix n) 4 other) (10 + ix n) 5 kind) (10 + ix n) 7 1000) (10 + ix n) 8 600, r) hj) hS 5 rfl (num_ix c_6 (k := 2) (by decide)).2.1 (num_ix c_6 (k := 2) (by decide)).2.2 (WM_n g am (zu (zu (zu (zu (zu (zu z (10 + ix n) 0 1) (10 + ix n) 3 first) (10 + ix n) 4 other) (10 + ix n) 5 kind) (10 + ix n) 7 1000) (10 + ix n) 8 600) r (ix n) 2 0 (by decide)) dX4_part_134 (fun H locs hP hS => ?_)
                refine lv_aload_n hx hb dX4_part_135 rfl (lv_at hl 1 rfl) ?_
                refine qGet (ci := 4) (v := .ref (am 5)) (C := RX4) (T := TX4) (N := 25) hx hb hts hin4 hown hK hP 0 rfl rfl 4 (by decide) (hts (.fieldLink RX4 23 "PartCurvesModel" "numberOf" "[I") (by decide +kernel)) (by simp [pF, zu, upd]) dX4_part_136 ?_
                refine lv_iconst (v := 5) hx hb dX4_part_139 rfl ?_
                refine lv_iload_n hx hb dX4_part_140 rfl (lv_at hl 2 rfl) ?_
                refine lv_imul hx hb dX4_part_141 ?_
                refine lv_iconst (v := 3) hx hb dX4_part_142 rfl ?_
                refine lv_iadd hx hb dX4_part_143 ?_
                refine lv_iconst (v := 0) hx hb dX4_part_144 rfl ?_
                refine qIst (j := (5 * (ix n) + 3)) (u' := (zu (zu (zu (zu (zu (zu (zu (zu z (10 + ix n) 0 1) (10 + ix n) 3 first) (10 + ix n) 4 other) (10 + ix n) 5 kind) (10 + ix n) 7 1000) (10 + ix n) 8 600) (10 + ix n) 9 0) (10 + ix n) 10 0, r)) hx hb hK hP (WMu_D g (zu (zu (zu (zu (zu (zu (zu z (10 + ix n) 0 1) (10 + ix n) 3 first) (10 + ix n) 4 other) (10 + ix n) 5 kind) (10 + ix n) 7 1000) (10 + ix n) 8 600) (10 + ix n) 9 0, r) hj) hS 5 rfl (num_ix c_6 (k := 3) (by decide)).2.1 (num_ix c_6 (k := 3) (by decide)).2.2 (WM_n g am (zu (zu (zu (zu (zu (zu (zu z (10 + ix n) 0 1) (10 + ix n) 3 first) (10 + ix n) 4 other) (10 + ix n) 5 kind) (10 + ix n) 7 1000) (10 + ix n) 8 600) (10 + ix n) 9 0) r (ix n) 3 0 (by decide)) dX4_part_145 (fun H locs hP hS => ?_)
                refine lv_aload_n hx hb dX4_part_146 rfl (lv_at hl 1 rfl) ?_
                refine qGet (ci := 4) (v := .ref (am 5)) (C := RX4) (T := TX4) (N := 25) hx hb hts hin4 hown hK hP 0 rfl rfl 4 (by decide) (hts (.fieldLink RX4 23 "PartCurvesModel" "numberOf" "[I") (by decide +kernel)) (by simp [pF, zu, upd]) dX4_part_147 ?_
                refine lv_iconst (v := 5) hx hb dX4_part_150 rfl ?_
                refine lv_iload_n hx hb dX4_part_151 rfl (lv_at hl 2 rfl) ?_
                refine lv_imul hx hb dX4_part_152 ?_
                refine lv_iconst (v := 4) hx hb dX4_part_153 rfl ?_
                refine lv_iadd hx hb dX4_part_154 ?_
                refine lv_iconst (v := 0) hx hb dX4_part_155 rfl ?_
                refine qIst (j := (5 * (ix n) + 4)) (u' := (zu (zu (zu (zu (zu (zu (zu (zu (zu z (10 + ix n) 0 1) (10 + ix n) 3 first) (10 + ix n) 4 other) (10 + ix n) 5 kind) (10 + ix n) 7 1000) (10 + ix n) 8 600) (10 + ix n) 9 0) (10 + ix n) 10 0) (10 + ix n) 11 0, r)) hx hb hK hP (WMu_D g (zu (zu (zu (zu (zu (zu (zu (zu z (10 + ix n) 0 1) (10 + ix n) 3 first) (10 + ix n) 4 other) (10 + ix n) 5 kind) (10 + ix n) 7 1000) (10 + ix n) 8 600) (10 + ix n) 9 0) (10 + ix n) 10 0, r) hj) hS 5 rfl (num_ix c_6 (k := 4) (by decide)).2.1 (num_ix c_6 (k := 4) (by decide)).2.2 (WM_n g am (zu (zu (zu (zu (zu (zu (zu (zu z (10 + ix n) 0 1) (10 + ix n) 3 first) (10 + ix n) 4 other) (10 + ix n) 5 kind) (10 + ix n) 7 1000) (10 + ix n) 8 600) (10 + ix n) 9 0) (10 + ix n) 10 0) r (ix n) 4 0 (by decide)) dX4_part_156 (fun H locs hP hS => ?_)
                refine lv_aload_n hx hb dX4_part_157 rfl (lv_at hl 1 rfl) ?_
                refine qGet (ci := 4) (v := .ref (am 8)) (C := RX4) (T := TX4) (N := 25) hx hb hts hin4 hown hK hP 0 rfl rfl 7 (by decide) (hts (.fieldLink RX4 32 "PartCurvesModel" "heatOf" "[I") (by decide +kernel)) (by simp [pF, zu, upd]) dX4_part_158 ?_
                refine lv_iload_n hx hb dX4_part_161 rfl (lv_at hl 2 rfl) ?_
                refine lv_iconst (v := 0) hx hb dX4_part_162 rfl ?_
                refine qIst (j := (ix n)) (u' := (zu (zu (zu (zu (zu (zu (zu (zu (zu (zu z (10 + ix n) 0 1) (10 + ix n) 3 first) (10 + ix n) 4 other) (10 + ix n) 5 kind) (10 + ix n) 7 1000) (10 + ix n) 8 600) (10 + ix n) 9 0) (10 + ix n) 10 0) (10 + ix n) 11 0) (10 + ix n) 6 0, r)) hx hb hK hP (WMu_D g (zu (zu (zu (zu (zu (zu (zu (zu (zu z (10 + ix n) 0 1) (10 + ix n) 3 first) (10 + ix n) 4 other) (10 + ix n) 5 kind) (10 + ix n) 7 1000) (10 + ix n) 8 600) (10 + ix n) 9 0) (10 + ix n) 10 0) (10 + ix n) 11 0, r) hj) hS 8 rfl (inR_vp (n := 3) rfl c_6 4 (by decide)) rfl (WM_f6 g am (zu (zu (zu (zu (zu (zu (zu (zu (zu z (10 + ix n) 0 1) (10 + ix n) 3 first) (10 + ix n) 4 other) (10 + ix n) 5 kind) (10 + ix n) 7 1000) (10 + ix n) 8 600) (10 + ix n) 9 0) (10 + ix n) 10 0) (10 + ix n) 11 0) r (ix n) 0) dX4_part_163 (fun H locs hP hS => ?_)
                refine lv_aload_n hx hb dX4_part_164 rfl (lv_at hl 1 rfl) ?_
                refine qGet (ci := 4) (v := .ref (am 9)) (C := RX4) (T := TX4) (N := 25) hx hb hts hin4 hown hK hP 0 rfl rfl 8 (by decide) (hts (.fieldLink RX4 35 "PartCurvesModel" "isBurnt" "[Z") (by decide +kernel)) (by simp [pF, zu, upd]) dX4_part_165 ?_
                refine lv_iload_n hx hb dX4_part_168 rfl (lv_at hl 2 rfl) ?_
                refine lv_iconst (v := 0) hx hb dX4_part_169 rfl ?_
                refine qZst (j := (ix n)) (y := 0) (u' := (zu (zu (zu (zu (zu (zu (zu (zu (zu (zu (zu z (10 + ix n) 0 1) (10 + ix n) 3 first) (10 + ix n) 4 other) (10 + ix n) 5 kind) (10 + ix n) 7 1000) (10 + ix n) 8 600) (10 + ix n) 9 0) (10 + ix n) 10 0) (10 + ix n) 11 0) (10 + ix n) 6 0) (10 + ix n) 1 0, r)) hx hb hK hP (WMu_D g (zu (zu (zu (zu (zu (zu (zu (zu (zu (zu z (10 + ix n) 0 1) (10 + ix n) 3 first) (10 + ix n) 4 other) (10 + ix n) 5 kind) (10 + ix n) 7 1000) (10 + ix n) 8 600) (10 + ix n) 9 0) (10 + ix n) 10 0) (10 + ix n) 11 0) (10 + ix n) 6 0, r) hj) hS 9 rfl (inR_vp (n := 3) rfl c_6 4 (by decide)) rfl rfl (WM_f1 g am (zu (zu (zu (zu (zu (zu (zu (zu (zu (zu z (10 + ix n) 0 1) (10 + ix n) 3 first) (10 + ix n) 4 other) (10 + ix n) 5 kind) (10 + ix n) 7 1000) (10 + ix n) 8 600) (10 + ix n) 9 0) (10 + ix n) 10 0) (10 + ix n) 11 0) (10 + ix n) 6 0) r (ix n) 0) dX4_part_170 (fun H locs hP hS => ?_)
                refine lv_aload_n hx hb dX4_part_171 rfl (lv_at hl 1 rfl) ?_
                refine qGet (ci := 4) (v := .ref (am 10)) (C := RX4) (T := TX4) (N := 25) hx hb hts hin4 hown hK hP 0 rfl rfl 9 (by decide) (hts (.fieldLink RX4 38 "PartCurvesModel" "isOpen" "[Z") (by decide +kernel)) (by simp [pF, zu, upd]) dX4_part_172 ?_
                refine lv_iload_n hx hb dX4_part_175 rfl (lv_at hl 2 rfl) ?_
                refine lv_iconst (v := 0) hx hb dX4_part_176 rfl ?_
                refine qZst (j := (ix n)) (y := 0) (u' := (zu (zu (zu (zu (zu (zu (zu (zu (zu (zu (zu (zu z (10 + ix n) 0 1) (10 + ix n) 3 first) (10 + ix n) 4 other) (10 + ix n) 5 kind) (10 + ix n) 7 1000) (10 + ix n) 8 600) (10 + ix n) 9 0) (10 + ix n) 10 0) (10 + ix n) 11 0) (10 + ix n) 6 0) (10 + ix n) 1 0) (10 + ix n) 2 0, r)) hx hb hK hP (WMu_D g (zu (zu (zu (zu (zu (zu (zu (zu (zu (zu (zu z (10 + ix n) 0 1) (10 + ix n) 3 first) (10 + ix n) 4 other) (10 + ix n) 5 kind) (10 + ix n) 7 1000) (10 + ix n) 8 600) (10 + ix n) 9 0) (10 + ix n) 10 0) (10 + ix n) 11 0) (10 + ix n) 6 0) (10 + ix n) 1 0, r) hj) hS 10 rfl (inR_vp (n := 3) rfl c_6 4 (by decide)) rfl rfl (WM_f2 g am (zu (zu (zu (zu (zu (zu (zu (zu (zu (zu (zu z (10 + ix n) 0 1) (10 + ix n) 3 first) (10 + ix n) 4 other) (10 + ix n) 5 kind) (10 + ix n) 7 1000) (10 + ix n) 8 600) (10 + ix n) 9 0) (10 + ix n) 10 0) (10 + ix n) 11 0) (10 + ix n) 6 0) (10 + ix n) 1 0) r (ix n) 0) dX4_part_177 (fun H locs hP hS => ?_)
                refine lv_iload hx hb dX4_part_178 (lv_at hl 0 rfl) ?_
                exact qRi hx hb hr hlk hP hK hS dX4_part_180 (by unfold s_part; rw [if_pos ⟨c_6, c_13, c_20⟩, if_pos c_32, if_neg (fun h => h.elim c_40 (fun q => q c_47)), if_pos c_59]) (pr_eq (by unfold s_part; rw [if_pos ⟨c_6, c_13, c_20⟩, if_pos c_32, if_neg (fun h => h.elim c_40 (fun q => q c_47)), if_pos c_59]; exact renew_M z (10 + ix n) first other kind) rfl)
              · -- 59 not taken
                refine lv_iconst (v := 1) hx hb dX4_part_62 rfl ?_
                refine lv_goto (tgt := 67) hx hb dX4_part_63 (by decide) ?_
                refine lv_istore (lv' := [(5, .int 1), (0, .ref (am 0)), (1, .int n), (2, .int first), (3, .int other), (4, .int kind)]) hx hb dX4_part_67 hl (by decide) rfl (fun ls hl => ?_)
                refine lv_aload_n hx hb dX4_part_69 rfl (lv_at hl 1 rfl) ?_
                refine qGet (ci := 4) (v := .ref (am 1)) (C := RX4) (T := TX4) (N := 25) hx hb hts hin4 hown hK hP 0 rfl rfl 0 (by decide) (hts (.fieldLink RX4 7 "PartCurvesModel" "isThere" "[Z") (by decide +kernel)) rfl dX4_part_70 ?_
                refine lv_iload_n hx hb dX4_part_73 rfl (lv_at hl 2 rfl) ?_
                refine lv_iconst (v := 1) hx hb dX4_part_74 rfl ?_
                refine qZst (j := (ix n)) (y := 1) (u' := (zu z (10 + ix n) 0 1, r)) hx hb hK hP (WMu_D g (z, r) hj) hS 1 rfl (inR_vp (n := 3) rfl c_6 4 (by decide)) rfl rfl (WM_f0 g am z r (ix n) 1) dX4_part_75 (fun H locs hP hS => ?_)
                refine lv_aload_n hx hb dX4_part_76 rfl (lv_at hl 1 rfl) ?_
                refine qGet (ci := 4) (v := .ref (am 2)) (C := RX4) (T := TX4) (N := 25) hx hb hts hin4 hown hK hP 0 rfl rfl 1 (by decide) (hts (.fieldLink RX4 13 "PartCurvesModel" "firstOf" "[I") (by decide +kernel)) (by simp [pF, zu, upd]) dX4_part_77 ?_
                refine lv_iload_n hx hb dX4_part_80 rfl (lv_at hl 2 rfl) ?_
                refine lv_iload_n hx hb dX4_part_81 rfl (lv_at hl 3 rfl) ?_
                refine qIst (j := (ix n)) (u' := (zu (zu z (10 + ix n) 0 1) (10 + ix n) 3 first, r)) hx hb hK hP (WMu_D g (zu z (10 + ix n) 0 1, r) hj) hS 2 rfl (inR_vp (n := 3) rfl c_6 4 (by decide)) rfl (WM_f3 g am (zu z (10 + ix n) 0 1) r (ix n) first) dX4_part_82 (fun H locs hP hS => ?_)
                refine lv_aload_n hx hb dX4_part_83 rfl (lv_at hl 1 rfl) ?_
                refine qGet (ci := 4) (v := .ref (am 3)) (C := RX4) (T := TX4) (N := 25) hx hb hts hin4 hown hK hP 0 rfl rfl 2 (by decide) (hts (.fieldLink RX4 17 "PartCurvesModel" "otherOf" "[I") (by decide +kernel)) (by simp [pF, zu, upd]) dX4_part_84 ?_
                refine lv_iload_n hx hb dX4_part_87 rfl (lv_at hl 2 rfl) ?_
                refine lv_iload_n hx hb dX4_part_88 rfl (lv_at hl 4 rfl) ?_
                refine qIst (j := (ix n)) (u' := (zu (zu (zu z (10 + ix n) 0 1) (10 + ix n) 3 first) (10 + ix n) 4 other, r)) hx hb hK hP (WMu_D g (zu (zu z (10 + ix n) 0 1) (10 + ix n) 3 first, r) hj) hS 3 rfl (inR_vp (n := 3) rfl c_6 4 (by decide)) rfl (WM_f4 g am (zu (zu z (10 + ix n) 0 1) (10 + ix n) 3 first) r (ix n) other) dX4_part_89 (fun H locs hP hS => ?_)
                refine lv_aload_n hx hb dX4_part_90 rfl (lv_at hl 1 rfl) ?_
                refine qGet (ci := 4) (v := .ref (am 4)) (C := RX4) (T := TX4) (N := 25) hx hb hts hin4 hown hK hP 0 rfl rfl 3 (by decide) (hts (.fieldLink RX4 20 "PartCurvesModel" "kindOf" "[I") (by decide +kernel)) (by simp [pF, zu, upd]) dX4_part_91 ?_
                refine lv_iload_n hx hb dX4_part_94 rfl (lv_at hl 2 rfl) ?_
                refine lv_iload hx hb dX4_part_95 (lv_at hl 5 rfl) ?_
                refine qIst (j := (ix n)) (u' := (zu (zu (zu (zu z (10 + ix n) 0 1) (10 + ix n) 3 first) (10 + ix n) 4 other) (10 + ix n) 5 kind, r)) hx hb hK hP (WMu_D g (zu (zu (zu z (10 + ix n) 0 1) (10 + ix n) 3 first) (10 + ix n) 4 other, r) hj) hS 4 rfl (inR_vp (n := 3) rfl c_6 4 (by decide)) rfl (WM_f5 g am (zu (zu (zu z (10 + ix n) 0 1) (10 + ix n) 3 first) (10 + ix n) 4 other) r (ix n) kind) dX4_part_97 (fun H locs hP hS => ?_)
                refine lv_aload_n hx hb dX4_part_98 rfl (lv_at hl 1 rfl) ?_
                refine qGet (ci := 4) (v := .ref (am 5)) (C := RX4) (T := TX4) (N := 25) hx hb hts hin4 hown hK hP 0 rfl rfl 4 (by decide) (hts (.fieldLink RX4 23 "PartCurvesModel" "numberOf" "[I") (by decide +kernel)) (by simp [pF, zu, upd]) dX4_part_99 ?_
                refine lv_iconst (v := 5) hx hb dX4_part_102 rfl ?_
                refine lv_iload_n hx hb dX4_part_103 rfl (lv_at hl 2 rfl) ?_
                refine lv_imul hx hb dX4_part_104 ?_
                refine lv_iconst (v := 0) hx hb dX4_part_105 rfl ?_
                refine lv_iadd hx hb dX4_part_106 ?_
                refine lv_sipush (v := 1000) hx hb dX4_part_107 (by decide) ?_
                refine qIst (j := (5 * (ix n) + 0)) (u' := (zu (zu (zu (zu (zu z (10 + ix n) 0 1) (10 + ix n) 3 first) (10 + ix n) 4 other) (10 + ix n) 5 kind) (10 + ix n) 7 1000, r)) hx hb hK hP (WMu_D g (zu (zu (zu (zu z (10 + ix n) 0 1) (10 + ix n) 3 first) (10 + ix n) 4 other) (10 + ix n) 5 kind, r) hj) hS 5 rfl (num_ix c_6 (k := 0) (by decide)).2.1 (num_ix c_6 (k := 0) (by decide)).2.2 (WM_n g am (zu (zu (zu (zu z (10 + ix n) 0 1) (10 + ix n) 3 first) (10 + ix n) 4 other) (10 + ix n) 5 kind) r (ix n) 0 1000 (by decide)) dX4_part_110 (fun H locs hP hS => ?_)
                refine lv_aload_n hx hb dX4_part_111 rfl (lv_at hl 1 rfl) ?_
                refine qGet (ci := 4) (v := .ref (am 5)) (C := RX4) (T := TX4) (N := 25) hx hb hts hin4 hown hK hP 0 rfl rfl 4 (by decide) (hts (.fieldLink RX4 23 "PartCurvesModel" "numberOf" "[I") (by decide +kernel)) (by simp [pF, zu, upd]) dX4_part_112 ?_
                refine lv_iconst (v := 5) hx hb dX4_part_115 rfl ?_
                refine lv_iload_n hx hb dX4_part_116 rfl (lv_at hl 2 rfl) ?_
                refine lv_imul hx hb dX4_part_117 ?_
                refine lv_iconst (v := 1) hx hb dX4_part_118 rfl ?_
                refine lv_iadd hx hb dX4_part_119 ?_
                refine lv_sipush (v := 600) hx hb dX4_part_120 (by decide) ?_
                refine qIst (j := (5 * (ix n) + 1)) (u' := (zu (zu (zu (zu (zu (zu z (10 + ix n) 0 1) (10 + ix n) 3 first) (10 + ix n) 4 other) (10 + ix n) 5 kind) (10 + ix n) 7 1000) (10 + ix n) 8 600, r)) hx hb hK hP (WMu_D g (zu (zu (zu (zu (zu z (10 + ix n) 0 1) (10 + ix n) 3 first) (10 + ix n) 4 other) (10 + ix n) 5 kind) (10 + ix n) 7 1000, r) hj) hS 5 rfl (num_ix c_6 (k := 1) (by decide)).2.1 (num_ix c_6 (k := 1) (by decide)).2.2 (WM_n g am (zu (zu (zu (zu (zu z (10 + ix n) 0 1) (10 + ix n) 3 first) (10 + ix n) 4 other) (10 + ix n) 5 kind) (10 + ix n) 7 1000) r (ix n) 1 600 (by decide)) dX4_part_123 (fun H locs hP hS => ?_)
                refine lv_aload_n hx hb dX4_part_124 rfl (lv_at hl 1 rfl) ?_
                refine qGet (ci := 4) (v := .ref (am 5)) (C := RX4) (T := TX4) (N := 25) hx hb hts hin4 hown hK hP 0 rfl rfl 4 (by decide) (hts (.fieldLink RX4 23 "PartCurvesModel" "numberOf" "[I") (by decide +kernel)) (by simp [pF, zu, upd]) dX4_part_125 ?_
                refine lv_iconst (v := 5) hx hb dX4_part_128 rfl ?_
                refine lv_iload_n hx hb dX4_part_129 rfl (lv_at hl 2 rfl) ?_
                refine lv_imul hx hb dX4_part_130 ?_
                refine lv_iconst (v := 2) hx hb dX4_part_131 rfl ?_
                refine lv_iadd hx hb dX4_part_132 ?_
                refine lv_iconst (v := 0) hx hb dX4_part_133 rfl ?_
                refine qIst (j := (5 * (ix n) + 2)) (u' := (zu (zu (zu (zu (zu (zu (zu z (10 + ix n) 0 1) (10 + ix n) 3 first) (10 + ix n) 4 other) (10 + ix n) 5 kind) (10 + ix n) 7 1000) (10 + ix n) 8 600) (10 + ix n) 9 0, r)) hx hb hK hP (WMu_D g (zu (zu (zu (zu (zu (zu z (10 + ix n) 0 1) (10 + ix n) 3 first) (10 + ix n) 4 other) (10 + ix n) 5 kind) (10 + ix n) 7 1000) (10 + ix n) 8 600, r) hj) hS 5 rfl (num_ix c_6 (k := 2) (by decide)).2.1 (num_ix c_6 (k := 2) (by decide)).2.2 (WM_n g am (zu (zu (zu (zu (zu (zu z (10 + ix n) 0 1) (10 + ix n) 3 first) (10 + ix n) 4 other) (10 + ix n) 5 kind) (10 + ix n) 7 1000) (10 + ix n) 8 600) r (ix n) 2 0 (by decide)) dX4_part_134 (fun H locs hP hS => ?_)
                refine lv_aload_n hx hb dX4_part_135 rfl (lv_at hl 1 rfl) ?_
                refine qGet (ci := 4) (v := .ref (am 5)) (C := RX4) (T := TX4) (N := 25) hx hb hts hin4 hown hK hP 0 rfl rfl 4 (by decide) (hts (.fieldLink RX4 23 "PartCurvesModel" "numberOf" "[I") (by decide +kernel)) (by simp [pF, zu, upd]) dX4_part_136 ?_
                refine lv_iconst (v := 5) hx hb dX4_part_139 rfl ?_
                refine lv_iload_n hx hb dX4_part_140 rfl (lv_at hl 2 rfl) ?_
                refine lv_imul hx hb dX4_part_141 ?_
                refine lv_iconst (v := 3) hx hb dX4_part_142 rfl ?_
                refine lv_iadd hx hb dX4_part_143 ?_
                refine lv_iconst (v := 0) hx hb dX4_part_144 rfl ?_
                refine qIst (j := (5 * (ix n) + 3)) (u' := (zu (zu (zu (zu (zu (zu (zu (zu z (10 + ix n) 0 1) (10 + ix n) 3 first) (10 + ix n) 4 other) (10 + ix n) 5 kind) (10 + ix n) 7 1000) (10 + ix n) 8 600) (10 + ix n) 9 0) (10 + ix n) 10 0, r)) hx hb hK hP (WMu_D g (zu (zu (zu (zu (zu (zu (zu z (10 + ix n) 0 1) (10 + ix n) 3 first) (10 + ix n) 4 other) (10 + ix n) 5 kind) (10 + ix n) 7 1000) (10 + ix n) 8 600) (10 + ix n) 9 0, r) hj) hS 5 rfl (num_ix c_6 (k := 3) (by decide)).2.1 (num_ix c_6 (k := 3) (by decide)).2.2 (WM_n g am (zu (zu (zu (zu (zu (zu (zu z (10 + ix n) 0 1) (10 + ix n) 3 first) (10 + ix n) 4 other) (10 + ix n) 5 kind) (10 + ix n) 7 1000) (10 + ix n) 8 600) (10 + ix n) 9 0) r (ix n) 3 0 (by decide)) dX4_part_145 (fun H locs hP hS => ?_)
                refine lv_aload_n hx hb dX4_part_146 rfl (lv_at hl 1 rfl) ?_
                refine qGet (ci := 4) (v := .ref (am 5)) (C := RX4) (T := TX4) (N := 25) hx hb hts hin4 hown hK hP 0 rfl rfl 4 (by decide) (hts (.fieldLink RX4 23 "PartCurvesModel" "numberOf" "[I") (by decide +kernel)) (by simp [pF, zu, upd]) dX4_part_147 ?_
                refine lv_iconst (v := 5) hx hb dX4_part_150 rfl ?_
                refine lv_iload_n hx hb dX4_part_151 rfl (lv_at hl 2 rfl) ?_
                refine lv_imul hx hb dX4_part_152 ?_
                refine lv_iconst (v := 4) hx hb dX4_part_153 rfl ?_
                refine lv_iadd hx hb dX4_part_154 ?_
                refine lv_iconst (v := 0) hx hb dX4_part_155 rfl ?_
                refine qIst (j := (5 * (ix n) + 4)) (u' := (zu (zu (zu (zu (zu (zu (zu (zu (zu z (10 + ix n) 0 1) (10 + ix n) 3 first) (10 + ix n) 4 other) (10 + ix n) 5 kind) (10 + ix n) 7 1000) (10 + ix n) 8 600) (10 + ix n) 9 0) (10 + ix n) 10 0) (10 + ix n) 11 0, r)) hx hb hK hP (WMu_D g (zu (zu (zu (zu (zu (zu (zu (zu z (10 + ix n) 0 1) (10 + ix n) 3 first) (10 + ix n) 4 other) (10 + ix n) 5 kind) (10 + ix n) 7 1000) (10 + ix n) 8 600) (10 + ix n) 9 0) (10 + ix n) 10 0, r) hj) hS 5 rfl (num_ix c_6 (k := 4) (by decide)).2.1 (num_ix c_6 (k := 4) (by decide)).2.2 (WM_n g am (zu (zu (zu (zu (zu (zu (zu (zu z (10 + ix n) 0 1) (10 + ix n) 3 first) (10 + ix n) 4 other) (10 + ix n) 5 kind) (10 + ix n) 7 1000) (10 + ix n) 8 600) (10 + ix n) 9 0) (10 + ix n) 10 0) r (ix n) 4 0 (by decide)) dX4_part_156 (fun H locs hP hS => ?_)
                refine lv_aload_n hx hb dX4_part_157 rfl (lv_at hl 1 rfl) ?_
                refine qGet (ci := 4) (v := .ref (am 8)) (C := RX4) (T := TX4) (N := 25) hx hb hts hin4 hown hK hP 0 rfl rfl 7 (by decide) (hts (.fieldLink RX4 32 "PartCurvesModel" "heatOf" "[I") (by decide +kernel)) (by simp [pF, zu, upd]) dX4_part_158 ?_
                refine lv_iload_n hx hb dX4_part_161 rfl (lv_at hl 2 rfl) ?_
                refine lv_iconst (v := 0) hx hb dX4_part_162 rfl ?_
                refine qIst (j := (ix n)) (u' := (zu (zu (zu (zu (zu (zu (zu (zu (zu (zu z (10 + ix n) 0 1) (10 + ix n) 3 first) (10 + ix n) 4 other) (10 + ix n) 5 kind) (10 + ix n) 7 1000) (10 + ix n) 8 600) (10 + ix n) 9 0) (10 + ix n) 10 0) (10 + ix n) 11 0) (10 + ix n) 6 0, r)) hx hb hK hP (WMu_D g (zu (zu (zu (zu (zu (zu (zu (zu (zu z (10 + ix n) 0 1) (10 + ix n) 3 first) (10 + ix n) 4 other) (10 + ix n) 5 kind) (10 + ix n) 7 1000) (10 + ix n) 8 600) (10 + ix n) 9 0) (10 + ix n) 10 0) (10 + ix n) 11 0, r) hj) hS 8 rfl (inR_vp (n := 3) rfl c_6 4 (by decide)) rfl (WM_f6 g am (zu (zu (zu (zu (zu (zu (zu (zu (zu z (10 + ix n) 0 1) (10 + ix n) 3 first) (10 + ix n) 4 other) (10 + ix n) 5 kind) (10 + ix n) 7 1000) (10 + ix n) 8 600) (10 + ix n) 9 0) (10 + ix n) 10 0) (10 + ix n) 11 0) r (ix n) 0) dX4_part_163 (fun H locs hP hS => ?_)
                refine lv_aload_n hx hb dX4_part_164 rfl (lv_at hl 1 rfl) ?_
                refine qGet (ci := 4) (v := .ref (am 9)) (C := RX4) (T := TX4) (N := 25) hx hb hts hin4 hown hK hP 0 rfl rfl 8 (by decide) (hts (.fieldLink RX4 35 "PartCurvesModel" "isBurnt" "[Z") (by decide +kernel)) (by simp [pF, zu, upd]) dX4_part_165 ?_
                refine lv_iload_n hx hb dX4_part_168 rfl (lv_at hl 2 rfl) ?_
                refine lv_iconst (v := 0) hx hb dX4_part_169 rfl ?_
                refine qZst (j := (ix n)) (y := 0) (u' := (zu (zu (zu (zu (zu (zu (zu (zu (zu (zu (zu z (10 + ix n) 0 1) (10 + ix n) 3 first) (10 + ix n) 4 other) (10 + ix n) 5 kind) (10 + ix n) 7 1000) (10 + ix n) 8 600) (10 + ix n) 9 0) (10 + ix n) 10 0) (10 + ix n) 11 0) (10 + ix n) 6 0) (10 + ix n) 1 0, r)) hx hb hK hP (WMu_D g (zu (zu (zu (zu (zu (zu (zu (zu (zu (zu z (10 + ix n) 0 1) (10 + ix n) 3 first) (10 + ix n) 4 other) (10 + ix n) 5 kind) (10 + ix n) 7 1000) (10 + ix n) 8 600) (10 + ix n) 9 0) (10 + ix n) 10 0) (10 + ix n) 11 0) (10 + ix n) 6 0, r) hj) hS 9 rfl (inR_vp (n := 3) rfl c_6 4 (by decide)) rfl rfl (WM_f1 g am (zu (zu (zu (zu (zu (zu (zu (zu (zu (zu z (10 + ix n) 0 1) (10 + ix n) 3 first) (10 + ix n) 4 other) (10 + ix n) 5 kind) (10 + ix n) 7 1000) (10 + ix n) 8 600) (10 + ix n) 9 0) (10 + ix n) 10 0) (10 + ix n) 11 0) (10 + ix n) 6 0) r (ix n) 0) dX4_part_170 (fun H locs hP hS => ?_)
                refine lv_aload_n hx hb dX4_part_171 rfl (lv_at hl 1 rfl) ?_
                refine qGet (ci := 4) (v := .ref (am 10)) (C := RX4) (T := TX4) (N := 25) hx hb hts hin4 hown hK hP 0 rfl rfl 9 (by decide) (hts (.fieldLink RX4 38 "PartCurvesModel" "isOpen" "[Z") (by decide +kernel)) (by simp [pF, zu, upd]) dX4_part_172 ?_
                refine lv_iload_n hx hb dX4_part_175 rfl (lv_at hl 2 rfl) ?_
                refine lv_iconst (v := 0) hx hb dX4_part_176 rfl ?_
                refine qZst (j := (ix n)) (y := 0) (u' := (zu (zu (zu (zu (zu (zu (zu (zu (zu (zu (zu (zu z (10 + ix n) 0 1) (10 + ix n) 3 first) (10 + ix n) 4 other) (10 + ix n) 5 kind) (10 + ix n) 7 1000) (10 + ix n) 8 600) (10 + ix n) 9 0) (10 + ix n) 10 0) (10 + ix n) 11 0) (10 + ix n) 6 0) (10 + ix n) 1 0) (10 + ix n) 2 0, r)) hx hb hK hP (WMu_D g (zu (zu (zu (zu (zu (zu (zu (zu (zu (zu (zu z (10 + ix n) 0 1) (10 + ix n) 3 first) (10 + ix n) 4 other) (10 + ix n) 5 kind) (10 + ix n) 7 1000) (10 + ix n) 8 600) (10 + ix n) 9 0) (10 + ix n) 10 0) (10 + ix n) 11 0) (10 + ix n) 6 0) (10 + ix n) 1 0, r) hj) hS 10 rfl (inR_vp (n := 3) rfl c_6 4 (by decide)) rfl rfl (WM_f2 g am (zu (zu (zu (zu (zu (zu (zu (zu (zu (zu (zu z (10 + ix n) 0 1) (10 + ix n) 3 first) (10 + ix n) 4 other) (10 + ix n) 5 kind) (10 + ix n) 7 1000) (10 + ix n) 8 600) (10 + ix n) 9 0) (10 + ix n) 10 0) (10 + ix n) 11 0) (10 + ix n) 6 0) (10 + ix n) 1 0) r (ix n) 0) dX4_part_177 (fun H locs hP hS => ?_)
                refine lv_iload hx hb dX4_part_178 (lv_at hl 0 rfl) ?_
                exact qRi hx hb hr hlk hP hK hS dX4_part_180 (by unfold s_part; rw [if_pos ⟨c_6, c_13, c_20⟩, if_pos c_32, if_neg (fun h => h.elim c_40 (fun q => q c_47)), if_neg c_59]) (pr_eq (by unfold s_part; rw [if_pos ⟨c_6, c_13, c_20⟩, if_pos c_32, if_neg (fun h => h.elim c_40 (fun q => q c_47)), if_neg c_59]; exact renew_M z (10 + ix n) first other kind) rfl)
            · -- 47 not taken
              refine lv_bipush (v := -3) hx hb dX4_part_50 (by decide) ?_
              exact qRi hx hb hr hlk hP hK hS dX4_part_52 (by unfold s_part; rw [if_pos ⟨c_6, c_13, c_20⟩, if_pos c_32, if_pos (Or.inr c_47)] <;> rfl) (pr_eq (by unfold s_part; rw [if_pos ⟨c_6, c_13, c_20⟩, if_pos c_32, if_pos (Or.inr c_47)] <;> rfl) rfl)
        · -- 32 not taken
          have c_32 := bI_0 c_32
          refine lv_bipush (v := -2) hx hb dX4_part_35 (by decide) ?_
          exact qRi hx hb hr hlk hP hK hS dX4_part_37 (by unfold s_part; rw [if_pos ⟨c_6, c_13, c_20⟩, if_neg (bn c_32)] <;> rfl) (pr_eq (by unfold s_part; rw [if_pos ⟨c_6, c_13, c_20⟩, if_neg (bn c_32)] <;> rfl) rfl)
      · -- 20 not taken
        have c_20 := bI_0 c_20
        refine lv_iconst (v := -1) hx hb dX4_part_23 rfl ?_
        exact qRi hx hb hr hlk hP hK hS dX4_part_24 (by unfold s_part; rw [if_neg (fun h => absurd h.2.2 (bn c_20))] <;> rfl) (pr_eq (by unfold s_part; rw [if_neg (fun h => absurd h.2.2 (bn c_20))] <;> rfl) rfl)
set_option maxHeartbeats 4000000 in
set_option maxRecDepth 100000 in
theorem kX4_remove (l : Launch) (g : qG) {am : Nat → Nat} (z : zS) (r : Nat → Int32) (hj : adInj 18 am) (n : Int32) : qMi l yX4_remove wsX4_remove 2 g (WMu g am) (adOf 18 am) (z, r) [.ref (am 0), .int n] ((s_remove z n).1) ((s_remove z n).2, r) := by
  refine qStart (cc := cX4_remove) (maxL := 2) (ret := (some .int)) (plainFor_of_name (by decide)) rfl (Nat.le_of_ble_eq_true rfl) ?_
  intro p e s m args below meth c hx hb hml hown hts hr hlk hP hK ls hl
  have hl : lv_has ls 2 [(0, .ref (am 0)), (1, .int n)] := hl
  have hS : va_S (adOf 18 am) s.heap s.heap [] := va_S.rf
  have hin4 : ∀ w ∈ u_ws RX4 TX4 25, w ∈ wsX4_remove := by decide +kernel
  refine lv_aload_n hx hb dX4_remove_0 rfl (lv_at hl 0 rfl) ?_
  refine lv_iload_n hx hb dX4_remove_1 rfl (lv_at hl 1 rfl) ?_
  refine qVi (As := [.int n]) (rest := []) hx hb hml hown hts (kX4_isPart l g z r hj n) gX4_remove_X4_isPart rfl 1 hdX4_isPart rfl ⟨Nat.le_of_ble_eq_true rfl, Nat.le_of_ble_eq_true rfl⟩ ⟨Nat.zero_le _, Nat.zero_le _⟩ hK hP hS (fun _ h => h) 0 4 rfl rfl rfl hl.1 rfl (Nat.le_of_ble_eq_true rfl) dX4_remove_2 (fun H locs hP hS => ?_)
  refine lv_if_ne (tgt := 10) hx hb dX4_remove_5 (by decide) (fun c_5 => ?_) (fun c_5 => ?_)
  · -- 5 taken
    have c_5 := bI_n c_5
    refine lv_aload_n hx hb dX4_remove_10 rfl (lv_at hl 0 rfl) ?_
    refine qGet (ci := 4) (v := .int (z 0 0)) (C := RX4) (T := TX4) (N := 25) hx hb hts hin4 hown hK hP 0 rfl rfl 11 (by decide) (hts (.fieldLink RX4 74 "PartCurvesModel" "isOn" "Z") (by decide +kernel)) rfl dX4_remove_11 ?_
    refine lv_if_eq (tgt := 20) hx hb dX4_remove_14 (by decide) (fun c_14 => ?_) (fun c_14 => ?_)
    · -- 14 taken
      refine lv_aload_n hx hb dX4_remove_20 rfl (lv_at hl 0 rfl) ?_
      refine qGet (ci := 4) (v := .ref (am 1)) (C := RX4) (T := TX4) (N := 25) hx hb hts hin4 hown hK hP 0 rfl rfl 0 (by decide) (hts (.fieldLink RX4 7 "PartCurvesModel" "isThere" "[Z") (by decide +kernel)) rfl dX4_remove_21 ?_
      refine lv_iload_n hx hb dX4_remove_24 rfl (lv_at hl 1 rfl) ?_
      refine lv_iconst (v := 0) hx hb dX4_remove_25 rfl ?_
      refine qZst (j := (ix n)) (y := 0) (u' := (zu z (10 + ix n) 0 0, r)) hx hb hK hP (WMu_D g (z, r) hj) hS 1 rfl (inR_vp (n := 3) rfl (pOk_in c_5).1 4 (by decide)) rfl rfl (WM_f0 g am z r (ix n) 0) dX4_remove_26 (fun H locs hP hS => ?_)
      refine lv_iconst (v := 1) hx hb dX4_remove_27 rfl ?_
      exact qRi hx hb hr hlk hP hK hS dX4_remove_28 (by unfold s_remove; rw [if_pos c_5, if_pos c_14] <;> rfl) (pr_eq (by unfold s_remove; rw [if_pos c_5, if_pos c_14] <;> rfl) rfl)
    · -- 14 not taken
      refine lv_bipush (v := -3) hx hb dX4_remove_17 (by decide) ?_
      exact qRi hx hb hr hlk hP hK hS dX4_remove_19 (by unfold s_remove; rw [if_pos c_5, if_neg c_14] <;> rfl) (pr_eq (by unfold s_remove; rw [if_pos c_5, if_neg c_14] <;> rfl) rfl)
  · -- 5 not taken
    have c_5 := bI_0 c_5
    refine lv_iconst (v := -1) hx hb dX4_remove_8 rfl ?_
    exact qRi hx hb hr hlk hP hK hS dX4_remove_9 (by unfold s_remove; rw [if_neg (bn c_5)] <;> rfl) (pr_eq (by unfold s_remove; rw [if_neg (bn c_5)] <;> rfl) rfl)
theorem lv_nm {p : Program} {l : Launch} {e : Env} {R : Room} {s : State} {m : MethodId} {args : Array Value} {below : List Frame} {meth : Method} {c : Code} {H : Heap} {locs : List Loc} {cells slots : Nat} {Q : State → Prop} {pc : Nat} {ls : Array Slot} {rest : List Value} {x y : Int32} (h : x = y) (k : W p l e R s m args below meth c H locs cells slots Q (F0 m pc ls (.int y :: rest))) : W p l e R s m args below meth c H locs cells slots Q (F0 m pc ls (.int x :: rest)) := by
  subst h; exact k
theorem lv_nmL {p : Program} {l : Launch} {e : Env} {R : Room} {s : State} {m : MethodId} {args : Array Value} {below : List Frame} {meth : Method} {c : Code} {H : Heap} {locs : List Loc} {cells slots : Nat} {Q : State → Prop} {pc : Nat} {ls : Array Slot} {rest : List Value} {x y : Int64} (h : x = y) (k : W p l e R s m args below meth c H locs cells slots Q (F0 m pc ls (.long y :: rest))) : W p l e R s m args below meth c H locs cells slots Q (F0 m pc ls (.long x :: rest)) := by
  subst h; exact k
set_option maxHeartbeats 4000000 in
set_option maxRecDepth 100000 in
theorem kX4_set (l : Launch) (g : qG) {am : Nat → Nat} (z : zS) (r : Nat → Int32) (hj : adInj 18 am) (n w v : Int32) : qMi l yX4_set wsX4_set 2 g (WMu g am) (adOf 18 am) (z, r) [.ref (am 0), .int n, .int w, .int v] ((s_set z n w v).1) ((s_set z n w v).2, r) := by
  refine qStart (cc := cX4_set) (maxL := 5) (ret := (some .int)) (plainFor_of_name (by decide)) rfl (Nat.le_of_ble_eq_true rfl) ?_
  intro p e s m args below meth c hx hb hml hown hts hr hlk hP hK ls hl
  have hl : lv_has ls 5 [(0, .ref (am 0)), (1, .int n), (2, .int w), (3, .int v)] := hl
  have hS : va_S (adOf 18 am) s.heap s.heap [] := va_S.rf
  have hin4 : ∀ w ∈ u_ws RX4 TX4 25, w ∈ wsX4_set := by decide +kernel
  refine lv_aload_n hx hb dX4_set_0 rfl (lv_at hl 0 rfl) ?_
  refine lv_iload_n hx hb dX4_set_1 rfl (lv_at hl 1 rfl) ?_
  refine qVi (As := [.int n]) (rest := []) hx hb hml hown hts (kX4_isPart l g z r hj n) gX4_set_X4_isPart rfl 1 hdX4_isPart rfl ⟨Nat.le_of_ble_eq_true rfl, Nat.le_of_ble_eq_true rfl⟩ ⟨Nat.zero_le _, Nat.zero_le _⟩ hK hP hS (fun _ h => h) 0 4 rfl rfl rfl hl.1 rfl (Nat.le_of_ble_eq_true rfl) dX4_set_2 (fun H locs hP hS => ?_)
  refine lv_if_ne (tgt := 10) hx hb dX4_set_5 (by decide) (fun c_5 => ?_) (fun c_5 => ?_)
  · -- 5 taken
    have c_5 := bI_n c_5
    refine lv_iload_n hx hb dX4_set_10 rfl (lv_at hl 2 rfl) ?_
    refine lv_iconst (v := 0) hx hb dX4_set_11 rfl ?_
    refine lv_iconst (v := 4) hx hb dX4_set_12 rfl ?_
    refine qSi (As := [.int w, .int 0, .int 4]) (rest := []) hx hb hml hown hts (kX4_within l g (Wd := (WMu g am)) (A := (adOf 18 am)) (z, r) w 0 4) gX4_set_X4_within rfl 3 hdX4_within rfl ⟨Nat.le_of_ble_eq_true rfl, Nat.le_of_ble_eq_true rfl⟩ ⟨Nat.zero_le _, Nat.zero_le _⟩ hK hP hS (fun _ h => h) hl.1 rfl (Nat.le_of_ble_eq_true rfl) dX4_set_13 (fun H locs hP hS => ?_)
    refine lv_if_eq (tgt := 38) hx hb dX4_set_16 (by decide) (fun c_16 => ?_) (fun c_16 => ?_)
    · -- 16 taken
      have c_16 := bI_0 c_16
      refine lv_bipush (v := -2) hx hb dX4_set_38 (by decide) ?_
      exact qRi hx hb hr hlk hP hK hS dX4_set_40 (by unfold s_set; rw [if_pos c_5, if_neg (fun h => absurd (tk_M.mpr h).1 (bn c_16))] <;> rfl) (pr_eq (by unfold s_set; rw [if_pos c_5, if_neg (fun h => absurd (tk_M.mpr h).1 (bn c_16))] <;> rfl) rfl)
    · -- 16 not taken
      have c_16 := bI_n c_16
      refine lv_iload_n hx hb dX4_set_19 rfl (lv_at hl 3 rfl) ?_
      refine lv_aload_n hx hb dX4_set_20 rfl (lv_at hl 0 rfl) ?_
      refine qGet (ci := 4) (v := .ref (am 6)) (C := RX4) (T := TX4) (N := 25) hx hb hts hin4 hown hK hP 0 rfl rfl 5 (by decide) (hts (.fieldLink RX4 26 "PartCurvesModel" "leastNumber" "[I") (by decide +kernel)) rfl dX4_set_21 ?_
      refine lv_iload_n hx hb dX4_set_24 rfl (lv_at hl 2 rfl) ?_
      refine qIld (v := (leastN (ix w))) hx hb hK hP 6 rfl (inR_vp (n := 4) rfl c_16 5 (by decide)) rfl dX4_set_25 ?_
      refine lv_aload_n hx hb dX4_set_26 rfl (lv_at hl 0 rfl) ?_
      refine qGet (ci := 4) (v := .ref (am 7)) (C := RX4) (T := TX4) (N := 25) hx hb hts hin4 hown hK hP 0 rfl rfl 6 (by decide) (hts (.fieldLink RX4 29 "PartCurvesModel" "mostNumber" "[I") (by decide +kernel)) rfl dX4_set_27 ?_
      refine lv_iload_n hx hb dX4_set_30 rfl (lv_at hl 2 rfl) ?_
      refine qIld (v := (mostN (ix w))) hx hb hK hP 7 rfl (inR_vp (n := 4) rfl c_16 5 (by decide)) rfl dX4_set_31 ?_
      refine qSi (As := [.int v, .int (leastN (ix w)), .int (mostN (ix w))]) (rest := []) hx hb hml hown hts (kX4_within l g (Wd := (WMu g am)) (A := (adOf 18 am)) (z, r) v (leastN (ix w)) (mostN (ix w))) gX4_set_X4_within rfl 3 hdX4_within rfl ⟨Nat.le_of_ble_eq_true rfl, Nat.le_of_ble_eq_true rfl⟩ ⟨Nat.zero_le _, Nat.zero_le _⟩ hK hP hS (fun _ h => h) hl.1 rfl (Nat.le_of_ble_eq_true rfl) dX4_set_32 (fun H locs hP hS => ?_)
      refine lv_if_ne (tgt := 41) hx hb dX4_set_35 (by decide) (fun c_35 => ?_) (fun c_35 => ?_)
      · -- 35 taken
        have c_35 := bI_n c_35
        refine lv_aload_n hx hb dX4_set_41 rfl (lv_at hl 0 rfl) ?_
        refine lv_iload_n hx hb dX4_set_42 rfl (lv_at hl 1 rfl) ?_
        refine lv_iload_n hx hb dX4_set_43 rfl (lv_at hl 2 rfl) ?_
        refine lv_nm (y := nI (ix w)) (nI_is (n := 4) rfl c_16) ?_
        refine qVi (As := [.int n, .int (nI (ix w))]) (rest := []) hx hb hml hown hts (kX4_number l g z r hj (k := (ix w)) (ix_lt5 c_16) n (pOk_in c_5).1) gX4_set_X4_number rfl 2 hdX4_number rfl ⟨Nat.le_of_ble_eq_true rfl, Nat.le_of_ble_eq_true rfl⟩ ⟨Nat.zero_le _, Nat.zero_le _⟩ hK hP hS (fun _ h => h) 0 4 rfl rfl rfl hl.1 rfl (Nat.le_of_ble_eq_true rfl) dX4_set_44 (fun H locs hP hS => ?_)
        refine lv_istore (lv' := [(4, .int (z (10 + ix n) (7 + (ix w)))), (0, .ref (am 0)), (1, .int n), (2, .int w), (3, .int v)]) hx hb dX4_set_47 hl (by decide) rfl (fun ls hl => ?_)
        refine lv_aload_n hx hb dX4_set_49 rfl (lv_at hl 1 rfl) ?_
        refine qGet (ci := 4) (v := .ref (am 5)) (C := RX4) (T := TX4) (N := 25) hx hb hts hin4 hown hK hP 0 rfl rfl 4 (by decide) (hts (.fieldLink RX4 23 "PartCurvesModel" "numberOf" "[I") (by decide +kernel)) rfl dX4_set_50 ?_
        refine lv_iconst (v := 5) hx hb dX4_set_53 rfl ?_
        refine lv_iload_n hx hb dX4_set_54 rfl (lv_at hl 2 rfl) ?_
        refine lv_imul hx hb dX4_set_55 ?_
        refine lv_iload_n hx hb dX4_set_56 rfl (lv_at hl 3 rfl) ?_
        refine lv_nm (y := nI (ix w)) (nI_is (n := 4) rfl c_16) ?_
        refine lv_iadd hx hb dX4_set_57 ?_
        refine lv_iload_n hx hb dX4_set_58 rfl (lv_at hl 4 rfl) ?_
        refine qIst (j := (5 * (ix n) + (ix w))) (u' := (zu z (10 + ix n) (7 + ix w) v, r)) hx hb hK hP (WMu_D g (z, r) hj) hS 5 rfl (num_ix (pOk_in c_5).1 (ix_lt5 c_16)).2.1 (num_ix (pOk_in c_5).1 (ix_lt5 c_16)).2.2 (WM_n g am z r (ix n) (ix w) v (ix_lt5 c_16)) dX4_set_59 (fun H locs hP hS => ?_)
        refine lv_iload hx hb dX4_set_60 (lv_at hl 0 rfl) ?_
        exact qRi hx hb hr hlk hP hK hS dX4_set_62 (by unfold s_set; rw [if_pos c_5, if_pos (tk_M.mp ⟨c_16, c_35⟩)] <;> rfl) (pr_eq (by unfold s_set; rw [if_pos c_5, if_pos (tk_M.mp ⟨c_16, c_35⟩)] <;> rfl) rfl)
      · -- 35 not taken
        have c_35 := bI_0 c_35
        refine lv_bipush (v := -2) hx hb dX4_set_38 (by decide) ?_
        exact qRi hx hb hr hlk hP hK hS dX4_set_40 (by unfold s_set; rw [if_pos c_5, if_neg (fun h => absurd (tk_M.mpr h).2 (bn c_35))] <;> rfl) (pr_eq (by unfold s_set; rw [if_pos c_5, if_neg (fun h => absurd (tk_M.mpr h).2 (bn c_35))] <;> rfl) rfl)
  · -- 5 not taken
    have c_5 := bI_0 c_5
    refine lv_iconst (v := -1) hx hb dX4_set_8 rfl ?_
    exact qRi hx hb hr hlk hP hK hS dX4_set_9 (by unfold s_set; rw [if_neg (bn c_5)] <;> rfl) (pr_eq (by unfold s_set; rw [if_neg (bn c_5)] <;> rfl) rfl)
set_option maxHeartbeats 4000000 in
set_option maxRecDepth 100000 in
theorem kX4_ofPart (l : Launch) (g : qG) {am : Nat → Nat} (z : zS) (r : Nat → Int32) (hj : adInj 18 am) (n w : Int32) : qMi l yX4_ofPart wsX4_ofPart 2 g (WMu g am) (adOf 18 am) (z, r) [.ref (am 0), .int n, .int w] (s_ofPart z n w) (z, r) := by
  refine qStart (cc := cX4_ofPart) (maxL := 3) (ret := (some .int)) (plainFor_of_name (by decide)) rfl (Nat.le_of_ble_eq_true rfl) ?_
  intro p e s m args below meth c hx hb hml hown hts hr hlk hP hK ls hl
  have hl : lv_has ls 3 [(0, .ref (am 0)), (1, .int n), (2, .int w)] := hl
  have hS : va_S (adOf 18 am) s.heap s.heap [] := va_S.rf
  have hin4 : ∀ w ∈ u_ws RX4 TX4 25, w ∈ wsX4_ofPart := by decide +kernel
  refine lv_aload_n hx hb dX4_ofPart_0 rfl (lv_at hl 0 rfl) ?_
  refine lv_iload_n hx hb dX4_ofPart_1 rfl (lv_at hl 1 rfl) ?_
  refine qVi (As := [.int n]) (rest := []) hx hb hml hown hts (kX4_isPart l g z r hj n) gX4_ofPart_X4_isPart rfl 1 hdX4_isPart rfl ⟨Nat.le_of_ble_eq_true rfl, Nat.le_of_ble_eq_true rfl⟩ ⟨Nat.zero_le _, Nat.zero_le _⟩ hK hP hS (fun _ h => h) 0 4 rfl rfl rfl hl.1 rfl (Nat.le_of_ble_eq_true rfl) dX4_ofPart_2 (fun H locs hP hS => ?_)
  refine lv_if_ne (tgt := 10) hx hb dX4_ofPart_5 (by decide) (fun c_5 => ?_) (fun c_5 => ?_)
  · -- 5 taken
    have c_5 := bI_n c_5
    refine lv_iload_n hx hb dX4_ofPart_10 rfl (lv_at hl 2 rfl) ?_
    refine lv_bipush (v := 10) hx hb dX4_ofPart_11 (by decide) ?_
    refine lv_bipush (v := 14) hx hb dX4_ofPart_13 (by decide) ?_
    refine qSi (As := [.int w, .int 10, .int 14]) (rest := []) hx hb hml hown hts (kX4_within l g (Wd := (WMu g am)) (A := (adOf 18 am)) (z, r) w 10 14) gX4_ofPart_X4_within rfl 3 hdX4_within rfl ⟨Nat.le_of_ble_eq_true rfl, Nat.le_of_ble_eq_true rfl⟩ ⟨Nat.zero_le _, Nat.zero_le _⟩ hK hP hS (fun _ h => h) hl.1 rfl (Nat.le_of_ble_eq_true rfl) dX4_ofPart_15 (fun H locs hP hS => ?_)
    refine lv_if_eq (tgt := 31) hx hb dX4_ofPart_18 (by decide) (fun c_18 => ?_) (fun c_18 => ?_)
    · -- 18 taken
      have c_18 := bI_0 c_18
      refine lv_iload_n hx hb dX4_ofPart_31 rfl (lv_at hl 2 rfl) ?_
      by_cases c_32_is0 : w = 0
      · -- 32 is 0
        refine lv_tableIn (tgt := 72) hx hb dX4_ofPart_32 (by rw [c_32_is0]; decide) (by rw [c_32_is0]; decide) (by rw [c_32_is0]; rfl) (by decide) ?_
        refine lv_aload_n hx hb dX4_ofPart_72 rfl (lv_at hl 0 rfl) ?_
        refine qGet (ci := 4) (v := .ref (am 2)) (C := RX4) (T := TX4) (N := 25) hx hb hts hin4 hown hK hP 0 rfl rfl 1 (by decide) (hts (.fieldLink RX4 13 "PartCurvesModel" "firstOf" "[I") (by decide +kernel)) rfl dX4_ofPart_73 ?_
        refine lv_iload_n hx hb dX4_ofPart_76 rfl (lv_at hl 1 rfl) ?_
        refine qIld (v := (z (10 + ix n) 3)) hx hb hK hP 2 rfl (inR_vp (n := 3) rfl (pOk_in c_5).1 4 (by decide)) rfl dX4_ofPart_77 ?_
        exact qRi hx hb hr hlk hP hK hS dX4_ofPart_78 (by unfold s_ofPart; rw [if_pos c_5, if_neg (bn c_18), if_pos c_32_is0] <;> rfl) rfl
      by_cases c_32_is1 : w = 1
      · -- 32 is 1
        refine lv_tableIn (tgt := 79) hx hb dX4_ofPart_32 (by rw [c_32_is1]; decide) (by rw [c_32_is1]; decide) (by rw [c_32_is1]; rfl) (by decide) ?_
        refine lv_aload_n hx hb dX4_ofPart_79 rfl (lv_at hl 0 rfl) ?_
        refine qGet (ci := 4) (v := .ref (am 3)) (C := RX4) (T := TX4) (N := 25) hx hb hts hin4 hown hK hP 0 rfl rfl 2 (by decide) (hts (.fieldLink RX4 17 "PartCurvesModel" "otherOf" "[I") (by decide +kernel)) rfl dX4_ofPart_80 ?_
        refine lv_iload_n hx hb dX4_ofPart_83 rfl (lv_at hl 1 rfl) ?_
        refine qIld (v := (z (10 + ix n) 4)) hx hb hK hP 3 rfl (inR_vp (n := 3) rfl (pOk_in c_5).1 4 (by decide)) rfl dX4_ofPart_84 ?_
        exact qRi hx hb hr hlk hP hK hS dX4_ofPart_85 (by unfold s_ofPart; rw [if_pos c_5, if_neg (bn c_18), if_neg c_32_is0, if_pos c_32_is1] <;> rfl) rfl
      by_cases c_32_is2 : w = 2
      · -- 32 is 2
        refine lv_tableIn (tgt := 86) hx hb dX4_ofPart_32 (by rw [c_32_is2]; decide) (by rw [c_32_is2]; decide) (by rw [c_32_is2]; rfl) (by decide) ?_
        refine lv_aload_n hx hb dX4_ofPart_86 rfl (lv_at hl 0 rfl) ?_
        refine qGet (ci := 4) (v := .ref (am 4)) (C := RX4) (T := TX4) (N := 25) hx hb hts hin4 hown hK hP 0 rfl rfl 3 (by decide) (hts (.fieldLink RX4 20 "PartCurvesModel" "kindOf" "[I") (by decide +kernel)) rfl dX4_ofPart_87 ?_
        refine lv_iload_n hx hb dX4_ofPart_90 rfl (lv_at hl 1 rfl) ?_
        refine qIld (v := (z (10 + ix n) 5)) hx hb hK hP 4 rfl (inR_vp (n := 3) rfl (pOk_in c_5).1 4 (by decide)) rfl dX4_ofPart_91 ?_
        exact qRi hx hb hr hlk hP hK hS dX4_ofPart_92 (by unfold s_ofPart; rw [if_pos c_5, if_neg (bn c_18), if_neg c_32_is0, if_neg c_32_is1, if_pos c_32_is2] <;> rfl) rfl
      by_cases c_32_is3 : w = 3
      · -- 32 is 3
        refine lv_tableIn (tgt := 93) hx hb dX4_ofPart_32 (by rw [c_32_is3]; decide) (by rw [c_32_is3]; decide) (by rw [c_32_is3]; rfl) (by decide) ?_
        refine lv_aload_n hx hb dX4_ofPart_93 rfl (lv_at hl 0 rfl) ?_
        refine qGet (ci := 4) (v := .ref (am 8)) (C := RX4) (T := TX4) (N := 25) hx hb hts hin4 hown hK hP 0 rfl rfl 7 (by decide) (hts (.fieldLink RX4 32 "PartCurvesModel" "heatOf" "[I") (by decide +kernel)) rfl dX4_ofPart_94 ?_
        refine lv_iload_n hx hb dX4_ofPart_97 rfl (lv_at hl 1 rfl) ?_
        refine qIld (v := (z (10 + ix n) 6)) hx hb hK hP 8 rfl (inR_vp (n := 3) rfl (pOk_in c_5).1 4 (by decide)) rfl dX4_ofPart_98 ?_
        exact qRi hx hb hr hlk hP hK hS dX4_ofPart_99 (by unfold s_ofPart; rw [if_pos c_5, if_neg (bn c_18), if_neg c_32_is0, if_neg c_32_is1, if_neg c_32_is2, if_pos c_32_is3] <;> rfl) rfl
      by_cases c_32_is4 : w = 4
      · -- 32 is 4
        refine lv_tableIn (tgt := 100) hx hb dX4_ofPart_32 (by rw [c_32_is4]; decide) (by rw [c_32_is4]; decide) (by rw [c_32_is4]; rfl) (by decide) ?_
        refine lv_aload_n hx hb dX4_ofPart_100 rfl (lv_at hl 0 rfl) ?_
        refine qGet (ci := 4) (v := .ref (am 9)) (C := RX4) (T := TX4) (N := 25) hx hb hts hin4 hown hK hP 0 rfl rfl 8 (by decide) (hts (.fieldLink RX4 35 "PartCurvesModel" "isBurnt" "[Z") (by decide +kernel)) rfl dX4_ofPart_101 ?_
        refine lv_iload_n hx hb dX4_ofPart_104 rfl (lv_at hl 1 rfl) ?_
        refine qZld (v := (z (10 + ix n) 1)) hx hb hK hP 9 rfl (inR_vp (n := 3) rfl (pOk_in c_5).1 4 (by decide)) rfl dX4_ofPart_105 ?_
        refine lv_if_eq (tgt := 113) hx hb dX4_ofPart_106 (by decide) (fun c_106 => ?_) (fun c_106 => ?_)
        · -- 106 taken
          refine lv_iconst (v := 0) hx hb dX4_ofPart_113 rfl ?_
          exact qRi hx hb hr hlk hP hK hS dX4_ofPart_114 (by unfold s_ofPart; rw [if_pos c_5, if_neg (bn c_18), if_neg c_32_is0, if_neg c_32_is1, if_neg c_32_is2, if_neg c_32_is3, if_pos c_32_is4, if_pos c_106] <;> rfl) rfl
        · -- 106 not taken
          refine lv_iconst (v := 1) hx hb dX4_ofPart_109 rfl ?_
          refine lv_goto (tgt := 114) hx hb dX4_ofPart_110 (by decide) ?_
          exact qRi hx hb hr hlk hP hK hS dX4_ofPart_114 (by unfold s_ofPart; rw [if_pos c_5, if_neg (bn c_18), if_neg c_32_is0, if_neg c_32_is1, if_neg c_32_is2, if_neg c_32_is3, if_pos c_32_is4, if_neg c_106] <;> rfl) rfl
      by_cases c_32_is5 : w = 5
      · -- 32 is 5
        refine lv_tableIn (tgt := 115) hx hb dX4_ofPart_32 (by rw [c_32_is5]; decide) (by rw [c_32_is5]; decide) (by rw [c_32_is5]; rfl) (by decide) ?_
        refine lv_aload_n hx hb dX4_ofPart_115 rfl (lv_at hl 0 rfl) ?_
        refine qGet (ci := 4) (v := .ref (am 10)) (C := RX4) (T := TX4) (N := 25) hx hb hts hin4 hown hK hP 0 rfl rfl 9 (by decide) (hts (.fieldLink RX4 38 "PartCurvesModel" "isOpen" "[Z") (by decide +kernel)) rfl dX4_ofPart_116 ?_
        refine lv_iload_n hx hb dX4_ofPart_119 rfl (lv_at hl 1 rfl) ?_
        refine qZld (v := (z (10 + ix n) 2)) hx hb hK hP 10 rfl (inR_vp (n := 3) rfl (pOk_in c_5).1 4 (by decide)) rfl dX4_ofPart_120 ?_
        refine lv_if_eq (tgt := 128) hx hb dX4_ofPart_121 (by decide) (fun c_121 => ?_) (fun c_121 => ?_)
        · -- 121 taken
          refine lv_iconst (v := 0) hx hb dX4_ofPart_128 rfl ?_
          exact qRi hx hb hr hlk hP hK hS dX4_ofPart_129 (by unfold s_ofPart; rw [if_pos c_5, if_neg (bn c_18), if_neg c_32_is0, if_neg c_32_is1, if_neg c_32_is2, if_neg c_32_is3, if_neg c_32_is4, if_pos c_32_is5, if_pos c_121] <;> rfl) rfl
        · -- 121 not taken
          refine lv_iconst (v := 1) hx hb dX4_ofPart_124 rfl ?_
          refine lv_goto (tgt := 129) hx hb dX4_ofPart_125 (by decide) ?_
          exact qRi hx hb hr hlk hP hK hS dX4_ofPart_129 (by unfold s_ofPart; rw [if_pos c_5, if_neg (bn c_18), if_neg c_32_is0, if_neg c_32_is1, if_neg c_32_is2, if_neg c_32_is3, if_neg c_32_is4, if_pos c_32_is5, if_neg c_121] <;> rfl) rfl
      refine lv_tableOut (tgt := 130) hx hb dX4_ofPart_32 (by have := ne_toInt c_32_is0 (k := 0) rfl; have := ne_toInt c_32_is1 (k := 1) rfl; have := ne_toInt c_32_is2 (k := 2) rfl; have := ne_toInt c_32_is3 (k := 3) rfl; have := ne_toInt c_32_is4 (k := 4) rfl; have := ne_toInt c_32_is5 (k := 5) rfl; omega) (by decide) ?_
      refine lv_bipush (v := -2) hx hb dX4_ofPart_130 (by decide) ?_
      exact qRi hx hb hr hlk hP hK hS dX4_ofPart_132 (by unfold s_ofPart; rw [if_pos c_5, if_neg (bn c_18), if_neg c_32_is0, if_neg c_32_is1, if_neg c_32_is2, if_neg c_32_is3, if_neg c_32_is4, if_neg c_32_is5] <;> rfl) rfl
    · -- 18 not taken
      have c_18 := bI_n c_18
      refine lv_aload_n hx hb dX4_ofPart_21 rfl (lv_at hl 0 rfl) ?_
      refine lv_iload_n hx hb dX4_ofPart_22 rfl (lv_at hl 1 rfl) ?_
      refine lv_iload_n hx hb dX4_ofPart_23 rfl (lv_at hl 2 rfl) ?_
      refine lv_bipush (v := 10) hx hb dX4_ofPart_24 (by decide) ?_
      refine lv_isub hx hb dX4_ofPart_26 ?_
      refine lv_nm (y := nI (ix (w - 10))) (nI_is (n := 4) rfl (inR_10 c_18)) ?_
      refine qVi (As := [.int n, .int (nI (ix (w - 10)))]) (rest := []) hx hb hml hown hts (kX4_number l g z r hj (k := (ix (w - 10))) (ix_lt5 (inR_10 c_18)) n (pOk_in c_5).1) gX4_ofPart_X4_number rfl 2 hdX4_number rfl ⟨Nat.le_of_ble_eq_true rfl, Nat.le_of_ble_eq_true rfl⟩ ⟨Nat.zero_le _, Nat.zero_le _⟩ hK hP hS (fun _ h => h) 0 4 rfl rfl rfl hl.1 rfl (Nat.le_of_ble_eq_true rfl) dX4_ofPart_27 (fun H locs hP hS => ?_)
      exact qRi hx hb hr hlk hP hK hS dX4_ofPart_30 (by unfold s_ofPart; rw [if_pos c_5, if_pos c_18] <;> rfl) rfl
  · -- 5 not taken
    have c_5 := bI_0 c_5
    refine lv_iconst (v := -1) hx hb dX4_ofPart_8 rfl ?_
    exact qRi hx hb hr hlk hP hK hS dX4_ofPart_9 (by unfold s_ofPart; rw [if_neg (bn c_5)] <;> rfl) rfl
set_option maxHeartbeats 4000000 in
set_option maxRecDepth 100000 in
theorem kX4_relay (l : Launch) (g : qG) {am : Nat → Nat} (z : zS) (r : Nat → Int32) (hj : adInj 18 am) (hI : qInv z) (t q v : Int32) : qMi l yX4_relay wsX4_relay 2 g (WMu g am) (adOf 18 am) (z, r) [.ref (am 0), .int t, .int q, .int v] ((s_relay z t q v).1) ((s_relay z t q v).2, r) := by
  refine qStart (cc := cX4_relay) (maxL := 6) (ret := (some .int)) (plainFor_of_name (by decide)) rfl (Nat.le_of_ble_eq_true rfl) ?_
  intro p e s m args below meth c hx hb hml hown hts hr hlk hP hK ls hl
  have hl : lv_has ls 6 [(0, .ref (am 0)), (1, .int t), (2, .int q), (3, .int v)] := hl
  have hS : va_S (adOf 18 am) s.heap s.heap [] := va_S.rf
  have hin4 : ∀ w ∈ u_ws RX4 TX4 25, w ∈ wsX4_relay := by decide +kernel
  refine lv_iload_n hx hb dX4_relay_0 rfl (lv_at hl 1 rfl) ?_
  refine qSi (As := [.int t]) (rest := []) hx hb hml hown hts (kX4_isTerminal l g (Wd := (WMu g am)) (A := (adOf 18 am)) (z, r) t) gX4_relay_X4_isTerminal rfl 1 hdX4_isTerminal rfl ⟨Nat.le_of_ble_eq_true rfl, Nat.le_of_ble_eq_true rfl⟩ ⟨Nat.zero_le _, Nat.zero_le _⟩ hK hP hS (fun _ h => h) hl.1 rfl (Nat.le_of_ble_eq_true rfl) dX4_relay_1 (fun H locs hP hS => ?_)
  refine lv_if_eq (tgt := 14) hx hb dX4_relay_4 (by decide) (fun c_4 => ?_) (fun c_4 => ?_)
  · -- 4 taken
    have c_4 := bI_0 c_4
    refine lv_iconst (v := -1) hx hb dX4_relay_14 rfl ?_
    exact qRi hx hb hr hlk hP hK hS dX4_relay_15 (by unfold s_relay; rw [if_neg (fun h => absurd h.1 (bn c_4))] <;> rfl) (pr_eq (by unfold s_relay; rw [if_neg (fun h => absurd h.1 (bn c_4))] <;> rfl) rfl)
  · -- 4 not taken
    have c_4 := bI_n c_4
    refine lv_iload_n hx hb dX4_relay_7 rfl (lv_at hl 2 rfl) ?_
    refine qSi (As := [.int q]) (rest := []) hx hb hml hown hts (kX4_isPin l g (Wd := (WMu g am)) (A := (adOf 18 am)) (z, r) q) gX4_relay_X4_isPin rfl 1 hdX4_isPin rfl ⟨Nat.le_of_ble_eq_true rfl, Nat.le_of_ble_eq_true rfl⟩ ⟨Nat.zero_le _, Nat.zero_le _⟩ hK hP hS (fun _ h => h) hl.1 rfl (Nat.le_of_ble_eq_true rfl) dX4_relay_8 (fun H locs hP hS => ?_)
    refine lv_if_ne (tgt := 16) hx hb dX4_relay_11 (by decide) (fun c_11 => ?_) (fun c_11 => ?_)
    · -- 11 taken
      have c_11 := bI_n c_11
      refine lv_iload_n hx hb dX4_relay_16 rfl (lv_at hl 3 rfl) ?_
      refine lv_iconst (v := 0) hx hb dX4_relay_17 rfl ?_
      refine lv_iconst (v := 1) hx hb dX4_relay_18 rfl ?_
      refine qSi (As := [.int v, .int 0, .int 1]) (rest := []) hx hb hml hown hts (kX4_within l g (Wd := (WMu g am)) (A := (adOf 18 am)) (z, r) v 0 1) gX4_relay_X4_within rfl 3 hdX4_within rfl ⟨Nat.le_of_ble_eq_true rfl, Nat.le_of_ble_eq_true rfl⟩ ⟨Nat.zero_le _, Nat.zero_le _⟩ hK hP hS (fun _ h => h) hl.1 rfl (Nat.le_of_ble_eq_true rfl) dX4_relay_19 (fun H locs hP hS => ?_)
      refine lv_if_ne (tgt := 28) hx hb dX4_relay_22 (by decide) (fun c_22 => ?_) (fun c_22 => ?_)
      · -- 22 taken
        have c_22 := bI_n c_22
        refine lv_iload_n hx hb dX4_relay_28 rfl (lv_at hl 1 rfl) ?_
        refine lv_iconst (v := 2) hx hb dX4_relay_29 rfl ?_
        refine lv_icmp_ge (tgt := 58) hx hb dX4_relay_30 (by decide) (fun c_30 => ?_) (fun c_30 => ?_)
        · -- 30 taken
          have c_30n := i_le_t c_30
          refine lv_iconst (v := 0) hx hb dX4_relay_58 rfl ?_
          refine lv_istore (lv' := [(4, .int 0), (0, .ref (am 0)), (1, .int t), (2, .int q), (3, .int v)]) hx hb dX4_relay_59 hl (by decide) rfl (fun ls hl => ?_)
          refine lv_aload_n hx hb dX4_relay_61 rfl (lv_at hl 1 rfl) ?_
          refine qGet (ci := 4) (v := .int (z 0 0)) (C := RX4) (T := TX4) (N := 25) hx hb hts hin4 hown hK hP 0 rfl rfl 11 (by decide) (hts (.fieldLink RX4 74 "PartCurvesModel" "isOn" "Z") (by decide +kernel)) rfl dX4_relay_62 ?_
          refine lv_if_ne (tgt := 73) hx hb dX4_relay_65 (by decide) (fun c_65 => ?_) (fun c_65 => ?_)
          · -- 65 taken
            refine lv_bipush (v := -3) hx hb dX4_relay_73 (by decide) ?_
            exact qRi hx hb hr hlk hP hK hS dX4_relay_75 (by unfold s_relay; rw [if_pos ⟨c_4, c_11⟩, if_pos c_22, if_neg (fun h => c_65 h.1)] <;> rfl) (pr_eq (by unfold s_relay; rw [if_pos ⟨c_4, c_11⟩, if_pos c_22, if_neg (fun h => c_65 h.1)] <;> rfl) rfl)
          · -- 65 not taken
            refine lv_iload hx hb dX4_relay_68 (lv_at hl 0 rfl) ?_
            refine lv_if_eq (tgt := 76) hx hb dX4_relay_70 (by decide) (fun c_70 => ?_) (fun c_70 => ?_)
            · -- 70 taken
              refine lv_aload_n hx hb dX4_relay_76 rfl (lv_at hl 1 rfl) ?_
              refine qGet (ci := 4) (v := .ref (am 11)) (C := RX4) (T := TX4) (N := 25) hx hb hts hin4 hown hK hP 0 rfl rfl 10 (by decide) (hts (.fieldLink RX4 41 "PartCurvesModel" "pinsOf" "[I") (by decide +kernel)) rfl dX4_relay_77 ?_
              refine lv_iload_n hx hb dX4_relay_80 rfl (lv_at hl 2 rfl) ?_
              refine qIld (v := (z 1 (ix t))) hx hb hK hP 11 rfl (inR_vp (n := 3) rfl c_4 4 (by decide)) rfl dX4_relay_81 ?_
              refine lv_iload_n hx hb dX4_relay_82 rfl (lv_at hl 3 rfl) ?_
              refine lv_ishr hx hb dX4_relay_83 ?_
              refine lv_iconst (v := 1) hx hb dX4_relay_84 rfl ?_
              refine lv_iand hx hb dX4_relay_85 ?_
              refine lv_istore (lv' := [(5, .int (((z 1 (ix t)) >>> (q &&& 31)) &&& 1)), (4, .int 0), (0, .ref (am 0)), (1, .int t), (2, .int q), (3, .int v)]) hx hb dX4_relay_86 hl (by decide) rfl (fun ls hl => ?_)
              refine lv_aload_n hx hb dX4_relay_88 rfl (lv_at hl 2 rfl) ?_
              refine qGet (ci := 4) (v := .ref (am 11)) (C := RX4) (T := TX4) (N := 25) hx hb hts hin4 hown hK hP 0 rfl rfl 10 (by decide) (hts (.fieldLink RX4 41 "PartCurvesModel" "pinsOf" "[I") (by decide +kernel)) rfl dX4_relay_89 ?_
              refine lv_iload_n hx hb dX4_relay_92 rfl (lv_at hl 3 rfl) ?_
              refine lv_aload_n hx hb dX4_relay_93 rfl (lv_at hl 2 rfl) ?_
              refine qGet (ci := 4) (v := .ref (am 11)) (C := RX4) (T := TX4) (N := 25) hx hb hts hin4 hown hK hP 0 rfl rfl 10 (by decide) (hts (.fieldLink RX4 41 "PartCurvesModel" "pinsOf" "[I") (by decide +kernel)) rfl dX4_relay_94 ?_
              refine lv_iload_n hx hb dX4_relay_97 rfl (lv_at hl 3 rfl) ?_
              refine qIld (v := (z 1 (ix t))) hx hb hK hP 11 rfl (inR_vp (n := 3) rfl c_4 4 (by decide)) rfl dX4_relay_98 ?_
              refine lv_iconst (v := 1) hx hb dX4_relay_99 rfl ?_
              refine lv_iload_n hx hb dX4_relay_100 rfl (lv_at hl 4 rfl) ?_
              refine lv_ishl hx hb dX4_relay_101 ?_
              refine lv_iconst (v := -1) hx hb dX4_relay_102 rfl ?_
              refine lv_ixor hx hb dX4_relay_103 ?_
              refine lv_iand hx hb dX4_relay_104 ?_
              refine lv_iload_n hx hb dX4_relay_105 rfl (lv_at hl 5 rfl) ?_
              refine lv_iload_n hx hb dX4_relay_106 rfl (lv_at hl 4 rfl) ?_
              refine lv_ishl hx hb dX4_relay_107 ?_
              refine lv_ior hx hb dX4_relay_108 ?_
              refine qIst (j := (ix t)) (u' := (zu z 1 (ix t) (((z 1 (ix t)) &&& ((1 <<< (q &&& 31)) ^^^ (-1))) ||| (v <<< (q &&& 31))), r)) hx hb hK hP (WMu_D g (z, r) hj) hS 11 rfl (inR_vp (n := 3) rfl c_4 4 (by decide)) rfl (WM_11 g am z r (ix t) (((z 1 (ix t)) &&& ((1 <<< (q &&& 31)) ^^^ (-1))) ||| (v <<< (q &&& 31)))) dX4_relay_109 (fun H locs hP hS => ?_)
              refine lv_iload hx hb dX4_relay_110 (lv_at hl 0 rfl) ?_
              exact qRi hx hb hr hlk hP hK hS dX4_relay_112 (by unfold s_relay; rw [if_pos ⟨c_4, c_11⟩, if_pos c_22, if_pos ⟨c_65, fun h => sh_no c_30n h.2⟩]; exact (bit_eq (inv_pn hI (ix t) (pOk_n c_4)) c_11).1) (pr_eq (by unfold s_relay; rw [if_pos ⟨c_4, c_11⟩, if_pos c_22, if_pos ⟨c_65, fun h => sh_no c_30n h.2⟩]; exact congrArg (fun x => zu z 1 (ix t) x) (rel_M (inv_pn hI (ix t) (pOk_n c_4)) c_11 c_22)) rfl)
            · -- 70 not taken
              exact absurd rfl c_70
        · -- 30 not taken
          have c_30n := i_le_f c_30
          refine lv_iload_n hx hb dX4_relay_33 rfl (lv_at hl 3 rfl) ?_
          refine lv_iconst (v := 1) hx hb dX4_relay_34 rfl ?_
          refine lv_icmp_ne (tgt := 58) hx hb dX4_relay_35 (by decide) (fun c_35 => ?_) (fun c_35 => ?_)
          · -- 35 taken
            refine lv_iconst (v := 0) hx hb dX4_relay_58 rfl ?_
            refine lv_istore (lv' := [(4, .int 0), (0, .ref (am 0)), (1, .int t), (2, .int q), (3, .int v)]) hx hb dX4_relay_59 hl (by decide) rfl (fun ls hl => ?_)
            refine lv_aload_n hx hb dX4_relay_61 rfl (lv_at hl 1 rfl) ?_
            refine qGet (ci := 4) (v := .int (z 0 0)) (C := RX4) (T := TX4) (N := 25) hx hb hts hin4 hown hK hP 0 rfl rfl 11 (by decide) (hts (.fieldLink RX4 74 "PartCurvesModel" "isOn" "Z") (by decide +kernel)) rfl dX4_relay_62 ?_
            refine lv_if_ne (tgt := 73) hx hb dX4_relay_65 (by decide) (fun c_65 => ?_) (fun c_65 => ?_)
            · -- 65 taken
              refine lv_bipush (v := -3) hx hb dX4_relay_73 (by decide) ?_
              exact qRi hx hb hr hlk hP hK hS dX4_relay_75 (by unfold s_relay; rw [if_pos ⟨c_4, c_11⟩, if_pos c_22, if_neg (fun h => c_65 h.1)] <;> rfl) (pr_eq (by unfold s_relay; rw [if_pos ⟨c_4, c_11⟩, if_pos c_22, if_neg (fun h => c_65 h.1)] <;> rfl) rfl)
            · -- 65 not taken
              refine lv_iload hx hb dX4_relay_68 (lv_at hl 0 rfl) ?_
              refine lv_if_eq (tgt := 76) hx hb dX4_relay_70 (by decide) (fun c_70 => ?_) (fun c_70 => ?_)
              · -- 70 taken
                refine lv_aload_n hx hb dX4_relay_76 rfl (lv_at hl 1 rfl) ?_
                refine qGet (ci := 4) (v := .ref (am 11)) (C := RX4) (T := TX4) (N := 25) hx hb hts hin4 hown hK hP 0 rfl rfl 10 (by decide) (hts (.fieldLink RX4 41 "PartCurvesModel" "pinsOf" "[I") (by decide +kernel)) rfl dX4_relay_77 ?_
                refine lv_iload_n hx hb dX4_relay_80 rfl (lv_at hl 2 rfl) ?_
                refine qIld (v := (z 1 (ix t))) hx hb hK hP 11 rfl (inR_vp (n := 3) rfl c_4 4 (by decide)) rfl dX4_relay_81 ?_
                refine lv_iload_n hx hb dX4_relay_82 rfl (lv_at hl 3 rfl) ?_
                refine lv_ishr hx hb dX4_relay_83 ?_
                refine lv_iconst (v := 1) hx hb dX4_relay_84 rfl ?_
                refine lv_iand hx hb dX4_relay_85 ?_
                refine lv_istore (lv' := [(5, .int (((z 1 (ix t)) >>> (q &&& 31)) &&& 1)), (4, .int 0), (0, .ref (am 0)), (1, .int t), (2, .int q), (3, .int v)]) hx hb dX4_relay_86 hl (by decide) rfl (fun ls hl => ?_)
                refine lv_aload_n hx hb dX4_relay_88 rfl (lv_at hl 2 rfl) ?_
                refine qGet (ci := 4) (v := .ref (am 11)) (C := RX4) (T := TX4) (N := 25) hx hb hts hin4 hown hK hP 0 rfl rfl 10 (by decide) (hts (.fieldLink RX4 41 "PartCurvesModel" "pinsOf" "[I") (by decide +kernel)) rfl dX4_relay_89 ?_
                refine lv_iload_n hx hb dX4_relay_92 rfl (lv_at hl 3 rfl) ?_
                refine lv_aload_n hx hb dX4_relay_93 rfl (lv_at hl 2 rfl) ?_
                refine qGet (ci := 4) (v := .ref (am 11)) (C := RX4) (T := TX4) (N := 25) hx hb hts hin4 hown hK hP 0 rfl rfl 10 (by decide) (hts (.fieldLink RX4 41 "PartCurvesModel" "pinsOf" "[I") (by decide +kernel)) rfl dX4_relay_94 ?_
                refine lv_iload_n hx hb dX4_relay_97 rfl (lv_at hl 3 rfl) ?_
                refine qIld (v := (z 1 (ix t))) hx hb hK hP 11 rfl (inR_vp (n := 3) rfl c_4 4 (by decide)) rfl dX4_relay_98 ?_
                refine lv_iconst (v := 1) hx hb dX4_relay_99 rfl ?_
                refine lv_iload_n hx hb dX4_relay_100 rfl (lv_at hl 4 rfl) ?_
                refine lv_ishl hx hb dX4_relay_101 ?_
                refine lv_iconst (v := -1) hx hb dX4_relay_102 rfl ?_
                refine lv_ixor hx hb dX4_relay_103 ?_
                refine lv_iand hx hb dX4_relay_104 ?_
                refine lv_iload_n hx hb dX4_relay_105 rfl (lv_at hl 5 rfl) ?_
                refine lv_iload_n hx hb dX4_relay_106 rfl (lv_at hl 4 rfl) ?_
                refine lv_ishl hx hb dX4_relay_107 ?_
                refine lv_ior hx hb dX4_relay_108 ?_
                refine qIst (j := (ix t)) (u' := (zu z 1 (ix t) (((z 1 (ix t)) &&& ((1 <<< (q &&& 31)) ^^^ (-1))) ||| (v <<< (q &&& 31))), r)) hx hb hK hP (WMu_D g (z, r) hj) hS 11 rfl (inR_vp (n := 3) rfl c_4 4 (by decide)) rfl (WM_11 g am z r (ix t) (((z 1 (ix t)) &&& ((1 <<< (q &&& 31)) ^^^ (-1))) ||| (v <<< (q &&& 31)))) dX4_relay_109 (fun H locs hP hS => ?_)
                refine lv_iload hx hb dX4_relay_110 (lv_at hl 0 rfl) ?_
                exact qRi hx hb hr hlk hP hK hS dX4_relay_112 (by unfold s_relay; rw [if_pos ⟨c_4, c_11⟩, if_pos c_22, if_pos ⟨c_65, fun h => c_35 h.1⟩]; exact (bit_eq (inv_pn hI (ix t) (pOk_n c_4)) c_11).1) (pr_eq (by unfold s_relay; rw [if_pos ⟨c_4, c_11⟩, if_pos c_22, if_pos ⟨c_65, fun h => c_35 h.1⟩]; exact congrArg (fun x => zu z 1 (ix t) x) (rel_M (inv_pn hI (ix t) (pOk_n c_4)) c_11 c_22)) rfl)
              · -- 70 not taken
                exact absurd rfl c_70
          · -- 35 not taken
            refine lv_aload_n hx hb dX4_relay_38 rfl (lv_at hl 0 rfl) ?_
            refine qGet (ci := 4) (v := .ref (am 11)) (C := RX4) (T := TX4) (N := 25) hx hb hts hin4 hown hK hP 0 rfl rfl 10 (by decide) (hts (.fieldLink RX4 41 "PartCurvesModel" "pinsOf" "[I") (by decide +kernel)) rfl dX4_relay_39 ?_
            refine lv_iconst (v := 1) hx hb dX4_relay_42 rfl ?_
            refine lv_iload_n hx hb dX4_relay_43 rfl (lv_at hl 1 rfl) ?_
            refine lv_isub hx hb dX4_relay_44 ?_
            refine qIld (v := (z 1 (ix (1 - t)))) hx hb hK hP 11 rfl (vp_1t c_4 c_30n) rfl dX4_relay_45 ?_
            refine lv_iload_n hx hb dX4_relay_46 rfl (lv_at hl 2 rfl) ?_
            refine lv_ishr hx hb dX4_relay_47 ?_
            refine lv_iconst (v := 1) hx hb dX4_relay_48 rfl ?_
            refine lv_iand hx hb dX4_relay_49 ?_
            refine lv_iconst (v := 1) hx hb dX4_relay_50 rfl ?_
            refine lv_icmp_ne (tgt := 58) hx hb dX4_relay_51 (by decide) (fun c_51 => ?_) (fun c_51 => ?_)
            · -- 51 taken
              refine lv_iconst (v := 0) hx hb dX4_relay_58 rfl ?_
              refine lv_istore (lv' := [(4, .int 0), (0, .ref (am 0)), (1, .int t), (2, .int q), (3, .int v)]) hx hb dX4_relay_59 hl (by decide) rfl (fun ls hl => ?_)
              refine lv_aload_n hx hb dX4_relay_61 rfl (lv_at hl 1 rfl) ?_
              refine qGet (ci := 4) (v := .int (z 0 0)) (C := RX4) (T := TX4) (N := 25) hx hb hts hin4 hown hK hP 0 rfl rfl 11 (by decide) (hts (.fieldLink RX4 74 "PartCurvesModel" "isOn" "Z") (by decide +kernel)) rfl dX4_relay_62 ?_
              refine lv_if_ne (tgt := 73) hx hb dX4_relay_65 (by decide) (fun c_65 => ?_) (fun c_65 => ?_)
              · -- 65 taken
                refine lv_bipush (v := -3) hx hb dX4_relay_73 (by decide) ?_
                exact qRi hx hb hr hlk hP hK hS dX4_relay_75 (by unfold s_relay; rw [if_pos ⟨c_4, c_11⟩, if_pos c_22, if_neg (fun h => c_65 h.1)] <;> rfl) (pr_eq (by unfold s_relay; rw [if_pos ⟨c_4, c_11⟩, if_pos c_22, if_neg (fun h => c_65 h.1)] <;> rfl) rfl)
              · -- 65 not taken
                refine lv_iload hx hb dX4_relay_68 (lv_at hl 0 rfl) ?_
                refine lv_if_eq (tgt := 76) hx hb dX4_relay_70 (by decide) (fun c_70 => ?_) (fun c_70 => ?_)
                · -- 70 taken
                  refine lv_aload_n hx hb dX4_relay_76 rfl (lv_at hl 1 rfl) ?_
                  refine qGet (ci := 4) (v := .ref (am 11)) (C := RX4) (T := TX4) (N := 25) hx hb hts hin4 hown hK hP 0 rfl rfl 10 (by decide) (hts (.fieldLink RX4 41 "PartCurvesModel" "pinsOf" "[I") (by decide +kernel)) rfl dX4_relay_77 ?_
                  refine lv_iload_n hx hb dX4_relay_80 rfl (lv_at hl 2 rfl) ?_
                  refine qIld (v := (z 1 (ix t))) hx hb hK hP 11 rfl (inR_vp (n := 3) rfl c_4 4 (by decide)) rfl dX4_relay_81 ?_
                  refine lv_iload_n hx hb dX4_relay_82 rfl (lv_at hl 3 rfl) ?_
                  refine lv_ishr hx hb dX4_relay_83 ?_
                  refine lv_iconst (v := 1) hx hb dX4_relay_84 rfl ?_
                  refine lv_iand hx hb dX4_relay_85 ?_
                  refine lv_istore (lv' := [(5, .int (((z 1 (ix t)) >>> (q &&& 31)) &&& 1)), (4, .int 0), (0, .ref (am 0)), (1, .int t), (2, .int q), (3, .int v)]) hx hb dX4_relay_86 hl (by decide) rfl (fun ls hl => ?_)
                  refine lv_aload_n hx hb dX4_relay_88 rfl (lv_at hl 2 rfl) ?_
                  refine qGet (ci := 4) (v := .ref (am 11)) (C := RX4) (T := TX4) (N := 25) hx hb hts hin4 hown hK hP 0 rfl rfl 10 (by decide) (hts (.fieldLink RX4 41 "PartCurvesModel" "pinsOf" "[I") (by decide +kernel)) rfl dX4_relay_89 ?_
                  refine lv_iload_n hx hb dX4_relay_92 rfl (lv_at hl 3 rfl) ?_
                  refine lv_aload_n hx hb dX4_relay_93 rfl (lv_at hl 2 rfl) ?_
                  refine qGet (ci := 4) (v := .ref (am 11)) (C := RX4) (T := TX4) (N := 25) hx hb hts hin4 hown hK hP 0 rfl rfl 10 (by decide) (hts (.fieldLink RX4 41 "PartCurvesModel" "pinsOf" "[I") (by decide +kernel)) rfl dX4_relay_94 ?_
                  refine lv_iload_n hx hb dX4_relay_97 rfl (lv_at hl 3 rfl) ?_
                  refine qIld (v := (z 1 (ix t))) hx hb hK hP 11 rfl (inR_vp (n := 3) rfl c_4 4 (by decide)) rfl dX4_relay_98 ?_
                  refine lv_iconst (v := 1) hx hb dX4_relay_99 rfl ?_
                  refine lv_iload_n hx hb dX4_relay_100 rfl (lv_at hl 4 rfl) ?_
                  refine lv_ishl hx hb dX4_relay_101 ?_
                  refine lv_iconst (v := -1) hx hb dX4_relay_102 rfl ?_
                  refine lv_ixor hx hb dX4_relay_103 ?_
                  refine lv_iand hx hb dX4_relay_104 ?_
                  refine lv_iload_n hx hb dX4_relay_105 rfl (lv_at hl 5 rfl) ?_
                  refine lv_iload_n hx hb dX4_relay_106 rfl (lv_at hl 4 rfl) ?_
                  refine lv_ishl hx hb dX4_relay_107 ?_
                  refine lv_ior hx hb dX4_relay_108 ?_
                  refine qIst (j := (ix t)) (u' := (zu z 1 (ix t) (((z 1 (ix t)) &&& ((1 <<< (q &&& 31)) ^^^ (-1))) ||| (v <<< (q &&& 31))), r)) hx hb hK hP (WMu_D g (z, r) hj) hS 11 rfl (inR_vp (n := 3) rfl c_4 4 (by decide)) rfl (WM_11 g am z r (ix t) (((z 1 (ix t)) &&& ((1 <<< (q &&& 31)) ^^^ (-1))) ||| (v <<< (q &&& 31)))) dX4_relay_109 (fun H locs hP hS => ?_)
                  refine lv_iload hx hb dX4_relay_110 (lv_at hl 0 rfl) ?_
                  exact qRi hx hb hr hlk hP hK hS dX4_relay_112 (by unfold s_relay; rw [if_pos ⟨c_4, c_11⟩, if_pos c_22, if_pos ⟨c_65, fun h => c_51 ((sh_M hI c_4 c_30n c_11).mpr h.2)⟩]; exact (bit_eq (inv_pn hI (ix t) (pOk_n c_4)) c_11).1) (pr_eq (by unfold s_relay; rw [if_pos ⟨c_4, c_11⟩, if_pos c_22, if_pos ⟨c_65, fun h => c_51 ((sh_M hI c_4 c_30n c_11).mpr h.2)⟩]; exact congrArg (fun x => zu z 1 (ix t) x) (rel_M (inv_pn hI (ix t) (pOk_n c_4)) c_11 c_22)) rfl)
                · -- 70 not taken
                  exact absurd rfl c_70
            · -- 51 not taken
              refine lv_iconst (v := 1) hx hb dX4_relay_54 rfl ?_
              refine lv_goto (tgt := 59) hx hb dX4_relay_55 (by decide) ?_
              refine lv_istore (lv' := [(4, .int 1), (0, .ref (am 0)), (1, .int t), (2, .int q), (3, .int v)]) hx hb dX4_relay_59 hl (by decide) rfl (fun ls hl => ?_)
              refine lv_aload_n hx hb dX4_relay_61 rfl (lv_at hl 1 rfl) ?_
              refine qGet (ci := 4) (v := .int (z 0 0)) (C := RX4) (T := TX4) (N := 25) hx hb hts hin4 hown hK hP 0 rfl rfl 11 (by decide) (hts (.fieldLink RX4 74 "PartCurvesModel" "isOn" "Z") (by decide +kernel)) rfl dX4_relay_62 ?_
              refine lv_if_ne (tgt := 73) hx hb dX4_relay_65 (by decide) (fun c_65 => ?_) (fun c_65 => ?_)
              · -- 65 taken
                refine lv_bipush (v := -3) hx hb dX4_relay_73 (by decide) ?_
                exact qRi hx hb hr hlk hP hK hS dX4_relay_75 (by unfold s_relay; rw [if_pos ⟨c_4, c_11⟩, if_pos c_22, if_neg (fun h => c_65 h.1)] <;> rfl) (pr_eq (by unfold s_relay; rw [if_pos ⟨c_4, c_11⟩, if_pos c_22, if_neg (fun h => c_65 h.1)] <;> rfl) rfl)
              · -- 65 not taken
                refine lv_iload hx hb dX4_relay_68 (lv_at hl 0 rfl) ?_
                refine lv_if_eq (tgt := 76) hx hb dX4_relay_70 (by decide) (fun c_70 => ?_) (fun c_70 => ?_)
                · -- 70 taken
                  exact absurd c_70 (by decide)
                · -- 70 not taken
                  refine lv_bipush (v := -3) hx hb dX4_relay_73 (by decide) ?_
                  exact qRi hx hb hr hlk hP hK hS dX4_relay_75 (by unfold s_relay; rw [if_pos ⟨c_4, c_11⟩, if_pos c_22, if_neg (fun h => h.2 ⟨c_35, (sh_M hI c_4 c_30n c_11).mp c_51⟩)] <;> rfl) (pr_eq (by unfold s_relay; rw [if_pos ⟨c_4, c_11⟩, if_pos c_22, if_neg (fun h => h.2 ⟨c_35, (sh_M hI c_4 c_30n c_11).mp c_51⟩)] <;> rfl) rfl)
      · -- 22 not taken
        have c_22 := bI_0 c_22
        refine lv_bipush (v := -2) hx hb dX4_relay_25 (by decide) ?_
        exact qRi hx hb hr hlk hP hK hS dX4_relay_27 (by unfold s_relay; rw [if_pos ⟨c_4, c_11⟩, if_neg (bn c_22)] <;> rfl) (pr_eq (by unfold s_relay; rw [if_pos ⟨c_4, c_11⟩, if_neg (bn c_22)] <;> rfl) rfl)
    · -- 11 not taken
      have c_11 := bI_0 c_11
      refine lv_iconst (v := -1) hx hb dX4_relay_14 rfl ?_
      exact qRi hx hb hr hlk hP hK hS dX4_relay_15 (by unfold s_relay; rw [if_neg (fun h => absurd h.2 (bn c_11))] <;> rfl) (pr_eq (by unfold s_relay; rw [if_neg (fun h => absurd h.2 (bn c_11))] <;> rfl) rfl)
set_option maxHeartbeats 4000000 in
set_option maxRecDepth 100000 in
theorem kX4_pins (l : Launch) (g : qG) {am : Nat → Nat} (z : zS) (r : Nat → Int32) (hj : adInj 18 am) (t : Int32) : qMi l yX4_pins wsX4_pins 2 g (WMu g am) (adOf 18 am) (z, r) [.ref (am 0), .int t] (s_pins z t) (z, r) := by
  refine qStart (cc := cX4_pins) (maxL := 2) (ret := (some .int)) (plainFor_of_name (by decide)) rfl (Nat.le_of_ble_eq_true rfl) ?_
  intro p e s m args below meth c hx hb hml hown hts hr hlk hP hK ls hl
  have hl : lv_has ls 2 [(0, .ref (am 0)), (1, .int t)] := hl
  have hS : va_S (adOf 18 am) s.heap s.heap [] := va_S.rf
  have hin4 : ∀ w ∈ u_ws RX4 TX4 25, w ∈ wsX4_pins := by decide +kernel
  refine lv_iload_n hx hb dX4_pins_0 rfl (lv_at hl 1 rfl) ?_
  refine qSi (As := [.int t]) (rest := []) hx hb hml hown hts (kX4_isTerminal l g (Wd := (WMu g am)) (A := (adOf 18 am)) (z, r) t) gX4_pins_X4_isTerminal rfl 1 hdX4_isTerminal rfl ⟨Nat.le_of_ble_eq_true rfl, Nat.le_of_ble_eq_true rfl⟩ ⟨Nat.zero_le _, Nat.zero_le _⟩ hK hP hS (fun _ h => h) hl.1 rfl (Nat.le_of_ble_eq_true rfl) dX4_pins_1 (fun H locs hP hS => ?_)
  refine lv_if_eq (tgt := 16) hx hb dX4_pins_4 (by decide) (fun c_4 => ?_) (fun c_4 => ?_)
  · -- 4 taken
    have c_4 := bI_0 c_4
    refine lv_iconst (v := -1) hx hb dX4_pins_16 rfl ?_
    exact qRi hx hb hr hlk hP hK hS dX4_pins_17 (by unfold s_pins; rw [if_neg (bn c_4)] <;> rfl) rfl
  · -- 4 not taken
    have c_4 := bI_n c_4
    refine lv_aload_n hx hb dX4_pins_7 rfl (lv_at hl 0 rfl) ?_
    refine qGet (ci := 4) (v := .ref (am 11)) (C := RX4) (T := TX4) (N := 25) hx hb hts hin4 hown hK hP 0 rfl rfl 10 (by decide) (hts (.fieldLink RX4 41 "PartCurvesModel" "pinsOf" "[I") (by decide +kernel)) rfl dX4_pins_8 ?_
    refine lv_iload_n hx hb dX4_pins_11 rfl (lv_at hl 1 rfl) ?_
    refine qIld (v := (z 1 (ix t))) hx hb hK hP 11 rfl (inR_vp (n := 3) rfl c_4 4 (by decide)) rfl dX4_pins_12 ?_
    refine lv_goto (tgt := 17) hx hb dX4_pins_13 (by decide) ?_
    exact qRi hx hb hr hlk hP hK hS dX4_pins_17 (by unfold s_pins; rw [if_pos c_4] <;> rfl) rfl
set_option maxHeartbeats 4000000 in
set_option maxRecDepth 100000 in
theorem kX4_power (l : Launch) (g : qG) {am : Nat → Nat} (z : zS) (r : Nat → Int32) (hj : adInj 18 am) (hI : qInv z) (v : Int32) : qMi l yX4_power wsX4_power 2 g (WMu g am) (adOf 18 am) (z, r) [.ref (am 0), .int v] ((s_power z v).1) ((s_power z v).2, r) := by
  refine qStart (cc := cX4_power) (maxL := 3) (ret := (some .int)) (plainFor_of_name (by decide)) rfl (Nat.le_of_ble_eq_true rfl) ?_
  intro p e s m args below meth c hx hb hml hown hts hr hlk hP hK ls hl
  have hl : lv_has ls 3 [(0, .ref (am 0)), (1, .int v)] := hl
  have hS : va_S (adOf 18 am) s.heap s.heap [] := va_S.rf
  have hin4 : ∀ w ∈ u_ws RX4 TX4 25, w ∈ wsX4_power := by decide +kernel
  refine lv_iload_n hx hb dX4_power_0 rfl (lv_at hl 1 rfl) ?_
  refine lv_iconst (v := 0) hx hb dX4_power_1 rfl ?_
  refine lv_iconst (v := 1) hx hb dX4_power_2 rfl ?_
  refine qSi (As := [.int v, .int 0, .int 1]) (rest := []) hx hb hml hown hts (kX4_within l g (Wd := (WMu g am)) (A := (adOf 18 am)) (z, r) v 0 1) gX4_power_X4_within rfl 3 hdX4_within rfl ⟨Nat.le_of_ble_eq_true rfl, Nat.le_of_ble_eq_true rfl⟩ ⟨Nat.zero_le _, Nat.zero_le _⟩ hK hP hS (fun _ h => h) hl.1 rfl (Nat.le_of_ble_eq_true rfl) dX4_power_3 (fun H locs hP hS => ?_)
  refine lv_if_ne (tgt := 12) hx hb dX4_power_6 (by decide) (fun c_6 => ?_) (fun c_6 => ?_)
  · -- 6 taken
    have c_6 := bI_n c_6
    refine lv_iload_n hx hb dX4_power_12 rfl (lv_at hl 1 rfl) ?_
    refine lv_iconst (v := 1) hx hb dX4_power_13 rfl ?_
    refine lv_icmp_ne (tgt := 29) hx hb dX4_power_14 (by decide) (fun c_14 => ?_) (fun c_14 => ?_)
    · -- 14 taken
      refine lv_aload_n hx hb dX4_power_29 rfl (lv_at hl 0 rfl) ?_
      refine qGet (ci := 4) (v := .int (z 0 0)) (C := RX4) (T := TX4) (N := 25) hx hb hts hin4 hown hK hP 0 rfl rfl 11 (by decide) (hts (.fieldLink RX4 74 "PartCurvesModel" "isOn" "Z") (by decide +kernel)) rfl dX4_power_30 ?_
      refine lv_if_eq (tgt := 40) hx hb dX4_power_33 (by decide) (fun c_33 => ?_) (fun c_33 => ?_)
      · -- 33 taken
        refine lv_iconst (v := 0) hx hb dX4_power_40 rfl ?_
        refine lv_istore_n (lv' := [(2, .int 0), (0, .ref (am 0)), (1, .int v)]) hx hb dX4_power_41 rfl hl (by decide) rfl (fun ls hl => ?_)
        refine lv_aload_n hx hb dX4_power_42 rfl (lv_at hl 1 rfl) ?_
        refine lv_iload_n hx hb dX4_power_43 rfl (lv_at hl 2 rfl) ?_
        refine lv_iconst (v := 1) hx hb dX4_power_44 rfl ?_
        refine lv_icmp_ne (tgt := 52) hx hb dX4_power_45 (by decide) (fun c_45 => ?_) (fun c_45 => ?_)
        · -- 45 taken
          refine lv_iconst (v := 0) hx hb dX4_power_52 rfl ?_
          refine qPut (ci := 4) (ty := .boolean) (C := RX4) (T := TX4) (N := 25) (u' := (zu z 0 0 0, r)) hx hb hts hin4 tyX4 tyX4_ok nmX4 hown hK hP (WMu_D g (z, r) hj) hS 0 rfl rfl 11 (by decide) (hts (.fieldLink RX4 74 "PartCurvesModel" "isOn" "Z") (by decide +kernel)) rfl (by decide +kernel) rfl rfl (Nat.le_of_ble_eq_true rfl) (WM_on g am z r 0) dX4_power_53 (fun H locs hP hS => ?_)
          refine lv_iload_n hx hb dX4_power_56 rfl (lv_at hl 0 rfl) ?_
          exact qRi hx hb hr hlk hP hK hS dX4_power_57 (by unfold s_power; rw [if_pos c_6, if_neg (fun h => c_14 h.1), if_pos c_33, if_neg c_45] <;> rfl) (pr_eq (by unfold s_power; rw [if_pos c_6, if_neg (fun h => c_14 h.1), if_pos c_33, if_neg c_45] <;> rfl) rfl)
        · -- 45 not taken
          exact absurd c_45 c_14
      · -- 33 not taken
        refine lv_iconst (v := 1) hx hb dX4_power_36 rfl ?_
        refine lv_goto (tgt := 41) hx hb dX4_power_37 (by decide) ?_
        refine lv_istore_n (lv' := [(2, .int 1), (0, .ref (am 0)), (1, .int v)]) hx hb dX4_power_41 rfl hl (by decide) rfl (fun ls hl => ?_)
        refine lv_aload_n hx hb dX4_power_42 rfl (lv_at hl 1 rfl) ?_
        refine lv_iload_n hx hb dX4_power_43 rfl (lv_at hl 2 rfl) ?_
        refine lv_iconst (v := 1) hx hb dX4_power_44 rfl ?_
        refine lv_icmp_ne (tgt := 52) hx hb dX4_power_45 (by decide) (fun c_45 => ?_) (fun c_45 => ?_)
        · -- 45 taken
          refine lv_iconst (v := 0) hx hb dX4_power_52 rfl ?_
          refine qPut (ci := 4) (ty := .boolean) (C := RX4) (T := TX4) (N := 25) (u' := (zu z 0 0 0, r)) hx hb hts hin4 tyX4 tyX4_ok nmX4 hown hK hP (WMu_D g (z, r) hj) hS 0 rfl rfl 11 (by decide) (hts (.fieldLink RX4 74 "PartCurvesModel" "isOn" "Z") (by decide +kernel)) rfl (by decide +kernel) rfl rfl (Nat.le_of_ble_eq_true rfl) (WM_on g am z r 0) dX4_power_53 (fun H locs hP hS => ?_)
          refine lv_iload_n hx hb dX4_power_56 rfl (lv_at hl 0 rfl) ?_
          exact qRi hx hb hr hlk hP hK hS dX4_power_57 (by unfold s_power; rw [if_pos c_6, if_neg (fun h => c_14 h.1), if_neg c_33, if_neg c_45] <;> rfl) (pr_eq (by unfold s_power; rw [if_pos c_6, if_neg (fun h => c_14 h.1), if_neg c_33, if_neg c_45] <;> rfl) rfl)
        · -- 45 not taken
          exact absurd c_45 c_14
    · -- 14 not taken
      refine lv_aload_n hx hb dX4_power_17 rfl (lv_at hl 0 rfl) ?_
      refine qVi (As := []) (rest := []) hx hb hml hown hts (kX4_inHand l g z r hj hI) gX4_power_X4_inHand rfl 0 hdX4_inHand rfl ⟨Nat.le_of_ble_eq_true rfl, Nat.le_of_ble_eq_true rfl⟩ ⟨Nat.zero_le _, Nat.zero_le _⟩ hK hP hS (fun _ h => h) 0 4 rfl rfl rfl hl.1 rfl (Nat.le_of_ble_eq_true rfl) dX4_power_18 (fun H locs hP hS => ?_)
      refine lv_bipush (v := -9) hx hb dX4_power_21 (by decide) ?_
      refine lv_icmp_ne (tgt := 29) hx hb dX4_power_23 (by decide) (fun c_23 => ?_) (fun c_23 => ?_)
      · -- 23 taken
        refine lv_aload_n hx hb dX4_power_29 rfl (lv_at hl 0 rfl) ?_
        refine qGet (ci := 4) (v := .int (z 0 0)) (C := RX4) (T := TX4) (N := 25) hx hb hts hin4 hown hK hP 0 rfl rfl 11 (by decide) (hts (.fieldLink RX4 74 "PartCurvesModel" "isOn" "Z") (by decide +kernel)) rfl dX4_power_30 ?_
        refine lv_if_eq (tgt := 40) hx hb dX4_power_33 (by decide) (fun c_33 => ?_) (fun c_33 => ?_)
        · -- 33 taken
          refine lv_iconst (v := 0) hx hb dX4_power_40 rfl ?_
          refine lv_istore_n (lv' := [(2, .int 0), (0, .ref (am 0)), (1, .int v)]) hx hb dX4_power_41 rfl hl (by decide) rfl (fun ls hl => ?_)
          refine lv_aload_n hx hb dX4_power_42 rfl (lv_at hl 1 rfl) ?_
          refine lv_iload_n hx hb dX4_power_43 rfl (lv_at hl 2 rfl) ?_
          refine lv_iconst (v := 1) hx hb dX4_power_44 rfl ?_
          refine lv_icmp_ne (tgt := 52) hx hb dX4_power_45 (by decide) (fun c_45 => ?_) (fun c_45 => ?_)
          · -- 45 taken
            exact absurd c_14 c_45
          · -- 45 not taken
            refine lv_iconst (v := 1) hx hb dX4_power_48 rfl ?_
            refine lv_goto (tgt := 53) hx hb dX4_power_49 (by decide) ?_
            refine qPut (ci := 4) (ty := .boolean) (C := RX4) (T := TX4) (N := 25) (u' := (zu z 0 0 1, r)) hx hb hts hin4 tyX4 tyX4_ok nmX4 hown hK hP (WMu_D g (z, r) hj) hS 0 rfl rfl 11 (by decide) (hts (.fieldLink RX4 74 "PartCurvesModel" "isOn" "Z") (by decide +kernel)) rfl (by decide +kernel) rfl rfl (Nat.le_of_ble_eq_true rfl) (WM_on g am z r 1) dX4_power_53 (fun H locs hP hS => ?_)
            refine lv_iload_n hx hb dX4_power_56 rfl (lv_at hl 0 rfl) ?_
            exact qRi hx hb hr hlk hP hK hS dX4_power_57 (by unfold s_power; rw [if_pos c_6, if_neg (fun h => c_23 h.2), if_pos c_33, if_pos c_45] <;> rfl) (pr_eq (by unfold s_power; rw [if_pos c_6, if_neg (fun h => c_23 h.2), if_pos c_33, if_pos c_45] <;> rfl) rfl)
        · -- 33 not taken
          refine lv_iconst (v := 1) hx hb dX4_power_36 rfl ?_
          refine lv_goto (tgt := 41) hx hb dX4_power_37 (by decide) ?_
          refine lv_istore_n (lv' := [(2, .int 1), (0, .ref (am 0)), (1, .int v)]) hx hb dX4_power_41 rfl hl (by decide) rfl (fun ls hl => ?_)
          refine lv_aload_n hx hb dX4_power_42 rfl (lv_at hl 1 rfl) ?_
          refine lv_iload_n hx hb dX4_power_43 rfl (lv_at hl 2 rfl) ?_
          refine lv_iconst (v := 1) hx hb dX4_power_44 rfl ?_
          refine lv_icmp_ne (tgt := 52) hx hb dX4_power_45 (by decide) (fun c_45 => ?_) (fun c_45 => ?_)
          · -- 45 taken
            exact absurd c_14 c_45
          · -- 45 not taken
            refine lv_iconst (v := 1) hx hb dX4_power_48 rfl ?_
            refine lv_goto (tgt := 53) hx hb dX4_power_49 (by decide) ?_
            refine qPut (ci := 4) (ty := .boolean) (C := RX4) (T := TX4) (N := 25) (u' := (zu z 0 0 1, r)) hx hb hts hin4 tyX4 tyX4_ok nmX4 hown hK hP (WMu_D g (z, r) hj) hS 0 rfl rfl 11 (by decide) (hts (.fieldLink RX4 74 "PartCurvesModel" "isOn" "Z") (by decide +kernel)) rfl (by decide +kernel) rfl rfl (Nat.le_of_ble_eq_true rfl) (WM_on g am z r 1) dX4_power_53 (fun H locs hP hS => ?_)
            refine lv_iload_n hx hb dX4_power_56 rfl (lv_at hl 0 rfl) ?_
            exact qRi hx hb hr hlk hP hK hS dX4_power_57 (by unfold s_power; rw [if_pos c_6, if_neg (fun h => c_23 h.2), if_neg c_33, if_pos c_45] <;> rfl) (pr_eq (by unfold s_power; rw [if_pos c_6, if_neg (fun h => c_23 h.2), if_neg c_33, if_pos c_45] <;> rfl) rfl)
      · -- 23 not taken
        refine lv_bipush (v := -3) hx hb dX4_power_26 (by decide) ?_
        exact qRi hx hb hr hlk hP hK hS dX4_power_28 (by unfold s_power; rw [if_pos c_6, if_pos ⟨c_14, c_23⟩] <;> rfl) (pr_eq (by unfold s_power; rw [if_pos c_6, if_pos ⟨c_14, c_23⟩] <;> rfl) rfl)
  · -- 6 not taken
    have c_6 := bI_0 c_6
    refine lv_bipush (v := -2) hx hb dX4_power_9 (by decide) ?_
    exact qRi hx hb hr hlk hP hK hS dX4_power_11 (by unfold s_power; rw [if_neg (bn c_6)] <;> rfl) (pr_eq (by unfold s_power; rw [if_neg (bn c_6)] <;> rfl) rfl)
set_option maxHeartbeats 4000000 in
set_option maxRecDepth 100000 in
theorem kX4_limit (l : Launch) (g : qG) {am : Nat → Nat} (z : zS) (r : Nat → Int32) (hj : adInj 18 am) (v : Int32) : qMi l yX4_limit wsX4_limit 1 g (WMu g am) (adOf 18 am) (z, r) [.ref (am 0), .int v] ((s_limit z v).1) ((s_limit z v).2, r) := by
  refine qStart (cc := cX4_limit) (maxL := 3) (ret := (some .int)) (plainFor_of_name (by decide)) rfl (Nat.le_of_ble_eq_true rfl) ?_
  intro p e s m args below meth c hx hb hml hown hts hr hlk hP hK ls hl
  have hl : lv_has ls 3 [(0, .ref (am 0)), (1, .int v)] := hl
  have hS : va_S (adOf 18 am) s.heap s.heap [] := va_S.rf
  have hin4 : ∀ w ∈ u_ws RX4 TX4 25, w ∈ wsX4_limit := by decide +kernel
  refine lv_iload_n hx hb dX4_limit_0 rfl (lv_at hl 1 rfl) ?_
  refine lv_iconst (v := 1) hx hb dX4_limit_1 rfl ?_
  refine lv_sipush (v := 20000) hx hb dX4_limit_2 (by decide) ?_
  refine qSi (As := [.int v, .int 1, .int 20000]) (rest := []) hx hb hml hown hts (kX4_within l g (Wd := (WMu g am)) (A := (adOf 18 am)) (z, r) v 1 20000) gX4_limit_X4_within rfl 3 hdX4_within rfl ⟨Nat.le_of_ble_eq_true rfl, Nat.le_of_ble_eq_true rfl⟩ ⟨Nat.zero_le _, Nat.zero_le _⟩ hK hP hS (fun _ h => h) hl.1 rfl (Nat.le_of_ble_eq_true rfl) dX4_limit_5 (fun H locs hP hS => ?_)
  refine lv_if_ne (tgt := 14) hx hb dX4_limit_8 (by decide) (fun c_8 => ?_) (fun c_8 => ?_)
  · -- 8 taken
    have c_8 := bI_n c_8
    refine lv_aload_n hx hb dX4_limit_14 rfl (lv_at hl 0 rfl) ?_
    refine qGet (ci := 4) (v := .int (z 0 1)) (C := RX4) (T := TX4) (N := 25) hx hb hts hin4 hown hK hP 0 rfl rfl 12 (by decide) (hts (.fieldLink RX4 44 "PartCurvesModel" "limit" "I") (by decide +kernel)) rfl dX4_limit_15 ?_
    refine lv_istore_n (lv' := [(2, .int (z 0 1)), (0, .ref (am 0)), (1, .int v)]) hx hb dX4_limit_18 rfl hl (by decide) rfl (fun ls hl => ?_)
    refine lv_aload_n hx hb dX4_limit_19 rfl (lv_at hl 1 rfl) ?_
    refine lv_iload_n hx hb dX4_limit_20 rfl (lv_at hl 2 rfl) ?_
    refine qPut (ci := 4) (ty := .int) (C := RX4) (T := TX4) (N := 25) (u' := (zu z 0 1 v, r)) hx hb hts hin4 tyX4 tyX4_ok nmX4 hown hK hP (WMu_D g (z, r) hj) hS 0 rfl rfl 12 (by decide) (hts (.fieldLink RX4 44 "PartCurvesModel" "limit" "I") (by decide +kernel)) rfl (by decide +kernel) rfl rfl (Nat.le_of_ble_eq_true rfl) (WM_lim g am z r v) dX4_limit_21 (fun H locs hP hS => ?_)
    refine lv_iload_n hx hb dX4_limit_24 rfl (lv_at hl 0 rfl) ?_
    exact qRi hx hb hr hlk hP hK hS dX4_limit_25 (by unfold s_limit; rw [if_pos c_8] <;> rfl) (pr_eq (by unfold s_limit; rw [if_pos c_8] <;> rfl) rfl)
  · -- 8 not taken
    have c_8 := bI_0 c_8
    refine lv_bipush (v := -2) hx hb dX4_limit_11 (by decide) ?_
    exact qRi hx hb hr hlk hP hK hS dX4_limit_13 (by unfold s_limit; rw [if_neg (bn c_8)] <;> rfl) (pr_eq (by unfold s_limit; rw [if_neg (bn c_8)] <;> rfl) rfl)
set_option maxHeartbeats 4000000 in
set_option maxRecDepth 100000 in
theorem kX4_leads (l : Launch) (g : qG) {am : Nat → Nat} (z : zS) (r : Nat → Int32) (hj : adInj 18 am) (v : Int32) : qMi l yX4_leads wsX4_leads 1 g (WMu g am) (adOf 18 am) (z, r) [.ref (am 0), .int v] ((s_leads z v).1) ((s_leads z v).2, r) := by
  refine qStart (cc := cX4_leads) (maxL := 3) (ret := (some .int)) (plainFor_of_name (by decide)) rfl (Nat.le_of_ble_eq_true rfl) ?_
  intro p e s m args below meth c hx hb hml hown hts hr hlk hP hK ls hl
  have hl : lv_has ls 3 [(0, .ref (am 0)), (1, .int v)] := hl
  have hS : va_S (adOf 18 am) s.heap s.heap [] := va_S.rf
  have hin4 : ∀ w ∈ u_ws RX4 TX4 25, w ∈ wsX4_leads := by decide +kernel
  refine lv_iload_n hx hb dX4_leads_0 rfl (lv_at hl 1 rfl) ?_
  refine lv_iconst (v := 0) hx hb dX4_leads_1 rfl ?_
  refine lv_sipush (v := 200) hx hb dX4_leads_2 (by decide) ?_
  refine qSi (As := [.int v, .int 0, .int 200]) (rest := []) hx hb hml hown hts (kX4_within l g (Wd := (WMu g am)) (A := (adOf 18 am)) (z, r) v 0 200) gX4_leads_X4_within rfl 3 hdX4_within rfl ⟨Nat.le_of_ble_eq_true rfl, Nat.le_of_ble_eq_true rfl⟩ ⟨Nat.zero_le _, Nat.zero_le _⟩ hK hP hS (fun _ h => h) hl.1 rfl (Nat.le_of_ble_eq_true rfl) dX4_leads_5 (fun H locs hP hS => ?_)
  refine lv_if_ne (tgt := 14) hx hb dX4_leads_8 (by decide) (fun c_8 => ?_) (fun c_8 => ?_)
  · -- 8 taken
    have c_8 := bI_n c_8
    refine lv_aload_n hx hb dX4_leads_14 rfl (lv_at hl 0 rfl) ?_
    refine qGet (ci := 4) (v := .int (z 0 2)) (C := RX4) (T := TX4) (N := 25) hx hb hts hin4 hown hK hP 0 rfl rfl 13 (by decide) (hts (.fieldLink RX4 96 "PartCurvesModel" "leads" "I") (by decide +kernel)) rfl dX4_leads_15 ?_
    refine lv_istore_n (lv' := [(2, .int (z 0 2)), (0, .ref (am 0)), (1, .int v)]) hx hb dX4_leads_18 rfl hl (by decide) rfl (fun ls hl => ?_)
    refine lv_aload_n hx hb dX4_leads_19 rfl (lv_at hl 1 rfl) ?_
    refine lv_iload_n hx hb dX4_leads_20 rfl (lv_at hl 2 rfl) ?_
    refine qPut (ci := 4) (ty := .int) (C := RX4) (T := TX4) (N := 25) (u' := (zu z 0 2 v, r)) hx hb hts hin4 tyX4 tyX4_ok nmX4 hown hK hP (WMu_D g (z, r) hj) hS 0 rfl rfl 13 (by decide) (hts (.fieldLink RX4 96 "PartCurvesModel" "leads" "I") (by decide +kernel)) rfl (by decide +kernel) rfl rfl (Nat.le_of_ble_eq_true rfl) (WM_lds g am z r v) dX4_leads_21 (fun H locs hP hS => ?_)
    refine lv_iload_n hx hb dX4_leads_24 rfl (lv_at hl 0 rfl) ?_
    exact qRi hx hb hr hlk hP hK hS dX4_leads_25 (by unfold s_leads; rw [if_pos c_8] <;> rfl) (pr_eq (by unfold s_leads; rw [if_pos c_8] <;> rfl) rfl)
  · -- 8 not taken
    have c_8 := bI_0 c_8
    refine lv_bipush (v := -2) hx hb dX4_leads_11 (by decide) ?_
    exact qRi hx hb hr hlk hP hK hS dX4_leads_13 (by unfold s_leads; rw [if_neg (bn c_8)] <;> rfl) (pr_eq (by unfold s_leads; rw [if_neg (bn c_8)] <;> rfl) rfl)
set_option maxHeartbeats 4000000 in
set_option maxRecDepth 100000 in
theorem kX4_now (l : Launch) (g : qG) {am : Nat → Nat} (z : zS) (r : Nat → Int32) (hj : adInj 18 am) (hI : qInv z) (w : Int32) : qMi l yX4_now wsX4_now 2 g (WMu g am) (adOf 18 am) (z, r) [.ref (am 0), .int w] (s_now z w) (z, r) := by
  refine qStart (cc := cX4_now) (maxL := 2) (ret := (some .int)) (plainFor_of_name (by decide)) rfl (Nat.le_of_ble_eq_true rfl) ?_
  intro p e s m args below meth c hx hb hml hown hts hr hlk hP hK ls hl
  have hl : lv_has ls 2 [(0, .ref (am 0)), (1, .int w)] := hl
  have hS : va_S (adOf 18 am) s.heap s.heap [] := va_S.rf
  have hin4 : ∀ w ∈ u_ws RX4 TX4 25, w ∈ wsX4_now := by decide +kernel
  refine lv_iload_n hx hb dX4_now_0 rfl (lv_at hl 1 rfl) ?_
  by_cases c_1_is0 : w = 0
  · -- 1 is 0
    refine lv_tableIn (tgt := 36) hx hb dX4_now_1 (by rw [c_1_is0]; decide) (by rw [c_1_is0]; decide) (by rw [c_1_is0]; rfl) (by decide) ?_
    refine lv_aload_n hx hb dX4_now_36 rfl (lv_at hl 0 rfl) ?_
    refine qVi (As := []) (rest := []) hx hb hml hown hts (kX4_inHand l g z r hj hI) gX4_now_X4_inHand rfl 0 hdX4_inHand rfl ⟨Nat.le_of_ble_eq_true rfl, Nat.le_of_ble_eq_true rfl⟩ ⟨Nat.zero_le _, Nat.zero_le _⟩ hK hP hS (fun _ h => h) 0 4 rfl rfl rfl hl.1 rfl (Nat.le_of_ble_eq_true rfl) dX4_now_37 (fun H locs hP hS => ?_)
    exact qRi hx hb hr hlk hP hK hS dX4_now_40 (by unfold s_now; rw [if_pos c_1_is0]) rfl
  by_cases c_1_is1 : w = 1
  · -- 1 is 1
    refine lv_tableIn (tgt := 41) hx hb dX4_now_1 (by rw [c_1_is1]; decide) (by rw [c_1_is1]; decide) (by rw [c_1_is1]; rfl) (by decide) ?_
    refine lv_aload_n hx hb dX4_now_41 rfl (lv_at hl 0 rfl) ?_
    refine qVi (As := []) (rest := []) hx hb hml hown hts (kX4_isFourWires l g z r hj hI) gX4_now_X4_isFourWires rfl 0 hdX4_isFourWires rfl ⟨Nat.le_of_ble_eq_true rfl, Nat.le_of_ble_eq_true rfl⟩ ⟨Nat.zero_le _, Nat.zero_le _⟩ hK hP hS (fun _ h => h) 0 4 rfl rfl rfl hl.1 rfl (Nat.le_of_ble_eq_true rfl) dX4_now_42 (fun H locs hP hS => ?_)
    refine lv_if_eq (tgt := 52) hx hb dX4_now_45 (by decide) (fun c_45 => ?_) (fun c_45 => ?_)
    · -- 45 taken
      have c_45 := bI_0 c_45
      refine lv_iconst (v := 2) hx hb dX4_now_52 rfl ?_
      exact qRi hx hb hr hlk hP hK hS dX4_now_53 (by unfold s_now; rw [if_neg c_1_is0, if_pos c_1_is1, if_neg (bn c_45)]) rfl
    · -- 45 not taken
      have c_45 := bI_n c_45
      refine lv_iconst (v := 4) hx hb dX4_now_48 rfl ?_
      refine lv_goto (tgt := 53) hx hb dX4_now_49 (by decide) ?_
      exact qRi hx hb hr hlk hP hK hS dX4_now_53 (by unfold s_now; rw [if_neg c_1_is0, if_pos c_1_is1, if_pos c_45]) rfl
  by_cases c_1_is2 : w = 2
  · -- 1 is 2
    refine lv_tableIn (tgt := 54) hx hb dX4_now_1 (by rw [c_1_is2]; decide) (by rw [c_1_is2]; decide) (by rw [c_1_is2]; rfl) (by decide) ?_
    refine lv_aload_n hx hb dX4_now_54 rfl (lv_at hl 0 rfl) ?_
    refine qGet (ci := 4) (v := .int (z 0 0)) (C := RX4) (T := TX4) (N := 25) hx hb hts hin4 hown hK hP 0 rfl rfl 11 (by decide) (hts (.fieldLink RX4 74 "PartCurvesModel" "isOn" "Z") (by decide +kernel)) rfl dX4_now_55 ?_
    refine lv_if_eq (tgt := 65) hx hb dX4_now_58 (by decide) (fun c_58 => ?_) (fun c_58 => ?_)
    · -- 58 taken
      refine lv_iconst (v := 0) hx hb dX4_now_65 rfl ?_
      exact qRi hx hb hr hlk hP hK hS dX4_now_66 (by unfold s_now; rw [if_neg c_1_is0, if_neg c_1_is1, if_pos c_1_is2, if_pos c_58]) rfl
    · -- 58 not taken
      refine lv_iconst (v := 1) hx hb dX4_now_61 rfl ?_
      refine lv_goto (tgt := 66) hx hb dX4_now_62 (by decide) ?_
      exact qRi hx hb hr hlk hP hK hS dX4_now_66 (by unfold s_now; rw [if_neg c_1_is0, if_neg c_1_is1, if_pos c_1_is2, if_neg c_58]) rfl
  by_cases c_1_is3 : w = 3
  · -- 1 is 3
    refine lv_tableIn (tgt := 67) hx hb dX4_now_1 (by rw [c_1_is3]; decide) (by rw [c_1_is3]; decide) (by rw [c_1_is3]; rfl) (by decide) ?_
    refine lv_aload_n hx hb dX4_now_67 rfl (lv_at hl 0 rfl) ?_
    refine qGet (ci := 4) (v := .int (z 0 1)) (C := RX4) (T := TX4) (N := 25) hx hb hts hin4 hown hK hP 0 rfl rfl 12 (by decide) (hts (.fieldLink RX4 44 "PartCurvesModel" "limit" "I") (by decide +kernel)) rfl dX4_now_68 ?_
    exact qRi hx hb hr hlk hP hK hS dX4_now_71 (by unfold s_now; rw [if_neg c_1_is0, if_neg c_1_is1, if_neg c_1_is2, if_pos c_1_is3]) rfl
  by_cases c_1_is4 : w = 4
  · -- 1 is 4
    refine lv_tableIn (tgt := 72) hx hb dX4_now_1 (by rw [c_1_is4]; decide) (by rw [c_1_is4]; decide) (by rw [c_1_is4]; rfl) (by decide) ?_
    refine lv_aload_n hx hb dX4_now_72 rfl (lv_at hl 0 rfl) ?_
    refine qGet (ci := 4) (v := .int (z 0 2)) (C := RX4) (T := TX4) (N := 25) hx hb hts hin4 hown hK hP 0 rfl rfl 13 (by decide) (hts (.fieldLink RX4 96 "PartCurvesModel" "leads" "I") (by decide +kernel)) rfl dX4_now_73 ?_
    exact qRi hx hb hr hlk hP hK hS dX4_now_76 (by unfold s_now; rw [if_neg c_1_is0, if_neg c_1_is1, if_neg c_1_is2, if_neg c_1_is3, if_pos c_1_is4]) rfl
  refine lv_tableOut (tgt := 77) hx hb dX4_now_1 (by have := ne_toInt c_1_is0 (k := 0) rfl; have := ne_toInt c_1_is1 (k := 1) rfl; have := ne_toInt c_1_is2 (k := 2) rfl; have := ne_toInt c_1_is3 (k := 3) rfl; have := ne_toInt c_1_is4 (k := 4) rfl; omega) (by decide) ?_
  refine lv_bipush (v := -2) hx hb dX4_now_77 (by decide) ?_
  exact qRi hx hb hr hlk hP hK hS dX4_now_79 (by unfold s_now; rw [if_neg c_1_is0, if_neg c_1_is1, if_neg c_1_is2, if_neg c_1_is3, if_neg c_1_is4]) rfl
set_option maxHeartbeats 4000000 in
set_option maxRecDepth 100000 in
theorem kX4_amps (l : Launch) (g : qG) {am : Nat → Nat} (z : zS) (r : Nat → Int32) (hj : adInj 18 am) (hI : qInv z) (n v : Int32) : qMi l yX4_amps wsX4_amps 3 g (WMu g am) (adOf 18 am) (z, r) [.ref (am 0), .int n, .int v] (s_amps z n v) (z, r) := by
  refine qStart (cc := cX4_amps) (maxL := 3) (ret := (some .int)) (plainFor_of_name (by decide)) rfl (Nat.le_of_ble_eq_true rfl) ?_
  intro p e s m args below meth c hx hb hml hown hts hr hlk hP hK ls hl
  have hl : lv_has ls 3 [(0, .ref (am 0)), (1, .int n), (2, .int v)] := hl
  have hS : va_S (adOf 18 am) s.heap s.heap [] := va_S.rf
  refine lv_aload_n hx hb dX4_amps_0 rfl (lv_at hl 0 rfl) ?_
  refine lv_iload_n hx hb dX4_amps_1 rfl (lv_at hl 1 rfl) ?_
  refine qVi (As := [.int n]) (rest := []) hx hb hml hown hts (kX4_isPart l g z r hj n) gX4_amps_X4_isPart rfl 1 hdX4_isPart rfl ⟨Nat.le_of_ble_eq_true rfl, Nat.le_of_ble_eq_true rfl⟩ ⟨Nat.zero_le _, Nat.zero_le _⟩ hK hP hS (fun _ h => h) 0 4 rfl rfl rfl hl.1 rfl (Nat.le_of_ble_eq_true rfl) dX4_amps_2 (fun H locs hP hS => ?_)
  refine lv_if_ne (tgt := 10) hx hb dX4_amps_5 (by decide) (fun c_5 => ?_) (fun c_5 => ?_)
  · -- 5 taken
    have c_5 := bI_n c_5
    refine lv_iload_n hx hb dX4_amps_10 rfl (lv_at hl 2 rfl) ?_
    refine lv_sipush (v := -3000) hx hb dX4_amps_11 (by decide) ?_
    refine lv_sipush (v := 3000) hx hb dX4_amps_14 (by decide) ?_
    refine qSi (As := [.int v, .int (-3000), .int 3000]) (rest := []) hx hb hml hown hts (kX4_within l g (Wd := (WMu g am)) (A := (adOf 18 am)) (z, r) v (-3000) 3000) gX4_amps_X4_within rfl 3 hdX4_within rfl ⟨Nat.le_of_ble_eq_true rfl, Nat.le_of_ble_eq_true rfl⟩ ⟨Nat.zero_le _, Nat.zero_le _⟩ hK hP hS (fun _ h => h) hl.1 rfl (Nat.le_of_ble_eq_true rfl) dX4_amps_17 (fun H locs hP hS => ?_)
    refine lv_if_eq (tgt := 35) hx hb dX4_amps_20 (by decide) (fun c_20 => ?_) (fun c_20 => ?_)
    · -- 20 taken
      have c_20 := bI_0 c_20
      refine lv_bipush (v := -2) hx hb dX4_amps_35 (by decide) ?_
      exact qRi hx hb hr hlk hP hK hS dX4_amps_37 (by unfold s_amps; rw [if_pos c_5, if_neg (bn c_20)] <;> rfl) rfl
    · -- 20 not taken
      have c_20 := bI_n c_20
      refine lv_aload_n hx hb dX4_amps_23 rfl (lv_at hl 0 rfl) ?_
      refine lv_iload_n hx hb dX4_amps_24 rfl (lv_at hl 1 rfl) ?_
      refine lv_iload_n hx hb dX4_amps_25 rfl (lv_at hl 2 rfl) ?_
      refine qVi (As := [.int n, .int v]) (rest := []) hx hb hml hown hts (kX4_ownAmps l g z r hj hI n (pOk_in c_5).1 v c_20) gX4_amps_X4_ownAmps rfl 2 hdX4_ownAmps rfl ⟨Nat.le_of_ble_eq_true rfl, Nat.le_of_ble_eq_true rfl⟩ ⟨Nat.zero_le _, Nat.zero_le _⟩ hK hP hS (fun _ h => h) 0 4 rfl rfl rfl hl.1 rfl (Nat.le_of_ble_eq_true rfl) dX4_amps_26 (fun H locs hP hS => ?_)
      refine lv_ldc (v := 50000) hx hb hown (hts (.constant RX4 112 (50000)) (by decide +kernel)) dX4_amps_29 ?_
      refine lv_iadd hx hb dX4_amps_31 ?_
      refine lv_goto (tgt := 37) hx hb dX4_amps_32 (by decide) ?_
      exact qRi hx hb hr hlk hP hK hS dX4_amps_37 (by unfold s_amps; rw [if_pos c_5, if_pos c_20] <;> rfl) rfl
  · -- 5 not taken
    have c_5 := bI_0 c_5
    refine lv_iconst (v := -1) hx hb dX4_amps_8 rfl ?_
    exact qRi hx hb hr hlk hP hK hS dX4_amps_9 (by unfold s_amps; rw [if_neg (bn c_5)] <;> rfl) rfl
set_option maxHeartbeats 4000000 in
set_option maxRecDepth 100000 in
theorem kX4_would (l : Launch) (g : qG) {am : Nat → Nat} (z : zS) (r : Nat → Int32) (hj : adInj 18 am) (hI : qInv z) (v w : Int32) : qMiE l yX4_would wsX4_would 6 g (WMu g am) (adOf 18 am) (z, r) [.ref (am 0), .int v, .int w] (s_would z v w) z := by
  refine qStart (cc := cX4_would) (maxL := 4) (ret := (some .int)) (plainFor_of_name (by decide)) rfl (Nat.le_of_ble_eq_true rfl) ?_
  intro p e s m args below meth c hx hb hml hown hts hr hlk hP hK ls hl
  have hl : lv_has ls 4 [(0, .ref (am 0)), (1, .int v), (2, .int w)] := hl
  have hS : va_S (adOf 18 am) s.heap s.heap [] := va_S.rf
  have hin4 : ∀ w ∈ u_ws RX4 TX4 25, w ∈ wsX4_would := by decide +kernel
  refine lv_iload_n hx hb dX4_would_0 rfl (lv_at hl 1 rfl) ?_
  refine lv_sipush (v := -3000) hx hb dX4_would_1 (by decide) ?_
  refine lv_sipush (v := 3000) hx hb dX4_would_4 (by decide) ?_
  refine qSi (As := [.int v, .int (-3000), .int 3000]) (rest := []) hx hb hml hown hts (kX4_within l g (Wd := (WMu g am)) (A := (adOf 18 am)) (z, r) v (-3000) 3000) gX4_would_X4_within rfl 3 hdX4_within rfl ⟨Nat.le_of_ble_eq_true rfl, Nat.le_of_ble_eq_true rfl⟩ ⟨Nat.zero_le _, Nat.zero_le _⟩ hK hP hS (fun _ h => h) hl.1 rfl (Nat.le_of_ble_eq_true rfl) dX4_would_7 (fun H locs hP hS => ?_)
  refine lv_if_eq (tgt := 22) hx hb dX4_would_10 (by decide) (fun c_10 => ?_) (fun c_10 => ?_)
  · -- 10 taken
    have c_10 := bI_0 c_10
    refine lv_bipush (v := -2) hx hb dX4_would_22 (by decide) ?_
    exact qRiE hx hb hr hlk hP hK hS dX4_would_24 (by unfold s_would; rw [if_neg (fun h => absurd h.1 (bn c_10))] <;> rfl) rfl
  · -- 10 not taken
    have c_10 := bI_n c_10
    refine lv_iload_n hx hb dX4_would_13 rfl (lv_at hl 2 rfl) ?_
    refine lv_iconst (v := 0) hx hb dX4_would_14 rfl ?_
    refine lv_iconst (v := 2) hx hb dX4_would_15 rfl ?_
    refine qSi (As := [.int w, .int 0, .int 2]) (rest := []) hx hb hml hown hts (kX4_within l g (Wd := (WMu g am)) (A := (adOf 18 am)) (z, r) w 0 2) gX4_would_X4_within rfl 3 hdX4_within rfl ⟨Nat.le_of_ble_eq_true rfl, Nat.le_of_ble_eq_true rfl⟩ ⟨Nat.zero_le _, Nat.zero_le _⟩ hK hP hS (fun _ h => h) hl.1 rfl (Nat.le_of_ble_eq_true rfl) dX4_would_16 (fun H locs hP hS => ?_)
    refine lv_if_ne (tgt := 25) hx hb dX4_would_19 (by decide) (fun c_19 => ?_) (fun c_19 => ?_)
    · -- 19 taken
      have c_19 := bI_n c_19
      refine lv_aload_n hx hb dX4_would_25 rfl (lv_at hl 0 rfl) ?_
      refine qVi (As := []) (rest := []) hx hb hml hown hts (kX4_inHand l g z r hj hI) gX4_would_X4_inHand rfl 0 hdX4_inHand rfl ⟨Nat.le_of_ble_eq_true rfl, Nat.le_of_ble_eq_true rfl⟩ ⟨Nat.zero_le _, Nat.zero_le _⟩ hK hP hS (fun _ h => h) 0 4 rfl rfl rfl hl.1 rfl (Nat.le_of_ble_eq_true rfl) dX4_would_26 (fun H locs hP hS => ?_)
      refine lv_istore_n (lv' := [(3, .int (inH z)), (0, .ref (am 0)), (1, .int v), (2, .int w)]) hx hb dX4_would_29 rfl hl (by decide) rfl (fun ls hl => ?_)
      refine lv_iload_n hx hb dX4_would_30 rfl (lv_at hl 0 rfl) ?_
      refine lv_bipush (v := -9) hx hb dX4_would_31 (by decide) ?_
      refine lv_icmp_ne (tgt := 39) hx hb dX4_would_33 (by decide) (fun c_33 => ?_) (fun c_33 => ?_)
      · -- 33 taken
        obtain ⟨hnh, hp4, -, hlh, -, -⟩ := inH_lt c_33
        refine lv_aload_n hx hb dX4_would_39 rfl (lv_at hl 1 rfl) ?_
        refine lv_iload_n hx hb dX4_would_40 rfl (lv_at hl 0 rfl) ?_
        refine lv_iload_n hx hb dX4_would_41 rfl (lv_at hl 2 rfl) ?_
        refine qVv (As := [.int (inH z), .int v]) (rest := []) hx hb hml hown hts (kX4_finds l g z r hj hI (inH z) hnh hlh v c_10) gX4_would_X4_finds rfl 2 hdX4_finds rfl ⟨Nat.le_of_ble_eq_true rfl, Nat.le_of_ble_eq_true rfl⟩ ⟨Nat.zero_le _, Nat.zero_le _⟩ hK hP hS (fun _ h => h) 0 4 rfl rfl rfl hl.1 rfl (Nat.le_of_ble_eq_true rfl) dX4_would_42 (fun H locs hP hS => ?_)
        refine lv_iload_n hx hb dX4_would_45 rfl (lv_at hl 3 rfl) ?_
        refine lv_if_ne (tgt := 60) hx hb dX4_would_46 (by decide) (fun c_46 => ?_) (fun c_46 => ?_)
        · -- 46 taken
          refine lv_iload_n hx hb dX4_would_60 rfl (lv_at hl 3 rfl) ?_
          refine lv_iconst (v := 1) hx hb dX4_would_61 rfl ?_
          refine lv_icmp_ne (tgt := 80) hx hb dX4_would_62 (by decide) (fun c_62 => ?_) (fun c_62 => ?_)
          · -- 62 taken
            refine lv_aload_n hx hb dX4_would_80 rfl (lv_at hl 1 rfl) ?_
            refine qGet (ci := 4) (v := .int (ruF z (10 + ix (inH z)) (uF z (10 + ix (inH z)) v) v)) (C := RX4) (T := TX4) (N := 25) hx hb hts hin4 hown hK hP 0 rfl rfl 15 (by decide) (hts (.fieldLink RX4 128 "PartCurvesModel" "rule" "I") (by decide +kernel)) (by simp [pF, zu, upd]) dX4_would_81 ?_
            exact qRiE hx hb hr hlk hP hK hS dX4_would_84 (by unfold s_would; rw [if_pos ⟨c_10, c_19⟩, if_neg c_33, if_neg c_46, if_neg c_62] <;> rfl) rfl
          · -- 62 not taken
            refine lv_aload_n hx hb dX4_would_65 rfl (lv_at hl 1 rfl) ?_
            refine lv_iload_n hx hb dX4_would_66 rfl (lv_at hl 0 rfl) ?_
            refine lv_aload_n hx hb dX4_would_67 rfl (lv_at hl 1 rfl) ?_
            refine qGet (ci := 4) (v := .int (uF z (10 + ix (inH z)) v)) (C := RX4) (T := TX4) (N := 25) hx hb hts hin4 hown hK hP 0 rfl rfl 14 (by decide) (hts (.fieldLink RX4 125 "PartCurvesModel" "found" "I") (by decide +kernel)) (by simp [pF, zu, upd]) dX4_would_68 ?_
            refine qVi (As := [.int (inH z), .int (uF z (10 + ix (inH z)) v)]) (rest := []) hx hb hml hown hts (kX4_ampsAt l g z (upd (upd r 0 (uF z (10 + ix (inH z)) v)) 1 (ruF z (10 + ix (inH z)) (uF z (10 + ix (inH z)) v) v)) hj hI (inH z) hnh hlh (uF z (10 + ix (inH z)) v) (inR_iff.mpr (uF_rng c_10))) gX4_would_X4_ampsAt rfl 2 hdX4_ampsAt rfl ⟨Nat.le_of_ble_eq_true rfl, Nat.le_of_ble_eq_true rfl⟩ ⟨Nat.zero_le _, Nat.zero_le _⟩ hK hP hS (fun _ h => h) 0 4 rfl rfl rfl hl.1 rfl (Nat.le_of_ble_eq_true rfl) dX4_would_71 (fun H locs hP hS => ?_)
            refine lv_ldc (v := 50000) hx hb hown (hts (.constant RX4 112 (50000)) (by decide +kernel)) dX4_would_74 ?_
            refine lv_iadd hx hb dX4_would_76 ?_
            refine lv_goto (tgt := 84) hx hb dX4_would_77 (by decide) ?_
            exact qRiE hx hb hr hlk hP hK hS dX4_would_84 (by unfold s_would; rw [if_pos ⟨c_10, c_19⟩, if_neg c_33, if_neg c_46, if_pos c_62] <;> rfl) rfl
        · -- 46 not taken
          refine lv_aload_n hx hb dX4_would_49 rfl (lv_at hl 1 rfl) ?_
          refine qGet (ci := 4) (v := .int (uF z (10 + ix (inH z)) v)) (C := RX4) (T := TX4) (N := 25) hx hb hts hin4 hown hK hP 0 rfl rfl 14 (by decide) (hts (.fieldLink RX4 125 "PartCurvesModel" "found" "I") (by decide +kernel)) (by simp [pF, zu, upd]) dX4_would_50 ?_
          refine lv_sipush (v := 10000) hx hb dX4_would_53 (by decide) ?_
          refine lv_iadd hx hb dX4_would_56 ?_
          refine lv_goto (tgt := 84) hx hb dX4_would_57 (by decide) ?_
          exact qRiE hx hb hr hlk hP hK hS dX4_would_84 (by unfold s_would; rw [if_pos ⟨c_10, c_19⟩, if_neg c_33, if_pos c_46] <;> rfl) rfl
      · -- 33 not taken
        refine lv_bipush (v := -3) hx hb dX4_would_36 (by decide) ?_
        exact qRiE hx hb hr hlk hP hK hS dX4_would_38 (by unfold s_would; rw [if_pos ⟨c_10, c_19⟩, if_pos c_33] <;> rfl) rfl
    · -- 19 not taken
      have c_19 := bI_0 c_19
      refine lv_bipush (v := -2) hx hb dX4_would_22 (by decide) ?_
      exact qRiE hx hb hr hlk hP hK hS dX4_would_24 (by unfold s_would; rw [if_neg (fun h => absurd h.2 (bn c_19))] <;> rfl) rfl
