def lpS (z : zS) (v w : Int32) : zS := if z 0 3 = 60 then zu z 0 3 0 else (s_pulse z v w).2
theorem pulse_full {z : zS} {v w : Int32} (hv : inR v (-3000) 3000 = true) (hw : inR w 1 50 = true) (hon : ¬ z 0 0 = 0) (hf : z 0 3 = 60) : s_pulse z v w = (-4, z) := by
  unfold s_pulse; rw [if_pos ⟨hv, hw⟩, if_neg hon, if_pos hf]
theorem bI_of {b : Bool} (h : b = true) : 1 = bI b := by rw [h]; rfl
theorem bI_no {b : Bool} (h : ¬ b = true) : 0 = bI b := by
  cases b
  · rfl
  · exact absurd rfl h
theorem snB_iff {f : Nat → Int32} {x : Int32} : snB f x = true ↔ f 5 = 3 ∧ f 2 = 0 ∧ f 1 = 0 ∧ f 8 ≤ x := by
  unfold snB
  rw [Bool.and_eq_true, Bool.and_eq_true, Bool.and_eq_true, decide_eq_true_eq, decide_eq_true_eq, decide_eq_true_eq, decide_eq_true_eq]
theorem puB_iff {z : zS} {v w : Int32} : puB z v w = true ↔ ¬ puW z v w < 1000 ∧ z (10 + ix (inH z)) 1 = 0 := by
  unfold puB
  rw [Bool.and_eq_true, decide_eq_true_eq, decide_eq_true_eq]
theorem own_t {z : zS} {p : Nat} (h : fwdB z p = true) (x : Int32) : ownd z p x = x := by unfold ownd; rw [if_pos (fwd_t h)]
theorem own_f {z : zS} {p : Nat} (h : fwdB z p = false) (x : Int32) : ownd z p x = -x := by unfold ownd; rw [if_neg (fwd_f h)]
theorem l_nle {x y : Int64} (h : ¬ x ≤ y) : y < x := l_le_f h
theorem minW_1 {x : Int32} (h : x < 1000) : minI x 1000 = x := by rw [minI_le, if_pos h]
theorem minW_2 {x : Int32} (h : ¬ x < 1000) : minI x 1000 = 1000 := by rw [minI_le, if_neg h]
set_option maxHeartbeats 4000000 in
set_option maxRecDepth 100000 in
theorem kL_pulse (l : Launch) (g : qG) {ad : Nat → Nat} (z : zS) (hj : adInj 15 ad) (hI : qInv z) (hon : ¬ z 0 0 = 0) (v w : Int32) (hv : inR v (-3000) 3000 = true) (hw : inR w 1 50 = true) : qMi l yL_pulse wsL_pulse 8 g (WX g ad) (adOf 15 ad) z [.ref (ad 0), .int v, .int w] 1 (lpS z v w) := by
  refine qStart (cc := cL_pulse) (maxL := 20) (ret := (some .boolean)) (plainFor_of_name (by decide)) rfl (Nat.le_of_ble_eq_true rfl) ?_
  intro p e s m args below meth c hx hb hml hown hts hr hlk hP hK ls hl
  have hl : lv_has ls 20 [(0, .ref (ad 0)), (1, .int v), (2, .int w)] := hl
  have hS : va_S (adOf 15 ad) s.heap s.heap [] := va_S.rf
  have hn := on_hand hI hon
  have hih := inH_lt hn
  have hi4 := hih.2.1
  have hp := pOk_inH hn
  by_cases hf : z 0 3 = 60
  · -- full
    refine lv_aload_n hx hb dL_pulse_0 rfl (lv_at hl 0 rfl) ?_
    refine lv_iconst (v := 0) hx hb dL_pulse_1 rfl ?_
    refine qVi (As := [.int 0]) (rest := []) hx hb hml hown hts (kX3_now l g z hj 0) gL_pulse_X3_now rfl 1 hdX3_now rfl ⟨Nat.le_of_ble_eq_true rfl, Nat.le_of_ble_eq_true rfl⟩ ⟨Nat.zero_le _, Nat.zero_le _⟩ hK hP hS (fun _ h => h) 0 3 rfl rfl rfl hl.1 rfl (Nat.le_of_ble_eq_true rfl) dL_pulse_2 (fun H locs hP hS => ?_)
    refine lv_nm (y := inH z) (now_0 z) ?_
    refine lv_istore_n (lv' := [(3, .int (inH z)), (0, .ref (ad 0)), (1, .int v), (2, .int w)]) hx hb dL_pulse_5 rfl hl (by decide) rfl (fun ls hl => ?_)
    refine lv_aload_n hx hb dL_pulse_6 rfl (lv_at hl 1 rfl) ?_
    refine lv_iconst (v := 1) hx hb dL_pulse_7 rfl ?_
    refine qVi (As := [.int 1]) (rest := []) hx hb hml hown hts (kX3_many l g z hj hI 1) gL_pulse_X3_many rfl 1 hdX3_many rfl ⟨Nat.le_of_ble_eq_true rfl, Nat.le_of_ble_eq_true rfl⟩ ⟨Nat.zero_le _, Nat.zero_le _⟩ hK hP hS (fun _ h => h) 0 3 rfl rfl rfl hl.1 rfl (Nat.le_of_ble_eq_true rfl) dL_pulse_8 (fun H locs hP hS => ?_)
    refine lv_nm (y := z 0 3) (many_1 z) ?_
    refine lv_istore (lv' := [(4, .int (z 0 3)), (3, .int (inH z)), (0, .ref (ad 0)), (1, .int v), (2, .int w)]) hx hb dL_pulse_11 hl (by decide) rfl (fun ls hl => ?_)
    refine lv_iload hx hb dL_pulse_13 (lv_at hl 0 rfl) ?_
    refine lv_bipush (v := 60) hx hb dL_pulse_15 (by decide) ?_
    refine lv_icmp_ne (tgt := 46) hx hb dL_pulse_17 (by decide) (fun c_17 => ?_) (fun c_17 => ?_)
    · -- 17 taken
      exact absurd hf c_17
    · -- 17 not taken
      refine lv_aload_n hx hb dL_pulse_20 rfl (lv_at hl 2 rfl) ?_
      refine lv_iload_n hx hb dL_pulse_21 rfl (lv_at hl 3 rfl) ?_
      refine lv_iload_n hx hb dL_pulse_22 rfl (lv_at hl 4 rfl) ?_
      refine qVi (As := [.int v, .int w]) (rest := []) hx hb hml hown hts (kX3_pulse l g z hj hI v w) gL_pulse_X3_pulse rfl 2 hdX3_pulse rfl ⟨Nat.le_of_ble_eq_true rfl, Nat.le_of_ble_eq_true rfl⟩ ⟨Nat.zero_le _, Nat.zero_le _⟩ hK hP hS (fun _ h => h) 0 3 rfl rfl rfl hl.1 rfl (Nat.le_of_ble_eq_true rfl) dL_pulse_23 (fun H locs hP hS => ?_)
      refine lv_nm (y := (-4)) (by rw [pulse_full hv hw hon hf]) ?_
      rw [pulse_full hv hw hon hf] at hP
      have hP : va_P g.1 vwCl (WX g ad z) H := hP
      refine lv_bipush (v := -4) hx hb dL_pulse_26 (by decide) ?_
      refine lv_icmp_ne (tgt := 44) hx hb dL_pulse_28 (by decide) (fun c_28 => ?_) (fun c_28 => ?_)
      · -- 28 taken
        exact absurd rfl c_28
      · -- 28 not taken
        refine lv_aload_n hx hb dL_pulse_31 rfl (lv_at hl 2 rfl) ?_
        refine qVi (As := []) (rest := []) hx hb hml hown hts (kX3_clear l g z hj) gL_pulse_X3_clear rfl 0 hdX3_clear rfl ⟨Nat.le_of_ble_eq_true rfl, Nat.le_of_ble_eq_true rfl⟩ ⟨Nat.zero_le _, Nat.zero_le _⟩ hK hP hS (fun _ h => h) 0 3 rfl rfl rfl hl.1 rfl (Nat.le_of_ble_eq_true rfl) dL_pulse_32 (fun H locs hP hS => ?_)
        refine lv_nm (y := z 0 3) rfl ?_
        have hP : va_P g.1 vwCl (WX g ad (zu z 0 3 0)) H := hP
        refine lv_bipush (v := 60) hx hb dL_pulse_35 (by decide) ?_
        refine lv_icmp_ne (tgt := 44) hx hb dL_pulse_37 (by decide) (fun c_37 => ?_) (fun c_37 => ?_)
        · -- 37 taken
          exact absurd c_17 c_37
        · -- 37 not taken
          refine lv_iconst (v := 1) hx hb dL_pulse_40 rfl ?_
          refine lv_goto (tgt := 45) hx hb dL_pulse_41 (by decide) ?_
          exact qRz hx hb hr hlk rfl hP hK hS dL_pulse_45 rfl (by unfold lpS; rw [if_pos hf])
  obtain ⟨y, hy⟩ : ∃ y, y = (s_pulse z v w).2 := ⟨_, rfl⟩
  have hIy : qInv y := by rw [hy]; exact inv_pulse hI v w
  have hp1 := (pulse_eq2 hv hw hon hf).1
  have hpk := pulse_pack hI hv hw hon hf
  rw [← hy] at hpk
  obtain ⟨k1, k2, k3, k4, k5, k6, k7, k8, k9, k10, k11⟩ := hpk
  obtain ⟨s1, s2, s3, s4, s5⟩ := puS_p z v w
  obtain ⟨m1, m2, m3, m4, m5, m6⟩ := pulse_lim hI hv hn
  have hiy := inH_congr k1
  have hpy : pOk y (inH z) = true := by have h9 := pOk_inH (z := y) (by rw [hiy]; exact hn); rw [hiy] at h9; exact h9
  have hh := rd_has (inv_rc hI) k3
  rw [← k9] at s1 s2 s4
  have s3 : ∀ j, ¬ j = 6 → ¬ j = 1 → ¬ j = 2 → y (10 + ix (inH z)) j = z (10 + ix (inH z)) j := fun j a1 a2 a3 => by rw [k9]; exact s3 j a1 a2 a3
  obtain ⟨u, hu⟩ : ∃ u, u = uF z (10 + ix (inH z)) v := ⟨_, rfl⟩
  obtain ⟨am, ham⟩ : ∃ am, am = ampF z (10 + ix (inH z)) (uF z (10 + ix (inH z)) v) := ⟨_, rfl⟩
  obtain ⟨ru, hrue⟩ : ∃ ru, ru = ruF z (10 + ix (inH z)) (uF z (10 + ix (inH z)) v) v := ⟨_, rfl⟩
  obtain ⟨td, htd⟩ : ∃ td, td = tldF (puX z v) (puU z v) (puA z v) := ⟨_, rfl⟩
  obtain ⟨oa, hoa⟩ : ∃ oa, oa = puA z v := ⟨_, rfl⟩
  rw [← htd] at k5 m2
  rw [← hoa] at k6 m1 s4
  have tail472 : ∀ (_ : True), ∀ (H : Heap) (locs : List Loc), va_P g.1 vwCl ((WX g ad) y) H → va_S (adOf 15 ad) s.heap H locs → ∀ ls : Array Slot, lv_has ls 20 [(0, .ref (ad 0)), (1, .int v), (2, .int w), (3, .int (inH z)), (4, .int (z 0 3)), (5, .int (bI (fwdB z (10 + ix (inH z))))), (12, .int td), (13, .int oa)] → W p l e (rmL 8) s m args below meth c H locs 0 0 (MQ below (va_Qi (fun q9 u9 => q9 = 1 ∧ u9 = lpS z v w) (qU g (WX g ad)) (adOf 15 ad)) args s 0 0 (adOf 15 ad)) (F0 m 472 ls []) := by
    intro _ H locs hP hS ls hl
    refine lv_aload_n hx hb dL_pulse_472 rfl (lv_at hl 0 rfl) ?_
    refine lv_iload_n hx hb dL_pulse_473 rfl (lv_at hl 3 rfl) ?_
    refine lv_iconst (v := 2) hx hb dL_pulse_474 rfl ?_
    refine qVi (As := [.int (inH z), .int 2]) (rest := []) hx hb hml hown hts (kX3_ofPart l g y hj (inH z) 2) gL_pulse_X3_ofPart rfl 2 hdX3_ofPart rfl ⟨Nat.le_of_ble_eq_true rfl, Nat.le_of_ble_eq_true rfl⟩ ⟨Nat.zero_le _, Nat.zero_le _⟩ hK hP hS (fun _ h => h) 0 3 rfl rfl rfl hl.1 rfl (Nat.le_of_ble_eq_true rfl) dL_pulse_475 (fun H locs hP hS => ?_)
    refine lv_nm (y := z (10 + ix (inH z)) 5) ((ofp_2 hpy).trans (s3 5 (by decide) (by decide) (by decide))) ?_
    refine lv_iconst (v := 3) hx hb dL_pulse_478 rfl ?_
    refine lv_icmp_ne (tgt := 509) hx hb dL_pulse_479 (by decide) (fun c_479 => ?_) (fun c_479 => ?_)
    · -- 479 taken
      refine lv_iconst (v := 0) hx hb dL_pulse_509 rfl ?_
      refine lv_istore (lv' := [(14, .int 0), (0, .ref (ad 0)), (1, .int v), (2, .int w), (3, .int (inH z)), (4, .int (z 0 3)), (5, .int (bI (fwdB z (10 + ix (inH z))))), (12, .int td), (13, .int oa)]) hx hb dL_pulse_510 hl (by decide) rfl (fun ls hl => ?_)
      refine lv_iload hx hb dL_pulse_512 (lv_at hl 8 rfl) ?_
      refine qSi (As := [.int oa]) (rest := []) hx hb hml hown hts (kL_size l g (Wd := (WX g ad)) (A := (adOf 15 ad)) y oa) gL_pulse_L_size rfl 1 hdL_size rfl ⟨Nat.le_of_ble_eq_true rfl, Nat.le_of_ble_eq_true rfl⟩ ⟨Nat.zero_le _, Nat.zero_le _⟩ hK hP hS (fun _ h => h) hl.1 rfl (Nat.le_of_ble_eq_true rfl) dL_pulse_514 (fun H locs hP hS => ?_)
      refine lv_aload_n hx hb dL_pulse_517 rfl (lv_at hl 1 rfl) ?_
      refine lv_iconst (v := 3) hx hb dL_pulse_518 rfl ?_
      refine qVi (As := [.int 3]) (rest := [.int (absI oa)]) hx hb hml hown hts (kX3_now l g y hj 3) gL_pulse_X3_now rfl 1 hdX3_now rfl ⟨Nat.le_of_ble_eq_true rfl, Nat.le_of_ble_eq_true rfl⟩ ⟨Nat.zero_le _, Nat.zero_le _⟩ hK hP hS (fun _ h => h) 0 3 rfl rfl rfl hl.1 rfl (Nat.le_of_ble_eq_true rfl) dL_pulse_519 (fun H locs hP hS => ?_)
      refine lv_nm (y := z 0 1) ((now_3 y).trans k1.2.1) ?_
      refine lv_icmp_gt (tgt := 556) hx hb dL_pulse_522 (by decide) (fun c_522 => ?_) (fun c_522 => ?_)
      · -- 522 taken
        have c_522n := i_lt_t c_522
        exact absurd c_522 (i_le_t m1)
      · -- 522 not taken
        have c_522n := i_lt_f c_522
        refine lv_iload hx hb dL_pulse_525 (lv_at hl 7 rfl) ?_
        refine qSi (As := [.int td]) (rest := []) hx hb hml hown hts (kL_size l g (Wd := (WX g ad)) (A := (adOf 15 ad)) y td) gL_pulse_L_size rfl 1 hdL_size rfl ⟨Nat.le_of_ble_eq_true rfl, Nat.le_of_ble_eq_true rfl⟩ ⟨Nat.zero_le _, Nat.zero_le _⟩ hK hP hS (fun _ h => h) hl.1 rfl (Nat.le_of_ble_eq_true rfl) dL_pulse_527 (fun H locs hP hS => ?_)
        refine lv_iload_n hx hb dL_pulse_530 rfl (lv_at hl 2 rfl) ?_
        refine qSi (As := [.int v]) (rest := [.int (absI td)]) hx hb hml hown hts (kL_size l g (Wd := (WX g ad)) (A := (adOf 15 ad)) y v) gL_pulse_L_size rfl 1 hdL_size rfl ⟨Nat.le_of_ble_eq_true rfl, Nat.le_of_ble_eq_true rfl⟩ ⟨Nat.zero_le _, Nat.zero_le _⟩ hK hP hS (fun _ h => h) hl.1 rfl (Nat.le_of_ble_eq_true rfl) dL_pulse_531 (fun H locs hP hS => ?_)
        refine lv_icmp_gt (tgt := 556) hx hb dL_pulse_534 (by decide) (fun c_534 => ?_) (fun c_534 => ?_)
        · -- 534 taken
          have c_534n := i_lt_t c_534
          exact absurd c_534 (i_le_t m2)
        · -- 534 not taken
          have c_534n := i_lt_f c_534
          refine lv_iload hx hb dL_pulse_537 (lv_at hl 0 rfl) ?_
          refine lv_if_eq (tgt := 552) hx hb dL_pulse_539 (by decide) (fun c_539 => ?_) (fun c_539 => ?_)
          · -- 539 taken
            refine lv_iconst (v := 1) hx hb dL_pulse_552 rfl ?_
            refine lv_goto (tgt := 557) hx hb dL_pulse_553 (by decide) ?_
            exact qRz hx hb hr hlk rfl hP hK hS dL_pulse_557 rfl (by unfold lpS; rw [if_neg hf]; exact hy)
          · -- 539 not taken
            exact absurd rfl c_539
    · -- 479 not taken
      refine lv_iload hx hb dL_pulse_482 (lv_at hl 5 rfl) ?_
      refine lv_if_eq (tgt := 492) hx hb dL_pulse_484 (by decide) (fun c_484 => ?_) (fun c_484 => ?_)
      · -- 484 taken
        have c_484 := bI_0 c_484
        refine lv_iload hx hb dL_pulse_492 (lv_at hl 7 rfl) ?_
        refine lv_ineg hx hb dL_pulse_494 ?_
        refine lv_aload_n hx hb dL_pulse_495 rfl (lv_at hl 0 rfl) ?_
        refine lv_iload_n hx hb dL_pulse_496 rfl (lv_at hl 3 rfl) ?_
        refine lv_bipush (v := 13) hx hb dL_pulse_497 (by decide) ?_
        refine qVi (As := [.int (inH z), .int 13]) (rest := [.int (-oa)]) hx hb hml hown hts (kX3_ofPart l g y hj (inH z) 13) gL_pulse_X3_ofPart rfl 2 hdX3_ofPart rfl ⟨Nat.le_of_ble_eq_true rfl, Nat.le_of_ble_eq_true rfl⟩ ⟨Nat.zero_le _, Nat.zero_le _⟩ hK hP hS (fun _ h => h) 0 3 rfl rfl rfl hl.1 rfl (Nat.le_of_ble_eq_true rfl) dL_pulse_499 (fun H locs hP hS => ?_)
        refine lv_nm (y := z (10 + ix (inH z)) 10) ((ofp_13 hpy).trans (s3 10 (by decide) (by decide) (by decide))) ?_
        refine lv_icmp_ge (tgt := 509) hx hb dL_pulse_502 (by decide) (fun c_502 => ?_) (fun c_502 => ?_)
        · -- 502 taken
          have c_502n := i_le_t c_502
          refine lv_iconst (v := 0) hx hb dL_pulse_509 rfl ?_
          refine lv_istore (lv' := [(14, .int 0), (0, .ref (ad 0)), (1, .int v), (2, .int w), (3, .int (inH z)), (4, .int (z 0 3)), (5, .int (bI (fwdB z (10 + ix (inH z))))), (12, .int td), (13, .int oa)]) hx hb dL_pulse_510 hl (by decide) rfl (fun ls hl => ?_)
          refine lv_iload hx hb dL_pulse_512 (lv_at hl 8 rfl) ?_
          refine qSi (As := [.int oa]) (rest := []) hx hb hml hown hts (kL_size l g (Wd := (WX g ad)) (A := (adOf 15 ad)) y oa) gL_pulse_L_size rfl 1 hdL_size rfl ⟨Nat.le_of_ble_eq_true rfl, Nat.le_of_ble_eq_true rfl⟩ ⟨Nat.zero_le _, Nat.zero_le _⟩ hK hP hS (fun _ h => h) hl.1 rfl (Nat.le_of_ble_eq_true rfl) dL_pulse_514 (fun H locs hP hS => ?_)
          refine lv_aload_n hx hb dL_pulse_517 rfl (lv_at hl 1 rfl) ?_
          refine lv_iconst (v := 3) hx hb dL_pulse_518 rfl ?_
          refine qVi (As := [.int 3]) (rest := [.int (absI oa)]) hx hb hml hown hts (kX3_now l g y hj 3) gL_pulse_X3_now rfl 1 hdX3_now rfl ⟨Nat.le_of_ble_eq_true rfl, Nat.le_of_ble_eq_true rfl⟩ ⟨Nat.zero_le _, Nat.zero_le _⟩ hK hP hS (fun _ h => h) 0 3 rfl rfl rfl hl.1 rfl (Nat.le_of_ble_eq_true rfl) dL_pulse_519 (fun H locs hP hS => ?_)
          refine lv_nm (y := z 0 1) ((now_3 y).trans k1.2.1) ?_
          refine lv_icmp_gt (tgt := 556) hx hb dL_pulse_522 (by decide) (fun c_522 => ?_) (fun c_522 => ?_)
          · -- 522 taken
            have c_522n := i_lt_t c_522
            exact absurd c_522 (i_le_t m1)
          · -- 522 not taken
            have c_522n := i_lt_f c_522
            refine lv_iload hx hb dL_pulse_525 (lv_at hl 7 rfl) ?_
            refine qSi (As := [.int td]) (rest := []) hx hb hml hown hts (kL_size l g (Wd := (WX g ad)) (A := (adOf 15 ad)) y td) gL_pulse_L_size rfl 1 hdL_size rfl ⟨Nat.le_of_ble_eq_true rfl, Nat.le_of_ble_eq_true rfl⟩ ⟨Nat.zero_le _, Nat.zero_le _⟩ hK hP hS (fun _ h => h) hl.1 rfl (Nat.le_of_ble_eq_true rfl) dL_pulse_527 (fun H locs hP hS => ?_)
            refine lv_iload_n hx hb dL_pulse_530 rfl (lv_at hl 2 rfl) ?_
            refine qSi (As := [.int v]) (rest := [.int (absI td)]) hx hb hml hown hts (kL_size l g (Wd := (WX g ad)) (A := (adOf 15 ad)) y v) gL_pulse_L_size rfl 1 hdL_size rfl ⟨Nat.le_of_ble_eq_true rfl, Nat.le_of_ble_eq_true rfl⟩ ⟨Nat.zero_le _, Nat.zero_le _⟩ hK hP hS (fun _ h => h) hl.1 rfl (Nat.le_of_ble_eq_true rfl) dL_pulse_531 (fun H locs hP hS => ?_)
            refine lv_icmp_gt (tgt := 556) hx hb dL_pulse_534 (by decide) (fun c_534 => ?_) (fun c_534 => ?_)
            · -- 534 taken
              have c_534n := i_lt_t c_534
              exact absurd c_534 (i_le_t m2)
            · -- 534 not taken
              have c_534n := i_lt_f c_534
              refine lv_iload hx hb dL_pulse_537 (lv_at hl 0 rfl) ?_
              refine lv_if_eq (tgt := 552) hx hb dL_pulse_539 (by decide) (fun c_539 => ?_) (fun c_539 => ?_)
              · -- 539 taken
                refine lv_iconst (v := 1) hx hb dL_pulse_552 rfl ?_
                refine lv_goto (tgt := 557) hx hb dL_pulse_553 (by decide) ?_
                exact qRz hx hb hr hlk rfl hP hK hS dL_pulse_557 rfl (by unfold lpS; rw [if_neg hf]; exact hy)
              · -- 539 not taken
                exact absurd rfl c_539
        · -- 502 not taken
          have c_502n := i_le_f c_502
          have hsh := s4 c_479 (by rw [own_f c_484]; exact c_502n)
          refine lv_iconst (v := 1) hx hb dL_pulse_505 rfl ?_
          refine lv_goto (tgt := 510) hx hb dL_pulse_506 (by decide) ?_
          refine lv_istore (lv' := [(14, .int 1), (0, .ref (ad 0)), (1, .int v), (2, .int w), (3, .int (inH z)), (4, .int (z 0 3)), (5, .int (bI (fwdB z (10 + ix (inH z))))), (12, .int td), (13, .int oa)]) hx hb dL_pulse_510 hl (by decide) rfl (fun ls hl => ?_)
          refine lv_iload hx hb dL_pulse_512 (lv_at hl 8 rfl) ?_
          refine qSi (As := [.int oa]) (rest := []) hx hb hml hown hts (kL_size l g (Wd := (WX g ad)) (A := (adOf 15 ad)) y oa) gL_pulse_L_size rfl 1 hdL_size rfl ⟨Nat.le_of_ble_eq_true rfl, Nat.le_of_ble_eq_true rfl⟩ ⟨Nat.zero_le _, Nat.zero_le _⟩ hK hP hS (fun _ h => h) hl.1 rfl (Nat.le_of_ble_eq_true rfl) dL_pulse_514 (fun H locs hP hS => ?_)
          refine lv_aload_n hx hb dL_pulse_517 rfl (lv_at hl 1 rfl) ?_
          refine lv_iconst (v := 3) hx hb dL_pulse_518 rfl ?_
          refine qVi (As := [.int 3]) (rest := [.int (absI oa)]) hx hb hml hown hts (kX3_now l g y hj 3) gL_pulse_X3_now rfl 1 hdX3_now rfl ⟨Nat.le_of_ble_eq_true rfl, Nat.le_of_ble_eq_true rfl⟩ ⟨Nat.zero_le _, Nat.zero_le _⟩ hK hP hS (fun _ h => h) 0 3 rfl rfl rfl hl.1 rfl (Nat.le_of_ble_eq_true rfl) dL_pulse_519 (fun H locs hP hS => ?_)
          refine lv_nm (y := z 0 1) ((now_3 y).trans k1.2.1) ?_
          refine lv_icmp_gt (tgt := 556) hx hb dL_pulse_522 (by decide) (fun c_522 => ?_) (fun c_522 => ?_)
          · -- 522 taken
            have c_522n := i_lt_t c_522
            exact absurd c_522 (i_le_t m1)
          · -- 522 not taken
            have c_522n := i_lt_f c_522
            refine lv_iload hx hb dL_pulse_525 (lv_at hl 7 rfl) ?_
            refine qSi (As := [.int td]) (rest := []) hx hb hml hown hts (kL_size l g (Wd := (WX g ad)) (A := (adOf 15 ad)) y td) gL_pulse_L_size rfl 1 hdL_size rfl ⟨Nat.le_of_ble_eq_true rfl, Nat.le_of_ble_eq_true rfl⟩ ⟨Nat.zero_le _, Nat.zero_le _⟩ hK hP hS (fun _ h => h) hl.1 rfl (Nat.le_of_ble_eq_true rfl) dL_pulse_527 (fun H locs hP hS => ?_)
            refine lv_iload_n hx hb dL_pulse_530 rfl (lv_at hl 2 rfl) ?_
            refine qSi (As := [.int v]) (rest := [.int (absI td)]) hx hb hml hown hts (kL_size l g (Wd := (WX g ad)) (A := (adOf 15 ad)) y v) gL_pulse_L_size rfl 1 hdL_size rfl ⟨Nat.le_of_ble_eq_true rfl, Nat.le_of_ble_eq_true rfl⟩ ⟨Nat.zero_le _, Nat.zero_le _⟩ hK hP hS (fun _ h => h) hl.1 rfl (Nat.le_of_ble_eq_true rfl) dL_pulse_531 (fun H locs hP hS => ?_)
            refine lv_icmp_gt (tgt := 556) hx hb dL_pulse_534 (by decide) (fun c_534 => ?_) (fun c_534 => ?_)
            · -- 534 taken
              have c_534n := i_lt_t c_534
              exact absurd c_534 (i_le_t m2)
            · -- 534 not taken
              have c_534n := i_lt_f c_534
              refine lv_iload hx hb dL_pulse_537 (lv_at hl 0 rfl) ?_
              refine lv_if_eq (tgt := 552) hx hb dL_pulse_539 (by decide) (fun c_539 => ?_) (fun c_539 => ?_)
              · -- 539 taken
                exact absurd c_539 (by decide)
              · -- 539 not taken
                refine lv_aload_n hx hb dL_pulse_542 rfl (lv_at hl 1 rfl) ?_
                refine lv_iload_n hx hb dL_pulse_543 rfl (lv_at hl 4 rfl) ?_
                refine lv_iconst (v := 5) hx hb dL_pulse_544 rfl ?_
                refine qVi (As := [.int (inH z), .int 5]) (rest := []) hx hb hml hown hts (kX3_ofPart l g y hj (inH z) 5) gL_pulse_X3_ofPart rfl 2 hdX3_ofPart rfl ⟨Nat.le_of_ble_eq_true rfl, Nat.le_of_ble_eq_true rfl⟩ ⟨Nat.zero_le _, Nat.zero_le _⟩ hK hP hS (fun _ h => h) 0 3 rfl rfl rfl hl.1 rfl (Nat.le_of_ble_eq_true rfl) dL_pulse_545 (fun H locs hP hS => ?_)
                refine lv_nm (y := (if y (10 + ix (inH z)) 2 = 0 then 0 else 1)) (ofp_5 hpy) ?_
                refine lv_iconst (v := 1) hx hb dL_pulse_548 rfl ?_
                refine lv_icmp_eq (tgt := 556) hx hb dL_pulse_549 (by decide) (fun c_549 => ?_) (fun c_549 => ?_)
                · -- 549 taken
                  exact absurd (c_549.symm.trans (b01_0.mpr hsh)) (by decide)
                · -- 549 not taken
                  refine lv_iconst (v := 1) hx hb dL_pulse_552 rfl ?_
                  refine lv_goto (tgt := 557) hx hb dL_pulse_553 (by decide) ?_
                  exact qRz hx hb hr hlk rfl hP hK hS dL_pulse_557 rfl (by unfold lpS; rw [if_neg hf]; exact hy)
      · -- 484 not taken
        have c_484 := bI_n c_484
        refine lv_iload hx hb dL_pulse_487 (lv_at hl 7 rfl) ?_
        refine lv_goto (tgt := 495) hx hb dL_pulse_489 (by decide) ?_
        refine lv_aload_n hx hb dL_pulse_495 rfl (lv_at hl 0 rfl) ?_
        refine lv_iload_n hx hb dL_pulse_496 rfl (lv_at hl 3 rfl) ?_
        refine lv_bipush (v := 13) hx hb dL_pulse_497 (by decide) ?_
        refine qVi (As := [.int (inH z), .int 13]) (rest := [.int oa]) hx hb hml hown hts (kX3_ofPart l g y hj (inH z) 13) gL_pulse_X3_ofPart rfl 2 hdX3_ofPart rfl ⟨Nat.le_of_ble_eq_true rfl, Nat.le_of_ble_eq_true rfl⟩ ⟨Nat.zero_le _, Nat.zero_le _⟩ hK hP hS (fun _ h => h) 0 3 rfl rfl rfl hl.1 rfl (Nat.le_of_ble_eq_true rfl) dL_pulse_499 (fun H locs hP hS => ?_)
        refine lv_nm (y := z (10 + ix (inH z)) 10) ((ofp_13 hpy).trans (s3 10 (by decide) (by decide) (by decide))) ?_
        refine lv_icmp_ge (tgt := 509) hx hb dL_pulse_502 (by decide) (fun c_502 => ?_) (fun c_502 => ?_)
        · -- 502 taken
          have c_502n := i_le_t c_502
          refine lv_iconst (v := 0) hx hb dL_pulse_509 rfl ?_
          refine lv_istore (lv' := [(14, .int 0), (0, .ref (ad 0)), (1, .int v), (2, .int w), (3, .int (inH z)), (4, .int (z 0 3)), (5, .int (bI (fwdB z (10 + ix (inH z))))), (12, .int td), (13, .int oa)]) hx hb dL_pulse_510 hl (by decide) rfl (fun ls hl => ?_)
          refine lv_iload hx hb dL_pulse_512 (lv_at hl 8 rfl) ?_
          refine qSi (As := [.int oa]) (rest := []) hx hb hml hown hts (kL_size l g (Wd := (WX g ad)) (A := (adOf 15 ad)) y oa) gL_pulse_L_size rfl 1 hdL_size rfl ⟨Nat.le_of_ble_eq_true rfl, Nat.le_of_ble_eq_true rfl⟩ ⟨Nat.zero_le _, Nat.zero_le _⟩ hK hP hS (fun _ h => h) hl.1 rfl (Nat.le_of_ble_eq_true rfl) dL_pulse_514 (fun H locs hP hS => ?_)
          refine lv_aload_n hx hb dL_pulse_517 rfl (lv_at hl 1 rfl) ?_
          refine lv_iconst (v := 3) hx hb dL_pulse_518 rfl ?_
          refine qVi (As := [.int 3]) (rest := [.int (absI oa)]) hx hb hml hown hts (kX3_now l g y hj 3) gL_pulse_X3_now rfl 1 hdX3_now rfl ⟨Nat.le_of_ble_eq_true rfl, Nat.le_of_ble_eq_true rfl⟩ ⟨Nat.zero_le _, Nat.zero_le _⟩ hK hP hS (fun _ h => h) 0 3 rfl rfl rfl hl.1 rfl (Nat.le_of_ble_eq_true rfl) dL_pulse_519 (fun H locs hP hS => ?_)
          refine lv_nm (y := z 0 1) ((now_3 y).trans k1.2.1) ?_
          refine lv_icmp_gt (tgt := 556) hx hb dL_pulse_522 (by decide) (fun c_522 => ?_) (fun c_522 => ?_)
          · -- 522 taken
            have c_522n := i_lt_t c_522
            exact absurd c_522 (i_le_t m1)
          · -- 522 not taken
            have c_522n := i_lt_f c_522
            refine lv_iload hx hb dL_pulse_525 (lv_at hl 7 rfl) ?_
            refine qSi (As := [.int td]) (rest := []) hx hb hml hown hts (kL_size l g (Wd := (WX g ad)) (A := (adOf 15 ad)) y td) gL_pulse_L_size rfl 1 hdL_size rfl ⟨Nat.le_of_ble_eq_true rfl, Nat.le_of_ble_eq_true rfl⟩ ⟨Nat.zero_le _, Nat.zero_le _⟩ hK hP hS (fun _ h => h) hl.1 rfl (Nat.le_of_ble_eq_true rfl) dL_pulse_527 (fun H locs hP hS => ?_)
            refine lv_iload_n hx hb dL_pulse_530 rfl (lv_at hl 2 rfl) ?_
            refine qSi (As := [.int v]) (rest := [.int (absI td)]) hx hb hml hown hts (kL_size l g (Wd := (WX g ad)) (A := (adOf 15 ad)) y v) gL_pulse_L_size rfl 1 hdL_size rfl ⟨Nat.le_of_ble_eq_true rfl, Nat.le_of_ble_eq_true rfl⟩ ⟨Nat.zero_le _, Nat.zero_le _⟩ hK hP hS (fun _ h => h) hl.1 rfl (Nat.le_of_ble_eq_true rfl) dL_pulse_531 (fun H locs hP hS => ?_)
            refine lv_icmp_gt (tgt := 556) hx hb dL_pulse_534 (by decide) (fun c_534 => ?_) (fun c_534 => ?_)
            · -- 534 taken
              have c_534n := i_lt_t c_534
              exact absurd c_534 (i_le_t m2)
            · -- 534 not taken
              have c_534n := i_lt_f c_534
              refine lv_iload hx hb dL_pulse_537 (lv_at hl 0 rfl) ?_
              refine lv_if_eq (tgt := 552) hx hb dL_pulse_539 (by decide) (fun c_539 => ?_) (fun c_539 => ?_)
              · -- 539 taken
                refine lv_iconst (v := 1) hx hb dL_pulse_552 rfl ?_
                refine lv_goto (tgt := 557) hx hb dL_pulse_553 (by decide) ?_
                exact qRz hx hb hr hlk rfl hP hK hS dL_pulse_557 rfl (by unfold lpS; rw [if_neg hf]; exact hy)
              · -- 539 not taken
                exact absurd rfl c_539
        · -- 502 not taken
          have c_502n := i_le_f c_502
          have hsh := s4 c_479 (by rw [own_t c_484]; exact c_502n)
          refine lv_iconst (v := 1) hx hb dL_pulse_505 rfl ?_
          refine lv_goto (tgt := 510) hx hb dL_pulse_506 (by decide) ?_
          refine lv_istore (lv' := [(14, .int 1), (0, .ref (ad 0)), (1, .int v), (2, .int w), (3, .int (inH z)), (4, .int (z 0 3)), (5, .int (bI (fwdB z (10 + ix (inH z))))), (12, .int td), (13, .int oa)]) hx hb dL_pulse_510 hl (by decide) rfl (fun ls hl => ?_)
          refine lv_iload hx hb dL_pulse_512 (lv_at hl 8 rfl) ?_
          refine qSi (As := [.int oa]) (rest := []) hx hb hml hown hts (kL_size l g (Wd := (WX g ad)) (A := (adOf 15 ad)) y oa) gL_pulse_L_size rfl 1 hdL_size rfl ⟨Nat.le_of_ble_eq_true rfl, Nat.le_of_ble_eq_true rfl⟩ ⟨Nat.zero_le _, Nat.zero_le _⟩ hK hP hS (fun _ h => h) hl.1 rfl (Nat.le_of_ble_eq_true rfl) dL_pulse_514 (fun H locs hP hS => ?_)
          refine lv_aload_n hx hb dL_pulse_517 rfl (lv_at hl 1 rfl) ?_
          refine lv_iconst (v := 3) hx hb dL_pulse_518 rfl ?_
          refine qVi (As := [.int 3]) (rest := [.int (absI oa)]) hx hb hml hown hts (kX3_now l g y hj 3) gL_pulse_X3_now rfl 1 hdX3_now rfl ⟨Nat.le_of_ble_eq_true rfl, Nat.le_of_ble_eq_true rfl⟩ ⟨Nat.zero_le _, Nat.zero_le _⟩ hK hP hS (fun _ h => h) 0 3 rfl rfl rfl hl.1 rfl (Nat.le_of_ble_eq_true rfl) dL_pulse_519 (fun H locs hP hS => ?_)
          refine lv_nm (y := z 0 1) ((now_3 y).trans k1.2.1) ?_
          refine lv_icmp_gt (tgt := 556) hx hb dL_pulse_522 (by decide) (fun c_522 => ?_) (fun c_522 => ?_)
          · -- 522 taken
            have c_522n := i_lt_t c_522
            exact absurd c_522 (i_le_t m1)
          · -- 522 not taken
            have c_522n := i_lt_f c_522
            refine lv_iload hx hb dL_pulse_525 (lv_at hl 7 rfl) ?_
            refine qSi (As := [.int td]) (rest := []) hx hb hml hown hts (kL_size l g (Wd := (WX g ad)) (A := (adOf 15 ad)) y td) gL_pulse_L_size rfl 1 hdL_size rfl ⟨Nat.le_of_ble_eq_true rfl, Nat.le_of_ble_eq_true rfl⟩ ⟨Nat.zero_le _, Nat.zero_le _⟩ hK hP hS (fun _ h => h) hl.1 rfl (Nat.le_of_ble_eq_true rfl) dL_pulse_527 (fun H locs hP hS => ?_)
            refine lv_iload_n hx hb dL_pulse_530 rfl (lv_at hl 2 rfl) ?_
            refine qSi (As := [.int v]) (rest := [.int (absI td)]) hx hb hml hown hts (kL_size l g (Wd := (WX g ad)) (A := (adOf 15 ad)) y v) gL_pulse_L_size rfl 1 hdL_size rfl ⟨Nat.le_of_ble_eq_true rfl, Nat.le_of_ble_eq_true rfl⟩ ⟨Nat.zero_le _, Nat.zero_le _⟩ hK hP hS (fun _ h => h) hl.1 rfl (Nat.le_of_ble_eq_true rfl) dL_pulse_531 (fun H locs hP hS => ?_)
            refine lv_icmp_gt (tgt := 556) hx hb dL_pulse_534 (by decide) (fun c_534 => ?_) (fun c_534 => ?_)
            · -- 534 taken
              have c_534n := i_lt_t c_534
              exact absurd c_534 (i_le_t m2)
            · -- 534 not taken
              have c_534n := i_lt_f c_534
              refine lv_iload hx hb dL_pulse_537 (lv_at hl 0 rfl) ?_
              refine lv_if_eq (tgt := 552) hx hb dL_pulse_539 (by decide) (fun c_539 => ?_) (fun c_539 => ?_)
              · -- 539 taken
                exact absurd c_539 (by decide)
              · -- 539 not taken
                refine lv_aload_n hx hb dL_pulse_542 rfl (lv_at hl 1 rfl) ?_
                refine lv_iload_n hx hb dL_pulse_543 rfl (lv_at hl 4 rfl) ?_
                refine lv_iconst (v := 5) hx hb dL_pulse_544 rfl ?_
                refine qVi (As := [.int (inH z), .int 5]) (rest := []) hx hb hml hown hts (kX3_ofPart l g y hj (inH z) 5) gL_pulse_X3_ofPart rfl 2 hdX3_ofPart rfl ⟨Nat.le_of_ble_eq_true rfl, Nat.le_of_ble_eq_true rfl⟩ ⟨Nat.zero_le _, Nat.zero_le _⟩ hK hP hS (fun _ h => h) 0 3 rfl rfl rfl hl.1 rfl (Nat.le_of_ble_eq_true rfl) dL_pulse_545 (fun H locs hP hS => ?_)
                refine lv_nm (y := (if y (10 + ix (inH z)) 2 = 0 then 0 else 1)) (ofp_5 hpy) ?_
                refine lv_iconst (v := 1) hx hb dL_pulse_548 rfl ?_
                refine lv_icmp_eq (tgt := 556) hx hb dL_pulse_549 (by decide) (fun c_549 => ?_) (fun c_549 => ?_)
                · -- 549 taken
                  exact absurd (c_549.symm.trans (b01_0.mpr hsh)) (by decide)
                · -- 549 not taken
                  refine lv_iconst (v := 1) hx hb dL_pulse_552 rfl ?_
                  refine lv_goto (tgt := 557) hx hb dL_pulse_553 (by decide) ?_
                  exact qRz hx hb hr hlk rfl hP hK hS dL_pulse_557 rfl (by unfold lpS; rw [if_neg hf]; exact hy)
  have tail236 : ∀ (_ : True), ¬ snB (z (10 + ix (inH z))) (ownd z (10 + ix (inH z)) u) = true → ∀ (H : Heap) (locs : List Loc), va_P g.1 vwCl ((WX g ad) y) H → va_S (adOf 15 ad) s.heap H locs → ∀ ls : Array Slot, lv_has ls 20 [(0, .ref (ad 0)), (1, .int v), (2, .int w), (3, .int (inH z)), (4, .int (z 0 3)), (5, .int (bI (fwdB z (10 + ix (inH z))))), (6, .int u), (7, .int (bI (snB (z (10 + ix (inH z))) (ownd z (10 + ix (inH z)) u)))), (8, .int am), (9, .int (z (10 + ix (inH z)) 6)), (10, .int (if z (10 + ix (inH z)) 1 = 0 then 0 else 1)), (11, .int ru), (12, .int td), (13, .int oa)] → W p l e (rmL 8) s m args below meth c H locs 0 0 (MQ below (va_Qi (fun q9 u9 => q9 = 1 ∧ u9 = lpS z v w) (qU g (WX g ad)) (adOf 15 ad)) args s 0 0 (adOf 15 ad)) (F0 m 236 ls []) := by
    intro _ hno H locs hP hS ls hl
    have E := puX_no (z := z) (v := v) (by rw [← hu]; exact hno)
    have eU : puU z v = u := by rw [hu]; exact uF_c E v
    have eA : puA z v = am := by unfold puA; rw [eU, ham, amp_c E, hu]
    have eW : puW z v w = wldF (z (10 + ix (inH z)) 6) u am w := by unfold puW; rw [eU, eA]
    have eR : y 5 (ix (z 0 3)) = ru := by rw [k7, eU, ru_c E, hrue, hu]
    obtain ⟨th, hth⟩ : ∃ th, th = (z (10 + ix (inH z)) 6).toInt64 + (absI u).toInt64 * (absI am).toInt64 * w.toInt64 / 500000 := ⟨_, rfl⟩
    have ht := then_pack (h := z (10 + ix (inH z)) 6) (u := u) (a := am) (w := w) (inv_p hI _ hi4).2.2.2.2.2.2.1 (by rw [← eU]; exact m3) (by rw [← eU]; exact m4) (by rw [← eA]; exact m5) (by rw [← eA]; exact m6) hw
    rw [← hth, ← eW] at ht
    have tail316 : ∀ (dd : Int32), td = u + dd → ∀ (H : Heap) (locs : List Loc), va_P g.1 vwCl ((WX g ad) y) H → va_S (adOf 15 ad) s.heap H locs → ∀ ls : Array Slot, lv_has ls 20 [(0, .ref (ad 0)), (1, .int v), (2, .int w), (3, .int (inH z)), (4, .int (z 0 3)), (5, .int (bI (fwdB z (10 + ix (inH z))))), (6, .int u), (7, .int (bI (snB (z (10 + ix (inH z))) (ownd z (10 + ix (inH z)) u)))), (8, .int am), (9, .int (z (10 + ix (inH z)) 6)), (10, .int (if z (10 + ix (inH z)) 1 = 0 then 0 else 1)), (11, .int ru), (12, .int td), (13, .int oa), (16, .long th), (18, .int (bI (puB z v w))), (19, .int dd)] → W p l e (rmL 8) s m args below meth c H locs 0 0 (MQ below (va_Qi (fun q9 u9 => q9 = 1 ∧ u9 = lpS z v w) (qU g (WX g ad)) (adOf 15 ad)) args s 0 0 (adOf 15 ad)) (F0 m 316 ls []) := by
      intro dd hdd H locs hP hS ls hl
      refine lv_iload hx hb dL_pulse_316 (lv_at hl 13 rfl) ?_
      refine lv_iload hx hb dL_pulse_318 (lv_at hl 8 rfl) ?_
      refine lv_icmp_ne (tgt := 392) hx hb dL_pulse_320 (by decide) (fun c_320 => ?_) (fun c_320 => ?_)
      · -- 320 taken
        exact absurd (hoa.trans eA) c_320
      · -- 320 not taken
        refine lv_iload hx hb dL_pulse_323 (lv_at hl 12 rfl) ?_
        refine lv_iload hx hb dL_pulse_325 (lv_at hl 6 rfl) ?_
        refine lv_iload hx hb dL_pulse_327 (lv_at hl 16 rfl) ?_
        refine lv_iadd hx hb dL_pulse_329 ?_
        refine lv_icmp_ne (tgt := 392) hx hb dL_pulse_330 (by decide) (fun c_330 => ?_) (fun c_330 => ?_)
        · -- 330 taken
          exact absurd hdd c_330
        · -- 330 not taken
          refine lv_aload_n hx hb dL_pulse_333 rfl (lv_at hl 0 rfl) ?_
          refine lv_iload hx hb dL_pulse_334 (lv_at hl 4 rfl) ?_
          refine lv_iconst (v := 3) hx hb dL_pulse_336 rfl ?_
          refine qVi (As := [.int (z 0 3), .int 3]) (rest := []) hx hb hml hown hts (kX3_reading l g y hj hIy (z 0 3) 3) gL_pulse_X3_reading rfl 2 hdX3_reading rfl ⟨Nat.le_of_ble_eq_true rfl, Nat.le_of_ble_eq_true rfl⟩ ⟨Nat.zero_le _, Nat.zero_le _⟩ hK hP hS (fun _ h => h) 0 3 rfl rfl rfl hl.1 rfl (Nat.le_of_ble_eq_true rfl) dL_pulse_337 (fun H locs hP hS => ?_)
          refine lv_nm (y := ru) ((rdg_3 hh).trans eR) ?_
          refine lv_iload hx hb dL_pulse_340 (lv_at hl 11 rfl) ?_
          refine lv_icmp_ne (tgt := 392) hx hb dL_pulse_342 (by decide) (fun c_342 => ?_) (fun c_342 => ?_)
          · -- 342 taken
            exact absurd rfl c_342
          · -- 342 not taken
            refine lv_aload_n hx hb dL_pulse_345 rfl (lv_at hl 0 rfl) ?_
            refine lv_iload_n hx hb dL_pulse_346 rfl (lv_at hl 3 rfl) ?_
            refine lv_iconst (v := 3) hx hb dL_pulse_347 rfl ?_
            refine qVi (As := [.int (inH z), .int 3]) (rest := []) hx hb hml hown hts (kX3_ofPart l g y hj (inH z) 3) gL_pulse_X3_ofPart rfl 2 hdX3_ofPart rfl ⟨Nat.le_of_ble_eq_true rfl, Nat.le_of_ble_eq_true rfl⟩ ⟨Nat.zero_le _, Nat.zero_le _⟩ hK hP hS (fun _ h => h) 0 3 rfl rfl rfl hl.1 rfl (Nat.le_of_ble_eq_true rfl) dL_pulse_348 (fun H locs hP hS => ?_)
            refine lv_nm (y := minI (puW z v w) 1000) ((ofp_3 hpy).trans s1) ?_
            refine lv_lload hx hb dL_pulse_351 (lv_at hl 14 rfl) ?_
            refine lv_ldc2 (v := 999) hx hb hown (hts (.constantLong RL 52 (999)) (by decide +kernel)) dL_pulse_353 ?_
            refine W.lcmp hx hb dL_pulse_356 ?_
            refine lv_if_le (tgt := 366) hx hb dL_pulse_357 (by decide) (fun c_357 => ?_) (fun c_357 => ?_)
            · -- 357 taken
              rw [lg_cmp_le] at c_357
              refine lv_lload hx hb dL_pulse_366 (lv_at hl 14 rfl) ?_
              refine lv_l2i hx hb dL_pulse_368 rfl ?_
              refine lv_nm (y := puW z v w) ht.1 ?_
              refine lv_icmp_ne (tgt := 392) hx hb dL_pulse_369 (by decide) (fun c_369 => ?_) (fun c_369 => ?_)
              · -- 369 taken
                exact absurd (minW_1 (Classical.not_not.mp (fun q => (l_le_t c_357) (ht.2.mpr q)))) c_369
              · -- 369 not taken
                refine lv_aload_n hx hb dL_pulse_372 rfl (lv_at hl 0 rfl) ?_
                refine lv_iload_n hx hb dL_pulse_373 rfl (lv_at hl 3 rfl) ?_
                refine lv_iconst (v := 4) hx hb dL_pulse_374 rfl ?_
                refine qVi (As := [.int (inH z), .int 4]) (rest := []) hx hb hml hown hts (kX3_ofPart l g y hj (inH z) 4) gL_pulse_X3_ofPart rfl 2 hdX3_ofPart rfl ⟨Nat.le_of_ble_eq_true rfl, Nat.le_of_ble_eq_true rfl⟩ ⟨Nat.zero_le _, Nat.zero_le _⟩ hK hP hS (fun _ h => h) 0 3 rfl rfl rfl hl.1 rfl (Nat.le_of_ble_eq_true rfl) dL_pulse_375 (fun H locs hP hS => ?_)
                refine lv_nm (y := (if y (10 + ix (inH z)) 1 = 0 then 0 else 1)) (ofp_4 hpy) ?_
                refine lv_iload hx hb dL_pulse_378 (lv_at hl 15 rfl) ?_
                refine lv_if_eq (tgt := 387) hx hb dL_pulse_380 (by decide) (fun c_380 => ?_) (fun c_380 => ?_)
                · -- 380 taken
                  have c_380 := bI_0 c_380
                  refine lv_iload hx hb dL_pulse_387 (lv_at hl 10 rfl) ?_
                  refine lv_icmp_eq (tgt := 394) hx hb dL_pulse_389 (by decide) (fun c_389 => ?_) (fun c_389 => ?_)
                  · -- 389 taken
                    refine lv_iload hx hb dL_pulse_394 (lv_at hl 15 rfl) ?_
                    refine lv_if_eq (tgt := 459) hx hb dL_pulse_396 (by decide) (fun c_396 => ?_) (fun c_396 => ?_)
                    · -- 396 taken
                      have c_396 := bI_0 c_396
                      refine lv_aload_n hx hb dL_pulse_459 rfl (lv_at hl 0 rfl) ?_
                      refine lv_iconst (v := 0) hx hb dL_pulse_460 rfl ?_
                      refine lv_iconst (v := 0) hx hb dL_pulse_461 rfl ?_
                      refine qVi (As := [.int 0, .int 0]) (rest := []) hx hb hml hown hts (kX3_why l g y hj 0 0) gL_pulse_X3_why rfl 2 hdX3_why rfl ⟨Nat.le_of_ble_eq_true rfl, Nat.le_of_ble_eq_true rfl⟩ ⟨Nat.zero_le _, Nat.zero_le _⟩ hK hP hS (fun _ h => h) 0 3 rfl rfl rfl hl.1 rfl (Nat.le_of_ble_eq_true rfl) dL_pulse_462 (fun H locs hP hS => ?_)
                      refine lv_nm (y := (-9)) (k11 (by rw [c_396]; decide)) ?_
                      refine lv_bipush (v := -9) hx hb dL_pulse_465 (by decide) ?_
                      refine lv_icmp_eq (tgt := 472) hx hb dL_pulse_467 (by decide) (fun c_467 => ?_) (fun c_467 => ?_)
                      · -- 467 taken
                        exact tail472 trivial _ _ hP hS ls (lv_sub hl [0, 1, 2, 3, 4, 5, 12, 13] rfl)
                      · -- 467 not taken
                        exact absurd rfl c_467
                    · -- 396 not taken
                      have c_396 := bI_n c_396
                      exact absurd (c_380.symm.trans c_396) (by decide)
                  · -- 389 not taken
                    exact absurd (by rw [s2, if_neg (show ¬ puB z v w = true by rw [c_380]; decide)]) c_389
                · -- 380 not taken
                  have c_380 := bI_n c_380
                  refine lv_iconst (v := 1) hx hb dL_pulse_383 rfl ?_
                  refine lv_goto (tgt := 389) hx hb dL_pulse_384 (by decide) ?_
                  refine lv_icmp_eq (tgt := 394) hx hb dL_pulse_389 (by decide) (fun c_389 => ?_) (fun c_389 => ?_)
                  · -- 389 taken
                    refine lv_iload hx hb dL_pulse_394 (lv_at hl 15 rfl) ?_
                    refine lv_if_eq (tgt := 459) hx hb dL_pulse_396 (by decide) (fun c_396 => ?_) (fun c_396 => ?_)
                    · -- 396 taken
                      have c_396 := bI_0 c_396
                      exact absurd (c_380.symm.trans c_396) (by decide)
                    · -- 396 not taken
                      have c_396 := bI_n c_396
                      refine lv_aload_n hx hb dL_pulse_399 rfl (lv_at hl 0 rfl) ?_
                      refine lv_iconst (v := 0) hx hb dL_pulse_400 rfl ?_
                      refine lv_iconst (v := 0) hx hb dL_pulse_401 rfl ?_
                      refine qVi (As := [.int 0, .int 0]) (rest := []) hx hb hml hown hts (kX3_why l g y hj 0 0) gL_pulse_X3_why rfl 2 hdX3_why rfl ⟨Nat.le_of_ble_eq_true rfl, Nat.le_of_ble_eq_true rfl⟩ ⟨Nat.zero_le _, Nat.zero_le _⟩ hK hP hS (fun _ h => h) 0 3 rfl rfl rfl hl.1 rfl (Nat.le_of_ble_eq_true rfl) dL_pulse_402 (fun H locs hP hS => ?_)
                      refine lv_nm (y := 2) (k10 c_396).1 ?_
                      refine lv_iconst (v := 2) hx hb dL_pulse_405 rfl ?_
                      refine lv_icmp_ne (tgt := 470) hx hb dL_pulse_406 (by decide) (fun c_406 => ?_) (fun c_406 => ?_)
                      · -- 406 taken
                        exact absurd rfl c_406
                      · -- 406 not taken
                        refine lv_aload_n hx hb dL_pulse_409 rfl (lv_at hl 0 rfl) ?_
                        refine lv_iconst (v := 0) hx hb dL_pulse_410 rfl ?_
                        refine lv_iconst (v := 1) hx hb dL_pulse_411 rfl ?_
                        refine qVi (As := [.int 0, .int 1]) (rest := []) hx hb hml hown hts (kX3_why l g y hj 0 1) gL_pulse_X3_why rfl 2 hdX3_why rfl ⟨Nat.le_of_ble_eq_true rfl, Nat.le_of_ble_eq_true rfl⟩ ⟨Nat.zero_le _, Nat.zero_le _⟩ hK hP hS (fun _ h => h) 0 3 rfl rfl rfl hl.1 rfl (Nat.le_of_ble_eq_true rfl) dL_pulse_412 (fun H locs hP hS => ?_)
                        refine lv_nm (y := inH z) (k10 c_396).2.1 ?_
                        refine lv_iload_n hx hb dL_pulse_415 rfl (lv_at hl 3 rfl) ?_
                        refine lv_icmp_ne (tgt := 470) hx hb dL_pulse_416 (by decide) (fun c_416 => ?_) (fun c_416 => ?_)
                        · -- 416 taken
                          exact absurd rfl c_416
                        · -- 416 not taken
                          refine lv_aload_n hx hb dL_pulse_419 rfl (lv_at hl 0 rfl) ?_
                          refine lv_iconst (v := 1) hx hb dL_pulse_420 rfl ?_
                          refine lv_iconst (v := 0) hx hb dL_pulse_421 rfl ?_
                          refine qVi (As := [.int 1, .int 0]) (rest := []) hx hb hml hown hts (kX3_why l g y hj 1 0) gL_pulse_X3_why rfl 2 hdX3_why rfl ⟨Nat.le_of_ble_eq_true rfl, Nat.le_of_ble_eq_true rfl⟩ ⟨Nat.zero_le _, Nat.zero_le _⟩ hK hP hS (fun _ h => h) 0 3 rfl rfl rfl hl.1 rfl (Nat.le_of_ble_eq_true rfl) dL_pulse_422 (fun H locs hP hS => ?_)
                          refine lv_nm (y := 3) (k10 c_396).2.2.1 ?_
                          refine lv_iconst (v := 3) hx hb dL_pulse_425 rfl ?_
                          refine lv_icmp_ne (tgt := 470) hx hb dL_pulse_426 (by decide) (fun c_426 => ?_) (fun c_426 => ?_)
                          · -- 426 taken
                            exact absurd rfl c_426
                          · -- 426 not taken
                            refine lv_aload_n hx hb dL_pulse_429 rfl (lv_at hl 0 rfl) ?_
                            refine lv_iconst (v := 1) hx hb dL_pulse_430 rfl ?_
                            refine lv_iconst (v := 1) hx hb dL_pulse_431 rfl ?_
                            refine qVi (As := [.int 1, .int 1]) (rest := []) hx hb hml hown hts (kX3_why l g y hj 1 1) gL_pulse_X3_why rfl 2 hdX3_why rfl ⟨Nat.le_of_ble_eq_true rfl, Nat.le_of_ble_eq_true rfl⟩ ⟨Nat.zero_le _, Nat.zero_le _⟩ hK hP hS (fun _ h => h) 0 3 rfl rfl rfl hl.1 rfl (Nat.le_of_ble_eq_true rfl) dL_pulse_432 (fun H locs hP hS => ?_)
                            refine lv_nm (y := puW z v w - 999) (k10 c_396).2.2.2.1 ?_
                            refine lv_lload hx hb dL_pulse_435 (lv_at hl 14 rfl) ?_
                            refine lv_l2i hx hb dL_pulse_437 rfl ?_
                            refine lv_nm (y := puW z v w) ht.1 ?_
                            refine lv_sipush (v := 999) hx hb dL_pulse_438 (by decide) ?_
                            refine lv_isub hx hb dL_pulse_441 ?_
                            refine lv_icmp_ne (tgt := 470) hx hb dL_pulse_442 (by decide) (fun c_442 => ?_) (fun c_442 => ?_)
                            · -- 442 taken
                              exact absurd rfl c_442
                            · -- 442 not taken
                              refine lv_aload_n hx hb dL_pulse_445 rfl (lv_at hl 0 rfl) ?_
                              refine lv_iconst (v := 2) hx hb dL_pulse_446 rfl ?_
                              refine lv_iconst (v := 0) hx hb dL_pulse_447 rfl ?_
                              refine qVi (As := [.int 2, .int 0]) (rest := []) hx hb hml hown hts (kX3_why l g y hj 2 0) gL_pulse_X3_why rfl 2 hdX3_why rfl ⟨Nat.le_of_ble_eq_true rfl, Nat.le_of_ble_eq_true rfl⟩ ⟨Nat.zero_le _, Nat.zero_le _⟩ hK hP hS (fun _ h => h) 0 3 rfl rfl rfl hl.1 rfl (Nat.le_of_ble_eq_true rfl) dL_pulse_448 (fun H locs hP hS => ?_)
                              refine lv_nm (y := (-9)) (k10 c_396).2.2.2.2 ?_
                              refine lv_bipush (v := -9) hx hb dL_pulse_451 (by decide) ?_
                              refine lv_icmp_eq (tgt := 472) hx hb dL_pulse_453 (by decide) (fun c_453 => ?_) (fun c_453 => ?_)
                              · -- 453 taken
                                exact tail472 trivial _ _ hP hS ls (lv_sub hl [0, 1, 2, 3, 4, 5, 12, 13] rfl)
                              · -- 453 not taken
                                exact absurd rfl c_453
                  · -- 389 not taken
                    exact absurd (by rw [s2, if_pos c_380]; decide) c_389
            · -- 357 not taken
              rw [lg_cmp_le] at c_357
              refine lv_sipush (v := 1000) hx hb dL_pulse_360 (by decide) ?_
              refine lv_goto (tgt := 369) hx hb dL_pulse_363 (by decide) ?_
              refine lv_icmp_ne (tgt := 392) hx hb dL_pulse_369 (by decide) (fun c_369 => ?_) (fun c_369 => ?_)
              · -- 369 taken
                exact absurd (minW_2 (ht.2.mp (l_le_f c_357))) c_369
              · -- 369 not taken
                refine lv_aload_n hx hb dL_pulse_372 rfl (lv_at hl 0 rfl) ?_
                refine lv_iload_n hx hb dL_pulse_373 rfl (lv_at hl 3 rfl) ?_
                refine lv_iconst (v := 4) hx hb dL_pulse_374 rfl ?_
                refine qVi (As := [.int (inH z), .int 4]) (rest := []) hx hb hml hown hts (kX3_ofPart l g y hj (inH z) 4) gL_pulse_X3_ofPart rfl 2 hdX3_ofPart rfl ⟨Nat.le_of_ble_eq_true rfl, Nat.le_of_ble_eq_true rfl⟩ ⟨Nat.zero_le _, Nat.zero_le _⟩ hK hP hS (fun _ h => h) 0 3 rfl rfl rfl hl.1 rfl (Nat.le_of_ble_eq_true rfl) dL_pulse_375 (fun H locs hP hS => ?_)
                refine lv_nm (y := (if y (10 + ix (inH z)) 1 = 0 then 0 else 1)) (ofp_4 hpy) ?_
                refine lv_iload hx hb dL_pulse_378 (lv_at hl 15 rfl) ?_
                refine lv_if_eq (tgt := 387) hx hb dL_pulse_380 (by decide) (fun c_380 => ?_) (fun c_380 => ?_)
                · -- 380 taken
                  have c_380 := bI_0 c_380
                  refine lv_iload hx hb dL_pulse_387 (lv_at hl 10 rfl) ?_
                  refine lv_icmp_eq (tgt := 394) hx hb dL_pulse_389 (by decide) (fun c_389 => ?_) (fun c_389 => ?_)
                  · -- 389 taken
                    refine lv_iload hx hb dL_pulse_394 (lv_at hl 15 rfl) ?_
                    refine lv_if_eq (tgt := 459) hx hb dL_pulse_396 (by decide) (fun c_396 => ?_) (fun c_396 => ?_)
                    · -- 396 taken
                      have c_396 := bI_0 c_396
                      refine lv_aload_n hx hb dL_pulse_459 rfl (lv_at hl 0 rfl) ?_
                      refine lv_iconst (v := 0) hx hb dL_pulse_460 rfl ?_
                      refine lv_iconst (v := 0) hx hb dL_pulse_461 rfl ?_
                      refine qVi (As := [.int 0, .int 0]) (rest := []) hx hb hml hown hts (kX3_why l g y hj 0 0) gL_pulse_X3_why rfl 2 hdX3_why rfl ⟨Nat.le_of_ble_eq_true rfl, Nat.le_of_ble_eq_true rfl⟩ ⟨Nat.zero_le _, Nat.zero_le _⟩ hK hP hS (fun _ h => h) 0 3 rfl rfl rfl hl.1 rfl (Nat.le_of_ble_eq_true rfl) dL_pulse_462 (fun H locs hP hS => ?_)
                      refine lv_nm (y := (-9)) (k11 (by rw [c_396]; decide)) ?_
                      refine lv_bipush (v := -9) hx hb dL_pulse_465 (by decide) ?_
                      refine lv_icmp_eq (tgt := 472) hx hb dL_pulse_467 (by decide) (fun c_467 => ?_) (fun c_467 => ?_)
                      · -- 467 taken
                        exact tail472 trivial _ _ hP hS ls (lv_sub hl [0, 1, 2, 3, 4, 5, 12, 13] rfl)
                      · -- 467 not taken
                        exact absurd rfl c_467
                    · -- 396 not taken
                      have c_396 := bI_n c_396
                      exact absurd (c_380.symm.trans c_396) (by decide)
                  · -- 389 not taken
                    exact absurd (by rw [s2, if_neg (show ¬ puB z v w = true by rw [c_380]; decide)]) c_389
                · -- 380 not taken
                  have c_380 := bI_n c_380
                  refine lv_iconst (v := 1) hx hb dL_pulse_383 rfl ?_
                  refine lv_goto (tgt := 389) hx hb dL_pulse_384 (by decide) ?_
                  refine lv_icmp_eq (tgt := 394) hx hb dL_pulse_389 (by decide) (fun c_389 => ?_) (fun c_389 => ?_)
                  · -- 389 taken
                    refine lv_iload hx hb dL_pulse_394 (lv_at hl 15 rfl) ?_
                    refine lv_if_eq (tgt := 459) hx hb dL_pulse_396 (by decide) (fun c_396 => ?_) (fun c_396 => ?_)
                    · -- 396 taken
                      have c_396 := bI_0 c_396
                      exact absurd (c_380.symm.trans c_396) (by decide)
                    · -- 396 not taken
                      have c_396 := bI_n c_396
                      refine lv_aload_n hx hb dL_pulse_399 rfl (lv_at hl 0 rfl) ?_
                      refine lv_iconst (v := 0) hx hb dL_pulse_400 rfl ?_
                      refine lv_iconst (v := 0) hx hb dL_pulse_401 rfl ?_
                      refine qVi (As := [.int 0, .int 0]) (rest := []) hx hb hml hown hts (kX3_why l g y hj 0 0) gL_pulse_X3_why rfl 2 hdX3_why rfl ⟨Nat.le_of_ble_eq_true rfl, Nat.le_of_ble_eq_true rfl⟩ ⟨Nat.zero_le _, Nat.zero_le _⟩ hK hP hS (fun _ h => h) 0 3 rfl rfl rfl hl.1 rfl (Nat.le_of_ble_eq_true rfl) dL_pulse_402 (fun H locs hP hS => ?_)
                      refine lv_nm (y := 2) (k10 c_396).1 ?_
                      refine lv_iconst (v := 2) hx hb dL_pulse_405 rfl ?_
                      refine lv_icmp_ne (tgt := 470) hx hb dL_pulse_406 (by decide) (fun c_406 => ?_) (fun c_406 => ?_)
                      · -- 406 taken
                        exact absurd rfl c_406
                      · -- 406 not taken
                        refine lv_aload_n hx hb dL_pulse_409 rfl (lv_at hl 0 rfl) ?_
                        refine lv_iconst (v := 0) hx hb dL_pulse_410 rfl ?_
                        refine lv_iconst (v := 1) hx hb dL_pulse_411 rfl ?_
                        refine qVi (As := [.int 0, .int 1]) (rest := []) hx hb hml hown hts (kX3_why l g y hj 0 1) gL_pulse_X3_why rfl 2 hdX3_why rfl ⟨Nat.le_of_ble_eq_true rfl, Nat.le_of_ble_eq_true rfl⟩ ⟨Nat.zero_le _, Nat.zero_le _⟩ hK hP hS (fun _ h => h) 0 3 rfl rfl rfl hl.1 rfl (Nat.le_of_ble_eq_true rfl) dL_pulse_412 (fun H locs hP hS => ?_)
                        refine lv_nm (y := inH z) (k10 c_396).2.1 ?_
                        refine lv_iload_n hx hb dL_pulse_415 rfl (lv_at hl 3 rfl) ?_
                        refine lv_icmp_ne (tgt := 470) hx hb dL_pulse_416 (by decide) (fun c_416 => ?_) (fun c_416 => ?_)
                        · -- 416 taken
                          exact absurd rfl c_416
                        · -- 416 not taken
                          refine lv_aload_n hx hb dL_pulse_419 rfl (lv_at hl 0 rfl) ?_
                          refine lv_iconst (v := 1) hx hb dL_pulse_420 rfl ?_
                          refine lv_iconst (v := 0) hx hb dL_pulse_421 rfl ?_
                          refine qVi (As := [.int 1, .int 0]) (rest := []) hx hb hml hown hts (kX3_why l g y hj 1 0) gL_pulse_X3_why rfl 2 hdX3_why rfl ⟨Nat.le_of_ble_eq_true rfl, Nat.le_of_ble_eq_true rfl⟩ ⟨Nat.zero_le _, Nat.zero_le _⟩ hK hP hS (fun _ h => h) 0 3 rfl rfl rfl hl.1 rfl (Nat.le_of_ble_eq_true rfl) dL_pulse_422 (fun H locs hP hS => ?_)
                          refine lv_nm (y := 3) (k10 c_396).2.2.1 ?_
                          refine lv_iconst (v := 3) hx hb dL_pulse_425 rfl ?_
                          refine lv_icmp_ne (tgt := 470) hx hb dL_pulse_426 (by decide) (fun c_426 => ?_) (fun c_426 => ?_)
                          · -- 426 taken
                            exact absurd rfl c_426
                          · -- 426 not taken
                            refine lv_aload_n hx hb dL_pulse_429 rfl (lv_at hl 0 rfl) ?_
                            refine lv_iconst (v := 1) hx hb dL_pulse_430 rfl ?_
                            refine lv_iconst (v := 1) hx hb dL_pulse_431 rfl ?_
                            refine qVi (As := [.int 1, .int 1]) (rest := []) hx hb hml hown hts (kX3_why l g y hj 1 1) gL_pulse_X3_why rfl 2 hdX3_why rfl ⟨Nat.le_of_ble_eq_true rfl, Nat.le_of_ble_eq_true rfl⟩ ⟨Nat.zero_le _, Nat.zero_le _⟩ hK hP hS (fun _ h => h) 0 3 rfl rfl rfl hl.1 rfl (Nat.le_of_ble_eq_true rfl) dL_pulse_432 (fun H locs hP hS => ?_)
                            refine lv_nm (y := puW z v w - 999) (k10 c_396).2.2.2.1 ?_
                            refine lv_lload hx hb dL_pulse_435 (lv_at hl 14 rfl) ?_
                            refine lv_l2i hx hb dL_pulse_437 rfl ?_
                            refine lv_nm (y := puW z v w) ht.1 ?_
                            refine lv_sipush (v := 999) hx hb dL_pulse_438 (by decide) ?_
                            refine lv_isub hx hb dL_pulse_441 ?_
                            refine lv_icmp_ne (tgt := 470) hx hb dL_pulse_442 (by decide) (fun c_442 => ?_) (fun c_442 => ?_)
                            · -- 442 taken
                              exact absurd rfl c_442
                            · -- 442 not taken
                              refine lv_aload_n hx hb dL_pulse_445 rfl (lv_at hl 0 rfl) ?_
                              refine lv_iconst (v := 2) hx hb dL_pulse_446 rfl ?_
                              refine lv_iconst (v := 0) hx hb dL_pulse_447 rfl ?_
                              refine qVi (As := [.int 2, .int 0]) (rest := []) hx hb hml hown hts (kX3_why l g y hj 2 0) gL_pulse_X3_why rfl 2 hdX3_why rfl ⟨Nat.le_of_ble_eq_true rfl, Nat.le_of_ble_eq_true rfl⟩ ⟨Nat.zero_le _, Nat.zero_le _⟩ hK hP hS (fun _ h => h) 0 3 rfl rfl rfl hl.1 rfl (Nat.le_of_ble_eq_true rfl) dL_pulse_448 (fun H locs hP hS => ?_)
                              refine lv_nm (y := (-9)) (k10 c_396).2.2.2.2 ?_
                              refine lv_bipush (v := -9) hx hb dL_pulse_451 (by decide) ?_
                              refine lv_icmp_eq (tgt := 472) hx hb dL_pulse_453 (by decide) (fun c_453 => ?_) (fun c_453 => ?_)
                              · -- 453 taken
                                exact tail472 trivial _ _ hP hS ls (lv_sub hl [0, 1, 2, 3, 4, 5, 12, 13] rfl)
                              · -- 453 not taken
                                exact absurd rfl c_453
                  · -- 389 not taken
                    exact absurd (by rw [s2, if_pos c_380]; decide) c_389
    have tail285 : ∀ (_ : True), ∀ (H : Heap) (locs : List Loc), va_P g.1 vwCl ((WX g ad) y) H → va_S (adOf 15 ad) s.heap H locs → ∀ ls : Array Slot, lv_has ls 20 [(0, .ref (ad 0)), (1, .int v), (2, .int w), (3, .int (inH z)), (4, .int (z 0 3)), (5, .int (bI (fwdB z (10 + ix (inH z))))), (6, .int u), (7, .int (bI (snB (z (10 + ix (inH z))) (ownd z (10 + ix (inH z)) u)))), (8, .int am), (9, .int (z (10 + ix (inH z)) 6)), (10, .int (if z (10 + ix (inH z)) 1 = 0 then 0 else 1)), (11, .int ru), (12, .int td), (13, .int oa), (16, .long th)] → W p l e (rmL 8) s m args below meth c H locs 0 0 (MQ below (va_Qi (fun q9 u9 => q9 = 1 ∧ u9 = lpS z v w) (qU g (WX g ad)) (adOf 15 ad)) args s 0 0 (adOf 15 ad)) (F0 m 285 ls [.int (bI (puB z v w))]) := by
      intro _ H locs hP hS ls hl
      refine lv_istore (lv' := [(18, .int (bI (puB z v w))), (0, .ref (ad 0)), (1, .int v), (2, .int w), (3, .int (inH z)), (4, .int (z 0 3)), (5, .int (bI (fwdB z (10 + ix (inH z))))), (6, .int u), (7, .int (bI (snB (z (10 + ix (inH z))) (ownd z (10 + ix (inH z)) u)))), (8, .int am), (9, .int (z (10 + ix (inH z)) 6)), (10, .int (if z (10 + ix (inH z)) 1 = 0 then 0 else 1)), (11, .int ru), (12, .int td), (13, .int oa), (16, .long th)]) hx hb dL_pulse_285 hl (by decide) rfl (fun ls hl => ?_)
      refine lv_aload_n hx hb dL_pulse_287 rfl (lv_at hl 1 rfl) ?_
      refine lv_iconst (v := 1) hx hb dL_pulse_288 rfl ?_
      refine qVi (As := [.int 1]) (rest := []) hx hb hml hown hts (kX3_now l g y hj 1) gL_pulse_X3_now rfl 1 hdX3_now rfl ⟨Nat.le_of_ble_eq_true rfl, Nat.le_of_ble_eq_true rfl⟩ ⟨Nat.zero_le _, Nat.zero_le _⟩ hK hP hS (fun _ h => h) 0 3 rfl rfl rfl hl.1 rfl (Nat.le_of_ble_eq_true rfl) dL_pulse_289 (fun H locs hP hS => ?_)
      refine lv_iconst (v := 2) hx hb dL_pulse_292 rfl ?_
      refine lv_icmp_ne (tgt := 313) hx hb dL_pulse_293 (by decide) (fun c_293 => ?_) (fun c_293 => ?_)
      · -- 293 taken
        have hw4 : fourB z = true := by rw [← four_c k2]; exact now1_ne c_293
        refine lv_iconst (v := 0) hx hb dL_pulse_313 rfl ?_
        refine lv_istore (lv' := [(19, .int 0), (18, .int (bI (puB z v w))), (0, .ref (ad 0)), (1, .int v), (2, .int w), (3, .int (inH z)), (4, .int (z 0 3)), (5, .int (bI (fwdB z (10 + ix (inH z))))), (6, .int u), (7, .int (bI (snB (z (10 + ix (inH z))) (ownd z (10 + ix (inH z)) u)))), (8, .int am), (9, .int (z (10 + ix (inH z)) 6)), (10, .int (if z (10 + ix (inH z)) 1 = 0 then 0 else 1)), (11, .int ru), (12, .int td), (13, .int oa), (16, .long th)]) hx hb dL_pulse_314 hl (by decide) rfl (fun ls hl => ?_)
        exact tail316 0 (by rw [htd, tld_c E, eU, eA]; unfold tldF; rw [if_pos hw4]; exact (Int32.add_zero _).symm) _ _ hP hS ls (lv_sub hl [2, 3, 4, 5, 6, 7, 8, 9, 10, 11, 12, 13, 14, 15, 16, 1, 0] rfl)
      · -- 293 not taken
        have hw2 : ¬ fourB z = true := by rw [← four_c k2]; exact now1_eq c_293
        refine lv_iload hx hb dL_pulse_296 (lv_at hl 9 rfl) ?_
        refine lv_aload_n hx hb dL_pulse_298 rfl (lv_at hl 1 rfl) ?_
        refine lv_iconst (v := 4) hx hb dL_pulse_299 rfl ?_
        refine qVi (As := [.int 4]) (rest := [.int am]) hx hb hml hown hts (kX3_now l g y hj 4) gL_pulse_X3_now rfl 1 hdX3_now rfl ⟨Nat.le_of_ble_eq_true rfl, Nat.le_of_ble_eq_true rfl⟩ ⟨Nat.zero_le _, Nat.zero_le _⟩ hK hP hS (fun _ h => h) 0 3 rfl rfl rfl hl.1 rfl (Nat.le_of_ble_eq_true rfl) dL_pulse_300 (fun H locs hP hS => ?_)
        refine lv_nm (y := z 0 2) ((now_4 y).trans k1.2.2.1) ?_
        refine lv_imul hx hb dL_pulse_303 ?_
        refine lv_sipush (v := 1000) hx hb dL_pulse_304 (by decide) ?_
        refine qSi (As := [.int (am * (z 0 2)), .int 1000]) (rest := []) hx hb hml hown hts (kL_cut l g (Wd := (WX g ad)) (A := (adOf 15 ad)) y (am * (z 0 2)) 1000 (by decide)) gL_pulse_L_cut rfl 2 hdL_cut rfl ⟨Nat.le_of_ble_eq_true rfl, Nat.le_of_ble_eq_true rfl⟩ ⟨Nat.zero_le _, Nat.zero_le _⟩ hK hP hS (fun _ h => h) hl.1 rfl (Nat.le_of_ble_eq_true rfl) dL_pulse_307 (fun H locs hP hS => ?_)
        refine lv_nm (y := dropF z am) rfl ?_
        refine lv_goto (tgt := 314) hx hb dL_pulse_310 (by decide) ?_
        refine lv_istore (lv' := [(19, .int (dropF z am)), (18, .int (bI (puB z v w))), (0, .ref (ad 0)), (1, .int v), (2, .int w), (3, .int (inH z)), (4, .int (z 0 3)), (5, .int (bI (fwdB z (10 + ix (inH z))))), (6, .int u), (7, .int (bI (snB (z (10 + ix (inH z))) (ownd z (10 + ix (inH z)) u)))), (8, .int am), (9, .int (z (10 + ix (inH z)) 6)), (10, .int (if z (10 + ix (inH z)) 1 = 0 then 0 else 1)), (11, .int ru), (12, .int td), (13, .int oa), (16, .long th)]) hx hb dL_pulse_314 hl (by decide) rfl (fun ls hl => ?_)
        exact tail316 (dropF z am) (by rw [htd, tld_c E, eU, eA]; unfold tldF; rw [if_neg hw2]) _ _ hP hS ls (lv_sub hl [2, 3, 4, 5, 6, 7, 8, 9, 10, 11, 12, 13, 14, 15, 16, 1, 0] rfl)
    refine lv_iload hx hb dL_pulse_236 (lv_at hl 6 rfl) ?_
    refine qSi (As := [.int u]) (rest := []) hx hb hml hown hts (kL_size l g (Wd := (WX g ad)) (A := (adOf 15 ad)) y u) gL_pulse_L_size rfl 1 hdL_size rfl ⟨Nat.le_of_ble_eq_true rfl, Nat.le_of_ble_eq_true rfl⟩ ⟨Nat.zero_le _, Nat.zero_le _⟩ hK hP hS (fun _ h => h) hl.1 rfl (Nat.le_of_ble_eq_true rfl) dL_pulse_238 (fun H locs hP hS => ?_)
    refine lv_i2l hx hb dL_pulse_241 rfl ?_
    refine lv_iload hx hb dL_pulse_242 (lv_at hl 8 rfl) ?_
    refine qSi (As := [.int am]) (rest := [.long ((absI u).toInt64)]) hx hb hml hown hts (kL_size l g (Wd := (WX g ad)) (A := (adOf 15 ad)) y am) gL_pulse_L_size rfl 1 hdL_size rfl ⟨Nat.le_of_ble_eq_true rfl, Nat.le_of_ble_eq_true rfl⟩ ⟨Nat.zero_le _, Nat.zero_le _⟩ hK hP hS (fun _ h => h) hl.1 rfl (Nat.le_of_ble_eq_true rfl) dL_pulse_244 (fun H locs hP hS => ?_)
    refine lv_i2l hx hb dL_pulse_247 rfl ?_
    refine lv_lmul hx hb dL_pulse_248 ?_
    refine lv_iload_n hx hb dL_pulse_249 rfl (lv_at hl 2 rfl) ?_
    refine lv_i2l hx hb dL_pulse_250 rfl ?_
    refine lv_lmul hx hb dL_pulse_251 ?_
    refine lv_ldc2 (v := 500000) hx hb hown (hts (.constantLong RL 50 (500000)) (by decide +kernel)) dL_pulse_252 ?_
    refine lv_ldiv hx hb dL_pulse_255 (by decide) ?_
    refine lv_lstore (lv' := [(14, .long (((((absI u).toInt64) * ((absI am).toInt64)) * w.toInt64) / 500000)), (0, .ref (ad 0)), (1, .int v), (2, .int w), (3, .int (inH z)), (4, .int (z 0 3)), (5, .int (bI (fwdB z (10 + ix (inH z))))), (6, .int u), (7, .int (bI (snB (z (10 + ix (inH z))) (ownd z (10 + ix (inH z)) u)))), (8, .int am), (9, .int (z (10 + ix (inH z)) 6)), (10, .int (if z (10 + ix (inH z)) 1 = 0 then 0 else 1)), (11, .int ru), (12, .int td), (13, .int oa)]) hx hb dL_pulse_256 hl (by decide) rfl (fun ls hl => ?_)
    refine lv_iload hx hb dL_pulse_258 (lv_at hl 10 rfl) ?_
    refine lv_i2l hx hb dL_pulse_260 rfl ?_
    refine lv_lload hx hb dL_pulse_261 (lv_at hl 0 rfl) ?_
    refine lv_ladd hx hb dL_pulse_263 ?_
    refine lv_nmL (y := th) hth.symm ?_
    refine lv_lstore (lv' := [(16, .long th), (14, .long (((((absI u).toInt64) * ((absI am).toInt64)) * w.toInt64) / 500000)), (0, .ref (ad 0)), (1, .int v), (2, .int w), (3, .int (inH z)), (4, .int (z 0 3)), (5, .int (bI (fwdB z (10 + ix (inH z))))), (6, .int u), (7, .int (bI (snB (z (10 + ix (inH z))) (ownd z (10 + ix (inH z)) u)))), (8, .int am), (9, .int (z (10 + ix (inH z)) 6)), (10, .int (if z (10 + ix (inH z)) 1 = 0 then 0 else 1)), (11, .int ru), (12, .int td), (13, .int oa)]) hx hb dL_pulse_264 hl (by decide) rfl (fun ls hl => ?_)
    refine lv_lload hx hb dL_pulse_266 (lv_at hl 0 rfl) ?_
    refine lv_ldc2 (v := 999) hx hb hown (hts (.constantLong RL 52 (999)) (by decide +kernel)) dL_pulse_268 ?_
    refine W.lcmp hx hb dL_pulse_271 ?_
    refine lv_if_le (tgt := 284) hx hb dL_pulse_272 (by decide) (fun c_272 => ?_) (fun c_272 => ?_)
    · -- 272 taken
      rw [lg_cmp_le] at c_272
      refine lv_iconst (v := 0) hx hb dL_pulse_284 rfl ?_
      refine lv_nm (y := bI (puB z v w)) (bI_no (fun q => (l_le_t c_272) (ht.2.mpr (puB_iff.mp q).1))) ?_
      exact tail285 trivial _ _ hP hS ls (lv_sub hl [2, 3, 4, 5, 6, 7, 8, 9, 10, 11, 12, 13, 14, 15, 0] rfl)
    · -- 272 not taken
      rw [lg_cmp_le] at c_272
      refine lv_iload hx hb dL_pulse_275 (lv_at hl 12 rfl) ?_
      refine lv_if_ne (tgt := 284) hx hb dL_pulse_277 (by decide) (fun c_277 => ?_) (fun c_277 => ?_)
      · -- 277 taken
        refine lv_iconst (v := 0) hx hb dL_pulse_284 rfl ?_
        refine lv_nm (y := bI (puB z v w)) (bI_no (fun q => c_277 (b01_0.mpr (puB_iff.mp q).2))) ?_
        exact tail285 trivial _ _ hP hS ls (lv_sub hl [2, 3, 4, 5, 6, 7, 8, 9, 10, 11, 12, 13, 14, 15, 0] rfl)
      · -- 277 not taken
        refine lv_iconst (v := 1) hx hb dL_pulse_280 rfl ?_
        refine lv_goto (tgt := 285) hx hb dL_pulse_281 (by decide) ?_
        refine lv_nm (y := bI (puB z v w)) (bI_of (puB_iff.mpr ⟨ht.2.mp (l_le_f c_272), b01_0.mp c_277⟩)) ?_
        exact tail285 trivial _ _ hP hS ls (lv_sub hl [2, 3, 4, 5, 6, 7, 8, 9, 10, 11, 12, 13, 14, 15, 0] rfl)
  have tail139 : ∀ (_ : True), ∀ (H : Heap) (locs : List Loc), va_P g.1 vwCl ((WX g ad) z) H → va_S (adOf 15 ad) s.heap H locs → ∀ ls : Array Slot, lv_has ls 20 [(0, .ref (ad 0)), (1, .int v), (2, .int w), (3, .int (inH z)), (4, .int (z 0 3)), (5, .int (bI (fwdB z (10 + ix (inH z))))), (6, .int u)] → W p l e (rmL 8) s m args below meth c H locs 0 0 (MQ below (va_Qi (fun q9 u9 => q9 = 1 ∧ u9 = lpS z v w) (qU g (WX g ad)) (adOf 15 ad)) args s 0 0 (adOf 15 ad)) (F0 m 139 ls [.int (bI (snB (z (10 + ix (inH z))) (ownd z (10 + ix (inH z)) u)))]) := by
    intro _ H locs hP hS ls hl
    refine lv_istore (lv' := [(7, .int (bI (snB (z (10 + ix (inH z))) (ownd z (10 + ix (inH z)) u)))), (0, .ref (ad 0)), (1, .int v), (2, .int w), (3, .int (inH z)), (4, .int (z 0 3)), (5, .int (bI (fwdB z (10 + ix (inH z))))), (6, .int u)]) hx hb dL_pulse_139 hl (by decide) rfl (fun ls hl => ?_)
    refine lv_aload_n hx hb dL_pulse_141 rfl (lv_at hl 1 rfl) ?_
    refine lv_iload_n hx hb dL_pulse_142 rfl (lv_at hl 2 rfl) ?_
    refine lv_iconst (v := 1) hx hb dL_pulse_143 rfl ?_
    refine qVi (As := [.int v, .int 1]) (rest := []) hx hb hml hown hts (kX3_would l g z hj hI v 1) gL_pulse_X3_would rfl 2 hdX3_would rfl ⟨Nat.le_of_ble_eq_true rfl, Nat.le_of_ble_eq_true rfl⟩ ⟨Nat.zero_le _, Nat.zero_le _⟩ hK hP hS (fun _ h => h) 0 3 rfl rfl rfl hl.1 rfl (Nat.le_of_ble_eq_true rfl) dL_pulse_144 (fun H locs hP hS => ?_)
    refine lv_ldc (v := 50000) hx hb hown (hts (.constant RL 25 (50000)) (by decide +kernel)) dL_pulse_147 ?_
    refine lv_isub hx hb dL_pulse_149 ?_
    refine lv_nm (y := am) ((wd_1 hn hv).trans ham.symm) ?_
    refine lv_istore (lv' := [(8, .int am), (7, .int (bI (snB (z (10 + ix (inH z))) (ownd z (10 + ix (inH z)) u)))), (0, .ref (ad 0)), (1, .int v), (2, .int w), (3, .int (inH z)), (4, .int (z 0 3)), (5, .int (bI (fwdB z (10 + ix (inH z))))), (6, .int u)]) hx hb dL_pulse_150 hl (by decide) rfl (fun ls hl => ?_)
    refine lv_aload_n hx hb dL_pulse_152 rfl (lv_at hl 2 rfl) ?_
    refine lv_iload_n hx hb dL_pulse_153 rfl (lv_at hl 5 rfl) ?_
    refine lv_iconst (v := 3) hx hb dL_pulse_154 rfl ?_
    refine qVi (As := [.int (inH z), .int 3]) (rest := []) hx hb hml hown hts (kX3_ofPart l g z hj (inH z) 3) gL_pulse_X3_ofPart rfl 2 hdX3_ofPart rfl ⟨Nat.le_of_ble_eq_true rfl, Nat.le_of_ble_eq_true rfl⟩ ⟨Nat.zero_le _, Nat.zero_le _⟩ hK hP hS (fun _ h => h) 0 3 rfl rfl rfl hl.1 rfl (Nat.le_of_ble_eq_true rfl) dL_pulse_155 (fun H locs hP hS => ?_)
    refine lv_nm (y := z (10 + ix (inH z)) 6) (ofp_3 hp) ?_
    refine lv_istore (lv' := [(9, .int (z (10 + ix (inH z)) 6)), (8, .int am), (7, .int (bI (snB (z (10 + ix (inH z))) (ownd z (10 + ix (inH z)) u)))), (0, .ref (ad 0)), (1, .int v), (2, .int w), (3, .int (inH z)), (4, .int (z 0 3)), (5, .int (bI (fwdB z (10 + ix (inH z))))), (6, .int u)]) hx hb dL_pulse_158 hl (by decide) rfl (fun ls hl => ?_)
    refine lv_aload_n hx hb dL_pulse_160 rfl (lv_at hl 3 rfl) ?_
    refine lv_iload_n hx hb dL_pulse_161 rfl (lv_at hl 6 rfl) ?_
    refine lv_iconst (v := 4) hx hb dL_pulse_162 rfl ?_
    refine qVi (As := [.int (inH z), .int 4]) (rest := []) hx hb hml hown hts (kX3_ofPart l g z hj (inH z) 4) gL_pulse_X3_ofPart rfl 2 hdX3_ofPart rfl ⟨Nat.le_of_ble_eq_true rfl, Nat.le_of_ble_eq_true rfl⟩ ⟨Nat.zero_le _, Nat.zero_le _⟩ hK hP hS (fun _ h => h) 0 3 rfl rfl rfl hl.1 rfl (Nat.le_of_ble_eq_true rfl) dL_pulse_163 (fun H locs hP hS => ?_)
    refine lv_nm (y := (if z (10 + ix (inH z)) 1 = 0 then 0 else 1)) (ofp_4 hp) ?_
    refine lv_istore (lv' := [(10, .int (if z (10 + ix (inH z)) 1 = 0 then 0 else 1)), (9, .int (z (10 + ix (inH z)) 6)), (8, .int am), (7, .int (bI (snB (z (10 + ix (inH z))) (ownd z (10 + ix (inH z)) u)))), (0, .ref (ad 0)), (1, .int v), (2, .int w), (3, .int (inH z)), (4, .int (z 0 3)), (5, .int (bI (fwdB z (10 + ix (inH z))))), (6, .int u)]) hx hb dL_pulse_166 hl (by decide) rfl (fun ls hl => ?_)
    refine lv_aload_n hx hb dL_pulse_168 rfl (lv_at hl 4 rfl) ?_
    refine lv_iload_n hx hb dL_pulse_169 rfl (lv_at hl 5 rfl) ?_
    refine lv_iconst (v := 2) hx hb dL_pulse_170 rfl ?_
    refine qVi (As := [.int v, .int 2]) (rest := []) hx hb hml hown hts (kX3_would l g z hj hI v 2) gL_pulse_X3_would rfl 2 hdX3_would rfl ⟨Nat.le_of_ble_eq_true rfl, Nat.le_of_ble_eq_true rfl⟩ ⟨Nat.zero_le _, Nat.zero_le _⟩ hK hP hS (fun _ h => h) 0 3 rfl rfl rfl hl.1 rfl (Nat.le_of_ble_eq_true rfl) dL_pulse_171 (fun H locs hP hS => ?_)
    refine lv_nm (y := ru) ((wd_2 hn hv).trans hrue.symm) ?_
    refine lv_istore (lv' := [(11, .int ru), (10, .int (if z (10 + ix (inH z)) 1 = 0 then 0 else 1)), (9, .int (z (10 + ix (inH z)) 6)), (8, .int am), (7, .int (bI (snB (z (10 + ix (inH z))) (ownd z (10 + ix (inH z)) u)))), (0, .ref (ad 0)), (1, .int v), (2, .int w), (3, .int (inH z)), (4, .int (z 0 3)), (5, .int (bI (fwdB z (10 + ix (inH z))))), (6, .int u)]) hx hb dL_pulse_174 hl (by decide) rfl (fun ls hl => ?_)
    refine lv_aload_n hx hb dL_pulse_176 rfl (lv_at hl 5 rfl) ?_
    refine lv_iload_n hx hb dL_pulse_177 rfl (lv_at hl 6 rfl) ?_
    refine lv_iload_n hx hb dL_pulse_178 rfl (lv_at hl 7 rfl) ?_
    refine qVi (As := [.int v, .int w]) (rest := []) hx hb hml hown hts (kX3_pulse l g z hj hI v w) gL_pulse_X3_pulse rfl 2 hdX3_pulse rfl ⟨Nat.le_of_ble_eq_true rfl, Nat.le_of_ble_eq_true rfl⟩ ⟨Nat.zero_le _, Nat.zero_le _⟩ hK hP hS (fun _ h => h) 0 3 rfl rfl rfl hl.1 rfl (Nat.le_of_ble_eq_true rfl) dL_pulse_179 (fun H locs hP hS => ?_)
    refine lv_nm (y := z 0 3 + 1) hp1 ?_
    rw [← hy] at hP
    refine lv_iload hx hb dL_pulse_182 (lv_at hl 9 rfl) ?_
    refine lv_iconst (v := 1) hx hb dL_pulse_184 rfl ?_
    refine lv_iadd hx hb dL_pulse_185 ?_
    refine lv_icmp_ne (tgt := 204) hx hb dL_pulse_186 (by decide) (fun c_186 => ?_) (fun c_186 => ?_)
    · -- 186 taken
      exact absurd rfl c_186
    · -- 186 not taken
      refine lv_aload_n hx hb dL_pulse_189 rfl (lv_at hl 5 rfl) ?_
      refine lv_iload hx hb dL_pulse_190 (lv_at hl 9 rfl) ?_
      refine lv_iconst (v := 0) hx hb dL_pulse_192 rfl ?_
      refine qVi (As := [.int (z 0 3), .int 0]) (rest := []) hx hb hml hown hts (kX3_reading l g y hj hIy (z 0 3) 0) gL_pulse_X3_reading rfl 2 hdX3_reading rfl ⟨Nat.le_of_ble_eq_true rfl, Nat.le_of_ble_eq_true rfl⟩ ⟨Nat.zero_le _, Nat.zero_le _⟩ hK hP hS (fun _ h => h) 0 3 rfl rfl rfl hl.1 rfl (Nat.le_of_ble_eq_true rfl) dL_pulse_193 (fun H locs hP hS => ?_)
      refine lv_nm (y := v + 10000) ((rdg_0 hh).trans (by rw [k4])) ?_
      refine lv_iload_n hx hb dL_pulse_196 rfl (lv_at hl 6 rfl) ?_
      refine lv_sipush (v := 10000) hx hb dL_pulse_197 (by decide) ?_
      refine lv_iadd hx hb dL_pulse_200 ?_
      refine lv_icmp_eq (tgt := 206) hx hb dL_pulse_201 (by decide) (fun c_201 => ?_) (fun c_201 => ?_)
      · -- 201 taken
        refine lv_aload_n hx hb dL_pulse_206 rfl (lv_at hl 5 rfl) ?_
        refine lv_iload hx hb dL_pulse_207 (lv_at hl 9 rfl) ?_
        refine lv_iconst (v := 1) hx hb dL_pulse_209 rfl ?_
        refine qVi (As := [.int (z 0 3), .int 1]) (rest := []) hx hb hml hown hts (kX3_reading l g y hj hIy (z 0 3) 1) gL_pulse_X3_reading rfl 2 hdX3_reading rfl ⟨Nat.le_of_ble_eq_true rfl, Nat.le_of_ble_eq_true rfl⟩ ⟨Nat.zero_le _, Nat.zero_le _⟩ hK hP hS (fun _ h => h) 0 3 rfl rfl rfl hl.1 rfl (Nat.le_of_ble_eq_true rfl) dL_pulse_210 (fun H locs hP hS => ?_)
        refine lv_sipush (v := 10000) hx hb dL_pulse_213 (by decide) ?_
        refine lv_isub hx hb dL_pulse_216 ?_
        refine lv_nm (y := td) ((rdg_1 hh).trans k5) ?_
        refine lv_istore (lv' := [(12, .int td), (11, .int ru), (10, .int (if z (10 + ix (inH z)) 1 = 0 then 0 else 1)), (9, .int (z (10 + ix (inH z)) 6)), (8, .int am), (7, .int (bI (snB (z (10 + ix (inH z))) (ownd z (10 + ix (inH z)) u)))), (0, .ref (ad 0)), (1, .int v), (2, .int w), (3, .int (inH z)), (4, .int (z 0 3)), (5, .int (bI (fwdB z (10 + ix (inH z))))), (6, .int u)]) hx hb dL_pulse_217 hl (by decide) rfl (fun ls hl => ?_)
        refine lv_aload_n hx hb dL_pulse_219 rfl (lv_at hl 6 rfl) ?_
        refine lv_iload hx hb dL_pulse_220 (lv_at hl 10 rfl) ?_
        refine lv_iconst (v := 2) hx hb dL_pulse_222 rfl ?_
        refine qVi (As := [.int (z 0 3), .int 2]) (rest := []) hx hb hml hown hts (kX3_reading l g y hj hIy (z 0 3) 2) gL_pulse_X3_reading rfl 2 hdX3_reading rfl ⟨Nat.le_of_ble_eq_true rfl, Nat.le_of_ble_eq_true rfl⟩ ⟨Nat.zero_le _, Nat.zero_le _⟩ hK hP hS (fun _ h => h) 0 3 rfl rfl rfl hl.1 rfl (Nat.le_of_ble_eq_true rfl) dL_pulse_223 (fun H locs hP hS => ?_)
        refine lv_ldc (v := 50000) hx hb hown (hts (.constant RL 25 (50000)) (by decide +kernel)) dL_pulse_226 ?_
        refine lv_isub hx hb dL_pulse_228 ?_
        refine lv_nm (y := oa) ((rdg_2 hh).trans k6) ?_
        refine lv_istore (lv' := [(13, .int oa), (12, .int td), (11, .int ru), (10, .int (if z (10 + ix (inH z)) 1 = 0 then 0 else 1)), (9, .int (z (10 + ix (inH z)) 6)), (8, .int am), (7, .int (bI (snB (z (10 + ix (inH z))) (ownd z (10 + ix (inH z)) u)))), (0, .ref (ad 0)), (1, .int v), (2, .int w), (3, .int (inH z)), (4, .int (z 0 3)), (5, .int (bI (fwdB z (10 + ix (inH z))))), (6, .int u)]) hx hb dL_pulse_229 hl (by decide) rfl (fun ls hl => ?_)
        refine lv_iload hx hb dL_pulse_231 (lv_at hl 6 rfl) ?_
        refine lv_if_ne (tgt := 472) hx hb dL_pulse_233 (by decide) (fun c_233 => ?_) (fun c_233 => ?_)
        · -- 233 taken
          have c_233 := bI_n c_233
          exact tail472 trivial _ _ hP hS ls (lv_sub hl [7, 8, 9, 10, 11, 12, 1, 0] rfl)
        · -- 233 not taken
          have c_233 := bI_0 c_233
          exact tail236 trivial (by rw [c_233]; decide) _ _ hP hS ls (lv_sub hl [7, 8, 9, 10, 11, 12, 13, 6, 5, 4, 3, 2, 1, 0] rfl)
      · -- 201 not taken
        exact absurd rfl c_201
  have tail69 : ∀ (_ : True), ∀ (H : Heap) (locs : List Loc), va_P g.1 vwCl ((WX g ad) z) H → va_S (adOf 15 ad) s.heap H locs → ∀ ls : Array Slot, lv_has ls 20 [(0, .ref (ad 0)), (1, .int v), (2, .int w), (3, .int (inH z)), (4, .int (z 0 3))] → W p l e (rmL 8) s m args below meth c H locs 0 0 (MQ below (va_Qi (fun q9 u9 => q9 = 1 ∧ u9 = lpS z v w) (qU g (WX g ad)) (adOf 15 ad)) args s 0 0 (adOf 15 ad)) (F0 m 69 ls [.int (bI (fwdB z (10 + ix (inH z))))]) := by
    intro _ H locs hP hS ls hl
    refine lv_istore (lv' := [(5, .int (bI (fwdB z (10 + ix (inH z))))), (0, .ref (ad 0)), (1, .int v), (2, .int w), (3, .int (inH z)), (4, .int (z 0 3))]) hx hb dL_pulse_69 hl (by decide) rfl (fun ls hl => ?_)
    refine lv_aload_n hx hb dL_pulse_71 rfl (lv_at hl 1 rfl) ?_
    refine lv_iload_n hx hb dL_pulse_72 rfl (lv_at hl 2 rfl) ?_
    refine lv_iconst (v := 0) hx hb dL_pulse_73 rfl ?_
    refine qVi (As := [.int v, .int 0]) (rest := []) hx hb hml hown hts (kX3_would l g z hj hI v 0) gL_pulse_X3_would rfl 2 hdX3_would rfl ⟨Nat.le_of_ble_eq_true rfl, Nat.le_of_ble_eq_true rfl⟩ ⟨Nat.zero_le _, Nat.zero_le _⟩ hK hP hS (fun _ h => h) 0 3 rfl rfl rfl hl.1 rfl (Nat.le_of_ble_eq_true rfl) dL_pulse_74 (fun H locs hP hS => ?_)
    refine lv_sipush (v := 10000) hx hb dL_pulse_77 (by decide) ?_
    refine lv_isub hx hb dL_pulse_80 ?_
    refine lv_nm (y := u) ((wd_0 hn hv).trans hu.symm) ?_
    refine lv_istore (lv' := [(6, .int u), (5, .int (bI (fwdB z (10 + ix (inH z))))), (0, .ref (ad 0)), (1, .int v), (2, .int w), (3, .int (inH z)), (4, .int (z 0 3))]) hx hb dL_pulse_81 hl (by decide) rfl (fun ls hl => ?_)
    refine lv_aload_n hx hb dL_pulse_83 rfl (lv_at hl 2 rfl) ?_
    refine lv_iload_n hx hb dL_pulse_84 rfl (lv_at hl 5 rfl) ?_
    refine lv_iconst (v := 2) hx hb dL_pulse_85 rfl ?_
    refine qVi (As := [.int (inH z), .int 2]) (rest := []) hx hb hml hown hts (kX3_ofPart l g z hj (inH z) 2) gL_pulse_X3_ofPart rfl 2 hdX3_ofPart rfl ⟨Nat.le_of_ble_eq_true rfl, Nat.le_of_ble_eq_true rfl⟩ ⟨Nat.zero_le _, Nat.zero_le _⟩ hK hP hS (fun _ h => h) 0 3 rfl rfl rfl hl.1 rfl (Nat.le_of_ble_eq_true rfl) dL_pulse_86 (fun H locs hP hS => ?_)
    refine lv_nm (y := z (10 + ix (inH z)) 5) (ofp_2 hp) ?_
    refine lv_iconst (v := 3) hx hb dL_pulse_89 rfl ?_
    refine lv_icmp_ne (tgt := 138) hx hb dL_pulse_90 (by decide) (fun c_90 => ?_) (fun c_90 => ?_)
    · -- 90 taken
      refine lv_iconst (v := 0) hx hb dL_pulse_138 rfl ?_
      refine lv_nm (y := bI (snB (z (10 + ix (inH z))) (ownd z (10 + ix (inH z)) u))) (bI_no (fun q => c_90 (snB_iff.mp q).1)) ?_
      exact tail139 trivial _ _ hP hS ls (lv_sub hl [2, 3, 4, 5, 6, 1, 0] rfl)
    · -- 90 not taken
      refine lv_aload_n hx hb dL_pulse_93 rfl (lv_at hl 2 rfl) ?_
      refine lv_iload_n hx hb dL_pulse_94 rfl (lv_at hl 5 rfl) ?_
      refine lv_iconst (v := 4) hx hb dL_pulse_95 rfl ?_
      refine qVi (As := [.int (inH z), .int 4]) (rest := []) hx hb hml hown hts (kX3_ofPart l g z hj (inH z) 4) gL_pulse_X3_ofPart rfl 2 hdX3_ofPart rfl ⟨Nat.le_of_ble_eq_true rfl, Nat.le_of_ble_eq_true rfl⟩ ⟨Nat.zero_le _, Nat.zero_le _⟩ hK hP hS (fun _ h => h) 0 3 rfl rfl rfl hl.1 rfl (Nat.le_of_ble_eq_true rfl) dL_pulse_96 (fun H locs hP hS => ?_)
      refine lv_nm (y := (if z (10 + ix (inH z)) 1 = 0 then 0 else 1)) (ofp_4 hp) ?_
      refine lv_if_ne (tgt := 138) hx hb dL_pulse_99 (by decide) (fun c_99 => ?_) (fun c_99 => ?_)
      · -- 99 taken
        refine lv_iconst (v := 0) hx hb dL_pulse_138 rfl ?_
        refine lv_nm (y := bI (snB (z (10 + ix (inH z))) (ownd z (10 + ix (inH z)) u))) (bI_no (fun q => c_99 (b01_0.mpr (snB_iff.mp q).2.2.1))) ?_
        exact tail139 trivial _ _ hP hS ls (lv_sub hl [2, 3, 4, 5, 6, 1, 0] rfl)
      · -- 99 not taken
        refine lv_aload_n hx hb dL_pulse_102 rfl (lv_at hl 2 rfl) ?_
        refine lv_iload_n hx hb dL_pulse_103 rfl (lv_at hl 5 rfl) ?_
        refine lv_iconst (v := 5) hx hb dL_pulse_104 rfl ?_
        refine qVi (As := [.int (inH z), .int 5]) (rest := []) hx hb hml hown hts (kX3_ofPart l g z hj (inH z) 5) gL_pulse_X3_ofPart rfl 2 hdX3_ofPart rfl ⟨Nat.le_of_ble_eq_true rfl, Nat.le_of_ble_eq_true rfl⟩ ⟨Nat.zero_le _, Nat.zero_le _⟩ hK hP hS (fun _ h => h) 0 3 rfl rfl rfl hl.1 rfl (Nat.le_of_ble_eq_true rfl) dL_pulse_105 (fun H locs hP hS => ?_)
        refine lv_nm (y := (if z (10 + ix (inH z)) 2 = 0 then 0 else 1)) (ofp_5 hp) ?_
        refine lv_if_ne (tgt := 138) hx hb dL_pulse_108 (by decide) (fun c_108 => ?_) (fun c_108 => ?_)
        · -- 108 taken
          refine lv_iconst (v := 0) hx hb dL_pulse_138 rfl ?_
          refine lv_nm (y := bI (snB (z (10 + ix (inH z))) (ownd z (10 + ix (inH z)) u))) (bI_no (fun q => c_108 (b01_0.mpr (snB_iff.mp q).2.1))) ?_
          exact tail139 trivial _ _ hP hS ls (lv_sub hl [2, 3, 4, 5, 6, 1, 0] rfl)
        · -- 108 not taken
          refine lv_iload hx hb dL_pulse_111 (lv_at hl 1 rfl) ?_
          refine lv_if_eq (tgt := 121) hx hb dL_pulse_113 (by decide) (fun c_113 => ?_) (fun c_113 => ?_)
          · -- 113 taken
            have c_113 := bI_0 c_113
            refine lv_iload hx hb dL_pulse_121 (lv_at hl 0 rfl) ?_
            refine lv_ineg hx hb dL_pulse_123 ?_
            refine lv_aload_n hx hb dL_pulse_124 rfl (lv_at hl 2 rfl) ?_
            refine lv_iload_n hx hb dL_pulse_125 rfl (lv_at hl 5 rfl) ?_
            refine lv_bipush (v := 11) hx hb dL_pulse_126 (by decide) ?_
            refine qVi (As := [.int (inH z), .int 11]) (rest := [.int (-u)]) hx hb hml hown hts (kX3_ofPart l g z hj (inH z) 11) gL_pulse_X3_ofPart rfl 2 hdX3_ofPart rfl ⟨Nat.le_of_ble_eq_true rfl, Nat.le_of_ble_eq_true rfl⟩ ⟨Nat.zero_le _, Nat.zero_le _⟩ hK hP hS (fun _ h => h) 0 3 rfl rfl rfl hl.1 rfl (Nat.le_of_ble_eq_true rfl) dL_pulse_128 (fun H locs hP hS => ?_)
            refine lv_nm (y := z (10 + ix (inH z)) 8) (ofp_11 hp) ?_
            refine lv_icmp_lt (tgt := 138) hx hb dL_pulse_131 (by decide) (fun c_131 => ?_) (fun c_131 => ?_)
            · -- 131 taken
              have c_131n := i_lt_t c_131
              refine lv_iconst (v := 0) hx hb dL_pulse_138 rfl ?_
              refine lv_nm (y := bI (snB (z (10 + ix (inH z))) (ownd z (10 + ix (inH z)) u))) (bI_no (fun q => c_131n (by have h9 := (snB_iff.mp q).2.2.2; rw [own_f c_113] at h9; exact h9))) ?_
              exact tail139 trivial _ _ hP hS ls (lv_sub hl [2, 3, 4, 5, 6, 1, 0] rfl)
            · -- 131 not taken
              have c_131n := i_lt_f c_131
              refine lv_iconst (v := 1) hx hb dL_pulse_134 rfl ?_
              refine lv_goto (tgt := 139) hx hb dL_pulse_135 (by decide) ?_
              refine lv_nm (y := bI (snB (z (10 + ix (inH z))) (ownd z (10 + ix (inH z)) u))) (bI_of (snB_iff.mpr ⟨c_90, b01_0.mp c_108, b01_0.mp c_99, (by rw [own_f c_113]; exact c_131n)⟩)) ?_
              exact tail139 trivial _ _ hP hS ls (lv_sub hl [2, 3, 4, 5, 6, 1, 0] rfl)
          · -- 113 not taken
            have c_113 := bI_n c_113
            refine lv_iload hx hb dL_pulse_116 (lv_at hl 0 rfl) ?_
            refine lv_goto (tgt := 124) hx hb dL_pulse_118 (by decide) ?_
            refine lv_aload_n hx hb dL_pulse_124 rfl (lv_at hl 2 rfl) ?_
            refine lv_iload_n hx hb dL_pulse_125 rfl (lv_at hl 5 rfl) ?_
            refine lv_bipush (v := 11) hx hb dL_pulse_126 (by decide) ?_
            refine qVi (As := [.int (inH z), .int 11]) (rest := [.int u]) hx hb hml hown hts (kX3_ofPart l g z hj (inH z) 11) gL_pulse_X3_ofPart rfl 2 hdX3_ofPart rfl ⟨Nat.le_of_ble_eq_true rfl, Nat.le_of_ble_eq_true rfl⟩ ⟨Nat.zero_le _, Nat.zero_le _⟩ hK hP hS (fun _ h => h) 0 3 rfl rfl rfl hl.1 rfl (Nat.le_of_ble_eq_true rfl) dL_pulse_128 (fun H locs hP hS => ?_)
            refine lv_nm (y := z (10 + ix (inH z)) 8) (ofp_11 hp) ?_
            refine lv_icmp_lt (tgt := 138) hx hb dL_pulse_131 (by decide) (fun c_131 => ?_) (fun c_131 => ?_)
            · -- 131 taken
              have c_131n := i_lt_t c_131
              refine lv_iconst (v := 0) hx hb dL_pulse_138 rfl ?_
              refine lv_nm (y := bI (snB (z (10 + ix (inH z))) (ownd z (10 + ix (inH z)) u))) (bI_no (fun q => c_131n (by have h9 := (snB_iff.mp q).2.2.2; rw [own_t c_113] at h9; exact h9))) ?_
              exact tail139 trivial _ _ hP hS ls (lv_sub hl [2, 3, 4, 5, 6, 1, 0] rfl)
            · -- 131 not taken
              have c_131n := i_lt_f c_131
              refine lv_iconst (v := 1) hx hb dL_pulse_134 rfl ?_
              refine lv_goto (tgt := 139) hx hb dL_pulse_135 (by decide) ?_
              refine lv_nm (y := bI (snB (z (10 + ix (inH z))) (ownd z (10 + ix (inH z)) u))) (bI_of (snB_iff.mpr ⟨c_90, b01_0.mp c_108, b01_0.mp c_99, (by rw [own_t c_113]; exact c_131n)⟩)) ?_
              exact tail139 trivial _ _ hP hS ls (lv_sub hl [2, 3, 4, 5, 6, 1, 0] rfl)
  refine lv_aload_n hx hb dL_pulse_0 rfl (lv_at hl 0 rfl) ?_
  refine lv_iconst (v := 0) hx hb dL_pulse_1 rfl ?_
  refine qVi (As := [.int 0]) (rest := []) hx hb hml hown hts (kX3_now l g z hj 0) gL_pulse_X3_now rfl 1 hdX3_now rfl ⟨Nat.le_of_ble_eq_true rfl, Nat.le_of_ble_eq_true rfl⟩ ⟨Nat.zero_le _, Nat.zero_le _⟩ hK hP hS (fun _ h => h) 0 3 rfl rfl rfl hl.1 rfl (Nat.le_of_ble_eq_true rfl) dL_pulse_2 (fun H locs hP hS => ?_)
  refine lv_nm (y := inH z) (now_0 z) ?_
  refine lv_istore_n (lv' := [(3, .int (inH z)), (0, .ref (ad 0)), (1, .int v), (2, .int w)]) hx hb dL_pulse_5 rfl hl (by decide) rfl (fun ls hl => ?_)
  refine lv_aload_n hx hb dL_pulse_6 rfl (lv_at hl 1 rfl) ?_
  refine lv_iconst (v := 1) hx hb dL_pulse_7 rfl ?_
  refine qVi (As := [.int 1]) (rest := []) hx hb hml hown hts (kX3_many l g z hj hI 1) gL_pulse_X3_many rfl 1 hdX3_many rfl ⟨Nat.le_of_ble_eq_true rfl, Nat.le_of_ble_eq_true rfl⟩ ⟨Nat.zero_le _, Nat.zero_le _⟩ hK hP hS (fun _ h => h) 0 3 rfl rfl rfl hl.1 rfl (Nat.le_of_ble_eq_true rfl) dL_pulse_8 (fun H locs hP hS => ?_)
  refine lv_nm (y := z 0 3) (many_1 z) ?_
  refine lv_istore (lv' := [(4, .int (z 0 3)), (3, .int (inH z)), (0, .ref (ad 0)), (1, .int v), (2, .int w)]) hx hb dL_pulse_11 hl (by decide) rfl (fun ls hl => ?_)
  refine lv_iload hx hb dL_pulse_13 (lv_at hl 0 rfl) ?_
  refine lv_bipush (v := 60) hx hb dL_pulse_15 (by decide) ?_
  refine lv_icmp_ne (tgt := 46) hx hb dL_pulse_17 (by decide) (fun c_17 => ?_) (fun c_17 => ?_)
  · -- 17 taken
    refine lv_aload_n hx hb dL_pulse_46 rfl (lv_at hl 2 rfl) ?_
    refine lv_iconst (v := 0) hx hb dL_pulse_47 rfl ?_
    refine qVi (As := [.int 0]) (rest := []) hx hb hml hown hts (kX3_pins l g z hj 0) gL_pulse_X3_pins rfl 1 hdX3_pins rfl ⟨Nat.le_of_ble_eq_true rfl, Nat.le_of_ble_eq_true rfl⟩ ⟨Nat.zero_le _, Nat.zero_le _⟩ hK hP hS (fun _ h => h) 0 3 rfl rfl rfl hl.1 rfl (Nat.le_of_ble_eq_true rfl) dL_pulse_48 (fun H locs hP hS => ?_)
    refine lv_nm (y := z 1 0) (pins_0 z) ?_
    refine lv_aload_n hx hb dL_pulse_51 rfl (lv_at hl 2 rfl) ?_
    refine lv_iload_n hx hb dL_pulse_52 rfl (lv_at hl 1 rfl) ?_
    refine lv_iconst (v := 0) hx hb dL_pulse_53 rfl ?_
    refine qVi (As := [.int (inH z), .int 0]) (rest := [.int (z 1 0)]) hx hb hml hown hts (kX3_ofPart l g z hj (inH z) 0) gL_pulse_X3_ofPart rfl 2 hdX3_ofPart rfl ⟨Nat.le_of_ble_eq_true rfl, Nat.le_of_ble_eq_true rfl⟩ ⟨Nat.zero_le _, Nat.zero_le _⟩ hK hP hS (fun _ h => h) 0 3 rfl rfl rfl hl.1 rfl (Nat.le_of_ble_eq_true rfl) dL_pulse_54 (fun H locs hP hS => ?_)
    refine lv_nm (y := z (10 + ix (inH z)) 3) (ofp_0 hp) ?_
    refine lv_ishr hx hb dL_pulse_57 ?_
    refine lv_iconst (v := 1) hx hb dL_pulse_58 rfl ?_
    refine lv_iand hx hb dL_pulse_59 ?_
    refine lv_iconst (v := 1) hx hb dL_pulse_60 rfl ?_
    refine lv_icmp_ne (tgt := 68) hx hb dL_pulse_61 (by decide) (fun c_61 => ?_) (fun c_61 => ?_)
    · -- 61 taken
      refine lv_iconst (v := 0) hx hb dL_pulse_68 rfl ?_
      refine lv_nm (y := bI (fwdB z (10 + ix (inH z)))) (fwb_0 (fun q => c_61 ((fwd_eq hI hih.2.2.2.1 hi4).mpr q))) ?_
      exact tail69 trivial _ _ hP hS ls (lv_sub hl [2, 3, 4, 1, 0] rfl)
    · -- 61 not taken
      refine lv_iconst (v := 1) hx hb dL_pulse_64 rfl ?_
      refine lv_goto (tgt := 69) hx hb dL_pulse_65 (by decide) ?_
      refine lv_nm (y := bI (fwdB z (10 + ix (inH z)))) (fwb_1 ((fwd_eq hI hih.2.2.2.1 hi4).mp c_61)) ?_
      exact tail69 trivial _ _ hP hS ls (lv_sub hl [2, 3, 4, 1, 0] rfl)
  · -- 17 not taken
    exact absurd c_17 hf
