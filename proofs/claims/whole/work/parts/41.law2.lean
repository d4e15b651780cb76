theorem len_no {L j : Nat} (hL : L ≤ 3584) (hj : j ≤ 4000) (h : ¬ Int32.ofNat L - 7 < nI j) : j + 7 ≤ L := by
  have e1 : (Int32.ofNat L).toInt = L := nI_toInt (by omega)
  have e7 : (7 : Int32).toInt = 7 := rfl
  have e2 : (Int32.ofNat L - 7).toInt = (L : Int) - 7 := by rw [fb_subI (by rw [e1, e7]; omega) (by rw [e1, e7]; omega), e1, e7]
  have e3 : (nI j).toInt = j := nI_toInt (by omega)
  have h2 : ¬ (Int32.ofNat L - 7).toInt < (nI j).toInt := fun q => h (Int32.lt_iff_toInt_lt.mpr q)
  rw [e2, e3] at h2
  omega
set_option maxHeartbeats 4000000 in
set_option maxRecDepth 100000 in
theorem law_loop {p : Program} {l : Launch} {e : Env} {s : State} {m : MethodId} {below : List Frame} {meth : Method} {c : Code} {b L : Nat} {xs : Nat → Int32} {g : qG} {ad am : Nat → Nat} (hr : meth.sig.returnType = ret) (hlocks : meth.locks = false) (C0 : ∀ j, j + 7 ≤ L → lawCx p s m c b L xs g ad am j) (C1 : p.tables.exec = Jvm.exec ∧ c.code = code ∧ va_X b L xs s s.heap ∧ b < s.heap.size ∧ L ≤ 3584) : ∀ (n j : Nat) (z : zS) (r : Nat → Int32), L + 1 ≤ j + n → j ≤ L + 7 → qInv z → ∀ (H : Heap) (locs : List Loc), va_P g.1 vwCl (WX g ad z) H → va_P g.1 vwCl (WMu g am (z, r)) H → va_S (fun q => s.heap.size ≤ q) s.heap H locs → ∀ ls : Array Slot, lv_has ls 4 (lawLs b ad am j) → W p l e room_1 s m #[Value.ref b] below meth c H locs 33 650 (lw_Z below #[Value.ref b] s) (F0 m 18 ls []) := by
  obtain ⟨hx, hb, hX, hbl, hL⟩ := C1
  have hbA : ¬ (fun q : Nat => s.heap.size ≤ q) b := Nat.not_le.mpr hbl
  intro n
  induction n with
  | zero =>
    intro j z r h1 h2 hI H locs hPX hPM hS ls hl
    refine lv_iload_n hx hb dL_law_18 rfl (lv_at hl 3 rfl) ?_
    refine lv_aload_n hx hb dL_law_19 rfl (lv_at hl 0 rfl) ?_
    refine va_slen hx hb hX hbl hbA hS dL_law_20 ?_
    refine lv_bipush (v := 7) hx hb dL_law_21 (by decide) ?_
    refine lv_isub hx hb dL_law_23 ?_
    refine lv_icmp_gt (tgt := 861) hx hb dL_law_24 (by decide) (fun c_24 => ?_) (fun c_24 => ?_)
    · refine lv_iconst (v := 1) hx hb dL_law_861 (by decide) ?_
      refine va_forget (fun q hq => hS.2.2 q hq) ?_
      refine W.widen (k := 600000) (n := 7302250) (Nat.le_of_ble_eq_true rfl) (Nat.le_of_ble_eq_true rfl) ?_
      exact lw_ret hx hb hr hlocks dL_law_862
    · exact absurd (len_no hL (by omega) c_24) (by omega)
  | succ n ih =>
    intro j z r h1 h2 hI H locs hPX hPM hS ls hl
    refine lv_iload_n hx hb dL_law_18 rfl (lv_at hl 3 rfl) ?_
    refine lv_aload_n hx hb dL_law_19 rfl (lv_at hl 0 rfl) ?_
    refine va_slen hx hb hX hbl hbA hS dL_law_20 ?_
    refine lv_bipush (v := 7) hx hb dL_law_21 (by decide) ?_
    refine lv_isub hx hb dL_law_23 ?_
    refine lv_icmp_gt (tgt := 861) hx hb dL_law_24 (by decide) (fun c_24 => ?_) (fun c_24 => ?_)
    · refine lv_iconst (v := 1) hx hb dL_law_861 (by decide) ?_
      refine va_forget (fun q hq => hS.2.2 q hq) ?_
      refine W.widen (k := 600000) (n := 7302250) (Nat.le_of_ble_eq_true rfl) (Nat.le_of_ble_eq_true rfl) ?_
      exact lw_ret hx hb hr hlocks dL_law_862
    · have hj7 : j + 7 ≤ L := len_no hL (by omega) c_24
      have C := C0 j hj7
      have nxt : nxtT p l e s m below meth c b g ad am j := by
        intro z' r' hI' H locs hPX hPM hS ls hl
        refine lv_iinc (v := nI (j + 7)) (lv' := [(3, .int (nI (j + 7))), (0, .ref b), (1, .ref (ad 0)), (2, .ref (am 0))]) hx hb dL_law_855 hl (k := 3) rfl (nI_add j 7) (by decide) rfl (fun ls hl => ?_)
        refine lv_goto (tgt := 18) hx hb dL_law_858 (by decide) ?_
        exact ih (j + 7) z' r' (by omega) (by omega) hI' _ _ hPX hPM hS ls (lv_sub hl [1, 2, 3, 0] rfl)
      refine lv_aload_n hx hb dL_law_27 rfl (lv_at hl 0 rfl) ?_
      refine lv_iload_n hx hb dL_law_28 rfl (lv_at hl 3 rfl) ?_
      refine va_sld hx hb hX hbl hbA hS (vp_in_nI (n := j) (N := L) (by omega) (by omega)) dL_law_29 ?_
      refine lv_bipush (v := 31) hx hb dL_law_30 (by decide) ?_
      refine lv_iand hx hb dL_law_32 ?_
      generalize (xs (nI j).toNatClampNeg &&& 31) = kk
      by_cases c_0 : kk = 0
      · refine lv_tableIn (tgt := 136) hx hb dL_law_33 (by rw [c_0]; decide) (by rw [c_0]; decide) (by rw [c_0]; rfl) (by decide) ?_
        exact law_part C nxt hI hPX hPM hS hl
      by_cases c_1 : kk = 1
      · refine lv_tableIn (tgt := 189) hx hb dL_law_33 (by rw [c_1]; decide) (by rw [c_1]; decide) (by rw [c_1]; rfl) (by decide) ?_
        exact law_remove C nxt hI hPX hPM hS hl
      by_cases c_2 : kk = 2
      · refine lv_tableIn (tgt := 212) hx hb dL_law_33 (by rw [c_2]; decide) (by rw [c_2]; decide) (by rw [c_2]; rfl) (by decide) ?_
        exact law_set C nxt hI hPX hPM hS hl
      by_cases c_3 : kk = 3
      · refine lv_tableIn (tgt := 255) hx hb dL_law_33 (by rw [c_3]; decide) (by rw [c_3]; decide) (by rw [c_3]; rfl) (by decide) ?_
        exact law_ofPart C nxt hI hPX hPM hS hl
      by_cases c_4 : kk = 4
      · refine lv_tableIn (tgt := 288) hx hb dL_law_33 (by rw [c_4]; decide) (by rw [c_4]; decide) (by rw [c_4]; rfl) (by decide) ?_
        exact law_relay C nxt hI hPX hPM hS hl
      by_cases c_5 : kk = 5
      · refine lv_tableIn (tgt := 331) hx hb dL_law_33 (by rw [c_5]; decide) (by rw [c_5]; decide) (by rw [c_5]; rfl) (by decide) ?_
        exact law_pins C nxt hI hPX hPM hS hl
      by_cases c_6 : kk = 6
      · refine lv_tableIn (tgt := 354) hx hb dL_law_33 (by rw [c_6]; decide) (by rw [c_6]; decide) (by rw [c_6]; rfl) (by decide) ?_
        exact law_power C nxt hI hPX hPM hS hl
      by_cases c_7 : kk = 7
      · refine lv_tableIn (tgt := 377) hx hb dL_law_33 (by rw [c_7]; decide) (by rw [c_7]; decide) (by rw [c_7]; rfl) (by decide) ?_
        exact law_limit C nxt hI hPX hPM hS hl
      by_cases c_8 : kk = 8
      · refine lv_tableIn (tgt := 400) hx hb dL_law_33 (by rw [c_8]; decide) (by rw [c_8]; decide) (by rw [c_8]; rfl) (by decide) ?_
        exact law_leads C nxt hI hPX hPM hS hl
      by_cases c_9 : kk = 9
      · refine lv_tableIn (tgt := 423) hx hb dL_law_33 (by rw [c_9]; decide) (by rw [c_9]; decide) (by rw [c_9]; rfl) (by decide) ?_
        exact law_now C nxt hI hPX hPM hS hl
      by_cases c_10 : kk = 10
      · refine lv_tableIn (tgt := 446) hx hb dL_law_33 (by rw [c_10]; decide) (by rw [c_10]; decide) (by rw [c_10]; rfl) (by decide) ?_
        exact law_amps C nxt hI hPX hPM hS hl
      by_cases c_11 : kk = 11
      · refine lv_tableIn (tgt := 479) hx hb dL_law_33 (by rw [c_11]; decide) (by rw [c_11]; decide) (by rw [c_11]; rfl) (by decide) ?_
        exact law_would C nxt hI hPX hPM hS hl
      by_cases c_12 : kk = 12
      · refine lv_tableIn (tgt := 512) hx hb dL_law_33 (by rw [c_12]; decide) (by rw [c_12]; decide) (by rw [c_12]; rfl) (by decide) ?_
        exact law_pulse C nxt hI hPX hPM hS hl
      by_cases c_13 : kk = 13
      · refine lv_tableIn (tgt := 545) hx hb dL_law_33 (by rw [c_13]; decide) (by rw [c_13]; decide) (by rw [c_13]; rfl) (by decide) ?_
        exact law_rest C nxt hI hPX hPM hS hl
      by_cases c_14 : kk = 14
      · refine lv_tableIn (tgt := 568) hx hb dL_law_33 (by rw [c_14]; decide) (by rw [c_14]; decide) (by rw [c_14]; rfl) (by decide) ?_
        exact law_sweep C nxt hI hPX hPM hS hl
      by_cases c_15 : kk = 15
      · refine lv_tableIn (tgt := 643) hx hb dL_law_33 (by rw [c_15]; decide) (by rw [c_15]; decide) (by rw [c_15]; rfl) (by decide) ?_
        exact law_why C nxt hI hPX hPM hS hl
      by_cases c_16 : kk = 16
      · refine lv_tableIn (tgt := 676) hx hb dL_law_33 (by rw [c_16]; decide) (by rw [c_16]; decide) (by rw [c_16]; rfl) (by decide) ?_
        exact law_reading C nxt hI hPX hPM hS hl
      by_cases c_17 : kk = 17
      · refine lv_tableIn (tgt := 709) hx hb dL_law_33 (by rw [c_17]; decide) (by rw [c_17]; decide) (by rw [c_17]; rfl) (by decide) ?_
        exact law_clear C nxt hI hPX hPM hS hl
      by_cases c_18 : kk = 18
      · refine lv_tableIn (tgt := 722) hx hb dL_law_33 (by rw [c_18]; decide) (by rw [c_18]; decide) (by rw [c_18]; rfl) (by decide) ?_
        exact law_knee C nxt hI hPX hPM hS hl
      by_cases c_19 : kk = 19
      · refine lv_tableIn (tgt := 755) hx hb dL_law_33 (by rw [c_19]; decide) (by rw [c_19]; decide) (by rw [c_19]; rfl) (by decide) ?_
        exact law_fit C nxt hI hPX hPM hS hl
      by_cases c_20 : kk = 20
      · refine lv_tableIn (tgt := 799) hx hb dL_law_33 (by rw [c_20]; decide) (by rw [c_20]; decide) (by rw [c_20]; rfl) (by decide) ?_
        exact law_gap C nxt hI hPX hPM hS hl
      by_cases c_21 : kk = 21
      · refine lv_tableIn (tgt := 832) hx hb dL_law_33 (by rw [c_21]; decide) (by rw [c_21]; decide) (by rw [c_21]; rfl) (by decide) ?_
        exact law_many C nxt hI hPX hPM hS hl
      refine lv_tableOut (tgt := 855) hx hb dL_law_33 (by have := ne_toInt c_0 (k := 0) rfl; have := ne_toInt c_1 (k := 1) rfl; have := ne_toInt c_2 (k := 2) rfl; have := ne_toInt c_3 (k := 3) rfl; have := ne_toInt c_4 (k := 4) rfl; have := ne_toInt c_5 (k := 5) rfl; have := ne_toInt c_6 (k := 6) rfl; have := ne_toInt c_7 (k := 7) rfl; have := ne_toInt c_8 (k := 8) rfl; have := ne_toInt c_9 (k := 9) rfl; have := ne_toInt c_10 (k := 10) rfl; have := ne_toInt c_11 (k := 11) rfl; have := ne_toInt c_12 (k := 12) rfl; have := ne_toInt c_13 (k := 13) rfl; have := ne_toInt c_14 (k := 14) rfl; have := ne_toInt c_15 (k := 15) rfl; have := ne_toInt c_16 (k := 16) rfl; have := ne_toInt c_17 (k := 17) rfl; have := ne_toInt c_18 (k := 18) rfl; have := ne_toInt c_19 (k := 19) rfl; have := ne_toInt c_20 (k := 20) rfl; have := ne_toInt c_21 (k := 21) rfl; omega) (by decide) ?_
      exact nxt z r hI _ _ hPX hPM hS _ hl
def z0 : zS := fun i => match i with
  | 0 => fun j => if j = 1 then 1000 else 0
  | _ => fun _ => 0
theorem z0_hi (n : Nat) : z0 (10 + n) = fun _ => 0 := by
  rw [show 10 + n = (9 + n) + 1 by omega]; rfl
theorem z0_inv : qInv z0 := by
  refine ⟨Or.inl rfl, by decide, by decide, by decide, by decide, fun t _ => ?_, fun n _ => ?_, fun q => absurd rfl q⟩
  · show inR 0 0 255 = true
    decide
  · rw [z0_hi]
    exact ⟨Or.inl rfl, Or.inl rfl, Or.inl rfl, by decide, by decide, by decide, by decide, by decide, by decide, by decide, by decide, by decide⟩
theorem D_inj {A : Nat → Prop} {ws : va_W} {n : Nat} {ad : Nat → Nat} (h : ws.map Prod.fst = (List.range n).map ad) (hD : va_D A ws) : adInj n ad ∧ ∀ q, adOf n ad q → A q := by
  have at' : ∀ i, i < n → ∃ e, ws[i]? = some (ad i, e) := by
    intro i hi
    have hl : ws.length = n := by
      have := congrArg List.length h
      simpa using this
    have h1 : (ws.map Prod.fst)[i]? = some (ad i) := by rw [h, List.getElem?_map, List.getElem?_range hi]; rfl
    rw [List.getElem?_map] at h1
    cases hw : ws[i]? with
    | none => rw [hw] at h1; cases h1
    | some x =>
      rw [hw] at h1
      exact ⟨x.2, by rw [← Option.some.inj h1]⟩
  refine ⟨fun i j hi hj e => ?_, ?_⟩
  · obtain ⟨a, ha⟩ := at' i hi
    obtain ⟨b, hb⟩ := at' j hj
    exact hD.1 i j _ _ ha hb e
  · rintro q ⟨i, hi, rfl⟩
    obtain ⟨a, ha⟩ := at' i hi
    exact hD.2 i _ ha
theorem D_cross {A : Nat → Prop} {w1 w2 : va_W} {n1 n2 : Nat} {ad am : Nat → Nat} (h1 : w1.map Prod.fst = (List.range n1).map ad) (h2 : w2.map Prod.fst = (List.range n2).map am) (hD : va_D A (w1 ++ w2)) : ∀ i j, i < n1 → j < n2 → ad i ≠ am j := by
  intro i j hi hj e
  have hl1 : w1.length = n1 := by have := congrArg List.length h1; simpa using this
  have hl2 : w2.length = n2 := by have := congrArg List.length h2; simpa using this
  have a1 : (w1.map Prod.fst)[i]? = some (ad i) := by rw [h1, List.getElem?_map, List.getElem?_range hi]; rfl
  have a2 : (w2.map Prod.fst)[j]? = some (am j) := by rw [h2, List.getElem?_map, List.getElem?_range hj]; rfl
  rw [List.getElem?_map] at a1 a2
  cases hw1 : w1[i]? with
  | none => rw [hw1] at a1; cases a1
  | some x =>
    cases hw2 : w2[j]? with
    | none => rw [hw2] at a2; cases a2
    | some y =>
      rw [hw1] at a1
      rw [hw2] at a2
      have b1 : (w1 ++ w2)[i]? = some x := by rw [List.getElem?_append_left (by omega)]; exact hw1
      have b2 : (w1 ++ w2)[n1 + j]? = some y := by rw [List.getElem?_append_right (by omega), hl1, show n1 + j - n1 = j by omega]; exact hw2
      have := hD.1 i (n1 + j) x y b1 b2 (by rw [Option.some.inj a1, Option.some.inj a2]; exact e)
      omega
def adL (l : List Nat) : Nat → Nat := fun i => l.getD i 0
theorem qT_of {s : State} {b : Nat} (hts : ∀ w ∈ lw_tbl, w.before #[Value.ref b] s = true) (hgv : (Jvm.Cond.and given_1 narrow_1).before #[Value.ref b] s = true) : qT (fun q => s.heap.size ≤ q) s := by
  have hs := flat_of_before _ hgv
  have hA : ∀ a : Nat, a < s.heap.size → ¬ (fun q : Nat => s.heap.size ≤ q) a := fun a h => Nat.not_le.mpr h
  obtain ⟨t1, e1, T1⟩ := va_Tof (args := #[Value.ref b]) (s := s) (tm := .static "PartCurves$Part" "LEAST" "[I") (ty := .int) (N := 5) (f := fun j => .int (leastN j)) (A := fun q : Nat => s.heap.size ≤ q) (by decide) (hs _ (by decide +kernel)) (va_eqt (hs (.eq (.length (.static "PartCurves$Part" "LEAST" "[I")) (.int 5)) (by decide +kernel))) (fun j hj => by
    rcases (show j = 0 ∨ j = 1 ∨ j = 2 ∨ j = 3 ∨ j = 4 by omega) with rfl | rfl | rfl | rfl | rfl
    · exact va_eqt (hs (.eq (.elem (.static "PartCurves$Part" "LEAST" "[I") (.int 0)) (.int 1)) (by decide +kernel))
    · exact va_eqt (hs (.eq (.elem (.static "PartCurves$Part" "LEAST" "[I") (.int 1)) (.int 1)) (by decide +kernel))
    · exact va_eqt (hs (.eq (.elem (.static "PartCurves$Part" "LEAST" "[I") (.int 2)) (.int 0)) (by decide +kernel))
    · exact va_eqt (hs (.eq (.elem (.static "PartCurves$Part" "LEAST" "[I") (.int 3)) (.int 0)) (by decide +kernel))
    · exact va_eqt (hs (.eq (.elem (.static "PartCurves$Part" "LEAST" "[I") (.int 4)) (.int 0)) (by decide +kernel))) hA
  obtain ⟨t2, e2, T2⟩ := va_Tof (args := #[Value.ref b]) (s := s) (tm := .static "PartCurves$Part" "MOST" "[I") (ty := .int) (N := 5) (f := fun j => .int (mostN j)) (A := fun q : Nat => s.heap.size ≤ q) (by decide) (hs _ (by decide +kernel)) (va_eqt (hs (.eq (.length (.static "PartCurves$Part" "MOST" "[I")) (.int 5)) (by decide +kernel))) (fun j hj => by
    rcases (show j = 0 ∨ j = 1 ∨ j = 2 ∨ j = 3 ∨ j = 4 by omega) with rfl | rfl | rfl | rfl | rfl
    · exact va_eqt (hs (.eq (.elem (.static "PartCurves$Part" "MOST" "[I") (.int 0)) (.int 5000)) (by decide +kernel))
    · exact va_eqt (hs (.eq (.elem (.static "PartCurves$Part" "MOST" "[I") (.int 1)) (.int 2000)) (by decide +kernel))
    · exact va_eqt (hs (.eq (.elem (.static "PartCurves$Part" "MOST" "[I") (.int 2)) (.int 2000)) (by decide +kernel))
    · exact va_eqt (hs (.eq (.elem (.static "PartCurves$Part" "MOST" "[I") (.int 3)) (.int 5000)) (by decide +kernel))
    · exact va_eqt (hs (.eq (.elem (.static "PartCurves$Part" "MOST" "[I") (.int 4)) (.int 5)) (by decide +kernel))) hA
  exact ⟨⟨t1, va_Zref (hts (.laysStatic "PartCurves$Part" "LEAST" "[I") (by decide +kernel)) (hts (.initialized "PartCurves$Part") (by decide +kernel)) e1 hA, T1⟩, t2, va_Zref (hts (.laysStatic "PartCurves$Part" "MOST" "[I") (by decide +kernel)) (hts (.initialized "PartCurves$Part") (by decide +kernel)) e2 hA, T2⟩
theorem qN_of {s : State} {b : Nat} (hts : ∀ w ∈ lw_tbl, w.before #[Value.ref b] s = true) : qN s :=
  ⟨va_AO.of (hts (.arrayOver (.object "PartCurves$Part")) (by decide +kernel)), va_Nw.of rfl (hts (.methodLinkNest RX3 23 yX2_init "PartCurves") (by decide +kernel)), va_Nw.of rfl (hts (.methodLinkNest RX3 30 yX0_init "PartCurves") (by decide +kernel)), va_Nw.of rfl (hts (.methodLinkNest RX3 46 yX1_init "PartCurves") (by decide +kernel))⟩
theorem g_of {s : State} {b : Nat} (hts : ∀ w ∈ lw_tbl, w.before #[Value.ref b] s = true) : ∃ g : qG, va_K g.1 vwCl (qTys g) s := by
  obtain ⟨c0, i0', hk0⟩ := u_known (C := RX0) (T := TX0) (N := 3) (n := 3) hts inX0 (hts (.instantiable RX0 3) (by decide +kernel))
  obtain ⟨c1, i1', hk1⟩ := u_known (C := RX1) (T := TX1) (N := 12) (n := 12) hts inX1 (hts (.instantiable RX1 12) (by decide +kernel))
  obtain ⟨c2, i2', hk2⟩ := u_known (C := RX2) (T := TX2) (N := 5) (n := 5) hts inX2 (hts (.instantiable RX2 5) (by decide +kernel))
  obtain ⟨c3, i3', hk3⟩ := u_known (C := RX3) (T := TX3) (N := 7) (n := 7) hts inX3 (hts (.instantiable RX3 7) (by decide +kernel))
  obtain ⟨c4, i4', hk4⟩ := u_known (C := RX4) (T := TX4) (N := 25) (n := 25) hts inX4 (hts (.instantiable RX4 25) (by decide +kernel))
  obtain ⟨a1, k1, o1, n1, h1, d1⟩ := Cond.arrayClass_spec (hts (.arrayClass .int) (by decide +kernel))
  obtain ⟨a2, k2, o2, n2, h2, d2⟩ := Cond.arrayClass_spec (hts (.arrayClass .boolean) (by decide +kernel))
  obtain ⟨o3, a3, k3, f3, -, h3, d3, n3⟩ := Cond.arrayOver_spec (hts (.arrayOver (.object "PartCurves$Part")) (by decide +kernel))
  refine ⟨((fun k => match k with | 0 => c0 | 1 => c1 | 2 => c2 | 3 => c3 | _ => c4, fun k => match k with | 0 => i0' | 1 => i1' | 2 => i2' | 3 => i3' | _ => i4'), a1, a2, a3), ?_, ?_⟩
  · intro k q hq
    match k, hq with
    | 0, hq => cases hq; exact hk0
    | 1, hq => cases hq; exact hk1
    | 2, hq => cases hq; exact hk2
    | 3, hq => cases hq; exact hk3
    | 4, hq => cases hq; exact hk4
    | k + 5, hq => simp [vwCl] at hq
  · intro k q hq
    match k, hq with
    | 0, hq => cases hq; exact ⟨fun n z => ⟨fun k h => (by cases h), k1, h1, o1, d1⟩, n1⟩
    | 1, hq => cases hq; exact ⟨fun n z => ⟨fun k h => (by cases h), k2, h2, o2, d2⟩, n2⟩
    | 2, hq => cases hq; exact ⟨fun n z => ⟨fun k h => (by cases h), k3, h3, o3, d3⟩, k3, o3, h3, d3, f3, n3⟩
    | k + 3, hq => simp [qTys] at hq
