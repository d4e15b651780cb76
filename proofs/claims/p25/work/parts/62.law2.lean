theorem low_nat (v : Int32) {n : Int32} (hn : 0 < n.toInt) : ∃ k : Nat, lowF v n = nI k ∧ (k : Int) < n.toInt := by
  have h := low_b v hn
  have hr := fb_rng n
  refine ⟨(lowF v n).toInt.toNat, Int32.toInt_inj.mp ?_, by omega⟩
  rw [nI_toInt (by omega)]; omega
theorem sub_nat {n : Int32} {a : Nat} (h : (a : Int) < n.toInt) : (n - nI a).toInt = n.toInt - (a : Int) := by
  have hr := fb_rng n
  have e : (nI a).toInt = (a : Int) := nI_toInt (by omega)
  rw [fb_subI (by rw [e]; omega) (by rw [e]; omega), e]
theorem nI_nn0 {k : Nat} (h : k < 2 ^ 31) : ¬ nI k < 0 := fun q => by
  have h1 := (fb_sgnI _).mp q
  rw [nI_toInt h] at h1; omega
theorem now1_f {z : zS} {f : Bool} (h : fourB z = f) : s_now z 1 = 2 + 2 * bI f := by
  rw [now_1, h]
  cases f <;> rfl
theorem and3 (x : Int32) : ∃ k : Nat, k < 4 ∧ x &&& 3 = nI k := by
  obtain ⟨k, h1, h2⟩ := inR_nI (n := 3) rfl (and_in x (k := 3) (mk := 3) (bk := 3) (by decide) rfl rfl)
  exact ⟨k, by omega, h2⟩
theorem and1 (x : Int32) : ∃ f : Bool, x &&& 1 = bI f := by
  have h := in01 (and_in x (k := 1) (mk := 1) (bk := 1) (by decide) rfl rfl)
  rcases h with h | h
  · exact ⟨false, h⟩
  · exact ⟨true, h⟩
theorem ofk {z : zS} {k : Nat} (hk4 : k < 4) (h : z (10 + k) 0 = 1) : s_ofPart z (nI k) 0 = z (10 + k) 3 ∧ s_ofPart z (nI k) 1 = z (10 + k) 4 := by
  obtain ⟨n1, n2⟩ := nI_in4 hk4
  have hp : pOk z (nI k) = true := by unfold pOk; rw [n1, n2, h]; rfl
  rw [ofp_0 hp, ofp_1 hp, n2]; exact ⟨rfl, rfl⟩
set_option maxHeartbeats 4000000 in
set_option maxRecDepth 100000 in
theorem law_584 {p : Program} {l : Launch} {e : Env} {s : State} {m : MethodId} {below : List Frame} {meth : Method} {c : Code} {b L : Nat} {xs : Nat → Int32} {g : qG} {ad : Nat → Nat} (C0 : lawC p s m meth c b L xs g ad) {i : Nat} (hi : i < 3) (nxt : ∀ yo yp : zS, LA yo yp → lawAt p l e s m below meth c b g ad 869 [] [(0, .ref b), (1, .ref (ad 0)), (2, .ref (aP ad 0)), (3, .int (nI i))] yo yp) {zo zp : zS} (hE : LE zo zp) (hRd : qRd zo) : ∀ (k : Nat) (j : Nat), j + k = 3 → lawAt p l e s m below meth c b g ad 584 [] [(0, .ref b), (1, .ref (ad 0)), (2, .ref (aP ad 0)), (3, .int (nI i)), (11, .int (zo 0 3)), (12, .int (nI j))] zo zp := by
  obtain ⟨hx, hb, hml, hown, hts, hr, hlocks, hX, hbl, hL, hj, hg, hK, hT⟩ := id C0
  intro k
  induction k with
  | zero =>
    intro j hj2
    intro H locs hPo hPp hS ls hl
    refine lv_iload hx hb dL_law_584 (lv_at hl 5 rfl) ?_
    refine lv_iconst (v := 3) hx hb dL_law_586 rfl ?_
    refine lv_icmp_ge (tgt := 662) hx hb dL_law_587 (by decide) (fun c_587 => ?_) (fun c_587 => ?_)
    · -- 587 taken
      have c_587n := i_le_t c_587
      refine lv_iconst (v := 0) hx hb dL_law_662 rfl ?_
      refine lv_istore (lv' := [(12, .int 0), (0, .ref b), (1, .ref (ad 0)), (2, .ref (aP ad 0)), (3, .int (nI i)), (11, .int (zo 0 3))]) hx hb dL_law_663 hl (by decide) rfl (fun ls hl => ?_)
      exact law_665 C0 hi nxt 5 0 _ _ (by omega) hE _ _ hPo hPp hS ls (lv_sub hl [1, 2, 3, 4, 0] rfl)
    · -- 587 not taken
      have c_587n := i_le_f c_587
      exact absurd (nI_lt' (b := 3) (by omega) (by omega) c_587) (by omega)
  | succ k ih =>
    intro j hj2
    intro H locs hPo hPp hS ls hl
    refine lv_iload hx hb dL_law_584 (lv_at hl 5 rfl) ?_
    refine lv_iconst (v := 3) hx hb dL_law_586 rfl ?_
    refine lv_icmp_ge (tgt := 662) hx hb dL_law_587 (by decide) (fun c_587 => ?_) (fun c_587 => ?_)
    · -- 587 taken
      have c_587n := i_le_t c_587
      exact absurd (nI_ge' (b := 3) (by omega) (by omega) c_587) (by omega)
    · -- 587 not taken
      have c_587n := i_le_f c_587
      refine lv_iload hx hb dL_law_590 (lv_at hl 4 rfl) ?_
      refine lv_if_le (tgt := 662) hx hb dL_law_592 (by decide) (fun c_592 => ?_) (fun c_592 => ?_)
      · -- 592 taken
        have c_592n := i_le_t c_592
        refine lv_iconst (v := 0) hx hb dL_law_662 rfl ?_
        refine lv_istore (lv' := [(12, .int 0), (0, .ref b), (1, .ref (ad 0)), (2, .ref (aP ad 0)), (3, .int (nI i)), (11, .int (zo 0 3))]) hx hb dL_law_663 hl (by decide) rfl (fun ls hl => ?_)
        exact law_665 C0 hi nxt 5 0 _ _ (by omega) hE _ _ hPo hPp hS ls (lv_sub hl [1, 2, 3, 4, 0] rfl)
      · -- 592 not taken
        have c_592n := i_le_f c_592
        have hn0 : 0 < (zo 0 3).toInt := by have h9 := Int32.lt_iff_toInt_lt.mp c_592n; rw [i0] at h9; exact h9
        refine lv_aload_n hx hb dL_law_595 rfl (lv_at hl 0 rfl) ?_
        refine lv_bipush (v := 10) hx hb dL_law_596 (by decide) ?_
        refine lv_bipush (v := 20) hx hb dL_law_598 (by decide) ?_
        refine lv_iload_n hx hb dL_law_600 rfl (lv_at hl 3 rfl) ?_
        refine lv_imul hx hb dL_law_601 ?_
        refine lv_iadd hx hb dL_law_602 ?_
        refine lv_iload hx hb dL_law_603 (lv_at hl 5 rfl) ?_
        refine lv_iadd hx hb dL_law_605 ?_
        refine lv_nm (y := nI (10 + 20 * i + j)) (by rw [show (10 : Int32) = nI 10 from rfl, idx_1, nI_add]) ?_
        refine qCell (i := 10 + 20 * i + j) hx hb hml hown hts gL_law_L_cell hX hbl (Nat.not_le.mpr hbl) (by omega) (by omega) ⟨Nat.le_of_ble_eq_true rfl, Nat.le_of_ble_eq_true rfl⟩ ⟨Nat.le_of_ble_eq_true rfl, Nat.le_of_ble_eq_true rfl⟩ hS hl.1 (Nat.le_of_ble_eq_true rfl) dL_law_606 (fun H locs hz hk hS => ?_)
        have hPo := P_all hPo hk
        have hPp := P_all hPp hk
        refine lv_topi (fun g1 hg1 => ?_)
        refine lv_iload hx hb dL_law_609 (lv_at hl 4 rfl) ?_
        refine qSiF (As := [.int g1, .int (zo 0 3)]) (rest := []) hx hb hml hown hts (kL_low l g (Wd := qE) (A := fun _ => False) () g1 (zo 0 3) hn0) gL_law_L_low rfl 2 hdL_low rfl ⟨Nat.le_of_ble_eq_true rfl, Nat.le_of_ble_eq_true rfl⟩ ⟨Nat.le_of_ble_eq_true rfl, Nat.le_of_ble_eq_true rfl⟩ hK P_e hS (fun _ h => h.elim) hl.1 rfl (Nat.le_of_ble_eq_true rfl) dL_law_611 (fun H locs hz hk _ hS => ?_)
        have hPo := P_all hPo hk
        have hPp := P_all hPp hk
        obtain ⟨aa, ea, ha⟩ := low_nat g1 (n := zo 0 3) hn0
        refine lv_nm (y := nI aa) ea ?_
        refine lv_istore (lv' := [(13, .int (nI aa)), (0, .ref b), (1, .ref (ad 0)), (2, .ref (aP ad 0)), (3, .int (nI i)), (11, .int (zo 0 3)), (12, .int (nI j))]) hx hb dL_law_614 hl (by decide) rfl (fun ls hl => ?_)
        refine lv_iload hx hb dL_law_616 (lv_at hl 0 rfl) ?_
        refine lv_aload_n hx hb dL_law_618 rfl (lv_at hl 1 rfl) ?_
        refine lv_bipush (v := 13) hx hb dL_law_619 (by decide) ?_
        refine lv_bipush (v := 20) hx hb dL_law_621 (by decide) ?_
        refine lv_iload_n hx hb dL_law_623 rfl (lv_at hl 4 rfl) ?_
        refine lv_imul hx hb dL_law_624 ?_
        refine lv_iadd hx hb dL_law_625 ?_
        refine lv_iload hx hb dL_law_626 (lv_at hl 6 rfl) ?_
        refine lv_iadd hx hb dL_law_628 ?_
        refine lv_nm (y := nI (13 + 20 * i + j)) (by rw [show (13 : Int32) = nI 13 from rfl, idx_1, nI_add]) ?_
        refine qCell (i := 13 + 20 * i + j) hx hb hml hown hts gL_law_L_cell hX hbl (Nat.not_le.mpr hbl) (by omega) (by omega) ⟨Nat.le_of_ble_eq_true rfl, Nat.le_of_ble_eq_true rfl⟩ ⟨Nat.le_of_ble_eq_true rfl, Nat.le_of_ble_eq_true rfl⟩ hS hl.1 (Nat.le_of_ble_eq_true rfl) dL_law_629 (fun H locs hz hk hS => ?_)
        have hPo := P_all hPo hk
        have hPp := P_all hPp hk
        refine lv_topi (fun g2 hg2 => ?_)
        refine lv_iload hx hb dL_law_632 (lv_at hl 5 rfl) ?_
        refine lv_iload hx hb dL_law_634 (lv_at hl 0 rfl) ?_
        refine lv_isub hx hb dL_law_636 ?_
        have hn1 : 0 < (zo 0 3 - nI aa).toInt := by rw [sub_nat ha]; omega
        refine qSiF (As := [.int g2, .int ((zo 0 3) - (nI aa))]) (rest := [.int (nI aa)]) hx hb hml hown hts (kL_low l g (Wd := qE) (A := fun _ => False) () g2 ((zo 0 3) - (nI aa)) hn1) gL_law_L_low rfl 2 hdL_low rfl ⟨Nat.le_of_ble_eq_true rfl, Nat.le_of_ble_eq_true rfl⟩ ⟨Nat.le_of_ble_eq_true rfl, Nat.le_of_ble_eq_true rfl⟩ hK P_e hS (fun _ h => h.elim) hl.1 rfl (Nat.le_of_ble_eq_true rfl) dL_law_637 (fun H locs hz hk _ hS => ?_)
        have hPo := P_all hPo hk
        have hPp := P_all hPp hk
        refine lv_iadd hx hb dL_law_640 ?_
        obtain ⟨bb, eb, hb9⟩ := low_nat g2 (n := zo 0 3 - nI aa) hn1
        rw [sub_nat ha] at hb9
        have hlt : aa + bb < ix (zo 0 3) := by have h9 := (inR_ix (n := 60) rfl (inv_rc hE.1)).2.2; omega
        refine lv_nm (y := nI (aa + bb)) (by rw [eb]; exact nI_add _ _) ?_
        refine lv_istore (lv' := [(14, .int (nI (aa + bb))), (13, .int (nI aa)), (0, .ref b), (1, .ref (ad 0)), (2, .ref (aP ad 0)), (3, .int (nI i)), (11, .int (zo 0 3)), (12, .int (nI j))]) hx hb dL_law_641 hl (by decide) rfl (fun ls hl => ?_)
        refine lv_aload_n hx hb dL_law_643 rfl (lv_at hl 3 rfl) ?_
        refine lv_iload hx hb dL_law_644 (lv_at hl 1 rfl) ?_
        refine lv_iload hx hb dL_law_646 (lv_at hl 0 rfl) ?_
        refine qSiF (As := [.ref (ad 0), .int (nI aa), .int (nI (aa + bb))]) (rest := []) hx hb hml hown hts (kL_fits l g zo (J_o hj) hE.1 hRd (a := aa) (b := aa + bb) (by omega) hlt) gL_law_L_fits rfl 3 hdL_fits rfl ⟨Nat.le_of_ble_eq_true rfl, Nat.le_of_ble_eq_true rfl⟩ ⟨Nat.le_of_ble_eq_true rfl, Nat.le_of_ble_eq_true rfl⟩ hK hPo hS (fun q h => hg q (A_o q h)) hl.1 rfl (Nat.le_of_ble_eq_true rfl) dL_law_648 (fun H locs hz hk hPo hS => ?_)
        have hPp := P2_kp hj hPp hk
        refine lv_if_ne (tgt := 656) hx hb dL_law_651 (by decide) (fun c_651 => ?_) (fun c_651 => ?_)
        · -- 651 taken
          refine lv_iinc (v := nI (j + 1)) (lv' := [(12, .int (nI (j + 1))), (14, .int (nI (aa + bb))), (13, .int (nI aa)), (0, .ref b), (1, .ref (ad 0)), (2, .ref (aP ad 0)), (3, .int (nI i)), (11, .int (zo 0 3))]) hx hb dL_law_656 hl (k := 7) rfl (nI_1 j) (by decide) rfl (fun ls hl => ?_)
          refine lv_goto (tgt := 584) hx hb dL_law_659 (by decide) ?_
          exact ih (j + 1) (by omega) _ _ hPo hPp hS ls (lv_sub hl [3, 4, 5, 6, 7, 0] rfl)
        · -- 651 not taken
          exact absurd c_651 (by decide)
set_option maxHeartbeats 4000000 in
set_option maxRecDepth 100000 in
theorem law_553 {p : Program} {l : Launch} {e : Env} {s : State} {m : MethodId} {below : List Frame} {meth : Method} {c : Code} {b L : Nat} {xs : Nat → Int32} {g : qG} {ad : Nat → Nat} (C0 : lawC p s m meth c b L xs g ad) {i : Nat} (hi : i < 3) (nxt : ∀ yo yp : zS, LA yo yp → lawAt p l e s m below meth c b g ad 869 [] [(0, .ref b), (1, .ref (ad 0)), (2, .ref (aP ad 0)), (3, .int (nI i))] yo yp) {zo zp : zS} (hD : LD zo zp) : lawAt p l e s m below meth c b g ad 553 [] [(0, .ref b), (1, .ref (ad 0)), (2, .ref (aP ad 0)), (3, .int (nI i))] zo zp := by
  obtain ⟨hx, hb, hml, hown, hts, hr, hlocks, hX, hbl, hL, hj, hg, hK, hT⟩ := id C0
  intro H locs hPo hPp hS ls hl
  refine lv_aload_n hx hb dL_law_553 rfl (lv_at hl 1 rfl) ?_
  refine lv_aload_n hx hb dL_law_554 rfl (lv_at hl 2 rfl) ?_
  refine lv_aload_n hx hb dL_law_555 rfl (lv_at hl 0 rfl) ?_
  refine lv_bipush (v := 9) hx hb dL_law_556 (by decide) ?_
  refine lv_bipush (v := 20) hx hb dL_law_558 (by decide) ?_
  refine lv_iload_n hx hb dL_law_560 rfl (lv_at hl 3 rfl) ?_
  refine lv_imul hx hb dL_law_561 ?_
  refine lv_iadd hx hb dL_law_562 ?_
  refine lv_nm (y := nI (9 + 20 * i)) (by rw [show (9 : Int32) = nI 9 from rfl, idx_1]) ?_
  refine qCell (i := 9 + 20 * i) hx hb hml hown hts gL_law_L_cell hX hbl (Nat.not_le.mpr hbl) (by omega) (by omega) ⟨Nat.le_of_ble_eq_true rfl, Nat.le_of_ble_eq_true rfl⟩ ⟨Nat.le_of_ble_eq_true rfl, Nat.le_of_ble_eq_true rfl⟩ hS hl.1 (Nat.le_of_ble_eq_true rfl) dL_law_563 (fun H locs hz hk hS => ?_)
  have hPo := P_all hPo hk
  have hPp := P_all hPp hk
  refine lv_topi (fun gs hgs => ?_)
  refine qSiR (As := [.ref (ad 0), .ref (aP ad 0), .int gs]) (rest := []) hx hb hml hown hts (kL_sweep l g zo zp hj hD.1 hD.2.1 hD.2.2.1 hD.2.2.2.1 gs) gL_law_L_sweep rfl 3 hdL_sweep rfl ⟨Nat.le_of_ble_eq_true rfl, Nat.le_of_ble_eq_true rfl⟩ ⟨Nat.le_of_ble_eq_true rfl, Nat.le_of_ble_eq_true rfl⟩ hK (P2_mk hPo hPp) hS hg hl.1 rfl (Nat.le_of_ble_eq_true rfl) dL_law_566 (fun u9 H locs hR9 hz hk hP2 hS => ?_)
  obtain ⟨yo, yp⟩ := u9
  have hPo := P2_o hP2
  have hPp := P2_p hP2
  refine lv_if_ne (tgt := 574) hx hb dL_law_569 (by decide) (fun c_569 => ?_) (fun c_569 => ?_)
  · -- 569 taken
    have hEE := LE_of hD hR9
    refine lv_aload_n hx hb dL_law_574 rfl (lv_at hl 1 rfl) ?_
    refine lv_iconst (v := 1) hx hb dL_law_575 rfl ?_
    refine qViF (As := [.int 1]) (rest := []) hx hb hml hown hts (kX3_many l g yo (J_o hj) hEE.1.1 1) gL_law_X3_many rfl 1 hdX3_many rfl ⟨Nat.le_of_ble_eq_true rfl, Nat.le_of_ble_eq_true rfl⟩ ⟨Nat.le_of_ble_eq_true rfl, Nat.le_of_ble_eq_true rfl⟩ hK hPo hS (fun q h => hg q (A_o q h)) 0 3 rfl rfl rfl hl.1 rfl (Nat.le_of_ble_eq_true rfl) dL_law_576 (fun H locs hz hk hPo hS => ?_)
    have hPp := P2_kp hj hPp hk
    refine lv_nm (y := yo 0 3) (many_1 yo) ?_
    refine lv_istore (lv' := [(11, .int (yo 0 3)), (0, .ref b), (1, .ref (ad 0)), (2, .ref (aP ad 0)), (3, .int (nI i))]) hx hb dL_law_579 hl (by decide) rfl (fun ls hl => ?_)
    refine lv_iconst (v := 0) hx hb dL_law_581 rfl ?_
    refine lv_istore (lv' := [(12, .int 0), (11, .int (yo 0 3)), (0, .ref b), (1, .ref (ad 0)), (2, .ref (aP ad 0)), (3, .int (nI i))]) hx hb dL_law_582 hl (by decide) rfl (fun ls hl => ?_)
    exact law_584 C0 hi nxt hEE.1 hEE.2 3 0 (by omega) _ _ hPo hPp hS ls (lv_sub hl [2, 3, 4, 5, 1, 0] rfl)
  · -- 569 not taken
    exact absurd c_569 (by decide)
set_option maxHeartbeats 4000000 in
set_option maxRecDepth 100000 in
theorem law_413 {p : Program} {l : Launch} {e : Env} {s : State} {m : MethodId} {below : List Frame} {meth : Method} {c : Code} {b L : Nat} {xs : Nat → Int32} {g : qG} {ad : Nat → Nat} (C0 : lawC p s m meth c b L xs g ad) {i : Nat} (hi : i < 3) (nxt : ∀ yo yp : zS, LA yo yp → lawAt p l e s m below meth c b g ad 869 [] [(0, .ref b), (1, .ref (ad 0)), (2, .ref (aP ad 0)), (3, .int (nI i))] yo yp) {zb zo zp : zS} {kk : Nat} {h1 : Int32} {f : Bool} (hC : LC zb kk h1 f zo zp) (hk4 : kk < 4) (hb4 : ∀ n, n < 4 → zb (10 + n) 0 = 1) {lm ld : Int32} (g1 : inR lm 1 4000 = true) (g2 : inR ld 0 200 = true) : lawAt p l e s m below meth c b g ad 413 [.int ld] [(0, .ref b), (1, .ref (ad 0)), (2, .ref (aP ad 0)), (3, .int (nI i)), (5, .int (nI kk)), (6, .int h1), (8, .int (bI f)), (9, .int lm)] zo zp := by
  obtain ⟨hx, hb, hml, hown, hts, hr, hlocks, hX, hbl, hL, hj, hg, hK, hT⟩ := id C0
  obtain ⟨a1, a2, a3, a4, a5, a6, a7, a8, a9, a10⟩ := id hC
  have hC2 := LC_set hC g1 g2
  obtain ⟨⟨jh, ej, hjk⟩, h9, h9p⟩ := LC_hand hC2 hk4 hb4
  have hf2 := hC2.2.2.2.2.2.2.2.2.2
  have h0p2 : zu (zu zp 0 1 lm) 0 2 ld 0 0 = 0 := by rw [← hC2.2.2.1.2.2.1]; exact hC2.2.2.2.1
  have hLD := LD_of hC2 hk4 hb4
  have hon1 : ¬ zu (zu (zu zo 0 1 lm) 0 2 ld) 0 0 1 0 0 = 0 := hLD.2.2.2.1
  have hl1 : s_leads (zu zo 0 1 lm) ld = (zo 0 2, zu (zu zo 0 1 lm) 0 2 ld) := by rw [lds_ok g2, zu_col _ _ _ _ _ _ (by decide)]
  have hl2 : s_leads (zu zp 0 1 lm) ld = (zp 0 2, zu (zu zp 0 1 lm) 0 2 ld) := by rw [lds_ok g2, zu_col _ _ _ _ _ _ (by decide)]
  intro H locs hPo hPp hS ls hl
  refine lv_istore (lv' := [(10, .int ld), (0, .ref b), (1, .ref (ad 0)), (2, .ref (aP ad 0)), (3, .int (nI i)), (5, .int (nI kk)), (6, .int h1), (8, .int (bI f)), (9, .int lm)]) hx hb dL_law_413 hl (by decide) rfl (fun ls hl => ?_)
  refine lv_aload_n hx hb dL_law_415 rfl (lv_at hl 2 rfl) ?_
  refine lv_iconst (v := 1) hx hb dL_law_416 rfl ?_
  refine lv_iload hx hb dL_law_417 (lv_at hl 6 rfl) ?_
  refine lv_iconst (v := 1) hx hb dL_law_419 rfl ?_
  refine qViF (As := [.int 1, .int h1, .int 1]) (rest := []) hx hb hml hown hts (kX3_relay l g zo (J_o hj) 1 h1 1) gL_law_X3_relay rfl 3 hdX3_relay rfl ⟨Nat.le_of_ble_eq_true rfl, Nat.le_of_ble_eq_true rfl⟩ ⟨Nat.le_of_ble_eq_true rfl, Nat.le_of_ble_eq_true rfl⟩ hK hPo hS (fun q h => hg q (A_o q h)) 0 3 rfl rfl rfl hl.1 rfl (Nat.le_of_ble_eq_true rfl) dL_law_420 (fun H locs hz hk hPo hS => ?_)
  have hPp := P2_kp hj hPp hk
  refine lv_nm (y := (-3)) (congrArg Prod.fst (rl_short a6 a7)) ?_
  rw [(rl_short a6 a7)] at hPo
  dsimp only at hPo
  refine lv_bipush (v := -3) hx hb dL_law_423 (by decide) ?_
  refine lv_icmp_ne (tgt := 551) hx hb dL_law_425 (by decide) (fun c_425 => ?_) (fun c_425 => ?_)
  · -- 425 taken
    exact absurd rfl c_425
  · -- 425 not taken
    refine lv_aload_n hx hb dL_law_428 rfl (lv_at hl 2 rfl) ?_
    refine lv_iload hx hb dL_law_429 (lv_at hl 8 rfl) ?_
    refine qViF (As := [.int lm]) (rest := []) hx hb hml hown hts (kX3_limit l g zo (J_o hj) lm) gL_law_X3_limit rfl 1 hdX3_limit rfl ⟨Nat.le_of_ble_eq_true rfl, Nat.le_of_ble_eq_true rfl⟩ ⟨Nat.le_of_ble_eq_true rfl, Nat.le_of_ble_eq_true rfl⟩ hK hPo hS (fun q h => hg q (A_o q h)) 0 3 rfl rfl rfl hl.1 rfl (Nat.le_of_ble_eq_true rfl) dL_law_431 (fun H locs hz hk hPo hS => ?_)
    have hPp := P2_kp hj hPp hk
    refine lv_nm (y := zo 0 1) (congrArg Prod.fst (lim_ok (z := zo) g1)) ?_
    rw [(lim_ok (z := zo) g1)] at hPo
    dsimp only at hPo
    refine lv_iconst (v := 1) hx hb dL_law_434 rfl ?_
    refine lv_icmp_lt (tgt := 551) hx hb dL_law_435 (by decide) (fun c_435 => ?_) (fun c_435 => ?_)
    · -- 435 taken
      have c_435n := i_lt_t c_435
      exact absurd c_435 (lim_1 a1)
    · -- 435 not taken
      have c_435n := i_lt_f c_435
      refine lv_aload_n hx hb dL_law_438 rfl (lv_at hl 3 rfl) ?_
      refine lv_iload hx hb dL_law_439 (lv_at hl 8 rfl) ?_
      refine qViF (As := [.int lm]) (rest := []) hx hb hml hown hts (kX3_limit l g zp (J_p hj) lm) gL_law_X3_limit rfl 1 hdX3_limit rfl ⟨Nat.le_of_ble_eq_true rfl, Nat.le_of_ble_eq_true rfl⟩ ⟨Nat.le_of_ble_eq_true rfl, Nat.le_of_ble_eq_true rfl⟩ hK hPp hS (fun q h => hg q (A_p q h)) 0 3 rfl rfl rfl hl.1 rfl (Nat.le_of_ble_eq_true rfl) dL_law_441 (fun H locs hz hk hPp hS => ?_)
      have hPo := P2_ko hj hPo hk
      refine lv_nm (y := zp 0 1) (congrArg Prod.fst (lim_ok (z := zp) g1)) ?_
      rw [(lim_ok (z := zp) g1)] at hPp
      dsimp only at hPp
      refine lv_iconst (v := 1) hx hb dL_law_444 rfl ?_
      refine lv_icmp_lt (tgt := 551) hx hb dL_law_445 (by decide) (fun c_445 => ?_) (fun c_445 => ?_)
      · -- 445 taken
        have c_445n := i_lt_t c_445
        exact absurd c_445 (lim_1 a2)
      · -- 445 not taken
        have c_445n := i_lt_f c_445
        refine lv_aload_n hx hb dL_law_448 rfl (lv_at hl 2 rfl) ?_
        refine lv_iload hx hb dL_law_449 (lv_at hl 0 rfl) ?_
        refine qViF (As := [.int ld]) (rest := []) hx hb hml hown hts (kX3_leads l g (zu zo 0 1 lm) (J_o hj) ld) gL_law_X3_leads rfl 1 hdX3_leads rfl ⟨Nat.le_of_ble_eq_true rfl, Nat.le_of_ble_eq_true rfl⟩ ⟨Nat.le_of_ble_eq_true rfl, Nat.le_of_ble_eq_true rfl⟩ hK hPo hS (fun q h => hg q (A_o q h)) 0 3 rfl rfl rfl hl.1 rfl (Nat.le_of_ble_eq_true rfl) dL_law_451 (fun H locs hz hk hPo hS => ?_)
        have hPp := P2_kp hj hPp hk
        refine lv_nm (y := zo 0 2) (congrArg Prod.fst hl1) ?_
        rw [hl1] at hPo
        dsimp only at hPo
        refine lv_if_lt (tgt := 551) hx hb dL_law_454 (by decide) (fun c_454 => ?_) (fun c_454 => ?_)
        · -- 454 taken
          have c_454n := i_lt_t c_454
          exact absurd c_454 (lds_0 a1)
        · -- 454 not taken
          have c_454n := i_lt_f c_454
          refine lv_aload_n hx hb dL_law_457 rfl (lv_at hl 3 rfl) ?_
          refine lv_iload hx hb dL_law_458 (lv_at hl 0 rfl) ?_
          refine qViF (As := [.int ld]) (rest := []) hx hb hml hown hts (kX3_leads l g (zu zp 0 1 lm) (J_p hj) ld) gL_law_X3_leads rfl 1 hdX3_leads rfl ⟨Nat.le_of_ble_eq_true rfl, Nat.le_of_ble_eq_true rfl⟩ ⟨Nat.le_of_ble_eq_true rfl, Nat.le_of_ble_eq_true rfl⟩ hK hPp hS (fun q h => hg q (A_p q h)) 0 3 rfl rfl rfl hl.1 rfl (Nat.le_of_ble_eq_true rfl) dL_law_460 (fun H locs hz hk hPp hS => ?_)
          have hPo := P2_ko hj hPo hk
          refine lv_nm (y := zp 0 2) (congrArg Prod.fst hl2) ?_
          rw [hl2] at hPp
          dsimp only at hPp
          refine lv_if_lt (tgt := 551) hx hb dL_law_463 (by decide) (fun c_463 => ?_) (fun c_463 => ?_)
          · -- 463 taken
            have c_463n := i_lt_t c_463
            exact absurd c_463 (lds_0 a2)
          · -- 463 not taken
            have c_463n := i_lt_f c_463
            refine lv_aload_n hx hb dL_law_466 rfl (lv_at hl 2 rfl) ?_
            refine lv_iconst (v := 1) hx hb dL_law_467 rfl ?_
            refine qViF (As := [.int 1]) (rest := []) hx hb hml hown hts (kX3_now l g (zu (zu zo 0 1 lm) 0 2 ld) (J_o hj) 1) gL_law_X3_now rfl 1 hdX3_now rfl ⟨Nat.le_of_ble_eq_true rfl, Nat.le_of_ble_eq_true rfl⟩ ⟨Nat.le_of_ble_eq_true rfl, Nat.le_of_ble_eq_true rfl⟩ hK hPo hS (fun q h => hg q (A_o q h)) 0 3 rfl rfl rfl hl.1 rfl (Nat.le_of_ble_eq_true rfl) dL_law_468 (fun H locs hz hk hPo hS => ?_)
            have hPp := P2_kp hj hPp hk
            refine lv_nm (y := 2 + 2 * bI f) (now1_f hf2) ?_
            refine lv_iconst (v := 2) hx hb dL_law_471 rfl ?_
            refine lv_iconst (v := 2) hx hb dL_law_472 rfl ?_
            refine lv_iload hx hb dL_law_473 (lv_at hl 7 rfl) ?_
            refine lv_imul hx hb dL_law_475 ?_
            refine lv_iadd hx hb dL_law_476 ?_
            refine lv_icmp_ne (tgt := 551) hx hb dL_law_477 (by decide) (fun c_477 => ?_) (fun c_477 => ?_)
            · -- 477 taken
              exact absurd rfl c_477
            · -- 477 not taken
              refine lv_aload_n hx hb dL_law_480 rfl (lv_at hl 2 rfl) ?_
              refine lv_iconst (v := 0) hx hb dL_law_481 rfl ?_
              refine qViF (As := [.int 0]) (rest := []) hx hb hml hown hts (kX3_now l g (zu (zu zo 0 1 lm) 0 2 ld) (J_o hj) 0) gL_law_X3_now rfl 1 hdX3_now rfl ⟨Nat.le_of_ble_eq_true rfl, Nat.le_of_ble_eq_true rfl⟩ ⟨Nat.le_of_ble_eq_true rfl, Nat.le_of_ble_eq_true rfl⟩ hK hPo hS (fun q h => hg q (A_o q h)) 0 3 rfl rfl rfl hl.1 rfl (Nat.le_of_ble_eq_true rfl) dL_law_482 (fun H locs hz hk hPo hS => ?_)
              have hPp := P2_kp hj hPp hk
              refine lv_nm (y := nI jh) ((now_0 _).trans ej) ?_
              refine lv_iload hx hb dL_law_485 (lv_at hl 5 rfl) ?_
              refine lv_icmp_gt (tgt := 551) hx hb dL_law_487 (by decide) (fun c_487 => ?_) (fun c_487 => ?_)
              · -- 487 taken
                have c_487n := i_lt_t c_487
                exact absurd (nI_gtt (by omega) (by omega) c_487) (by omega)
              · -- 487 not taken
                have c_487n := i_lt_f c_487
                refine lv_aload_n hx hb dL_law_490 rfl (lv_at hl 2 rfl) ?_
                refine lv_iconst (v := 0) hx hb dL_law_491 rfl ?_
                refine qViF (As := [.int 0]) (rest := []) hx hb hml hown hts (kX3_now l g (zu (zu zo 0 1 lm) 0 2 ld) (J_o hj) 0) gL_law_X3_now rfl 1 hdX3_now rfl ⟨Nat.le_of_ble_eq_true rfl, Nat.le_of_ble_eq_true rfl⟩ ⟨Nat.le_of_ble_eq_true rfl, Nat.le_of_ble_eq_true rfl⟩ hK hPo hS (fun q h => hg q (A_o q h)) 0 3 rfl rfl rfl hl.1 rfl (Nat.le_of_ble_eq_true rfl) dL_law_492 (fun H locs hz hk hPo hS => ?_)
                have hPp := P2_kp hj hPp hk
                refine lv_nm (y := nI jh) ((now_0 _).trans ej) ?_
                refine lv_if_lt (tgt := 551) hx hb dL_law_495 (by decide) (fun c_495 => ?_) (fun c_495 => ?_)
                · -- 495 taken
                  have c_495n := i_lt_t c_495
                  exact absurd c_495 (nI_nn0 (by omega))
                · -- 495 not taken
                  have c_495n := i_lt_f c_495
                  refine lv_aload_n hx hb dL_law_498 rfl (lv_at hl 2 rfl) ?_
                  refine lv_iconst (v := 1) hx hb dL_law_499 rfl ?_
                  refine qViF (As := [.int 1]) (rest := []) hx hb hml hown hts (kX3_power l g (zu (zu zo 0 1 lm) 0 2 ld) (J_o hj) 1) gL_law_X3_power rfl 1 hdX3_power rfl ⟨Nat.le_of_ble_eq_true rfl, Nat.le_of_ble_eq_true rfl⟩ ⟨Nat.le_of_ble_eq_true rfl, Nat.le_of_ble_eq_true rfl⟩ hK hPo hS (fun q h => hg q (A_o q h)) 0 3 rfl rfl rfl hl.1 rfl (Nat.le_of_ble_eq_true rfl) dL_law_500 (fun H locs hz hk hPo hS => ?_)
                  have hPp := P2_kp hj hPp hk
                  refine lv_nm (y := 0) (congrArg Prod.fst (pw_on hC2.2.2.2.1 h9)) ?_
                  rw [(pw_on hC2.2.2.2.1 h9)] at hPo
                  dsimp only at hPo
                  refine lv_if_ne (tgt := 551) hx hb dL_law_503 (by decide) (fun c_503 => ?_) (fun c_503 => ?_)
                  · -- 503 taken
                    exact absurd rfl c_503
                  · -- 503 not taken
                    refine lv_aload_n hx hb dL_law_506 rfl (lv_at hl 3 rfl) ?_
                    refine lv_iconst (v := 1) hx hb dL_law_507 rfl ?_
                    refine qViF (As := [.int 1]) (rest := []) hx hb hml hown hts (kX3_power l g (zu (zu zp 0 1 lm) 0 2 ld) (J_p hj) 1) gL_law_X3_power rfl 1 hdX3_power rfl ⟨Nat.le_of_ble_eq_true rfl, Nat.le_of_ble_eq_true rfl⟩ ⟨Nat.le_of_ble_eq_true rfl, Nat.le_of_ble_eq_true rfl⟩ hK hPp hS (fun q h => hg q (A_p q h)) 0 3 rfl rfl rfl hl.1 rfl (Nat.le_of_ble_eq_true rfl) dL_law_508 (fun H locs hz hk hPp hS => ?_)
                    have hPo := P2_ko hj hPo hk
                    refine lv_nm (y := 0) (congrArg Prod.fst (pw_on h0p2 h9p)) ?_
                    rw [(pw_on h0p2 h9p)] at hPp
                    dsimp only at hPp
                    refine lv_if_ne (tgt := 551) hx hb dL_law_511 (by decide) (fun c_511 => ?_) (fun c_511 => ?_)
                    · -- 511 taken
                      exact absurd c_503 c_511
                    · -- 511 not taken
                      refine lv_aload_n hx hb dL_law_514 rfl (lv_at hl 2 rfl) ?_
                      refine lv_iconst (v := 0) hx hb dL_law_515 rfl ?_
                      refine lv_iload hx hb dL_law_516 (lv_at hl 6 rfl) ?_
                      refine lv_iconst (v := 0) hx hb dL_law_518 rfl ?_
                      refine qViF (As := [.int 0, .int h1, .int 0]) (rest := []) hx hb hml hown hts (kX3_relay l g (zu (zu (zu zo 0 1 lm) 0 2 ld) 0 0 1) (J_o hj) 0 h1 0) gL_law_X3_relay rfl 3 hdX3_relay rfl ⟨Nat.le_of_ble_eq_true rfl, Nat.le_of_ble_eq_true rfl⟩ ⟨Nat.le_of_ble_eq_true rfl, Nat.le_of_ble_eq_true rfl⟩ hK hPo hS (fun q h => hg q (A_o q h)) 0 3 rfl rfl rfl hl.1 rfl (Nat.le_of_ble_eq_true rfl) dL_law_519 (fun H locs hz hk hPo hS => ?_)
                      have hPp := P2_kp hj hPp hk
                      refine lv_nm (y := (-3)) (congrArg Prod.fst (rl_pow a6 hon1)) ?_
                      rw [(rl_pow a6 hon1)] at hPo
                      dsimp only at hPo
                      refine lv_bipush (v := -3) hx hb dL_law_522 (by decide) ?_
                      refine lv_icmp_ne (tgt := 551) hx hb dL_law_524 (by decide) (fun c_524 => ?_) (fun c_524 => ?_)
                      · -- 524 taken
                        exact absurd c_425 c_524
                      · -- 524 not taken
                        refine lv_aload_n hx hb dL_law_527 rfl (lv_at hl 2 rfl) ?_
                        refine lv_iconst (v := 0) hx hb dL_law_528 rfl ?_
                        refine lv_iconst (v := 0) hx hb dL_law_529 rfl ?_
                        refine lv_iconst (v := 1) hx hb dL_law_530 rfl ?_
                        refine lv_iconst (v := 0) hx hb dL_law_531 rfl ?_
                        refine qViF (As := [.int 0, .int 0, .int 1, .int 0]) (rest := []) hx hb hml hown hts (kX3_part l g (zu (zu (zu zo 0 1 lm) 0 2 ld) 0 0 1) (J_o hj) 0 0 1 0) gL_law_X3_part rfl 4 hdX3_part rfl ⟨Nat.le_of_ble_eq_true rfl, Nat.le_of_ble_eq_true rfl⟩ ⟨Nat.le_of_ble_eq_true rfl, Nat.le_of_ble_eq_true rfl⟩ hK hPo hS (fun q h => hg q (A_o q h)) 0 3 rfl rfl rfl hl.1 rfl (Nat.le_of_ble_eq_true rfl) dL_law_532 (fun H locs hz hk hPo hS => ?_)
                        have hPp := P2_kp hj hPp hk
                        refine lv_nm (y := (-3)) (congrArg Prod.fst (pt_pow hon1)) ?_
                        rw [(pt_pow hon1)] at hPo
                        dsimp only at hPo
                        refine lv_bipush (v := -3) hx hb dL_law_535 (by decide) ?_
                        refine lv_icmp_ne (tgt := 551) hx hb dL_law_537 (by decide) (fun c_537 => ?_) (fun c_537 => ?_)
                        · -- 537 taken
                          exact absurd c_425 c_537
                        · -- 537 not taken
                          refine lv_aload_n hx hb dL_law_540 rfl (lv_at hl 2 rfl) ?_
                          refine lv_iload hx hb dL_law_541 (lv_at hl 5 rfl) ?_
                          refine qViF (As := [.int (nI kk)]) (rest := []) hx hb hml hown hts (kX3_remove l g (zu (zu (zu zo 0 1 lm) 0 2 ld) 0 0 1) (J_o hj) (nI kk)) gL_law_X3_remove rfl 1 hdX3_remove rfl ⟨Nat.le_of_ble_eq_true rfl, Nat.le_of_ble_eq_true rfl⟩ ⟨Nat.le_of_ble_eq_true rfl, Nat.le_of_ble_eq_true rfl⟩ hK hPo hS (fun q h => hg q (A_o q h)) 0 3 rfl rfl rfl hl.1 rfl (Nat.le_of_ble_eq_true rfl) dL_law_543 (fun H locs hz hk hPo hS => ?_)
                          have hPp := P2_kp hj hPp hk
                          refine lv_nm (y := (-3)) (congrArg Prod.fst (rm_pow hk4 (hLD.2.2.2.2 kk hk4) hon1)) ?_
                          rw [(rm_pow hk4 (hLD.2.2.2.2 kk hk4) hon1)] at hPo
                          dsimp only at hPo
                          refine lv_bipush (v := -3) hx hb dL_law_546 (by decide) ?_
                          refine lv_icmp_eq (tgt := 553) hx hb dL_law_548 (by decide) (fun c_548 => ?_) (fun c_548 => ?_)
                          · -- 548 taken
                            exact law_553 C0 hi nxt hLD _ _ hPo hPp hS ls (lv_sub hl [1, 2, 3, 4] rfl)
                          · -- 548 not taken
                            exact absurd c_425 c_548
set_option maxHeartbeats 4000000 in
set_option maxRecDepth 100000 in
theorem law_374 {p : Program} {l : Launch} {e : Env} {s : State} {m : MethodId} {below : List Frame} {meth : Method} {c : Code} {b L : Nat} {xs : Nat → Int32} {g : qG} {ad : Nat → Nat} (C0 : lawC p s m meth c b L xs g ad) {i : Nat} (hi : i < 3) (nxt : ∀ yo yp : zS, LA yo yp → lawAt p l e s m below meth c b g ad 869 [] [(0, .ref b), (1, .ref (ad 0)), (2, .ref (aP ad 0)), (3, .int (nI i))] yo yp) {zb zo zp : zS} {kk : Nat} {h1 : Int32} {f : Bool} (hC : LC zb kk h1 f zo zp) (hk4 : kk < 4) (hb4 : ∀ n, n < 4 → zb (10 + n) 0 = 1) {gg : Int32} : lawAt p l e s m below meth c b g ad 374 [] [(0, .ref b), (1, .ref (ad 0)), (2, .ref (aP ad 0)), (3, .int (nI i)), (4, .int gg), (5, .int (nI kk)), (6, .int h1), (8, .int (bI f))] zo zp := by
  obtain ⟨hx, hb, hml, hown, hts, hr, hlocks, hX, hbl, hL, hj, hg, hK, hT⟩ := id C0
  intro H locs hPo hPp hS ls hl
  refine lv_iconst (v := 1) hx hb dL_law_374 rfl ?_
  refine lv_iload hx hb dL_law_375 (lv_at hl 4 rfl) ?_
  refine lv_iconst (v := 4) hx hb dL_law_377 rfl ?_
  refine lv_ishr hx hb dL_law_378 ?_
  refine lv_sipush (v := 4000) hx hb dL_law_379 (by decide) ?_
  refine qSiF (As := [.int (gg >>> ((4 : Int32) &&& 31)), .int 4000]) (rest := [.int 1]) hx hb hml hown hts (kL_low l g (Wd := qE) (A := fun _ => False) () (gg >>> ((4 : Int32) &&& 31)) 4000 (by decide)) gL_law_L_low rfl 2 hdL_low rfl ⟨Nat.le_of_ble_eq_true rfl, Nat.le_of_ble_eq_true rfl⟩ ⟨Nat.le_of_ble_eq_true rfl, Nat.le_of_ble_eq_true rfl⟩ hK P_e hS (fun _ h => h.elim) hl.1 rfl (Nat.le_of_ble_eq_true rfl) dL_law_382 (fun H locs hz hk _ hS => ?_)
  have hPo := P_all hPo hk
  have hPp := P_all hPp hk
  refine lv_iadd hx hb dL_law_385 ?_
  refine lv_istore (lv' := [(9, .int (1 + (lowF (gg >>> ((4 : Int32) &&& 31)) 4000))), (0, .ref b), (1, .ref (ad 0)), (2, .ref (aP ad 0)), (3, .int (nI i)), (4, .int gg), (5, .int (nI kk)), (6, .int h1), (8, .int (bI f))]) hx hb dL_law_386 hl (by decide) rfl (fun ls hl => ?_)
  refine lv_iload hx hb dL_law_388 (lv_at hl 5 rfl) ?_
  refine lv_bipush (v := 8) hx hb dL_law_390 (by decide) ?_
  refine lv_ishr hx hb dL_law_392 ?_
  refine lv_iconst (v := 1) hx hb dL_law_393 rfl ?_
  refine lv_iand hx hb dL_law_394 ?_
  refine lv_if_ne (tgt := 402) hx hb dL_law_395 (by decide) (fun c_395 => ?_) (fun c_395 => ?_)
  · -- 395 taken
    refine lv_iload hx hb dL_law_402 (lv_at hl 5 rfl) ?_
    refine lv_bipush (v := 9) hx hb dL_law_404 (by decide) ?_
    refine lv_ishr hx hb dL_law_406 ?_
    refine lv_sipush (v := 201) hx hb dL_law_407 (by decide) ?_
    refine qSiF (As := [.int (gg >>> ((9 : Int32) &&& 31)), .int 201]) (rest := []) hx hb hml hown hts (kL_low l g (Wd := qE) (A := fun _ => False) () (gg >>> ((9 : Int32) &&& 31)) 201 (by decide)) gL_law_L_low rfl 2 hdL_low rfl ⟨Nat.le_of_ble_eq_true rfl, Nat.le_of_ble_eq_true rfl⟩ ⟨Nat.le_of_ble_eq_true rfl, Nat.le_of_ble_eq_true rfl⟩ hK P_e hS (fun _ h => h.elim) hl.1 rfl (Nat.le_of_ble_eq_true rfl) dL_law_410 (fun H locs hz hk _ hS => ?_)
    have hPo := P_all hPo hk
    have hPp := P_all hPp hk
    exact law_413 C0 hi nxt hC hk4 hb4 (lm := (1 + (lowF (gg >>> ((4 : Int32) &&& 31)) 4000))) (ld := lowF (gg >>> ((9 : Int32) &&& 31)) 201) (low1r _ (n := 4000) (by decide) rfl) (lowr _ (N := 200) rfl rfl) _ _ hPo hPp hS ls (lv_sub hl [1, 2, 3, 4, 6, 7, 8, 0] rfl)
  · -- 395 not taken
    refine lv_iconst (v := 0) hx hb dL_law_398 rfl ?_
    refine lv_goto (tgt := 413) hx hb dL_law_399 (by decide) ?_
    exact law_413 C0 hi nxt hC hk4 hb4 (lm := (1 + (lowF (gg >>> ((4 : Int32) &&& 31)) 4000))) (ld := 0) (low1r _ (n := 4000) (by decide) rfl) (by decide) _ _ hPo hPp hS ls (lv_sub hl [1, 2, 3, 4, 6, 7, 8, 0] rfl)
set_option maxHeartbeats 4000000 in
set_option maxRecDepth 100000 in
theorem law_312_false {p : Program} {l : Launch} {e : Env} {s : State} {m : MethodId} {below : List Frame} {meth : Method} {c : Code} {b L : Nat} {xs : Nat → Int32} {g : qG} {ad : Nat → Nat} (C0 : lawC p s m meth c b L xs g ad) {i : Nat} (hi : i < 3) (nxt : ∀ yo yp : zS, LA yo yp → lawAt p l e s m below meth c b g ad 869 [] [(0, .ref b), (1, .ref (ad 0)), (2, .ref (aP ad 0)), (3, .int (nI i))] yo yp) {zb zo zp : zS} {kk : Nat} {gg h1 h2 : Int32} (hk4 : kk < 4) (hb4 : ∀ n, n < 4 → zb (10 + n) 0 = 1) (hR : LR zb 4 0 zo zp) (hh : inR h1 0 7 = true) (hl2 : inR h2 0 7 = true) (hne : ¬ h1 = h2) (hp : (h1 = zb (10 + kk) 3 ∧ h2 = zb (10 + kk) 4) ∨ (h1 = zb (10 + kk) 4 ∧ h2 = zb (10 + kk) 3)) : lawAt p l e s m below meth c b g ad 312 [] [(0, .ref b), (1, .ref (ad 0)), (2, .ref (aP ad 0)), (3, .int (nI i)), (4, .int gg), (5, .int (nI kk)), (6, .int h1), (7, .int h2), (8, .int (bI false))] zo zp := by
  obtain ⟨hx, hb, hml, hown, hts, hr, hlocks, hX, hbl, hL, hj, hg, hK, hT⟩ := id C0
  obtain ⟨o1, p1, o2, p2, o3, p3, o4, p4⟩ := on_1 hR hh hl2 hne
  intro H locs hPo hPp hS ls hl
  refine lv_iconst (v := 0) hx hb dL_law_312 rfl ?_
  refine lv_istore (lv' := [(9, .int 0), (0, .ref b), (1, .ref (ad 0)), (2, .ref (aP ad 0)), (3, .int (nI i)), (4, .int gg), (5, .int (nI kk)), (6, .int h1), (7, .int h2), (8, .int (bI false))]) hx hb dL_law_313 hl (by decide) rfl (fun ls hl => ?_)
  refine lv_iload hx hb dL_law_315 (lv_at hl 0 rfl) ?_
  refine lv_iconst (v := 2) hx hb dL_law_317 rfl ?_
  refine lv_iconst (v := 2) hx hb dL_law_318 rfl ?_
  refine lv_iload hx hb dL_law_319 (lv_at hl 9 rfl) ?_
  refine lv_imul hx hb dL_law_321 ?_
  refine lv_iadd hx hb dL_law_322 ?_
  refine lv_icmp_ge (tgt := 374) hx hb dL_law_323 (by decide) (fun c_323 => ?_) (fun c_323 => ?_)
  · -- 323 taken
    have c_323n := i_le_t c_323
    exact absurd c_323 (by decide)
  · -- 323 not taken
    have c_323n := i_le_f c_323
    refine lv_iload hx hb dL_law_326 (lv_at hl 0 rfl) ?_
    refine lv_iconst (v := 2) hx hb dL_law_328 rfl ?_
    refine lv_irem hx hb dL_law_329 (by decide) ?_
    refine lv_nm (y := 0) (by decide) ?_
    refine lv_if_ne (tgt := 338) hx hb dL_law_330 (by decide) (fun c_330 => ?_) (fun c_330 => ?_)
    · -- 330 taken
      exact absurd rfl c_330
    · -- 330 not taken
      refine lv_iload hx hb dL_law_333 (lv_at hl 7 rfl) ?_
      refine lv_goto (tgt := 340) hx hb dL_law_335 (by decide) ?_
      refine lv_istore (lv' := [(10, .int h1), (9, .int 0), (0, .ref b), (1, .ref (ad 0)), (2, .ref (aP ad 0)), (3, .int (nI i)), (4, .int gg), (5, .int (nI kk)), (6, .int h1), (7, .int h2), (8, .int (bI false))]) hx hb dL_law_340 hl (by decide) rfl (fun ls hl => ?_)
      refine lv_aload_n hx hb dL_law_342 rfl (lv_at hl 3 rfl) ?_
      refine lv_iload hx hb dL_law_343 (lv_at hl 1 rfl) ?_
      refine lv_iload hx hb dL_law_345 (lv_at hl 0 rfl) ?_
      refine lv_iconst (v := 1) hx hb dL_law_347 rfl ?_
      refine qViF (As := [.int 0, .int h1, .int 1]) (rest := []) hx hb hml hown hts (kX3_relay l g zo (J_o hj) 0 h1 1) gL_law_X3_relay rfl 3 hdX3_relay rfl ⟨Nat.le_of_ble_eq_true rfl, Nat.le_of_ble_eq_true rfl⟩ ⟨Nat.le_of_ble_eq_true rfl, Nat.le_of_ble_eq_true rfl⟩ hK hPo hS (fun q h => hg q (A_o q h)) 0 3 rfl rfl rfl hl.1 rfl (Nat.le_of_ble_eq_true rfl) dL_law_348 (fun H locs hz hk hPo hS => ?_)
      have hPp := P2_kp hj hPp hk
      refine lv_nm (y := 0) (congrArg Prod.fst o1) ?_
      rw [o1] at hPo
      dsimp only at hPo
      refine lv_if_ne (tgt := 366) hx hb dL_law_351 (by decide) (fun c_351 => ?_) (fun c_351 => ?_)
      · -- 351 taken
        exact absurd c_330 c_351
      · -- 351 not taken
        refine lv_aload_n hx hb dL_law_354 rfl (lv_at hl 4 rfl) ?_
        refine lv_iload hx hb dL_law_355 (lv_at hl 1 rfl) ?_
        refine lv_iload hx hb dL_law_357 (lv_at hl 0 rfl) ?_
        refine lv_iconst (v := 1) hx hb dL_law_359 rfl ?_
        refine qViF (As := [.int 0, .int h1, .int 1]) (rest := []) hx hb hml hown hts (kX3_relay l g zp (J_p hj) 0 h1 1) gL_law_X3_relay rfl 3 hdX3_relay rfl ⟨Nat.le_of_ble_eq_true rfl, Nat.le_of_ble_eq_true rfl⟩ ⟨Nat.le_of_ble_eq_true rfl, Nat.le_of_ble_eq_true rfl⟩ hK hPp hS (fun q h => hg q (A_p q h)) 0 3 rfl rfl rfl hl.1 rfl (Nat.le_of_ble_eq_true rfl) dL_law_360 (fun H locs hz hk hPp hS => ?_)
        have hPo := P2_ko hj hPo hk
        refine lv_nm (y := 0) (congrArg Prod.fst p1) ?_
        rw [p1] at hPp
        dsimp only at hPp
        refine lv_if_eq (tgt := 368) hx hb dL_law_363 (by decide) (fun c_363 => ?_) (fun c_363 => ?_)
        · -- 363 taken
          refine lv_iinc (v := 1) (lv' := [(9, .int 1), (10, .int h1), (0, .ref b), (1, .ref (ad 0)), (2, .ref (aP ad 0)), (3, .int (nI i)), (4, .int gg), (5, .int (nI kk)), (6, .int h1), (7, .int h2), (8, .int (bI false))]) hx hb dL_law_368 hl (k := 1) rfl (by decide) (by decide) rfl (fun ls hl => ?_)
          refine lv_goto (tgt := 315) hx hb dL_law_371 (by decide) ?_
          refine lv_iload hx hb dL_law_315 (lv_at hl 0 rfl) ?_
          refine lv_iconst (v := 2) hx hb dL_law_317 rfl ?_
          refine lv_iconst (v := 2) hx hb dL_law_318 rfl ?_
          refine lv_iload hx hb dL_law_319 (lv_at hl 10 rfl) ?_
          refine lv_imul hx hb dL_law_321 ?_
          refine lv_iadd hx hb dL_law_322 ?_
          refine lv_icmp_ge (tgt := 374) hx hb dL_law_323 (by decide) (fun c_323_1 => ?_) (fun c_323_1 => ?_)
          · -- 323 taken
            have c_323_1n := i_le_t c_323_1
            exact absurd c_323_1 (by decide)
          · -- 323 not taken
            have c_323_1n := i_le_f c_323_1
            refine lv_iload hx hb dL_law_326 (lv_at hl 0 rfl) ?_
            refine lv_iconst (v := 2) hx hb dL_law_328 rfl ?_
            refine lv_irem hx hb dL_law_329 (by decide) ?_
            refine lv_nm (y := 1) (by decide) ?_
            refine lv_if_ne (tgt := 338) hx hb dL_law_330 (by decide) (fun c_330_2 => ?_) (fun c_330_2 => ?_)
            · -- 330 taken
              refine lv_iload hx hb dL_law_338 (lv_at hl 9 rfl) ?_
              refine lv_istore (lv' := [(10, .int h2), (9, .int 1), (0, .ref b), (1, .ref (ad 0)), (2, .ref (aP ad 0)), (3, .int (nI i)), (4, .int gg), (5, .int (nI kk)), (6, .int h1), (7, .int h2), (8, .int (bI false))]) hx hb dL_law_340 hl (by decide) rfl (fun ls hl => ?_)
              refine lv_aload_n hx hb dL_law_342 rfl (lv_at hl 3 rfl) ?_
              refine lv_iload hx hb dL_law_343 (lv_at hl 1 rfl) ?_
              refine lv_iload hx hb dL_law_345 (lv_at hl 0 rfl) ?_
              refine lv_iconst (v := 1) hx hb dL_law_347 rfl ?_
              refine qViF (As := [.int 1, .int h2, .int 1]) (rest := []) hx hb hml hown hts (kX3_relay l g (zu zo 1 0 (sh h1)) (J_o hj) 1 h2 1) gL_law_X3_relay rfl 3 hdX3_relay rfl ⟨Nat.le_of_ble_eq_true rfl, Nat.le_of_ble_eq_true rfl⟩ ⟨Nat.le_of_ble_eq_true rfl, Nat.le_of_ble_eq_true rfl⟩ hK hPo hS (fun q h => hg q (A_o q h)) 0 3 rfl rfl rfl hl.1 rfl (Nat.le_of_ble_eq_true rfl) dL_law_348 (fun H locs hz hk hPo hS => ?_)
              have hPp := P2_kp hj hPp hk
              refine lv_nm (y := 0) (congrArg Prod.fst o2) ?_
              rw [o2] at hPo
              dsimp only at hPo
              refine lv_if_ne (tgt := 366) hx hb dL_law_351 (by decide) (fun c_351_3 => ?_) (fun c_351_3 => ?_)
              · -- 351 taken
                exact absurd c_330 c_351_3
              · -- 351 not taken
                refine lv_aload_n hx hb dL_law_354 rfl (lv_at hl 4 rfl) ?_
                refine lv_iload hx hb dL_law_355 (lv_at hl 1 rfl) ?_
                refine lv_iload hx hb dL_law_357 (lv_at hl 0 rfl) ?_
                refine lv_iconst (v := 1) hx hb dL_law_359 rfl ?_
                refine qViF (As := [.int 1, .int h2, .int 1]) (rest := []) hx hb hml hown hts (kX3_relay l g (zu zp 1 0 (sh h1)) (J_p hj) 1 h2 1) gL_law_X3_relay rfl 3 hdX3_relay rfl ⟨Nat.le_of_ble_eq_true rfl, Nat.le_of_ble_eq_true rfl⟩ ⟨Nat.le_of_ble_eq_true rfl, Nat.le_of_ble_eq_true rfl⟩ hK hPp hS (fun q h => hg q (A_p q h)) 0 3 rfl rfl rfl hl.1 rfl (Nat.le_of_ble_eq_true rfl) dL_law_360 (fun H locs hz hk hPp hS => ?_)
                have hPo := P2_ko hj hPo hk
                refine lv_nm (y := 0) (congrArg Prod.fst p2) ?_
                rw [p2] at hPp
                dsimp only at hPp
                refine lv_if_eq (tgt := 368) hx hb dL_law_363 (by decide) (fun c_363_4 => ?_) (fun c_363_4 => ?_)
                · -- 363 taken
                  refine lv_iinc (v := 2) (lv' := [(9, .int 2), (10, .int h2), (0, .ref b), (1, .ref (ad 0)), (2, .ref (aP ad 0)), (3, .int (nI i)), (4, .int gg), (5, .int (nI kk)), (6, .int h1), (7, .int h2), (8, .int (bI false))]) hx hb dL_law_368 hl (k := 1) rfl (by decide) (by decide) rfl (fun ls hl => ?_)
                  refine lv_goto (tgt := 315) hx hb dL_law_371 (by decide) ?_
                  refine lv_iload hx hb dL_law_315 (lv_at hl 0 rfl) ?_
                  refine lv_iconst (v := 2) hx hb dL_law_317 rfl ?_
                  refine lv_iconst (v := 2) hx hb dL_law_318 rfl ?_
                  refine lv_iload hx hb dL_law_319 (lv_at hl 10 rfl) ?_
                  refine lv_imul hx hb dL_law_321 ?_
                  refine lv_iadd hx hb dL_law_322 ?_
                  refine lv_icmp_ge (tgt := 374) hx hb dL_law_323 (by decide) (fun c_323_5 => ?_) (fun c_323_5 => ?_)
                  · -- 323 taken
                    have c_323_5n := i_le_t c_323_5
                    exact law_374 C0 hi nxt (LC_of false hR hh hl2 hne hp) hk4 hb4 (gg := gg) _ _ hPo hPp hS ls (lv_sub hl [2, 3, 4, 5, 6, 7, 8, 10] rfl)
                  · -- 323 not taken
                    have c_323_5n := i_le_f c_323_5
                    exact absurd (by decide) c_323_5
                · -- 363 not taken
                  exact absurd c_330 c_363_4
            · -- 330 not taken
              exact absurd c_330_2 (by decide)
        · -- 363 not taken
          exact absurd c_330 c_363
set_option maxHeartbeats 4000000 in
set_option maxRecDepth 100000 in
theorem law_312_true {p : Program} {l : Launch} {e : Env} {s : State} {m : MethodId} {below : List Frame} {meth : Method} {c : Code} {b L : Nat} {xs : Nat → Int32} {g : qG} {ad : Nat → Nat} (C0 : lawC p s m meth c b L xs g ad) {i : Nat} (hi : i < 3) (nxt : ∀ yo yp : zS, LA yo yp → lawAt p l e s m below meth c b g ad 869 [] [(0, .ref b), (1, .ref (ad 0)), (2, .ref (aP ad 0)), (3, .int (nI i))] yo yp) {zb zo zp : zS} {kk : Nat} {gg h1 h2 : Int32} (hk4 : kk < 4) (hb4 : ∀ n, n < 4 → zb (10 + n) 0 = 1) (hR : LR zb 4 0 zo zp) (hh : inR h1 0 7 = true) (hl2 : inR h2 0 7 = true) (hne : ¬ h1 = h2) (hp : (h1 = zb (10 + kk) 3 ∧ h2 = zb (10 + kk) 4) ∨ (h1 = zb (10 + kk) 4 ∧ h2 = zb (10 + kk) 3)) : lawAt p l e s m below meth c b g ad 312 [] [(0, .ref b), (1, .ref (ad 0)), (2, .ref (aP ad 0)), (3, .int (nI i)), (4, .int gg), (5, .int (nI kk)), (6, .int h1), (7, .int h2), (8, .int (bI true))] zo zp := by
  obtain ⟨hx, hb, hml, hown, hts, hr, hlocks, hX, hbl, hL, hj, hg, hK, hT⟩ := id C0
  obtain ⟨o1, p1, o2, p2, o3, p3, o4, p4⟩ := on_1 hR hh hl2 hne
  intro H locs hPo hPp hS ls hl
  refine lv_iconst (v := 0) hx hb dL_law_312 rfl ?_
  refine lv_istore (lv' := [(9, .int 0), (0, .ref b), (1, .ref (ad 0)), (2, .ref (aP ad 0)), (3, .int (nI i)), (4, .int gg), (5, .int (nI kk)), (6, .int h1), (7, .int h2), (8, .int (bI true))]) hx hb dL_law_313 hl (by decide) rfl (fun ls hl => ?_)
  refine lv_iload hx hb dL_law_315 (lv_at hl 0 rfl) ?_
  refine lv_iconst (v := 2) hx hb dL_law_317 rfl ?_
  refine lv_iconst (v := 2) hx hb dL_law_318 rfl ?_
  refine lv_iload hx hb dL_law_319 (lv_at hl 9 rfl) ?_
  refine lv_imul hx hb dL_law_321 ?_
  refine lv_iadd hx hb dL_law_322 ?_
  refine lv_icmp_ge (tgt := 374) hx hb dL_law_323 (by decide) (fun c_323 => ?_) (fun c_323 => ?_)
  · -- 323 taken
    have c_323n := i_le_t c_323
    exact absurd c_323 (by decide)
  · -- 323 not taken
    have c_323n := i_le_f c_323
    refine lv_iload hx hb dL_law_326 (lv_at hl 0 rfl) ?_
    refine lv_iconst (v := 2) hx hb dL_law_328 rfl ?_
    refine lv_irem hx hb dL_law_329 (by decide) ?_
    refine lv_nm (y := 0) (by decide) ?_
    refine lv_if_ne (tgt := 338) hx hb dL_law_330 (by decide) (fun c_330 => ?_) (fun c_330 => ?_)
    · -- 330 taken
      exact absurd rfl c_330
    · -- 330 not taken
      refine lv_iload hx hb dL_law_333 (lv_at hl 7 rfl) ?_
      refine lv_goto (tgt := 340) hx hb dL_law_335 (by decide) ?_
      refine lv_istore (lv' := [(10, .int h1), (9, .int 0), (0, .ref b), (1, .ref (ad 0)), (2, .ref (aP ad 0)), (3, .int (nI i)), (4, .int gg), (5, .int (nI kk)), (6, .int h1), (7, .int h2), (8, .int (bI true))]) hx hb dL_law_340 hl (by decide) rfl (fun ls hl => ?_)
      refine lv_aload_n hx hb dL_law_342 rfl (lv_at hl 3 rfl) ?_
      refine lv_iload hx hb dL_law_343 (lv_at hl 1 rfl) ?_
      refine lv_iload hx hb dL_law_345 (lv_at hl 0 rfl) ?_
      refine lv_iconst (v := 1) hx hb dL_law_347 rfl ?_
      refine qViF (As := [.int 0, .int h1, .int 1]) (rest := []) hx hb hml hown hts (kX3_relay l g zo (J_o hj) 0 h1 1) gL_law_X3_relay rfl 3 hdX3_relay rfl ⟨Nat.le_of_ble_eq_true rfl, Nat.le_of_ble_eq_true rfl⟩ ⟨Nat.le_of_ble_eq_true rfl, Nat.le_of_ble_eq_true rfl⟩ hK hPo hS (fun q h => hg q (A_o q h)) 0 3 rfl rfl rfl hl.1 rfl (Nat.le_of_ble_eq_true rfl) dL_law_348 (fun H locs hz hk hPo hS => ?_)
      have hPp := P2_kp hj hPp hk
      refine lv_nm (y := 0) (congrArg Prod.fst o1) ?_
      rw [o1] at hPo
      dsimp only at hPo
      refine lv_if_ne (tgt := 366) hx hb dL_law_351 (by decide) (fun c_351 => ?_) (fun c_351 => ?_)
      · -- 351 taken
        exact absurd c_330 c_351
      · -- 351 not taken
        refine lv_aload_n hx hb dL_law_354 rfl (lv_at hl 4 rfl) ?_
        refine lv_iload hx hb dL_law_355 (lv_at hl 1 rfl) ?_
        refine lv_iload hx hb dL_law_357 (lv_at hl 0 rfl) ?_
        refine lv_iconst (v := 1) hx hb dL_law_359 rfl ?_
        refine qViF (As := [.int 0, .int h1, .int 1]) (rest := []) hx hb hml hown hts (kX3_relay l g zp (J_p hj) 0 h1 1) gL_law_X3_relay rfl 3 hdX3_relay rfl ⟨Nat.le_of_ble_eq_true rfl, Nat.le_of_ble_eq_true rfl⟩ ⟨Nat.le_of_ble_eq_true rfl, Nat.le_of_ble_eq_true rfl⟩ hK hPp hS (fun q h => hg q (A_p q h)) 0 3 rfl rfl rfl hl.1 rfl (Nat.le_of_ble_eq_true rfl) dL_law_360 (fun H locs hz hk hPp hS => ?_)
        have hPo := P2_ko hj hPo hk
        refine lv_nm (y := 0) (congrArg Prod.fst p1) ?_
        rw [p1] at hPp
        dsimp only at hPp
        refine lv_if_eq (tgt := 368) hx hb dL_law_363 (by decide) (fun c_363 => ?_) (fun c_363 => ?_)
        · -- 363 taken
          refine lv_iinc (v := 1) (lv' := [(9, .int 1), (10, .int h1), (0, .ref b), (1, .ref (ad 0)), (2, .ref (aP ad 0)), (3, .int (nI i)), (4, .int gg), (5, .int (nI kk)), (6, .int h1), (7, .int h2), (8, .int (bI true))]) hx hb dL_law_368 hl (k := 1) rfl (by decide) (by decide) rfl (fun ls hl => ?_)
          refine lv_goto (tgt := 315) hx hb dL_law_371 (by decide) ?_
          refine lv_iload hx hb dL_law_315 (lv_at hl 0 rfl) ?_
          refine lv_iconst (v := 2) hx hb dL_law_317 rfl ?_
          refine lv_iconst (v := 2) hx hb dL_law_318 rfl ?_
          refine lv_iload hx hb dL_law_319 (lv_at hl 10 rfl) ?_
          refine lv_imul hx hb dL_law_321 ?_
          refine lv_iadd hx hb dL_law_322 ?_
          refine lv_icmp_ge (tgt := 374) hx hb dL_law_323 (by decide) (fun c_323_1 => ?_) (fun c_323_1 => ?_)
          · -- 323 taken
            have c_323_1n := i_le_t c_323_1
            exact absurd c_323_1 (by decide)
          · -- 323 not taken
            have c_323_1n := i_le_f c_323_1
            refine lv_iload hx hb dL_law_326 (lv_at hl 0 rfl) ?_
            refine lv_iconst (v := 2) hx hb dL_law_328 rfl ?_
            refine lv_irem hx hb dL_law_329 (by decide) ?_
            refine lv_nm (y := 1) (by decide) ?_
            refine lv_if_ne (tgt := 338) hx hb dL_law_330 (by decide) (fun c_330_2 => ?_) (fun c_330_2 => ?_)
            · -- 330 taken
              refine lv_iload hx hb dL_law_338 (lv_at hl 9 rfl) ?_
              refine lv_istore (lv' := [(10, .int h2), (9, .int 1), (0, .ref b), (1, .ref (ad 0)), (2, .ref (aP ad 0)), (3, .int (nI i)), (4, .int gg), (5, .int (nI kk)), (6, .int h1), (7, .int h2), (8, .int (bI true))]) hx hb dL_law_340 hl (by decide) rfl (fun ls hl => ?_)
              refine lv_aload_n hx hb dL_law_342 rfl (lv_at hl 3 rfl) ?_
              refine lv_iload hx hb dL_law_343 (lv_at hl 1 rfl) ?_
              refine lv_iload hx hb dL_law_345 (lv_at hl 0 rfl) ?_
              refine lv_iconst (v := 1) hx hb dL_law_347 rfl ?_
              refine qViF (As := [.int 1, .int h2, .int 1]) (rest := []) hx hb hml hown hts (kX3_relay l g (zu zo 1 0 (sh h1)) (J_o hj) 1 h2 1) gL_law_X3_relay rfl 3 hdX3_relay rfl ⟨Nat.le_of_ble_eq_true rfl, Nat.le_of_ble_eq_true rfl⟩ ⟨Nat.le_of_ble_eq_true rfl, Nat.le_of_ble_eq_true rfl⟩ hK hPo hS (fun q h => hg q (A_o q h)) 0 3 rfl rfl rfl hl.1 rfl (Nat.le_of_ble_eq_true rfl) dL_law_348 (fun H locs hz hk hPo hS => ?_)
              have hPp := P2_kp hj hPp hk
              refine lv_nm (y := 0) (congrArg Prod.fst o2) ?_
              rw [o2] at hPo
              dsimp only at hPo
              refine lv_if_ne (tgt := 366) hx hb dL_law_351 (by decide) (fun c_351_3 => ?_) (fun c_351_3 => ?_)
              · -- 351 taken
                exact absurd c_330 c_351_3
              · -- 351 not taken
                refine lv_aload_n hx hb dL_law_354 rfl (lv_at hl 4 rfl) ?_
                refine lv_iload hx hb dL_law_355 (lv_at hl 1 rfl) ?_
                refine lv_iload hx hb dL_law_357 (lv_at hl 0 rfl) ?_
                refine lv_iconst (v := 1) hx hb dL_law_359 rfl ?_
                refine qViF (As := [.int 1, .int h2, .int 1]) (rest := []) hx hb hml hown hts (kX3_relay l g (zu zp 1 0 (sh h1)) (J_p hj) 1 h2 1) gL_law_X3_relay rfl 3 hdX3_relay rfl ⟨Nat.le_of_ble_eq_true rfl, Nat.le_of_ble_eq_true rfl⟩ ⟨Nat.le_of_ble_eq_true rfl, Nat.le_of_ble_eq_true rfl⟩ hK hPp hS (fun q h => hg q (A_p q h)) 0 3 rfl rfl rfl hl.1 rfl (Nat.le_of_ble_eq_true rfl) dL_law_360 (fun H locs hz hk hPp hS => ?_)
                have hPo := P2_ko hj hPo hk
                refine lv_nm (y := 0) (congrArg Prod.fst p2) ?_
                rw [p2] at hPp
                dsimp only at hPp
                refine lv_if_eq (tgt := 368) hx hb dL_law_363 (by decide) (fun c_363_4 => ?_) (fun c_363_4 => ?_)
                · -- 363 taken
                  refine lv_iinc (v := 2) (lv' := [(9, .int 2), (10, .int h2), (0, .ref b), (1, .ref (ad 0)), (2, .ref (aP ad 0)), (3, .int (nI i)), (4, .int gg), (5, .int (nI kk)), (6, .int h1), (7, .int h2), (8, .int (bI true))]) hx hb dL_law_368 hl (k := 1) rfl (by decide) (by decide) rfl (fun ls hl => ?_)
                  refine lv_goto (tgt := 315) hx hb dL_law_371 (by decide) ?_
                  refine lv_iload hx hb dL_law_315 (lv_at hl 0 rfl) ?_
                  refine lv_iconst (v := 2) hx hb dL_law_317 rfl ?_
                  refine lv_iconst (v := 2) hx hb dL_law_318 rfl ?_
                  refine lv_iload hx hb dL_law_319 (lv_at hl 10 rfl) ?_
                  refine lv_imul hx hb dL_law_321 ?_
                  refine lv_iadd hx hb dL_law_322 ?_
                  refine lv_icmp_ge (tgt := 374) hx hb dL_law_323 (by decide) (fun c_323_5 => ?_) (fun c_323_5 => ?_)
                  · -- 323 taken
                    have c_323_5n := i_le_t c_323_5
                    exact absurd c_323_5 (by decide)
                  · -- 323 not taken
                    have c_323_5n := i_le_f c_323_5
                    refine lv_iload hx hb dL_law_326 (lv_at hl 0 rfl) ?_
                    refine lv_iconst (v := 2) hx hb dL_law_328 rfl ?_
                    refine lv_irem hx hb dL_law_329 (by decide) ?_
                    refine lv_nm (y := 0) (by decide) ?_
                    refine lv_if_ne (tgt := 338) hx hb dL_law_330 (by decide) (fun c_330_6 => ?_) (fun c_330_6 => ?_)
                    · -- 330 taken
                      exact absurd c_330 c_330_6
                    · -- 330 not taken
                      refine lv_iload hx hb dL_law_333 (lv_at hl 8 rfl) ?_
                      refine lv_goto (tgt := 340) hx hb dL_law_335 (by decide) ?_
                      refine lv_istore (lv' := [(10, .int h1), (9, .int 2), (0, .ref b), (1, .ref (ad 0)), (2, .ref (aP ad 0)), (3, .int (nI i)), (4, .int gg), (5, .int (nI kk)), (6, .int h1), (7, .int h2), (8, .int (bI true))]) hx hb dL_law_340 hl (by decide) rfl (fun ls hl => ?_)
                      refine lv_aload_n hx hb dL_law_342 rfl (lv_at hl 3 rfl) ?_
                      refine lv_iload hx hb dL_law_343 (lv_at hl 1 rfl) ?_
                      refine lv_iload hx hb dL_law_345 (lv_at hl 0 rfl) ?_
                      refine lv_iconst (v := 1) hx hb dL_law_347 rfl ?_
                      refine qViF (As := [.int 2, .int h1, .int 1]) (rest := []) hx hb hml hown hts (kX3_relay l g (zu (zu zo 1 0 (sh h1)) 1 1 (sh h2)) (J_o hj) 2 h1 1) gL_law_X3_relay rfl 3 hdX3_relay rfl ⟨Nat.le_of_ble_eq_true rfl, Nat.le_of_ble_eq_true rfl⟩ ⟨Nat.le_of_ble_eq_true rfl, Nat.le_of_ble_eq_true rfl⟩ hK hPo hS (fun q h => hg q (A_o q h)) 0 3 rfl rfl rfl hl.1 rfl (Nat.le_of_ble_eq_true rfl) dL_law_348 (fun H locs hz hk hPo hS => ?_)
                      have hPp := P2_kp hj hPp hk
                      refine lv_nm (y := 0) (congrArg Prod.fst o3) ?_
                      rw [o3] at hPo
                      dsimp only at hPo
                      refine lv_if_ne (tgt := 366) hx hb dL_law_351 (by decide) (fun c_351_7 => ?_) (fun c_351_7 => ?_)
                      · -- 351 taken
                        exact absurd c_330 c_351_7
                      · -- 351 not taken
                        refine lv_aload_n hx hb dL_law_354 rfl (lv_at hl 4 rfl) ?_
                        refine lv_iload hx hb dL_law_355 (lv_at hl 1 rfl) ?_
                        refine lv_iload hx hb dL_law_357 (lv_at hl 0 rfl) ?_
                        refine lv_iconst (v := 1) hx hb dL_law_359 rfl ?_
                        refine qViF (As := [.int 2, .int h1, .int 1]) (rest := []) hx hb hml hown hts (kX3_relay l g (zu (zu zp 1 0 (sh h1)) 1 1 (sh h2)) (J_p hj) 2 h1 1) gL_law_X3_relay rfl 3 hdX3_relay rfl ⟨Nat.le_of_ble_eq_true rfl, Nat.le_of_ble_eq_true rfl⟩ ⟨Nat.le_of_ble_eq_true rfl, Nat.le_of_ble_eq_true rfl⟩ hK hPp hS (fun q h => hg q (A_p q h)) 0 3 rfl rfl rfl hl.1 rfl (Nat.le_of_ble_eq_true rfl) dL_law_360 (fun H locs hz hk hPp hS => ?_)
                        have hPo := P2_ko hj hPo hk
                        refine lv_nm (y := 0) (congrArg Prod.fst p3) ?_
                        rw [p3] at hPp
                        dsimp only at hPp
                        refine lv_if_eq (tgt := 368) hx hb dL_law_363 (by decide) (fun c_363_8 => ?_) (fun c_363_8 => ?_)
                        · -- 363 taken
                          refine lv_iinc (v := 3) (lv' := [(9, .int 3), (10, .int h1), (0, .ref b), (1, .ref (ad 0)), (2, .ref (aP ad 0)), (3, .int (nI i)), (4, .int gg), (5, .int (nI kk)), (6, .int h1), (7, .int h2), (8, .int (bI true))]) hx hb dL_law_368 hl (k := 1) rfl (by decide) (by decide) rfl (fun ls hl => ?_)
                          refine lv_goto (tgt := 315) hx hb dL_law_371 (by decide) ?_
                          refine lv_iload hx hb dL_law_315 (lv_at hl 0 rfl) ?_
                          refine lv_iconst (v := 2) hx hb dL_law_317 rfl ?_
                          refine lv_iconst (v := 2) hx hb dL_law_318 rfl ?_
                          refine lv_iload hx hb dL_law_319 (lv_at hl 10 rfl) ?_
                          refine lv_imul hx hb dL_law_321 ?_
                          refine lv_iadd hx hb dL_law_322 ?_
                          refine lv_icmp_ge (tgt := 374) hx hb dL_law_323 (by decide) (fun c_323_9 => ?_) (fun c_323_9 => ?_)
                          · -- 323 taken
                            have c_323_9n := i_le_t c_323_9
                            exact absurd c_323_9 (by decide)
                          · -- 323 not taken
                            have c_323_9n := i_le_f c_323_9
                            refine lv_iload hx hb dL_law_326 (lv_at hl 0 rfl) ?_
                            refine lv_iconst (v := 2) hx hb dL_law_328 rfl ?_
                            refine lv_irem hx hb dL_law_329 (by decide) ?_
                            refine lv_nm (y := 1) (by decide) ?_
                            refine lv_if_ne (tgt := 338) hx hb dL_law_330 (by decide) (fun c_330_10 => ?_) (fun c_330_10 => ?_)
                            · -- 330 taken
                              refine lv_iload hx hb dL_law_338 (lv_at hl 9 rfl) ?_
                              refine lv_istore (lv' := [(10, .int h2), (9, .int 3), (0, .ref b), (1, .ref (ad 0)), (2, .ref (aP ad 0)), (3, .int (nI i)), (4, .int gg), (5, .int (nI kk)), (6, .int h1), (7, .int h2), (8, .int (bI true))]) hx hb dL_law_340 hl (by decide) rfl (fun ls hl => ?_)
                              refine lv_aload_n hx hb dL_law_342 rfl (lv_at hl 3 rfl) ?_
                              refine lv_iload hx hb dL_law_343 (lv_at hl 1 rfl) ?_
                              refine lv_iload hx hb dL_law_345 (lv_at hl 0 rfl) ?_
                              refine lv_iconst (v := 1) hx hb dL_law_347 rfl ?_
                              refine qViF (As := [.int 3, .int h2, .int 1]) (rest := []) hx hb hml hown hts (kX3_relay l g (zu (zu (zu zo 1 0 (sh h1)) 1 1 (sh h2)) 1 2 (sh h1)) (J_o hj) 3 h2 1) gL_law_X3_relay rfl 3 hdX3_relay rfl ⟨Nat.le_of_ble_eq_true rfl, Nat.le_of_ble_eq_true rfl⟩ ⟨Nat.le_of_ble_eq_true rfl, Nat.le_of_ble_eq_true rfl⟩ hK hPo hS (fun q h => hg q (A_o q h)) 0 3 rfl rfl rfl hl.1 rfl (Nat.le_of_ble_eq_true rfl) dL_law_348 (fun H locs hz hk hPo hS => ?_)
                              have hPp := P2_kp hj hPp hk
                              refine lv_nm (y := 0) (congrArg Prod.fst o4) ?_
                              rw [o4] at hPo
                              dsimp only at hPo
                              refine lv_if_ne (tgt := 366) hx hb dL_law_351 (by decide) (fun c_351_11 => ?_) (fun c_351_11 => ?_)
                              · -- 351 taken
                                exact absurd c_330 c_351_11
                              · -- 351 not taken
                                refine lv_aload_n hx hb dL_law_354 rfl (lv_at hl 4 rfl) ?_
                                refine lv_iload hx hb dL_law_355 (lv_at hl 1 rfl) ?_
                                refine lv_iload hx hb dL_law_357 (lv_at hl 0 rfl) ?_
                                refine lv_iconst (v := 1) hx hb dL_law_359 rfl ?_
                                refine qViF (As := [.int 3, .int h2, .int 1]) (rest := []) hx hb hml hown hts (kX3_relay l g (zu (zu (zu zp 1 0 (sh h1)) 1 1 (sh h2)) 1 2 (sh h1)) (J_p hj) 3 h2 1) gL_law_X3_relay rfl 3 hdX3_relay rfl ⟨Nat.le_of_ble_eq_true rfl, Nat.le_of_ble_eq_true rfl⟩ ⟨Nat.le_of_ble_eq_true rfl, Nat.le_of_ble_eq_true rfl⟩ hK hPp hS (fun q h => hg q (A_p q h)) 0 3 rfl rfl rfl hl.1 rfl (Nat.le_of_ble_eq_true rfl) dL_law_360 (fun H locs hz hk hPp hS => ?_)
                                have hPo := P2_ko hj hPo hk
                                refine lv_nm (y := 0) (congrArg Prod.fst p4) ?_
                                rw [p4] at hPp
                                dsimp only at hPp
                                refine lv_if_eq (tgt := 368) hx hb dL_law_363 (by decide) (fun c_363_12 => ?_) (fun c_363_12 => ?_)
                                · -- 363 taken
                                  refine lv_iinc (v := 4) (lv' := [(9, .int 4), (10, .int h2), (0, .ref b), (1, .ref (ad 0)), (2, .ref (aP ad 0)), (3, .int (nI i)), (4, .int gg), (5, .int (nI kk)), (6, .int h1), (7, .int h2), (8, .int (bI true))]) hx hb dL_law_368 hl (k := 1) rfl (by decide) (by decide) rfl (fun ls hl => ?_)
                                  refine lv_goto (tgt := 315) hx hb dL_law_371 (by decide) ?_
                                  refine lv_iload hx hb dL_law_315 (lv_at hl 0 rfl) ?_
                                  refine lv_iconst (v := 2) hx hb dL_law_317 rfl ?_
                                  refine lv_iconst (v := 2) hx hb dL_law_318 rfl ?_
                                  refine lv_iload hx hb dL_law_319 (lv_at hl 10 rfl) ?_
                                  refine lv_imul hx hb dL_law_321 ?_
                                  refine lv_iadd hx hb dL_law_322 ?_
                                  refine lv_icmp_ge (tgt := 374) hx hb dL_law_323 (by decide) (fun c_323_13 => ?_) (fun c_323_13 => ?_)
                                  · -- 323 taken
                                    have c_323_13n := i_le_t c_323_13
                                    exact law_374 C0 hi nxt (LC_of true hR hh hl2 hne hp) hk4 hb4 (gg := gg) _ _ hPo hPp hS ls (lv_sub hl [2, 3, 4, 5, 6, 7, 8, 10] rfl)
                                  · -- 323 not taken
                                    have c_323_13n := i_le_f c_323_13
                                    exact absurd (by decide) c_323_13
                                · -- 363 not taken
                                  exact absurd c_330 c_363_12
                            · -- 330 not taken
                              exact absurd c_330_10 c_330_2
                        · -- 363 not taken
                          exact absurd c_330 c_363_8
                · -- 363 not taken
                  exact absurd c_330 c_363_4
            · -- 330 not taken
              exact absurd c_330_2 (by decide)
        · -- 363 not taken
          exact absurd c_330 c_363
set_option maxHeartbeats 4000000 in
set_option maxRecDepth 100000 in
theorem law_250 {p : Program} {l : Launch} {e : Env} {s : State} {m : MethodId} {below : List Frame} {meth : Method} {c : Code} {b L : Nat} {xs : Nat → Int32} {g : qG} {ad : Nat → Nat} (C0 : lawC p s m meth c b L xs g ad) {i : Nat} {zb : zS} {kk t : Nat} {gg h1 h2 : Int32} {f : Bool} (ht : t < 4) (nxt2 : ∀ yo yp : zS, LR zb (t + 1) 0 yo yp → lawAt p l e s m below meth c b g ad 241 [] [(0, .ref b), (1, .ref (ad 0)), (2, .ref (aP ad 0)), (3, .int (nI i)), (4, .int gg), (5, .int (nI kk)), (6, .int h1), (7, .int h2), (8, .int (bI f)), (9, .int (nI (t + 1)))] yo yp) : ∀ (k : Nat) (q : Nat) (zo zp : zS), q + k = 8 → LR zb t q zo zp → lawAt p l e s m below meth c b g ad 250 [] [(0, .ref b), (1, .ref (ad 0)), (2, .ref (aP ad 0)), (3, .int (nI i)), (4, .int gg), (5, .int (nI kk)), (6, .int h1), (7, .int h2), (8, .int (bI f)), (9, .int (nI t)), (10, .int (nI q))] zo zp := by
  obtain ⟨hx, hb, hml, hown, hts, hr, hlocks, hX, hbl, hL, hj, hg, hK, hT⟩ := id C0
  intro k
  induction k with
  | zero =>
    intro q zo zp hq2 hR
    intro H locs hPo hPp hS ls hl
    refine lv_iload hx hb dL_law_250 (lv_at hl 10 rfl) ?_
    refine lv_bipush (v := 8) hx hb dL_law_252 (by decide) ?_
    refine lv_icmp_ge (tgt := 306) hx hb dL_law_254 (by decide) (fun c_254 => ?_) (fun c_254 => ?_)
    · -- 254 taken
      have c_254n := i_le_t c_254
      refine lv_iinc (v := nI (t + 1)) (lv' := [(9, .int (nI (t + 1))), (0, .ref b), (1, .ref (ad 0)), (2, .ref (aP ad 0)), (3, .int (nI i)), (4, .int gg), (5, .int (nI kk)), (6, .int h1), (7, .int h2), (8, .int (bI f)), (10, .int (nI q))]) hx hb dL_law_306 hl (k := 9) rfl (nI_1 t) (by decide) rfl (fun ls hl => ?_)
      refine lv_goto (tgt := 241) hx hb dL_law_309 (by decide) ?_
      exact nxt2 _ _ (LR_next (by have e9 : q = 8 := (by omega); subst e9; exact hR) ht) _ _ hPo hPp hS ls (lv_sub hl [1, 2, 3, 4, 5, 6, 7, 8, 9, 0] rfl)
    · -- 254 not taken
      have c_254n := i_le_f c_254
      exact absurd (nI_lt' (b := 8) (by omega) (by omega) c_254) (by omega)
  | succ k ih =>
    intro q zo zp hq2 hR
    intro H locs hPo hPp hS ls hl
    have hx1 := inv_pn hR.1 t ht
    have hq1 : inR (nI q) 0 7 = true := nI_in8 (by omega)
    refine lv_iload hx hb dL_law_250 (lv_at hl 10 rfl) ?_
    refine lv_bipush (v := 8) hx hb dL_law_252 (by decide) ?_
    refine lv_icmp_ge (tgt := 306) hx hb dL_law_254 (by decide) (fun c_254 => ?_) (fun c_254 => ?_)
    · -- 254 taken
      have c_254n := i_le_t c_254
      exact absurd (nI_ge' (b := 8) (by omega) (by omega) c_254) (by omega)
    · -- 254 not taken
      have c_254n := i_le_f c_254
      refine lv_aload_n hx hb dL_law_257 rfl (lv_at hl 1 rfl) ?_
      refine lv_iload hx hb dL_law_258 (lv_at hl 9 rfl) ?_
      refine qViF (As := [.int (nI t)]) (rest := []) hx hb hml hown hts (kX3_pins l g zo (J_o hj) (nI t)) gL_law_X3_pins rfl 1 hdX3_pins rfl ⟨Nat.le_of_ble_eq_true rfl, Nat.le_of_ble_eq_true rfl⟩ ⟨Nat.le_of_ble_eq_true rfl, Nat.le_of_ble_eq_true rfl⟩ hK hPo hS (fun q h => hg q (A_o q h)) 0 3 rfl rfl rfl hl.1 rfl (Nat.le_of_ble_eq_true rfl) dL_law_260 (fun H locs hz hk hPo hS => ?_)
      have hPp := P2_kp hj hPp hk
      refine lv_nm (y := zo 1 t) (pins_t zo ht) ?_
      refine lv_iload hx hb dL_law_263 (lv_at hl 10 rfl) ?_
      refine lv_ishr hx hb dL_law_265 ?_
      refine lv_iconst (v := 1) hx hb dL_law_266 rfl ?_
      refine lv_iand hx hb dL_law_267 ?_
      refine lv_iconst (v := 1) hx hb dL_law_268 rfl ?_
      refine lv_icmp_ne (tgt := 300) hx hb dL_law_269 (by decide) (fun c_269 => ?_) (fun c_269 => ?_)
      · -- 269 taken
        have hb0 : zo 1 t &&& sh (nI q) = 0 := Classical.not_not.mp (fun r => c_269 ((bit_1 hx1 hq1).mpr r))
        refine lv_iinc (v := nI (q + 1)) (lv' := [(10, .int (nI (q + 1))), (0, .ref b), (1, .ref (ad 0)), (2, .ref (aP ad 0)), (3, .int (nI i)), (4, .int gg), (5, .int (nI kk)), (6, .int h1), (7, .int h2), (8, .int (bI f)), (9, .int (nI t))]) hx hb dL_law_300 hl (k := 10) rfl (nI_1 q) (by decide) rfl (fun ls hl => ?_)
        refine lv_goto (tgt := 250) hx hb dL_law_303 (by decide) ?_
        exact ih (q + 1) _ _ (by omega) (LR_skip hR hb0) _ _ hPo hPp hS ls (lv_sub hl [1, 2, 3, 4, 5, 6, 7, 8, 9, 10, 0] rfl)
      · -- 269 not taken
        have hb1 := (bit_1 hx1 hq1).mp c_269
        obtain ⟨hrp, hR2⟩ := LR_step hR ht (by omega) hb1
        have hro := rl_off ht (by omega : q < 8) hR.2.2.2.1 hb1
        refine lv_aload_n hx hb dL_law_272 rfl (lv_at hl 1 rfl) ?_
        refine lv_iload hx hb dL_law_273 (lv_at hl 9 rfl) ?_
        refine lv_iload hx hb dL_law_275 (lv_at hl 10 rfl) ?_
        refine lv_iconst (v := 0) hx hb dL_law_277 rfl ?_
        refine qViF (As := [.int (nI t), .int (nI q), .int 0]) (rest := []) hx hb hml hown hts (kX3_relay l g zo (J_o hj) (nI t) (nI q) 0) gL_law_X3_relay rfl 3 hdX3_relay rfl ⟨Nat.le_of_ble_eq_true rfl, Nat.le_of_ble_eq_true rfl⟩ ⟨Nat.le_of_ble_eq_true rfl, Nat.le_of_ble_eq_true rfl⟩ hK hPo hS (fun q h => hg q (A_o q h)) 0 3 rfl rfl rfl hl.1 rfl (Nat.le_of_ble_eq_true rfl) dL_law_278 (fun H locs hz hk hPo hS => ?_)
        have hPp := P2_kp hj hPp hk
        refine lv_nm (y := 1) (congrArg Prod.fst hro) ?_
        rw [hro] at hPo
        dsimp only at hPo
        refine lv_iconst (v := 1) hx hb dL_law_281 rfl ?_
        refine lv_icmp_ne (tgt := 298) hx hb dL_law_282 (by decide) (fun c_282 => ?_) (fun c_282 => ?_)
        · -- 282 taken
          exact absurd rfl c_282
        · -- 282 not taken
          refine lv_aload_n hx hb dL_law_285 rfl (lv_at hl 2 rfl) ?_
          refine lv_iload hx hb dL_law_286 (lv_at hl 9 rfl) ?_
          refine lv_iload hx hb dL_law_288 (lv_at hl 10 rfl) ?_
          refine lv_iconst (v := 0) hx hb dL_law_290 rfl ?_
          refine qViF (As := [.int (nI t), .int (nI q), .int 0]) (rest := []) hx hb hml hown hts (kX3_relay l g zp (J_p hj) (nI t) (nI q) 0) gL_law_X3_relay rfl 3 hdX3_relay rfl ⟨Nat.le_of_ble_eq_true rfl, Nat.le_of_ble_eq_true rfl⟩ ⟨Nat.le_of_ble_eq_true rfl, Nat.le_of_ble_eq_true rfl⟩ hK hPp hS (fun q h => hg q (A_p q h)) 0 3 rfl rfl rfl hl.1 rfl (Nat.le_of_ble_eq_true rfl) dL_law_291 (fun H locs hz hk hPp hS => ?_)
          have hPo := P2_ko hj hPo hk
          refine lv_nm (y := 1) (congrArg Prod.fst hrp) ?_
          rw [hrp] at hPp
          dsimp only at hPp
          refine lv_iconst (v := 1) hx hb dL_law_294 rfl ?_
          refine lv_icmp_eq (tgt := 300) hx hb dL_law_295 (by decide) (fun c_295 => ?_) (fun c_295 => ?_)
          · -- 295 taken
            refine lv_iinc (v := nI (q + 1)) (lv' := [(10, .int (nI (q + 1))), (0, .ref b), (1, .ref (ad 0)), (2, .ref (aP ad 0)), (3, .int (nI i)), (4, .int gg), (5, .int (nI kk)), (6, .int h1), (7, .int h2), (8, .int (bI f)), (9, .int (nI t))]) hx hb dL_law_300 hl (k := 10) rfl (nI_1 q) (by decide) rfl (fun ls hl => ?_)
            refine lv_goto (tgt := 250) hx hb dL_law_303 (by decide) ?_
            exact ih (q + 1) _ _ (by omega) hR2 _ _ hPo hPp hS ls (lv_sub hl [1, 2, 3, 4, 5, 6, 7, 8, 9, 10, 0] rfl)
          · -- 295 not taken
            exact absurd c_282 c_295
set_option maxHeartbeats 4000000 in
set_option maxRecDepth 100000 in
theorem law_241 {p : Program} {l : Launch} {e : Env} {s : State} {m : MethodId} {below : List Frame} {meth : Method} {c : Code} {b L : Nat} {xs : Nat → Int32} {g : qG} {ad : Nat → Nat} (C0 : lawC p s m meth c b L xs g ad) {i : Nat} {zb : zS} {kk : Nat} {gg h1 h2 : Int32} {f : Bool} (nxt3 : ∀ yo yp : zS, LR zb 4 0 yo yp → lawAt p l e s m below meth c b g ad 312 [] [(0, .ref b), (1, .ref (ad 0)), (2, .ref (aP ad 0)), (3, .int (nI i)), (4, .int gg), (5, .int (nI kk)), (6, .int h1), (7, .int h2), (8, .int (bI f))] yo yp) : ∀ (k : Nat) (t : Nat) (zo zp : zS), t + k = 4 → LR zb t 0 zo zp → lawAt p l e s m below meth c b g ad 241 [] [(0, .ref b), (1, .ref (ad 0)), (2, .ref (aP ad 0)), (3, .int (nI i)), (4, .int gg), (5, .int (nI kk)), (6, .int h1), (7, .int h2), (8, .int (bI f)), (9, .int (nI t))] zo zp := by
  obtain ⟨hx, hb, hml, hown, hts, hr, hlocks, hX, hbl, hL, hj, hg, hK, hT⟩ := id C0
  intro k
  induction k with
  | zero =>
    intro t zo zp ht2 hR
    intro H locs hPo hPp hS ls hl
    refine lv_iload hx hb dL_law_241 (lv_at hl 9 rfl) ?_
    refine lv_iconst (v := 4) hx hb dL_law_243 rfl ?_
    refine lv_icmp_ge (tgt := 312) hx hb dL_law_244 (by decide) (fun c_244 => ?_) (fun c_244 => ?_)
    · -- 244 taken
      have c_244n := i_le_t c_244
      exact nxt3 _ _ (by have e9 : t = 4 := (by omega); subst e9; exact hR) _ _ hPo hPp hS ls (lv_sub hl [0, 1, 2, 3, 4, 5, 6, 7, 8] rfl)
    · -- 244 not taken
      have c_244n := i_le_f c_244
      exact absurd (nI_lt' (b := 4) (by omega) (by omega) c_244) (by omega)
  | succ k ih =>
    intro t zo zp ht2 hR
    intro H locs hPo hPp hS ls hl
    refine lv_iload hx hb dL_law_241 (lv_at hl 9 rfl) ?_
    refine lv_iconst (v := 4) hx hb dL_law_243 rfl ?_
    refine lv_icmp_ge (tgt := 312) hx hb dL_law_244 (by decide) (fun c_244 => ?_) (fun c_244 => ?_)
    · -- 244 taken
      have c_244n := i_le_t c_244
      exact absurd (nI_ge' (b := 4) (by omega) (by omega) c_244) (by omega)
    · -- 244 not taken
      have c_244n := i_le_f c_244
      refine lv_iconst (v := 0) hx hb dL_law_247 rfl ?_
      refine lv_istore (lv' := [(10, .int 0), (0, .ref b), (1, .ref (ad 0)), (2, .ref (aP ad 0)), (3, .int (nI i)), (4, .int gg), (5, .int (nI kk)), (6, .int h1), (7, .int h2), (8, .int (bI f)), (9, .int (nI t))]) hx hb dL_law_248 hl (by decide) rfl (fun ls hl => ?_)
      exact law_250 C0 (by omega) (fun yo yp h9 => ih (t + 1) yo yp (by omega) h9) 8 0 _ _ (by omega) hR _ _ hPo hPp hS ls (lv_sub hl [1, 2, 3, 4, 5, 6, 7, 8, 9, 10, 0] rfl)
set_option maxHeartbeats 4000000 in
set_option maxRecDepth 100000 in
theorem law_230 {p : Program} {l : Launch} {e : Env} {s : State} {m : MethodId} {below : List Frame} {meth : Method} {c : Code} {b L : Nat} {xs : Nat → Int32} {g : qG} {ad : Nat → Nat} (C0 : lawC p s m meth c b L xs g ad) {i : Nat} (hi : i < 3) (nxt : ∀ yo yp : zS, LA yo yp → lawAt p l e s m below meth c b g ad 869 [] [(0, .ref b), (1, .ref (ad 0)), (2, .ref (aP ad 0)), (3, .int (nI i))] yo yp) {zo zp : zS} (hA : LA zo zp) {kk : Nat} {gg h1 h2 : Int32} (hk4 : kk < 4) (hp : (h1 = zo (10 + kk) 3 ∧ h2 = zo (10 + kk) 4) ∨ (h1 = zo (10 + kk) 4 ∧ h2 = zo (10 + kk) 3)) : lawAt p l e s m below meth c b g ad 230 [] [(0, .ref b), (1, .ref (ad 0)), (2, .ref (aP ad 0)), (3, .int (nI i)), (4, .int gg), (5, .int (nI kk)), (6, .int h1), (7, .int h2)] zo zp := by
  obtain ⟨hx, hb, hml, hown, hts, hr, hlocks, hX, hbl, hL, hj, hg, hK, hT⟩ := id C0
  obtain ⟨a1, a2, a3, a4, a5⟩ := id hA
  have hb4 : ∀ n, n < 4 → zo (10 + n) 0 = 1 := fun n hn => (a5 n hn).1
  have hpi := inv_p a1 kk hk4
  have hh : inR h1 0 7 = true := hp.elim (fun q => by rw [q.1]; exact hpi.2.2.2.1) (fun q => by rw [q.1]; exact hpi.2.2.2.2.1)
  have hl2 : inR h2 0 7 = true := hp.elim (fun q => by rw [q.2]; exact hpi.2.2.2.2.1) (fun q => by rw [q.2]; exact hpi.2.2.2.1)
  have hne : ¬ h1 = h2 := hp.elim (fun q => by rw [q.1, q.2]; exact (a5 kk hk4).2) (fun q => by rw [q.1, q.2]; exact fun r => (a5 kk hk4).2 r.symm)
  have hR0 : LR zo 0 0 zo zp := ⟨a1, a2, a3, a4, fun _ => rfl, fun _ h => absurd h (Nat.not_lt_zero _), fun _ h => absurd h (Nat.not_lt_zero _)⟩
  intro H locs hPo hPp hS ls hl
  refine lv_iload hx hb dL_law_230 (lv_at hl 4 rfl) ?_
  refine lv_iconst (v := 3) hx hb dL_law_232 rfl ?_
  refine lv_ishr hx hb dL_law_233 ?_
  refine lv_iconst (v := 1) hx hb dL_law_234 rfl ?_
  refine lv_iand hx hb dL_law_235 ?_
  obtain ⟨f, ef⟩ := and1 (gg >>> ((3 : Int32) &&& 31))
  refine lv_nm (y := bI f) ef ?_
  refine lv_istore (lv' := [(8, .int (bI f)), (0, .ref b), (1, .ref (ad 0)), (2, .ref (aP ad 0)), (3, .int (nI i)), (4, .int gg), (5, .int (nI kk)), (6, .int h1), (7, .int h2)]) hx hb dL_law_236 hl (by decide) rfl (fun ls hl => ?_)
  refine lv_iconst (v := 0) hx hb dL_law_238 rfl ?_
  refine lv_istore (lv' := [(9, .int 0), (8, .int (bI f)), (0, .ref b), (1, .ref (ad 0)), (2, .ref (aP ad 0)), (3, .int (nI i)), (4, .int gg), (5, .int (nI kk)), (6, .int h1), (7, .int h2)]) hx hb dL_law_239 hl (by decide) rfl (fun ls hl => ?_)
  cases f
  · exact law_241 C0 (fun yo yp h9 => law_312_false C0 hi nxt hk4 hb4 h9 hh hl2 hne hp) 4 0 _ _ (by omega) hR0 _ _ hPo hPp hS ls (lv_sub hl [2, 3, 4, 5, 6, 7, 8, 9, 1, 0] rfl)
  · exact law_241 C0 (fun yo yp h9 => law_312_true C0 hi nxt hk4 hb4 h9 hh hl2 hne hp) 4 0 _ _ (by omega) hR0 _ _ hPo hPp hS ls (lv_sub hl [2, 3, 4, 5, 6, 7, 8, 9, 1, 0] rfl)
set_option maxHeartbeats 4000000 in
set_option maxRecDepth 100000 in
theorem law_869 {p : Program} {l : Launch} {e : Env} {s : State} {m : MethodId} {below : List Frame} {meth : Method} {c : Code} {b L : Nat} {xs : Nat → Int32} {g : qG} {ad : Nat → Nat} (C0 : lawC p s m meth c b L xs g ad) {i : Nat} {zo zp : zS} (nxt4 : lawAt p l e s m below meth c b g ad 150 [] [(0, .ref b), (1, .ref (ad 0)), (2, .ref (aP ad 0)), (3, .int (nI (i + 1)))] zo zp) : lawAt p l e s m below meth c b g ad 869 [] [(0, .ref b), (1, .ref (ad 0)), (2, .ref (aP ad 0)), (3, .int (nI i))] zo zp := by
  obtain ⟨hx, hb, hml, hown, hts, hr, hlocks, hX, hbl, hL, hj, hg, hK, hT⟩ := id C0
  intro H locs hPo hPp hS ls hl
  refine lv_iinc (v := nI (i + 1)) (lv' := [(3, .int (nI (i + 1))), (0, .ref b), (1, .ref (ad 0)), (2, .ref (aP ad 0))]) hx hb dL_law_869 hl (k := 3) rfl (nI_1 i) (by decide) rfl (fun ls hl => ?_)
  refine lv_goto (tgt := 150) hx hb dL_law_872 (by decide) ?_
  exact nxt4 _ _ hPo hPp hS ls (lv_sub hl [1, 2, 3, 0] rfl)
set_option maxHeartbeats 4000000 in
set_option maxRecDepth 100000 in
theorem law_150 {p : Program} {l : Launch} {e : Env} {s : State} {m : MethodId} {below : List Frame} {meth : Method} {c : Code} {b L : Nat} {xs : Nat → Int32} {g : qG} {ad : Nat → Nat} (C0 : lawC p s m meth c b L xs g ad)  : ∀ (k : Nat) (i : Nat) (zo zp : zS), i + k = 3 → LA zo zp → lawAt p l e s m below meth c b g ad 150 [] [(0, .ref b), (1, .ref (ad 0)), (2, .ref (aP ad 0)), (3, .int (nI i))] zo zp := by
  obtain ⟨hx, hb, hml, hown, hts, hr, hlocks, hX, hbl, hL, hj, hg, hK, hT⟩ := id C0
  intro k
  induction k with
  | zero =>
    intro i zo zp hi2 hA
    intro H locs hPo hPp hS ls hl
    refine lv_iload_n hx hb dL_law_150 rfl (lv_at hl 3 rfl) ?_
    refine lv_iconst (v := 3) hx hb dL_law_151 rfl ?_
    refine lv_icmp_ge (tgt := 875) hx hb dL_law_152 (by decide) (fun c_152 => ?_) (fun c_152 => ?_)
    · -- 152 taken
      have c_152n := i_le_t c_152
      exact law_875 C0 hA _ _ hPo hPp hS ls (lv_sub hl [0, 1, 2] rfl)
    · -- 152 not taken
      have c_152n := i_le_f c_152
      exact absurd (nI_lt' (b := 3) (by omega) (by omega) c_152) (by omega)
  | succ k ih =>
    intro i zo zp hi2 hA
    intro H locs hPo hPp hS ls hl
    refine lv_iload_n hx hb dL_law_150 rfl (lv_at hl 3 rfl) ?_
    refine lv_iconst (v := 3) hx hb dL_law_151 rfl ?_
    refine lv_icmp_ge (tgt := 875) hx hb dL_law_152 (by decide) (fun c_152 => ?_) (fun c_152 => ?_)
    · -- 152 taken
      have c_152n := i_le_t c_152
      exact absurd (nI_ge' (b := 3) (by omega) (by omega) c_152) (by omega)
    · -- 152 not taken
      have c_152n := i_le_f c_152
      refine lv_aload_n hx hb dL_law_155 rfl (lv_at hl 0 rfl) ?_
      refine lv_bipush (v := 8) hx hb dL_law_156 (by decide) ?_
      refine lv_bipush (v := 20) hx hb dL_law_158 (by decide) ?_
      refine lv_iload_n hx hb dL_law_160 rfl (lv_at hl 3 rfl) ?_
      refine lv_imul hx hb dL_law_161 ?_
      refine lv_iadd hx hb dL_law_162 ?_
      refine lv_nm (y := nI (8 + 20 * i)) (by rw [show (8 : Int32) = nI 8 from rfl, idx_1]) ?_
      refine qCell (i := 8 + 20 * i) hx hb hml hown hts gL_law_L_cell hX hbl (Nat.not_le.mpr hbl) (by omega) (by omega) ⟨Nat.le_of_ble_eq_true rfl, Nat.le_of_ble_eq_true rfl⟩ ⟨Nat.le_of_ble_eq_true rfl, Nat.le_of_ble_eq_true rfl⟩ hS hl.1 (Nat.le_of_ble_eq_true rfl) dL_law_163 (fun H locs hz hk hS => ?_)
      have hPo := P_all hPo hk
      have hPp := P_all hPp hk
      refine lv_topi (fun gg hgg => ?_)
      refine lv_istore (lv' := [(4, .int gg), (0, .ref b), (1, .ref (ad 0)), (2, .ref (aP ad 0)), (3, .int (nI i))]) hx hb dL_law_166 hl (by decide) rfl (fun ls hl => ?_)
      refine lv_iload hx hb dL_law_168 (lv_at hl 0 rfl) ?_
      refine lv_iconst (v := 3) hx hb dL_law_170 rfl ?_
      refine lv_iand hx hb dL_law_171 ?_
      obtain ⟨kk, hk4, ek⟩ := and3 gg
      have hof := ofk hk4 (hA.2.2.2.2 kk hk4).1
      refine lv_nm (y := nI kk) ek ?_
      refine lv_istore (lv' := [(5, .int (nI kk)), (4, .int gg), (0, .ref b), (1, .ref (ad 0)), (2, .ref (aP ad 0)), (3, .int (nI i))]) hx hb dL_law_172 hl (by decide) rfl (fun ls hl => ?_)
      refine lv_iload hx hb dL_law_174 (lv_at hl 1 rfl) ?_
      refine lv_iconst (v := 2) hx hb dL_law_176 rfl ?_
      refine lv_ishr hx hb dL_law_177 ?_
      refine lv_iconst (v := 1) hx hb dL_law_178 rfl ?_
      refine lv_iand hx hb dL_law_179 ?_
      refine lv_if_ne (tgt := 193) hx hb dL_law_180 (by decide) (fun c_180 => ?_) (fun c_180 => ?_)
      · -- 180 taken
        refine lv_aload_n hx hb dL_law_193 rfl (lv_at hl 3 rfl) ?_
        refine lv_iload hx hb dL_law_194 (lv_at hl 0 rfl) ?_
        refine lv_iconst (v := 1) hx hb dL_law_196 rfl ?_
        refine qViF (As := [.int (nI kk), .int 1]) (rest := []) hx hb hml hown hts (kX3_ofPart l g zo (J_o hj) (nI kk) 1) gL_law_X3_ofPart rfl 2 hdX3_ofPart rfl ⟨Nat.le_of_ble_eq_true rfl, Nat.le_of_ble_eq_true rfl⟩ ⟨Nat.le_of_ble_eq_true rfl, Nat.le_of_ble_eq_true rfl⟩ hK hPo hS (fun q h => hg q (A_o q h)) 0 3 rfl rfl rfl hl.1 rfl (Nat.le_of_ble_eq_true rfl) dL_law_197 (fun H locs hz hk hPo hS => ?_)
        have hPp := P2_kp hj hPp hk
        refine lv_nm (y := zo (10 + kk) 4) hof.2 ?_
        refine lv_istore (lv' := [(6, .int (zo (10 + kk) 4)), (5, .int (nI kk)), (4, .int gg), (0, .ref b), (1, .ref (ad 0)), (2, .ref (aP ad 0)), (3, .int (nI i))]) hx hb dL_law_200 hl (by decide) rfl (fun ls hl => ?_)
        refine lv_iload hx hb dL_law_202 (lv_at hl 2 rfl) ?_
        refine lv_iconst (v := 2) hx hb dL_law_204 rfl ?_
        refine lv_ishr hx hb dL_law_205 ?_
        refine lv_iconst (v := 1) hx hb dL_law_206 rfl ?_
        refine lv_iand hx hb dL_law_207 ?_
        refine lv_if_ne (tgt := 221) hx hb dL_law_208 (by decide) (fun c_208 => ?_) (fun c_208 => ?_)
        · -- 208 taken
          refine lv_aload_n hx hb dL_law_221 rfl (lv_at hl 4 rfl) ?_
          refine lv_iload hx hb dL_law_222 (lv_at hl 1 rfl) ?_
          refine lv_iconst (v := 0) hx hb dL_law_224 rfl ?_
          refine qViF (As := [.int (nI kk), .int 0]) (rest := []) hx hb hml hown hts (kX3_ofPart l g zo (J_o hj) (nI kk) 0) gL_law_X3_ofPart rfl 2 hdX3_ofPart rfl ⟨Nat.le_of_ble_eq_true rfl, Nat.le_of_ble_eq_true rfl⟩ ⟨Nat.le_of_ble_eq_true rfl, Nat.le_of_ble_eq_true rfl⟩ hK hPo hS (fun q h => hg q (A_o q h)) 0 3 rfl rfl rfl hl.1 rfl (Nat.le_of_ble_eq_true rfl) dL_law_225 (fun H locs hz hk hPo hS => ?_)
          have hPp := P2_kp hj hPp hk
          refine lv_nm (y := zo (10 + kk) 3) hof.1 ?_
          refine lv_istore (lv' := [(7, .int (zo (10 + kk) 3)), (6, .int (zo (10 + kk) 4)), (5, .int (nI kk)), (4, .int gg), (0, .ref b), (1, .ref (ad 0)), (2, .ref (aP ad 0)), (3, .int (nI i))]) hx hb dL_law_228 hl (by decide) rfl (fun ls hl => ?_)
          exact law_230 C0 (by omega) (fun yo yp h9 => law_869 C0 (ih (i + 1) yo yp (by omega) h9)) hA hk4 (Or.inr ⟨rfl, rfl⟩) _ _ hPo hPp hS ls (lv_sub hl [4, 5, 6, 7, 3, 2, 1, 0] rfl)
        · -- 208 not taken
          exact absurd c_208 c_180
      · -- 180 not taken
        refine lv_aload_n hx hb dL_law_183 rfl (lv_at hl 3 rfl) ?_
        refine lv_iload hx hb dL_law_184 (lv_at hl 0 rfl) ?_
        refine lv_iconst (v := 0) hx hb dL_law_186 rfl ?_
        refine qViF (As := [.int (nI kk), .int 0]) (rest := []) hx hb hml hown hts (kX3_ofPart l g zo (J_o hj) (nI kk) 0) gL_law_X3_ofPart rfl 2 hdX3_ofPart rfl ⟨Nat.le_of_ble_eq_true rfl, Nat.le_of_ble_eq_true rfl⟩ ⟨Nat.le_of_ble_eq_true rfl, Nat.le_of_ble_eq_true rfl⟩ hK hPo hS (fun q h => hg q (A_o q h)) 0 3 rfl rfl rfl hl.1 rfl (Nat.le_of_ble_eq_true rfl) dL_law_187 (fun H locs hz hk hPo hS => ?_)
        have hPp := P2_kp hj hPp hk
        refine lv_nm (y := zo (10 + kk) 3) hof.1 ?_
        refine lv_goto (tgt := 200) hx hb dL_law_190 (by decide) ?_
        refine lv_istore (lv' := [(6, .int (zo (10 + kk) 3)), (5, .int (nI kk)), (4, .int gg), (0, .ref b), (1, .ref (ad 0)), (2, .ref (aP ad 0)), (3, .int (nI i))]) hx hb dL_law_200 hl (by decide) rfl (fun ls hl => ?_)
        refine lv_iload hx hb dL_law_202 (lv_at hl 2 rfl) ?_
        refine lv_iconst (v := 2) hx hb dL_law_204 rfl ?_
        refine lv_ishr hx hb dL_law_205 ?_
        refine lv_iconst (v := 1) hx hb dL_law_206 rfl ?_
        refine lv_iand hx hb dL_law_207 ?_
        refine lv_if_ne (tgt := 221) hx hb dL_law_208 (by decide) (fun c_208 => ?_) (fun c_208 => ?_)
        · -- 208 taken
          exact absurd c_180 c_208
        · -- 208 not taken
          refine lv_aload_n hx hb dL_law_211 rfl (lv_at hl 4 rfl) ?_
          refine lv_iload hx hb dL_law_212 (lv_at hl 1 rfl) ?_
          refine lv_iconst (v := 1) hx hb dL_law_214 rfl ?_
          refine qViF (As := [.int (nI kk), .int 1]) (rest := []) hx hb hml hown hts (kX3_ofPart l g zo (J_o hj) (nI kk) 1) gL_law_X3_ofPart rfl 2 hdX3_ofPart rfl ⟨Nat.le_of_ble_eq_true rfl, Nat.le_of_ble_eq_true rfl⟩ ⟨Nat.le_of_ble_eq_true rfl, Nat.le_of_ble_eq_true rfl⟩ hK hPo hS (fun q h => hg q (A_o q h)) 0 3 rfl rfl rfl hl.1 rfl (Nat.le_of_ble_eq_true rfl) dL_law_215 (fun H locs hz hk hPo hS => ?_)
          have hPp := P2_kp hj hPp hk
          refine lv_nm (y := zo (10 + kk) 4) hof.2 ?_
          refine lv_goto (tgt := 228) hx hb dL_law_218 (by decide) ?_
          refine lv_istore (lv' := [(7, .int (zo (10 + kk) 4)), (6, .int (zo (10 + kk) 3)), (5, .int (nI kk)), (4, .int gg), (0, .ref b), (1, .ref (ad 0)), (2, .ref (aP ad 0)), (3, .int (nI i))]) hx hb dL_law_228 hl (by decide) rfl (fun ls hl => ?_)
          exact law_230 C0 (by omega) (fun yo yp h9 => law_869 C0 (ih (i + 1) yo yp (by omega) h9)) hA hk4 (Or.inl ⟨rfl, rfl⟩) _ _ hPo hPp hS ls (lv_sub hl [4, 5, 6, 7, 3, 2, 1, 0] rfl)
set_option maxHeartbeats 4000000 in
set_option maxRecDepth 100000 in
theorem law_121 {p : Program} {l : Launch} {e : Env} {s : State} {m : MethodId} {below : List Frame} {meth : Method} {c : Code} {b L : Nat} {xs : Nat → Int32} {g : qG} {ad : Nat → Nat} (C0 : lawC p s m meth c b L xs g ad)  : ∀ (k : Nat) (j : Nat) (zo zp : zS), j + k = 4 → LB j zo zp → lawAt p l e s m below meth c b g ad 121 [] [(0, .ref b), (1, .ref (ad 0)), (2, .ref (aP ad 0)), (3, .int (nI j))] zo zp := by
  obtain ⟨hx, hb, hml, hown, hts, hr, hlocks, hX, hbl, hL, hj, hg, hK, hT⟩ := id C0
  intro k
  induction k with
  | zero =>
    intro j zo zp hj2 hB
    intro H locs hPo hPp hS ls hl
    refine lv_iload_n hx hb dL_law_121 rfl (lv_at hl 3 rfl) ?_
    refine lv_iconst (v := 4) hx hb dL_law_122 rfl ?_
    refine lv_icmp_ge (tgt := 148) hx hb dL_law_123 (by decide) (fun c_123 => ?_) (fun c_123 => ?_)
    · -- 123 taken
      have c_123n := i_le_t c_123
      refine lv_iconst (v := 0) hx hb dL_law_148 rfl ?_
      refine lv_istore_n (lv' := [(3, .int 0), (0, .ref b), (1, .ref (ad 0)), (2, .ref (aP ad 0))]) hx hb dL_law_149 rfl hl (by decide) rfl (fun ls hl => ?_)
      exact law_150 C0 3 0 _ _ (by omega) (LB_end (by have e9 : j = 4 := (by omega); subst e9; exact hB)) _ _ hPo hPp hS ls (lv_sub hl [1, 2, 3, 0] rfl)
    · -- 123 not taken
      have c_123n := i_le_f c_123
      exact absurd (nI_lt' (b := 4) (by omega) (by omega) c_123) (by omega)
  | succ k ih =>
    intro j zo zp hj2 hB
    intro H locs hPo hPp hS ls hl
    have h0o := hB.2.2.2.1
    have h0p : zp 0 0 = 0 := by rw [← hB.2.2.1.2.2.1]; exact h0o
    have hqo := hB.2.2.2.2.1 j (by omega) (Nat.le_refl j)
    have hqp : zp (10 + j) 0 = 0 := by rw [← hB.2.2.1.2.1 j (by omega)]; exact hqo
    refine lv_iload_n hx hb dL_law_121 rfl (lv_at hl 3 rfl) ?_
    refine lv_iconst (v := 4) hx hb dL_law_122 rfl ?_
    refine lv_icmp_ge (tgt := 148) hx hb dL_law_123 (by decide) (fun c_123 => ?_) (fun c_123 => ?_)
    · -- 123 taken
      have c_123n := i_le_t c_123
      exact absurd (nI_ge' (b := 4) (by omega) (by omega) c_123) (by omega)
    · -- 123 not taken
      have c_123n := i_le_f c_123
      refine lv_aload_n hx hb dL_law_126 rfl (lv_at hl 1 rfl) ?_
      refine lv_aload_n hx hb dL_law_127 rfl (lv_at hl 2 rfl) ?_
      refine lv_aload_n hx hb dL_law_128 rfl (lv_at hl 0 rfl) ?_
      refine lv_iload_n hx hb dL_law_129 rfl (lv_at hl 3 rfl) ?_
      refine qCell (i := j) hx hb hml hown hts gL_law_L_cell hX hbl (Nat.not_le.mpr hbl) (by omega) (by omega) ⟨Nat.le_of_ble_eq_true rfl, Nat.le_of_ble_eq_true rfl⟩ ⟨Nat.le_of_ble_eq_true rfl, Nat.le_of_ble_eq_true rfl⟩ hS hl.1 (Nat.le_of_ble_eq_true rfl) dL_law_130 (fun H locs hz hk hS => ?_)
      have hPo := P_all hPo hk
      have hPp := P_all hPp hk
      refine lv_topi (fun gg hgg => ?_)
      refine lv_iload_n hx hb dL_law_133 rfl (lv_at hl 3 rfl) ?_
      refine qSiTR hT (As := [.ref (ad 0), .ref (aP ad 0), .int gg, .int (nI j)]) (rest := []) hx hb hml hown hts (kL_both l g zo zp hj gg (show j < 4 by omega) h0o h0p hqo hqp) gL_law_L_both rfl 4 hdL_both rfl ⟨Nat.le_of_ble_eq_true rfl, Nat.le_of_ble_eq_true rfl⟩ ⟨Nat.le_of_ble_eq_true rfl, Nat.le_of_ble_eq_true rfl⟩ hK (P2_mk hPo hPp) hS hg hl.1 rfl (Nat.le_of_ble_eq_true rfl) dL_law_134 (fun u9 H locs hR9 hz hk hP2 hS => ?_)
      have hR9 : u9 = (boS zo j gg, boS zp j gg) := hR9
      subst hR9
      have hPo := P2_o hP2
      have hPp := P2_p hP2
      refine lv_if_ne (tgt := 142) hx hb dL_law_137 (by decide) (fun c_137 => ?_) (fun c_137 => ?_)
      · -- 137 taken
        refine lv_iinc (v := nI (j + 1)) (lv' := [(3, .int (nI (j + 1))), (0, .ref b), (1, .ref (ad 0)), (2, .ref (aP ad 0))]) hx hb dL_law_142 hl (k := 3) rfl (nI_1 j) (by decide) rfl (fun ls hl => ?_)
        refine lv_goto (tgt := 121) hx hb dL_law_145 (by decide) ?_
        exact ih (j + 1) _ _ (by omega) (LB_step hB (by omega) gg) _ _ hPo hPp hS ls (lv_sub hl [1, 2, 3, 0] rfl)
      · -- 137 not taken
        exact absurd c_137 (by decide)
set_option maxHeartbeats 4000000 in
set_option maxRecDepth 100000 in
theorem law_16 {p : Program} {l : Launch} {e : Env} {s : State} {m : MethodId} {below : List Frame} {meth : Method} {c : Code} {b L : Nat} {xs : Nat → Int32} {g : qG} {ad : Nat → Nat} (C0 : lawC p s m meth c b L xs g ad)  : lawAt p l e s m below meth c b g ad 16 [] [(0, .ref b), (1, .ref (ad 0)), (2, .ref (aP ad 0))] z0 z0 := by
  obtain ⟨hx, hb, hml, hown, hts, hr, hlocks, hX, hbl, hL, hj, hg, hK, hT⟩ := id C0
  intro H locs hPo hPp hS ls hl
  refine lv_aload_n hx hb dL_law_16 rfl (lv_at hl 1 rfl) ?_
  refine lv_iconst (v := 0) hx hb dL_law_17 rfl ?_
  refine qViF (As := [.int 0]) (rest := []) hx hb hml hown hts (kX3_now l g z0 (J_o hj) 0) gL_law_X3_now rfl 1 hdX3_now rfl ⟨Nat.le_of_ble_eq_true rfl, Nat.le_of_ble_eq_true rfl⟩ ⟨Nat.le_of_ble_eq_true rfl, Nat.le_of_ble_eq_true rfl⟩ hK hPo hS (fun q h => hg q (A_o q h)) 0 3 rfl rfl rfl hl.1 rfl (Nat.le_of_ble_eq_true rfl) dL_law_18 (fun H locs hz hk hPo hS => ?_)
  have hPp := P2_kp hj hPp hk
  refine lv_nm (y := (-9)) e_now0 ?_
  refine lv_bipush (v := -9) hx hb dL_law_21 (by decide) ?_
  refine lv_icmp_ne (tgt := 117) hx hb dL_law_23 (by decide) (fun c_23 => ?_) (fun c_23 => ?_)
  · -- 23 taken
    exact absurd rfl c_23
  · -- 23 not taken
    refine lv_aload_n hx hb dL_law_26 rfl (lv_at hl 1 rfl) ?_
    refine lv_iconst (v := 1) hx hb dL_law_27 rfl ?_
    refine qViF (As := [.int 1]) (rest := []) hx hb hml hown hts (kX3_now l g z0 (J_o hj) 1) gL_law_X3_now rfl 1 hdX3_now rfl ⟨Nat.le_of_ble_eq_true rfl, Nat.le_of_ble_eq_true rfl⟩ ⟨Nat.le_of_ble_eq_true rfl, Nat.le_of_ble_eq_true rfl⟩ hK hPo hS (fun q h => hg q (A_o q h)) 0 3 rfl rfl rfl hl.1 rfl (Nat.le_of_ble_eq_true rfl) dL_law_28 (fun H locs hz hk hPo hS => ?_)
    have hPp := P2_kp hj hPp hk
    refine lv_nm (y := 2) e_now1 ?_
    refine lv_iconst (v := 2) hx hb dL_law_31 rfl ?_
    refine lv_icmp_ne (tgt := 117) hx hb dL_law_32 (by decide) (fun c_32 => ?_) (fun c_32 => ?_)
    · -- 32 taken
      exact absurd rfl c_32
    · -- 32 not taken
      refine lv_aload_n hx hb dL_law_35 rfl (lv_at hl 1 rfl) ?_
      refine lv_iconst (v := 1) hx hb dL_law_36 rfl ?_
      refine qViF (As := [.int 1]) (rest := []) hx hb hml hown hts (kX3_power l g z0 (J_o hj) 1) gL_law_X3_power rfl 1 hdX3_power rfl ⟨Nat.le_of_ble_eq_true rfl, Nat.le_of_ble_eq_true rfl⟩ ⟨Nat.le_of_ble_eq_true rfl, Nat.le_of_ble_eq_true rfl⟩ hK hPo hS (fun q h => hg q (A_o q h)) 0 3 rfl rfl rfl hl.1 rfl (Nat.le_of_ble_eq_true rfl) dL_law_37 (fun H locs hz hk hPo hS => ?_)
      have hPp := P2_kp hj hPp hk
      refine lv_nm (y := (-3)) (congrArg Prod.fst e_pow) ?_
      rw [e_pow] at hPo
      dsimp only at hPo
      refine lv_bipush (v := -3) hx hb dL_law_40 (by decide) ?_
      refine lv_icmp_ne (tgt := 117) hx hb dL_law_42 (by decide) (fun c_42 => ?_) (fun c_42 => ?_)
      · -- 42 taken
        exact absurd rfl c_42
      · -- 42 not taken
        refine lv_aload_n hx hb dL_law_45 rfl (lv_at hl 1 rfl) ?_
        refine lv_iconst (v := 0) hx hb dL_law_46 rfl ?_
        refine lv_iconst (v := 0) hx hb dL_law_47 rfl ?_
        refine qViF (As := [.int 0, .int 0]) (rest := []) hx hb hml hown hts (kX3_would l g z0 (J_o hj) z0_inv 0 0) gL_law_X3_would rfl 2 hdX3_would rfl ⟨Nat.le_of_ble_eq_true rfl, Nat.le_of_ble_eq_true rfl⟩ ⟨Nat.le_of_ble_eq_true rfl, Nat.le_of_ble_eq_true rfl⟩ hK hPo hS (fun q h => hg q (A_o q h)) 0 3 rfl rfl rfl hl.1 rfl (Nat.le_of_ble_eq_true rfl) dL_law_48 (fun H locs hz hk hPo hS => ?_)
        have hPp := P2_kp hj hPp hk
        refine lv_nm (y := (-3)) e_would ?_
        refine lv_bipush (v := -3) hx hb dL_law_51 (by decide) ?_
        refine lv_icmp_ne (tgt := 117) hx hb dL_law_53 (by decide) (fun c_53 => ?_) (fun c_53 => ?_)
        · -- 53 taken
          exact absurd c_42 c_53
        · -- 53 not taken
          refine lv_aload_n hx hb dL_law_56 rfl (lv_at hl 1 rfl) ?_
          refine lv_iconst (v := 0) hx hb dL_law_57 rfl ?_
          refine lv_iconst (v := 1) hx hb dL_law_58 rfl ?_
          refine qViF (As := [.int 0, .int 1]) (rest := []) hx hb hml hown hts (kX3_pulse l g z0 (J_o hj) z0_inv 0 1) gL_law_X3_pulse rfl 2 hdX3_pulse rfl ⟨Nat.le_of_ble_eq_true rfl, Nat.le_of_ble_eq_true rfl⟩ ⟨Nat.le_of_ble_eq_true rfl, Nat.le_of_ble_eq_true rfl⟩ hK hPo hS (fun q h => hg q (A_o q h)) 0 3 rfl rfl rfl hl.1 rfl (Nat.le_of_ble_eq_true rfl) dL_law_59 (fun H locs hz hk hPo hS => ?_)
          have hPp := P2_kp hj hPp hk
          refine lv_nm (y := (-3)) (congrArg Prod.fst e_pulse) ?_
          rw [e_pulse] at hPo
          dsimp only at hPo
          refine lv_bipush (v := -3) hx hb dL_law_62 (by decide) ?_
          refine lv_icmp_ne (tgt := 117) hx hb dL_law_64 (by decide) (fun c_64 => ?_) (fun c_64 => ?_)
          · -- 64 taken
            exact absurd c_42 c_64
          · -- 64 not taken
            refine lv_aload_n hx hb dL_law_67 rfl (lv_at hl 1 rfl) ?_
            refine lv_iconst (v := 5) hx hb dL_law_68 rfl ?_
            refine qViF (As := [.int 5]) (rest := []) hx hb hml hown hts (kX3_rest l g z0 (J_o hj) 5) gL_law_X3_rest rfl 1 hdX3_rest rfl ⟨Nat.le_of_ble_eq_true rfl, Nat.le_of_ble_eq_true rfl⟩ ⟨Nat.le_of_ble_eq_true rfl, Nat.le_of_ble_eq_true rfl⟩ hK hPo hS (fun q h => hg q (A_o q h)) 0 3 rfl rfl rfl hl.1 rfl (Nat.le_of_ble_eq_true rfl) dL_law_69 (fun H locs hz hk hPo hS => ?_)
            have hPp := P2_kp hj hPp hk
            refine lv_nm (y := 0) (congrArg Prod.fst e_rest) ?_
            rw [e_rest] at hPo
            dsimp only at hPo
            refine lv_if_ne (tgt := 117) hx hb dL_law_72 (by decide) (fun c_72 => ?_) (fun c_72 => ?_)
            · -- 72 taken
              exact absurd rfl c_72
            · -- 72 not taken
              refine lv_aload_n hx hb dL_law_75 rfl (lv_at hl 1 rfl) ?_
              refine lv_iconst (v := 0) hx hb dL_law_76 rfl ?_
              refine lv_iconst (v := 0) hx hb dL_law_77 rfl ?_
              refine qViF (As := [.int 0, .int 0]) (rest := []) hx hb hml hown hts (kX3_why l g z0 (J_o hj) 0 0) gL_law_X3_why rfl 2 hdX3_why rfl ⟨Nat.le_of_ble_eq_true rfl, Nat.le_of_ble_eq_true rfl⟩ ⟨Nat.le_of_ble_eq_true rfl, Nat.le_of_ble_eq_true rfl⟩ hK hPo hS (fun q h => hg q (A_o q h)) 0 3 rfl rfl rfl hl.1 rfl (Nat.le_of_ble_eq_true rfl) dL_law_78 (fun H locs hz hk hPo hS => ?_)
              have hPp := P2_kp hj hPp hk
              refine lv_nm (y := (-9)) e_why ?_
              refine lv_bipush (v := -9) hx hb dL_law_81 (by decide) ?_
              refine lv_icmp_ne (tgt := 117) hx hb dL_law_83 (by decide) (fun c_83 => ?_) (fun c_83 => ?_)
              · -- 83 taken
                exact absurd c_23 c_83
              · -- 83 not taken
                refine lv_aload_n hx hb dL_law_86 rfl (lv_at hl 1 rfl) ?_
                refine lv_iconst (v := 0) hx hb dL_law_87 rfl ?_
                refine lv_iconst (v := 0) hx hb dL_law_88 rfl ?_
                refine qViF (As := [.int 0, .int 0]) (rest := []) hx hb hml hown hts (kX3_knee l g z0 (J_o hj) z0_inv 0 0) gL_law_X3_knee rfl 2 hdX3_knee rfl ⟨Nat.le_of_ble_eq_true rfl, Nat.le_of_ble_eq_true rfl⟩ ⟨Nat.le_of_ble_eq_true rfl, Nat.le_of_ble_eq_true rfl⟩ hK hPo hS (fun q h => hg q (A_o q h)) 0 3 rfl rfl rfl hl.1 rfl (Nat.le_of_ble_eq_true rfl) dL_law_89 (fun H locs hz hk hPo hS => ?_)
                have hPp := P2_kp hj hPp hk
                refine lv_nm (y := (-1)) e_knee ?_
                refine lv_iconst (v := -1) hx hb dL_law_92 rfl ?_
                refine lv_icmp_ne (tgt := 117) hx hb dL_law_93 (by decide) (fun c_93 => ?_) (fun c_93 => ?_)
                · -- 93 taken
                  exact absurd rfl c_93
                · -- 93 not taken
                  refine lv_aload_n hx hb dL_law_96 rfl (lv_at hl 1 rfl) ?_
                  refine lv_iconst (v := 0) hx hb dL_law_97 rfl ?_
                  refine lv_iconst (v := 0) hx hb dL_law_98 rfl ?_
                  refine lv_iconst (v := 0) hx hb dL_law_99 rfl ?_
                  refine qVlF (As := [.int 0, .int 0, .int 0]) (rest := []) hx hb hml hown hts (kX3_fit l g z0 (J_o hj) z0_inv 0 0 0) gL_law_X3_fit rfl 3 hdX3_fit rfl ⟨Nat.le_of_ble_eq_true rfl, Nat.le_of_ble_eq_true rfl⟩ ⟨Nat.le_of_ble_eq_true rfl, Nat.le_of_ble_eq_true rfl⟩ hK hPo hS (fun q h => hg q (A_o q h)) 0 3 rfl rfl rfl hl.1 rfl (Nat.le_of_ble_eq_true rfl) dL_law_100 (fun H locs hz hk hPo hS => ?_)
                  have hPp := P2_kp hj hPp hk
                  refine lv_nmL (y := (-9223372036854775808)) e_fit ?_
                  refine lv_ldc2 (v := -9223372036854775808) hx hb hown (hts (.constantLong RL 79 (-9223372036854775808)) (by decide +kernel)) dL_law_103 ?_
                  refine W.lcmp hx hb dL_law_106 ?_
                  refine lv_if_ne (tgt := 117) hx hb dL_law_107 (by decide) (fun c_107 => ?_) (fun c_107 => ?_)
                  · -- 107 taken
                    rw [lg_cmp_eq] at c_107
                    exact absurd rfl c_107
                  · -- 107 not taken
                    rw [lg_cmp_eq] at c_107
                    refine lv_aload_n hx hb dL_law_110 rfl (lv_at hl 1 rfl) ?_
                    refine qViF (As := []) (rest := []) hx hb hml hown hts (kX3_clear l g z0 (J_o hj)) gL_law_X3_clear rfl 0 hdX3_clear rfl ⟨Nat.le_of_ble_eq_true rfl, Nat.le_of_ble_eq_true rfl⟩ ⟨Nat.le_of_ble_eq_true rfl, Nat.le_of_ble_eq_true rfl⟩ hK hPo hS (fun q h => hg q (A_o q h)) 0 3 rfl rfl rfl hl.1 rfl (Nat.le_of_ble_eq_true rfl) dL_law_111 (fun H locs hz hk hPo hS => ?_)
                    have hPp := P2_kp hj hPp hk
                    refine lv_nm (y := 0) (congrArg Prod.fst e_clear) ?_
                    rw [e_clear] at hPo
                    dsimp only at hPo
                    refine lv_if_eq (tgt := 119) hx hb dL_law_114 (by decide) (fun c_114 => ?_) (fun c_114 => ?_)
                    · -- 114 taken
                      refine lv_iconst (v := 0) hx hb dL_law_119 rfl ?_
                      refine lv_istore_n (lv' := [(3, .int 0), (0, .ref b), (1, .ref (ad 0)), (2, .ref (aP ad 0))]) hx hb dL_law_120 rfl hl (by decide) rfl (fun ls hl => ?_)
                      exact law_121 C0 4 0 _ _ (by omega) e_LB _ _ hPo hPp hS ls (lv_sub hl [1, 2, 3, 0] rfl)
                    · -- 114 not taken
                      exact absurd c_72 c_114
