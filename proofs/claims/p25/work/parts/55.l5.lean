/-! BOTH HOUSES GET A PART. -/
def boK (gg : Int32) : Int32 := gg &&& 3
def boF (gg : Int32) : Int32 := lowF (gg >>> ((2 : Int32) &&& 31)) 8
def boO (gg : Int32) : Int32 := (boF gg + 1 + lowF (gg >>> ((5 : Int32) &&& 31)) 7) - (boF gg + 1 + lowF (gg >>> ((5 : Int32) &&& 31)) 7) / 8 * 8
def boA (gg : Int32) : Int32 := 1 + lowF (gg >>> ((8 : Int32) &&& 31)) 5000
def boB (gg : Int32) : Int32 := 1 + lowF (gg >>> ((11 : Int32) &&& 31)) 700
def boC (gg : Int32) : Int32 := lowF (gg >>> ((14 : Int32) &&& 31)) 400
def boD (gg : Int32) : Int32 := lowF (gg >>> ((17 : Int32) &&& 31)) 2500
def boE (gg : Int32) : Int32 := lowF (gg >>> ((20 : Int32) &&& 31)) 6
def bo0 (z : zS) (i : Nat) (gg : Int32) : zS := renewS z (10 + i) (boF gg) (boO gg) (boK gg)
def bo1 (z : zS) (i : Nat) (gg : Int32) : zS := zu (bo0 z i gg) (10 + i) 7 (boA gg)
def bo2 (z : zS) (i : Nat) (gg : Int32) : zS := zu (bo1 z i gg) (10 + i) 8 (boB gg)
def bo3 (z : zS) (i : Nat) (gg : Int32) : zS := zu (bo2 z i gg) (10 + i) 9 (boC gg)
def bo4 (z : zS) (i : Nat) (gg : Int32) : zS := zu (bo3 z i gg) (10 + i) 10 (boD gg)
def bo5 (z : zS) (i : Nat) (gg : Int32) : zS := zu (bo4 z i gg) (10 + i) 11 (boE gg)
/-- the new part's row, whatever stood there -/
def boR (gg : Int32) : Nat → Int32 := fun j => if j = 0 then 1 else if j = 3 then boF gg else if j = 4 then boO gg else if j = 5 then boK gg else if j = 7 then boA gg else if j = 8 then boB gg else if j = 9 then boC gg else if j = 10 then boD gg else if j = 11 then boE gg else 0
def boS (z : zS) (i : Nat) (gg : Int32) : zS := fun a => if a = 10 + i then boR gg else z a
theorem lowr (v : Int32) {n : Int32} {N : Nat} (hn : n.toInt = (N : Int) + 1) {b : Int32} (hb : b.toInt = (N : Int)) : inR (lowF v n) 0 b = true := by
  have h := low_b v (n := n) (by omega)
  rw [inR_iff, i0, hb]; omega
theorem low1r (v : Int32) {n : Int32} (hn : 0 < n.toInt) {b : Int32} (hb : b.toInt = n.toInt) : inR (1 + lowF v n) 1 b = true := by
  have h := low_b v (n := n) hn
  have h2 := fb_rng n
  have e : (1 : Int32).toInt = 1 := rfl
  rw [inR_iff, fb_addI (by rw [e]; omega) (by rw [e]; omega), e, hb]; omega
theorem boF_in (gg : Int32) : inR (boF gg) 0 7 = true := lowr _ (N := 7) rfl rfl
theorem boK_in (gg : Int32) : inR (boK gg) 0 3 = true := and_in gg (k := 3) (by decide) rfl rfl
theorem boO_Z (gg : Int32) : (boO gg).toInt = ((boF gg).toInt + 1 + (lowF (gg >>> ((5 : Int32) &&& 31)) 7).toInt) % 8 ∧ 0 ≤ (lowF (gg >>> ((5 : Int32) &&& 31)) 7).toInt ∧ (lowF (gg >>> ((5 : Int32) &&& 31)) 7).toInt < 7 := by
  have h1 := inR_b (boF_in gg) (x := 0) (y := 7) rfl rfl
  have h2 := low_b (gg >>> ((5 : Int32) &&& 31)) (n := 7) (by decide)
  have e1 : (1 : Int32).toInt = 1 := rfl
  have e7 : (7 : Int32).toInt = 7 := rfl
  have e8 : (8 : Int32).toInt = 8 := rfl
  rw [e7] at h2
  have a1 : (boF gg + 1).toInt = (boF gg).toInt + 1 := by rw [fb_addI (by rw [e1]; omega) (by rw [e1]; omega), e1]
  have a2 : (boF gg + 1 + lowF (gg >>> ((5 : Int32) &&& 31)) 7).toInt = (boF gg).toInt + 1 + (lowF (gg >>> ((5 : Int32) &&& 31)) 7).toInt := by rw [fb_addI (by rw [a1]; omega) (by rw [a1]; omega), a1]
  unfold boO
  rw [rem_I (by rw [a2]; omega) (by decide), a2, e8]
  exact ⟨rfl, h2⟩
theorem boO_in (gg : Int32) : inR (boO gg) 0 7 = true := by
  have h := boO_Z gg
  rw [inR_iff, h.1, i0, show (7 : Int32).toInt = 7 from rfl]; omega
theorem boO_ne (gg : Int32) : ¬ boF gg = boO gg := fun q => by
  have h1 := inR_b (boF_in gg) (x := 0) (y := 7) rfl rfl
  have h := boO_Z gg
  rw [← q] at h; omega
theorem boA_in (gg : Int32) : inR (boA gg) 1 5000 = true := low1r _ (by decide) rfl
theorem boB_in (gg : Int32) : inR (boB gg) 1 700 = true := low1r _ (by decide) rfl
theorem boC_in (gg : Int32) : inR (boC gg) 0 399 = true := lowr _ (N := 399) rfl rfl
theorem boD_in (gg : Int32) : inR (boD gg) 0 2499 = true := lowr _ (N := 2499) rfl rfl
theorem boE_in (gg : Int32) : inR (boE gg) 0 5 = true := lowr _ (N := 5) rfl rfl
theorem inR_up {v a b b' : Int32} (h : inR v a b = true) (hb : b.toInt ≤ b'.toInt) : inR v a b' = true := by
  have := inR_iff.mp h
  rw [inR_iff]; omega
theorem nI_in4 {i : Nat} (hi : i < 4) : inR (nI i) 0 3 = true ∧ ix (nI i) = i := by
  refine ⟨?_, ix_nI (by omega)⟩
  rw [inR_iff, i0, nI_toInt (by omega), show (3 : Int32).toInt = 3 from rfl]; omega
theorem part_ok {z : zS} {i : Nat} (hi : i < 4) (h0 : z 0 0 = 0) (hp : z (10 + i) 0 = 0) (gg : Int32) : s_part z (nI i) (boF gg) (boO gg) (boK gg) = (0, bo0 z i gg) := by
  obtain ⟨n1, n2⟩ := nI_in4 hi
  unfold s_part
  rw [if_pos ⟨n1, boF_in gg, boO_in gg⟩, if_pos (boK_in gg), if_neg (fun q => q.elim (boO_ne gg) (fun q => q h0)), n2, if_pos hp]
  rfl
theorem takes_in {w v a b : Int32} (h0 : 0 ≤ w) (h5 : w < 5) (hl : leastN (ix w) = a) (hm : mostN (ix w) = b) (hv : inR v a b = true) : takesB w v = true := by
  unfold inR at hv
  rw [Bool.and_eq_true] at hv
  unfold takesB
  rw [hl, hm, decide_eq_true h0, decide_eq_true h5, hv.1, hv.2]; rfl
theorem set_ok {y : zS} {i : Nat} (hi : i < 4) (h0 : y (10 + i) 0 = 1) {w v old : Int32} (ht : takesB w v = true) {j : Nat} (hj : 7 + ix w = j) (ho : y (10 + i) j = old) : s_set y (nI i) w v = (old, zu y (10 + i) j v) := by
  obtain ⟨n1, n2⟩ := nI_in4 hi
  have hp : pOk y (nI i) = true := by
    unfold pOk
    rw [n1, n2, h0]; rfl
  unfold s_set
  rw [if_pos hp, if_pos ht, n2, hj, ho]
theorem bo_0 (z : zS) (i : Nat) (gg : Int32) : bo0 z i gg (10 + i) 0 = 1 ∧ bo0 z i gg (10 + i) 7 = 1000 ∧ bo0 z i gg (10 + i) 8 = 600 ∧ bo0 z i gg (10 + i) 9 = 0 ∧ bo0 z i gg (10 + i) 10 = 0 ∧ bo0 z i gg (10 + i) 11 = 0 := by
  unfold bo0 renewS
  refine ⟨?_, ?_, ?_, ?_, ?_, ?_⟩ <;> simp [zu]
theorem set_a {z : zS} {i : Nat} (hi : i < 4) (gg : Int32) : s_set (bo0 z i gg) (nI i) 0 (boA gg) = (1000, bo1 z i gg) := by
  have h0 : bo0 z i gg (10 + i) 0 = 1 := by exact (bo_0 z i gg).1
  have ho : bo0 z i gg (10 + i) 7 = 1000 := by exact (bo_0 z i gg).2.1
  have ht : takesB 0 (boA gg) = true := takes_in (a := 1) (b := 5000) (by decide) (by decide) (by decide) (by decide) (boA_in gg)
  have h := set_ok (y := bo0 z i gg) hi h0 ht (j := 7) (by decide) ho
  exact h
theorem set_b {z : zS} {i : Nat} (hi : i < 4) (gg : Int32) : s_set (bo1 z i gg) (nI i) 1 (boB gg) = (600, bo2 z i gg) := by
  have h0 : bo1 z i gg (10 + i) 0 = 1 := by unfold bo1; rw [zu_col _ _ _ _ _ _ (by decide)]; exact (bo_0 z i gg).1
  have ho : bo1 z i gg (10 + i) 8 = 600 := by unfold bo1; rw [zu_col _ _ _ _ _ _ (by decide)]; exact (bo_0 z i gg).2.2.1
  have ht : takesB 1 (boB gg) = true := takes_in (a := 1) (b := 2000) (by decide) (by decide) (by decide) (by decide) (inR_up (boB_in gg) (by decide))
  have h := set_ok (y := bo1 z i gg) hi h0 ht (j := 8) (by decide) ho
  exact h
theorem set_c {z : zS} {i : Nat} (hi : i < 4) (gg : Int32) : s_set (bo2 z i gg) (nI i) 2 (boC gg) = (0, bo3 z i gg) := by
  have h0 : bo2 z i gg (10 + i) 0 = 1 := by unfold bo2 bo1; rw [zu_col _ _ _ _ _ _ (by decide), zu_col _ _ _ _ _ _ (by decide)]; exact (bo_0 z i gg).1
  have ho : bo2 z i gg (10 + i) 9 = 0 := by unfold bo2 bo1; rw [zu_col _ _ _ _ _ _ (by decide), zu_col _ _ _ _ _ _ (by decide)]; exact (bo_0 z i gg).2.2.2.1
  have ht : takesB 2 (boC gg) = true := takes_in (a := 0) (b := 2000) (by decide) (by decide) (by decide) (by decide) (inR_up (boC_in gg) (by decide))
  have h := set_ok (y := bo2 z i gg) hi h0 ht (j := 9) (by decide) ho
  exact h
theorem set_d {z : zS} {i : Nat} (hi : i < 4) (gg : Int32) : s_set (bo3 z i gg) (nI i) 3 (boD gg) = (0, bo4 z i gg) := by
  have h0 : bo3 z i gg (10 + i) 0 = 1 := by unfold bo3 bo2 bo1; rw [zu_col _ _ _ _ _ _ (by decide), zu_col _ _ _ _ _ _ (by decide), zu_col _ _ _ _ _ _ (by decide)]; exact (bo_0 z i gg).1
  have ho : bo3 z i gg (10 + i) 10 = 0 := by unfold bo3 bo2 bo1; rw [zu_col _ _ _ _ _ _ (by decide), zu_col _ _ _ _ _ _ (by decide), zu_col _ _ _ _ _ _ (by decide)]; exact (bo_0 z i gg).2.2.2.2.1
  have ht : takesB 3 (boD gg) = true := takes_in (a := 0) (b := 5000) (by decide) (by decide) (by decide) (by decide) (inR_up (boD_in gg) (by decide))
  have h := set_ok (y := bo3 z i gg) hi h0 ht (j := 10) (by decide) ho
  exact h
theorem set_e {z : zS} {i : Nat} (hi : i < 4) (gg : Int32) : s_set (bo4 z i gg) (nI i) 4 (boE gg) = (0, bo5 z i gg) := by
  have h0 : bo4 z i gg (10 + i) 0 = 1 := by unfold bo4 bo3 bo2 bo1; rw [zu_col _ _ _ _ _ _ (by decide), zu_col _ _ _ _ _ _ (by decide), zu_col _ _ _ _ _ _ (by decide), zu_col _ _ _ _ _ _ (by decide)]; exact (bo_0 z i gg).1
  have ho : bo4 z i gg (10 + i) 11 = 0 := by unfold bo4 bo3 bo2 bo1; rw [zu_col _ _ _ _ _ _ (by decide), zu_col _ _ _ _ _ _ (by decide), zu_col _ _ _ _ _ _ (by decide), zu_col _ _ _ _ _ _ (by decide)]; exact (bo_0 z i gg).2.2.2.2.2
  have ht : takesB 4 (boE gg) = true := takes_in (a := 0) (b := 5) (by decide) (by decide) (by decide) (by decide) (boE_in gg)
  have h := set_ok (y := bo4 z i gg) hi h0 ht (j := 11) (by decide) ho
  exact h
theorem pF_ext {f f' : Nat → Int32} (h : ∀ j, j < 12 → f j = f' j) : pF f = pF f' := by
  unfold pF
  rw [h 0 (by decide), h 1 (by decide), h 2 (by decide), h 3 (by decide), h 4 (by decide), h 5 (by decide), h 6 (by decide), h 7 (by decide), h 8 (by decide), h 9 (by decide), h 10 (by decide), h 11 (by decide)]
theorem WX_ext {g : qG} {ad : Nat → Nat} {z z' : zS} (h : ∀ a, a < 10 → z a = z' a) (hp : ∀ n, n < 4 → ∀ j, j < 12 → z (10 + n) j = z' (10 + n) j) : WX g ad z = WX g ad z' := by
  have e0 : pF (z 10) = pF (z' 10) := pF_ext (hp 0 (by decide))
  have e1 : pF (z 11) = pF (z' 11) := pF_ext (hp 1 (by decide))
  have e2 : pF (z 12) = pF (z' 12) := pF_ext (hp 2 (by decide))
  have e3 : pF (z 13) = pF (z' 13) := pF_ext (hp 3 (by decide))
  unfold WX
  rw [h 0 (by decide), h 1 (by decide), h 2 (by decide), h 3 (by decide), h 4 (by decide), h 5 (by decide), h 6 (by decide), h 7 (by decide), e0, e1, e2, e3]
theorem bo_eq (g : qG) (ad : Nat → Nat) (z : zS) (i : Nat) (gg : Int32) : WX g ad (bo5 z i gg) = WX g ad (boS z i gg) := by
  refine WX_ext (fun a ha => ?_) (fun n hn j hj => ?_)
  · have c : ¬ a = 10 + i := by omega
    funext b
    simp only [bo5, bo4, bo3, bo2, bo1, bo0, renewS, zu, boS, if_neg c]
  · by_cases c : 10 + n = 10 + i
    · rw [c]
      simp only [bo5, bo4, bo3, bo2, bo1, bo0, renewS, zu, boS, boR, if_true]
      rcases (show j = 0 ∨ j = 1 ∨ j = 2 ∨ j = 3 ∨ j = 4 ∨ j = 5 ∨ j = 6 ∨ j = 7 ∨ j = 8 ∨ j = 9 ∨ j = 10 ∨ j = 11 by omega) with rfl | rfl | rfl | rfl | rfl | rfl | rfl | rfl | rfl | rfl | rfl | rfl <;> rfl
    · simp only [bo5, bo4, bo3, bo2, bo1, bo0, renewS, zu, boS, if_neg c]
set_option maxHeartbeats 4000000 in
set_option maxRecDepth 100000 in
theorem kL_both (l : Launch) (g : qG) {ad : Nat → Nat} (zo zp : zS) (hj : adInj 30 ad) (gg : Int32) {i : Nat} (hi : i < 4) (h0o : zo 0 0 = 0) (h0p : zp 0 0 = 0) (hqo : zo (10 + i) 0 = 0) (hqp : zp (10 + i) 0 = 0) : qMiTR l yL_both wsL_both 3 g (W2 g ad) (adOf 30 ad) (zo, zp) [.ref (ad 0), .ref (aP ad 0), .int gg, .int (nI i)] (fun u9 => u9 = (boS zo i gg, boS zp i gg)) := by
  refine qStartT (cc := cL_both) (maxL := 12) (ret := (some .boolean)) (plainFor_of_name (by decide)) rfl (Nat.le_of_ble_eq_true rfl) ?_
  intro p e s m args below meth c hx hb hml hown hts hr hlk hP hK hT ls hl
  have hl : lv_has ls 12 [(0, .ref (ad 0)), (1, .ref (aP ad 0)), (2, .int gg), (3, .int (nI i))] := hl
  have hS : va_S (adOf 30 ad) s.heap s.heap [] := va_S.rf
  have hPo := P2_o hP
  have hPp := P2_p hP
  refine lv_iload_n hx hb dL_both_0 rfl (lv_at hl 2 rfl) ?_
  refine lv_iconst (v := 3) hx hb dL_both_1 rfl ?_
  refine lv_iand hx hb dL_both_2 ?_
  refine lv_nm (y := boK gg) rfl ?_
  refine lv_istore (lv' := [(4, .int (boK gg)), (0, .ref (ad 0)), (1, .ref (aP ad 0)), (2, .int gg), (3, .int (nI i))]) hx hb dL_both_3 hl (by decide) rfl (fun ls hl => ?_)
  refine lv_iload_n hx hb dL_both_5 rfl (lv_at hl 3 rfl) ?_
  refine lv_iconst (v := 2) hx hb dL_both_6 rfl ?_
  refine lv_ishr hx hb dL_both_7 ?_
  refine lv_bipush (v := 8) hx hb dL_both_8 (by decide) ?_
  refine qSiF (As := [.int (gg >>> ((2 : Int32) &&& 31)), .int 8]) (rest := []) hx hb hml hown hts (kL_low l g (Wd := qE) (A := fun _ => False) () (gg >>> ((2 : Int32) &&& 31)) 8 (by decide)) gL_both_L_low rfl 2 hdL_low rfl ⟨Nat.le_of_ble_eq_true rfl, Nat.le_of_ble_eq_true rfl⟩ ⟨Nat.le_of_ble_eq_true rfl, Nat.le_of_ble_eq_true rfl⟩ hK P_e hS (fun _ h => h.elim) hl.1 rfl (Nat.le_of_ble_eq_true rfl) dL_both_10 (fun H locs hz hk _ hS => ?_)
  have hPo := P_all hPo hk
  have hPp := P_all hPp hk
  refine lv_nm (y := boF gg) rfl ?_
  refine lv_istore (lv' := [(5, .int (boF gg)), (4, .int (boK gg)), (0, .ref (ad 0)), (1, .ref (aP ad 0)), (2, .int gg), (3, .int (nI i))]) hx hb dL_both_13 hl (by decide) rfl (fun ls hl => ?_)
  refine lv_iload hx hb dL_both_15 (lv_at hl 0 rfl) ?_
  refine lv_iconst (v := 1) hx hb dL_both_17 rfl ?_
  refine lv_iadd hx hb dL_both_18 ?_
  refine lv_iload_n hx hb dL_both_19 rfl (lv_at hl 4 rfl) ?_
  refine lv_iconst (v := 5) hx hb dL_both_20 rfl ?_
  refine lv_ishr hx hb dL_both_21 ?_
  refine lv_bipush (v := 7) hx hb dL_both_22 (by decide) ?_
  refine qSiF (As := [.int (gg >>> ((5 : Int32) &&& 31)), .int 7]) (rest := [.int ((boF gg) + 1)]) hx hb hml hown hts (kL_low l g (Wd := qE) (A := fun _ => False) () (gg >>> ((5 : Int32) &&& 31)) 7 (by decide)) gL_both_L_low rfl 2 hdL_low rfl ⟨Nat.le_of_ble_eq_true rfl, Nat.le_of_ble_eq_true rfl⟩ ⟨Nat.le_of_ble_eq_true rfl, Nat.le_of_ble_eq_true rfl⟩ hK P_e hS (fun _ h => h.elim) hl.1 rfl (Nat.le_of_ble_eq_true rfl) dL_both_24 (fun H locs hz hk _ hS => ?_)
  have hPo := P_all hPo hk
  have hPp := P_all hPp hk
  refine lv_iadd hx hb dL_both_27 ?_
  refine lv_bipush (v := 8) hx hb dL_both_28 (by decide) ?_
  refine lv_irem hx hb dL_both_30 (by decide) ?_
  refine lv_nm (y := boO gg) rfl ?_
  refine lv_istore (lv' := [(6, .int (boO gg)), (5, .int (boF gg)), (4, .int (boK gg)), (0, .ref (ad 0)), (1, .ref (aP ad 0)), (2, .int gg), (3, .int (nI i))]) hx hb dL_both_31 hl (by decide) rfl (fun ls hl => ?_)
  refine lv_aload_n hx hb dL_both_33 rfl (lv_at hl 3 rfl) ?_
  refine lv_iload_n hx hb dL_both_34 rfl (lv_at hl 6 rfl) ?_
  refine lv_iload hx hb dL_both_35 (lv_at hl 1 rfl) ?_
  refine lv_iload hx hb dL_both_37 (lv_at hl 0 rfl) ?_
  refine lv_iload hx hb dL_both_39 (lv_at hl 2 rfl) ?_
  refine qViF (As := [.int (nI i), .int (boF gg), .int (boO gg), .int (boK gg)]) (rest := []) hx hb hml hown hts (kX3_part l g zo (J_o hj) (nI i) (boF gg) (boO gg) (boK gg)) gL_both_X3_part rfl 4 hdX3_part rfl ⟨Nat.le_of_ble_eq_true rfl, Nat.le_of_ble_eq_true rfl⟩ ⟨Nat.le_of_ble_eq_true rfl, Nat.le_of_ble_eq_true rfl⟩ hK hPo hS A_o 0 3 rfl rfl rfl hl.1 rfl (Nat.le_of_ble_eq_true rfl) dL_both_41 (fun H locs hz hk hPo hS => ?_)
  have hPp := P2_kp hj hPp hk
  refine lv_nm (y := 0) (congrArg Prod.fst (part_ok hi h0o hqo gg)) ?_
  rw [(part_ok hi h0o hqo gg)] at hPo
  dsimp only at hPo
  refine lv_if_ne (tgt := 61) hx hb dL_both_44 (by decide) (fun c_44 => ?_) (fun c_44 => ?_)
  · -- 44 taken
    exact absurd rfl c_44
  · -- 44 not taken
    refine lv_aload_n hx hb dL_both_47 rfl (lv_at hl 4 rfl) ?_
    refine lv_iload_n hx hb dL_both_48 rfl (lv_at hl 6 rfl) ?_
    refine lv_iload hx hb dL_both_49 (lv_at hl 1 rfl) ?_
    refine lv_iload hx hb dL_both_51 (lv_at hl 0 rfl) ?_
    refine lv_iload hx hb dL_both_53 (lv_at hl 2 rfl) ?_
    refine qViF (As := [.int (nI i), .int (boF gg), .int (boO gg), .int (boK gg)]) (rest := []) hx hb hml hown hts (kX3_part l g zp (J_p hj) (nI i) (boF gg) (boO gg) (boK gg)) gL_both_X3_part rfl 4 hdX3_part rfl ⟨Nat.le_of_ble_eq_true rfl, Nat.le_of_ble_eq_true rfl⟩ ⟨Nat.le_of_ble_eq_true rfl, Nat.le_of_ble_eq_true rfl⟩ hK hPp hS A_p 0 3 rfl rfl rfl hl.1 rfl (Nat.le_of_ble_eq_true rfl) dL_both_55 (fun H locs hz hk hPp hS => ?_)
    have hPo := P2_ko hj hPo hk
    refine lv_nm (y := 0) (congrArg Prod.fst (part_ok hi h0p hqp gg)) ?_
    rw [(part_ok hi h0p hqp gg)] at hPp
    dsimp only at hPp
    refine lv_if_eq (tgt := 63) hx hb dL_both_58 (by decide) (fun c_58 => ?_) (fun c_58 => ?_)
    · -- 58 taken
      refine lv_iconst (v := 1) hx hb dL_both_63 rfl ?_
      refine lv_iload_n hx hb dL_both_64 rfl (lv_at hl 5 rfl) ?_
      refine lv_bipush (v := 8) hx hb dL_both_65 (by decide) ?_
      refine lv_ishr hx hb dL_both_67 ?_
      refine lv_sipush (v := 5000) hx hb dL_both_68 (by decide) ?_
      refine qSiF (As := [.int (gg >>> ((8 : Int32) &&& 31)), .int 5000]) (rest := [.int 1]) hx hb hml hown hts (kL_low l g (Wd := qE) (A := fun _ => False) () (gg >>> ((8 : Int32) &&& 31)) 5000 (by decide)) gL_both_L_low rfl 2 hdL_low rfl ⟨Nat.le_of_ble_eq_true rfl, Nat.le_of_ble_eq_true rfl⟩ ⟨Nat.le_of_ble_eq_true rfl, Nat.le_of_ble_eq_true rfl⟩ hK P_e hS (fun _ h => h.elim) hl.1 rfl (Nat.le_of_ble_eq_true rfl) dL_both_71 (fun H locs hz hk _ hS => ?_)
      have hPo := P_all hPo hk
      have hPp := P_all hPp hk
      refine lv_iadd hx hb dL_both_74 ?_
      refine lv_nm (y := boA gg) rfl ?_
      refine lv_istore (lv' := [(7, .int (boA gg)), (6, .int (boO gg)), (5, .int (boF gg)), (4, .int (boK gg)), (0, .ref (ad 0)), (1, .ref (aP ad 0)), (2, .int gg), (3, .int (nI i))]) hx hb dL_both_75 hl (by decide) rfl (fun ls hl => ?_)
      refine lv_iconst (v := 1) hx hb dL_both_77 rfl ?_
      refine lv_iload_n hx hb dL_both_78 rfl (lv_at hl 6 rfl) ?_
      refine lv_bipush (v := 11) hx hb dL_both_79 (by decide) ?_
      refine lv_ishr hx hb dL_both_81 ?_
      refine lv_sipush (v := 700) hx hb dL_both_82 (by decide) ?_
      refine qSiF (As := [.int (gg >>> ((11 : Int32) &&& 31)), .int 700]) (rest := [.int 1]) hx hb hml hown hts (kL_low l g (Wd := qE) (A := fun _ => False) () (gg >>> ((11 : Int32) &&& 31)) 700 (by decide)) gL_both_L_low rfl 2 hdL_low rfl ⟨Nat.le_of_ble_eq_true rfl, Nat.le_of_ble_eq_true rfl⟩ ⟨Nat.le_of_ble_eq_true rfl, Nat.le_of_ble_eq_true rfl⟩ hK P_e hS (fun _ h => h.elim) hl.1 rfl (Nat.le_of_ble_eq_true rfl) dL_both_85 (fun H locs hz hk _ hS => ?_)
      have hPo := P_all hPo hk
      have hPp := P_all hPp hk
      refine lv_iadd hx hb dL_both_88 ?_
      refine lv_nm (y := boB gg) rfl ?_
      refine lv_istore (lv' := [(8, .int (boB gg)), (7, .int (boA gg)), (6, .int (boO gg)), (5, .int (boF gg)), (4, .int (boK gg)), (0, .ref (ad 0)), (1, .ref (aP ad 0)), (2, .int gg), (3, .int (nI i))]) hx hb dL_both_89 hl (by decide) rfl (fun ls hl => ?_)
      refine lv_iload_n hx hb dL_both_91 rfl (lv_at hl 7 rfl) ?_
      refine lv_bipush (v := 14) hx hb dL_both_92 (by decide) ?_
      refine lv_ishr hx hb dL_both_94 ?_
      refine lv_sipush (v := 400) hx hb dL_both_95 (by decide) ?_
      refine qSiF (As := [.int (gg >>> ((14 : Int32) &&& 31)), .int 400]) (rest := []) hx hb hml hown hts (kL_low l g (Wd := qE) (A := fun _ => False) () (gg >>> ((14 : Int32) &&& 31)) 400 (by decide)) gL_both_L_low rfl 2 hdL_low rfl ⟨Nat.le_of_ble_eq_true rfl, Nat.le_of_ble_eq_true rfl⟩ ⟨Nat.le_of_ble_eq_true rfl, Nat.le_of_ble_eq_true rfl⟩ hK P_e hS (fun _ h => h.elim) hl.1 rfl (Nat.le_of_ble_eq_true rfl) dL_both_98 (fun H locs hz hk _ hS => ?_)
      have hPo := P_all hPo hk
      have hPp := P_all hPp hk
      refine lv_nm (y := boC gg) rfl ?_
      refine lv_istore (lv' := [(9, .int (boC gg)), (8, .int (boB gg)), (7, .int (boA gg)), (6, .int (boO gg)), (5, .int (boF gg)), (4, .int (boK gg)), (0, .ref (ad 0)), (1, .ref (aP ad 0)), (2, .int gg), (3, .int (nI i))]) hx hb dL_both_101 hl (by decide) rfl (fun ls hl => ?_)
      refine lv_iload_n hx hb dL_both_103 rfl (lv_at hl 8 rfl) ?_
      refine lv_bipush (v := 17) hx hb dL_both_104 (by decide) ?_
      refine lv_ishr hx hb dL_both_106 ?_
      refine lv_sipush (v := 2500) hx hb dL_both_107 (by decide) ?_
      refine qSiF (As := [.int (gg >>> ((17 : Int32) &&& 31)), .int 2500]) (rest := []) hx hb hml hown hts (kL_low l g (Wd := qE) (A := fun _ => False) () (gg >>> ((17 : Int32) &&& 31)) 2500 (by decide)) gL_both_L_low rfl 2 hdL_low rfl ⟨Nat.le_of_ble_eq_true rfl, Nat.le_of_ble_eq_true rfl⟩ ⟨Nat.le_of_ble_eq_true rfl, Nat.le_of_ble_eq_true rfl⟩ hK P_e hS (fun _ h => h.elim) hl.1 rfl (Nat.le_of_ble_eq_true rfl) dL_both_110 (fun H locs hz hk _ hS => ?_)
      have hPo := P_all hPo hk
      have hPp := P_all hPp hk
      refine lv_nm (y := boD gg) rfl ?_
      refine lv_istore (lv' := [(10, .int (boD gg)), (9, .int (boC gg)), (8, .int (boB gg)), (7, .int (boA gg)), (6, .int (boO gg)), (5, .int (boF gg)), (4, .int (boK gg)), (0, .ref (ad 0)), (1, .ref (aP ad 0)), (2, .int gg), (3, .int (nI i))]) hx hb dL_both_113 hl (by decide) rfl (fun ls hl => ?_)
      refine lv_iload_n hx hb dL_both_115 rfl (lv_at hl 9 rfl) ?_
      refine lv_bipush (v := 20) hx hb dL_both_116 (by decide) ?_
      refine lv_ishr hx hb dL_both_118 ?_
      refine lv_bipush (v := 6) hx hb dL_both_119 (by decide) ?_
      refine qSiF (As := [.int (gg >>> ((20 : Int32) &&& 31)), .int 6]) (rest := []) hx hb hml hown hts (kL_low l g (Wd := qE) (A := fun _ => False) () (gg >>> ((20 : Int32) &&& 31)) 6 (by decide)) gL_both_L_low rfl 2 hdL_low rfl ⟨Nat.le_of_ble_eq_true rfl, Nat.le_of_ble_eq_true rfl⟩ ⟨Nat.le_of_ble_eq_true rfl, Nat.le_of_ble_eq_true rfl⟩ hK P_e hS (fun _ h => h.elim) hl.1 rfl (Nat.le_of_ble_eq_true rfl) dL_both_121 (fun H locs hz hk _ hS => ?_)
      have hPo := P_all hPo hk
      have hPp := P_all hPp hk
      refine lv_nm (y := boE gg) rfl ?_
      refine lv_istore (lv' := [(11, .int (boE gg)), (10, .int (boD gg)), (9, .int (boC gg)), (8, .int (boB gg)), (7, .int (boA gg)), (6, .int (boO gg)), (5, .int (boF gg)), (4, .int (boK gg)), (0, .ref (ad 0)), (1, .ref (aP ad 0)), (2, .int gg), (3, .int (nI i))]) hx hb dL_both_124 hl (by decide) rfl (fun ls hl => ?_)
      refine lv_aload_n hx hb dL_both_126 rfl (lv_at hl 8 rfl) ?_
      refine lv_iload_n hx hb dL_both_127 rfl (lv_at hl 11 rfl) ?_
      refine lv_iconst (v := 0) hx hb dL_both_128 rfl ?_
      refine lv_iload hx hb dL_both_129 (lv_at hl 4 rfl) ?_
      refine qViTF hT (As := [.int (nI i), .int 0, .int (boA gg)]) (rest := []) hx hb hml hown hts (kX3_set l g (bo0 zo i gg) (J_o hj) (nI i) 0 (boA gg)) gL_both_X3_set rfl 3 hdX3_set rfl ⟨Nat.le_of_ble_eq_true rfl, Nat.le_of_ble_eq_true rfl⟩ ⟨Nat.le_of_ble_eq_true rfl, Nat.le_of_ble_eq_true rfl⟩ hK hPo hS A_o 0 3 rfl rfl rfl hl.1 rfl (Nat.le_of_ble_eq_true rfl) dL_both_131 (fun H locs hz hk hPo hS => ?_)
      have hPp := P2_kp hj hPp hk
      refine lv_nm (y := 1000) (congrArg Prod.fst (set_a (z := zo) hi gg)) ?_
      rw [(set_a (z := zo) hi gg)] at hPo
      dsimp only at hPo
      refine lv_sipush (v := 1000) hx hb dL_both_134 (by decide) ?_
      refine lv_icmp_ne (tgt := 252) hx hb dL_both_137 (by decide) (fun c_137 => ?_) (fun c_137 => ?_)
      · -- 137 taken
        exact absurd rfl c_137
      · -- 137 not taken
        refine lv_aload_n hx hb dL_both_140 rfl (lv_at hl 9 rfl) ?_
        refine lv_iload_n hx hb dL_both_141 rfl (lv_at hl 11 rfl) ?_
        refine lv_iconst (v := 0) hx hb dL_both_142 rfl ?_
        refine lv_iload hx hb dL_both_143 (lv_at hl 4 rfl) ?_
        refine qViTF hT (As := [.int (nI i), .int 0, .int (boA gg)]) (rest := []) hx hb hml hown hts (kX3_set l g (bo0 zp i gg) (J_p hj) (nI i) 0 (boA gg)) gL_both_X3_set rfl 3 hdX3_set rfl ⟨Nat.le_of_ble_eq_true rfl, Nat.le_of_ble_eq_true rfl⟩ ⟨Nat.le_of_ble_eq_true rfl, Nat.le_of_ble_eq_true rfl⟩ hK hPp hS A_p 0 3 rfl rfl rfl hl.1 rfl (Nat.le_of_ble_eq_true rfl) dL_both_145 (fun H locs hz hk hPp hS => ?_)
        have hPo := P2_ko hj hPo hk
        refine lv_nm (y := 1000) (congrArg Prod.fst (set_a (z := zp) hi gg)) ?_
        rw [(set_a (z := zp) hi gg)] at hPp
        dsimp only at hPp
        refine lv_sipush (v := 1000) hx hb dL_both_148 (by decide) ?_
        refine lv_icmp_ne (tgt := 252) hx hb dL_both_151 (by decide) (fun c_151 => ?_) (fun c_151 => ?_)
        · -- 151 taken
          exact absurd c_137 c_151
        · -- 151 not taken
          refine lv_aload_n hx hb dL_both_154 rfl (lv_at hl 8 rfl) ?_
          refine lv_iload_n hx hb dL_both_155 rfl (lv_at hl 11 rfl) ?_
          refine lv_iconst (v := 1) hx hb dL_both_156 rfl ?_
          refine lv_iload hx hb dL_both_157 (lv_at hl 3 rfl) ?_
          refine qViTF hT (As := [.int (nI i), .int 1, .int (boB gg)]) (rest := []) hx hb hml hown hts (kX3_set l g (bo1 zo i gg) (J_o hj) (nI i) 1 (boB gg)) gL_both_X3_set rfl 3 hdX3_set rfl ⟨Nat.le_of_ble_eq_true rfl, Nat.le_of_ble_eq_true rfl⟩ ⟨Nat.le_of_ble_eq_true rfl, Nat.le_of_ble_eq_true rfl⟩ hK hPo hS A_o 0 3 rfl rfl rfl hl.1 rfl (Nat.le_of_ble_eq_true rfl) dL_both_159 (fun H locs hz hk hPo hS => ?_)
          have hPp := P2_kp hj hPp hk
          refine lv_nm (y := 600) (congrArg Prod.fst (set_b (z := zo) hi gg)) ?_
          rw [(set_b (z := zo) hi gg)] at hPo
          dsimp only at hPo
          refine lv_sipush (v := 600) hx hb dL_both_162 (by decide) ?_
          refine lv_icmp_ne (tgt := 252) hx hb dL_both_165 (by decide) (fun c_165 => ?_) (fun c_165 => ?_)
          · -- 165 taken
            exact absurd rfl c_165
          · -- 165 not taken
            refine lv_aload_n hx hb dL_both_168 rfl (lv_at hl 9 rfl) ?_
            refine lv_iload_n hx hb dL_both_169 rfl (lv_at hl 11 rfl) ?_
            refine lv_iconst (v := 1) hx hb dL_both_170 rfl ?_
            refine lv_iload hx hb dL_both_171 (lv_at hl 3 rfl) ?_
            refine qViTF hT (As := [.int (nI i), .int 1, .int (boB gg)]) (rest := []) hx hb hml hown hts (kX3_set l g (bo1 zp i gg) (J_p hj) (nI i) 1 (boB gg)) gL_both_X3_set rfl 3 hdX3_set rfl ⟨Nat.le_of_ble_eq_true rfl, Nat.le_of_ble_eq_true rfl⟩ ⟨Nat.le_of_ble_eq_true rfl, Nat.le_of_ble_eq_true rfl⟩ hK hPp hS A_p 0 3 rfl rfl rfl hl.1 rfl (Nat.le_of_ble_eq_true rfl) dL_both_173 (fun H locs hz hk hPp hS => ?_)
            have hPo := P2_ko hj hPo hk
            refine lv_nm (y := 600) (congrArg Prod.fst (set_b (z := zp) hi gg)) ?_
            rw [(set_b (z := zp) hi gg)] at hPp
            dsimp only at hPp
            refine lv_sipush (v := 600) hx hb dL_both_176 (by decide) ?_
            refine lv_icmp_ne (tgt := 252) hx hb dL_both_179 (by decide) (fun c_179 => ?_) (fun c_179 => ?_)
            · -- 179 taken
              exact absurd c_165 c_179
            · -- 179 not taken
              refine lv_aload_n hx hb dL_both_182 rfl (lv_at hl 8 rfl) ?_
              refine lv_iload_n hx hb dL_both_183 rfl (lv_at hl 11 rfl) ?_
              refine lv_iconst (v := 2) hx hb dL_both_184 rfl ?_
              refine lv_iload hx hb dL_both_185 (lv_at hl 2 rfl) ?_
              refine qViTF hT (As := [.int (nI i), .int 2, .int (boC gg)]) (rest := []) hx hb hml hown hts (kX3_set l g (bo2 zo i gg) (J_o hj) (nI i) 2 (boC gg)) gL_both_X3_set rfl 3 hdX3_set rfl ⟨Nat.le_of_ble_eq_true rfl, Nat.le_of_ble_eq_true rfl⟩ ⟨Nat.le_of_ble_eq_true rfl, Nat.le_of_ble_eq_true rfl⟩ hK hPo hS A_o 0 3 rfl rfl rfl hl.1 rfl (Nat.le_of_ble_eq_true rfl) dL_both_187 (fun H locs hz hk hPo hS => ?_)
              have hPp := P2_kp hj hPp hk
              refine lv_nm (y := 0) (congrArg Prod.fst (set_c (z := zo) hi gg)) ?_
              rw [(set_c (z := zo) hi gg)] at hPo
              dsimp only at hPo
              refine lv_if_ne (tgt := 252) hx hb dL_both_190 (by decide) (fun c_190 => ?_) (fun c_190 => ?_)
              · -- 190 taken
                exact absurd c_44 c_190
              · -- 190 not taken
                refine lv_aload_n hx hb dL_both_193 rfl (lv_at hl 9 rfl) ?_
                refine lv_iload_n hx hb dL_both_194 rfl (lv_at hl 11 rfl) ?_
                refine lv_iconst (v := 2) hx hb dL_both_195 rfl ?_
                refine lv_iload hx hb dL_both_196 (lv_at hl 2 rfl) ?_
                refine qViTF hT (As := [.int (nI i), .int 2, .int (boC gg)]) (rest := []) hx hb hml hown hts (kX3_set l g (bo2 zp i gg) (J_p hj) (nI i) 2 (boC gg)) gL_both_X3_set rfl 3 hdX3_set rfl ⟨Nat.le_of_ble_eq_true rfl, Nat.le_of_ble_eq_true rfl⟩ ⟨Nat.le_of_ble_eq_true rfl, Nat.le_of_ble_eq_true rfl⟩ hK hPp hS A_p 0 3 rfl rfl rfl hl.1 rfl (Nat.le_of_ble_eq_true rfl) dL_both_198 (fun H locs hz hk hPp hS => ?_)
                have hPo := P2_ko hj hPo hk
                refine lv_nm (y := 0) (congrArg Prod.fst (set_c (z := zp) hi gg)) ?_
                rw [(set_c (z := zp) hi gg)] at hPp
                dsimp only at hPp
                refine lv_if_ne (tgt := 252) hx hb dL_both_201 (by decide) (fun c_201 => ?_) (fun c_201 => ?_)
                · -- 201 taken
                  exact absurd c_44 c_201
                · -- 201 not taken
                  refine lv_aload_n hx hb dL_both_204 rfl (lv_at hl 8 rfl) ?_
                  refine lv_iload_n hx hb dL_both_205 rfl (lv_at hl 11 rfl) ?_
                  refine lv_iconst (v := 3) hx hb dL_both_206 rfl ?_
                  refine lv_iload hx hb dL_both_207 (lv_at hl 1 rfl) ?_
                  refine qViTF hT (As := [.int (nI i), .int 3, .int (boD gg)]) (rest := []) hx hb hml hown hts (kX3_set l g (bo3 zo i gg) (J_o hj) (nI i) 3 (boD gg)) gL_both_X3_set rfl 3 hdX3_set rfl ⟨Nat.le_of_ble_eq_true rfl, Nat.le_of_ble_eq_true rfl⟩ ⟨Nat.le_of_ble_eq_true rfl, Nat.le_of_ble_eq_true rfl⟩ hK hPo hS A_o 0 3 rfl rfl rfl hl.1 rfl (Nat.le_of_ble_eq_true rfl) dL_both_209 (fun H locs hz hk hPo hS => ?_)
                  have hPp := P2_kp hj hPp hk
                  refine lv_nm (y := 0) (congrArg Prod.fst (set_d (z := zo) hi gg)) ?_
                  rw [(set_d (z := zo) hi gg)] at hPo
                  dsimp only at hPo
                  refine lv_if_ne (tgt := 252) hx hb dL_both_212 (by decide) (fun c_212 => ?_) (fun c_212 => ?_)
                  · -- 212 taken
                    exact absurd c_44 c_212
                  · -- 212 not taken
                    refine lv_aload_n hx hb dL_both_215 rfl (lv_at hl 9 rfl) ?_
                    refine lv_iload_n hx hb dL_both_216 rfl (lv_at hl 11 rfl) ?_
                    refine lv_iconst (v := 3) hx hb dL_both_217 rfl ?_
                    refine lv_iload hx hb dL_both_218 (lv_at hl 1 rfl) ?_
                    refine qViTF hT (As := [.int (nI i), .int 3, .int (boD gg)]) (rest := []) hx hb hml hown hts (kX3_set l g (bo3 zp i gg) (J_p hj) (nI i) 3 (boD gg)) gL_both_X3_set rfl 3 hdX3_set rfl ⟨Nat.le_of_ble_eq_true rfl, Nat.le_of_ble_eq_true rfl⟩ ⟨Nat.le_of_ble_eq_true rfl, Nat.le_of_ble_eq_true rfl⟩ hK hPp hS A_p 0 3 rfl rfl rfl hl.1 rfl (Nat.le_of_ble_eq_true rfl) dL_both_220 (fun H locs hz hk hPp hS => ?_)
                    have hPo := P2_ko hj hPo hk
                    refine lv_nm (y := 0) (congrArg Prod.fst (set_d (z := zp) hi gg)) ?_
                    rw [(set_d (z := zp) hi gg)] at hPp
                    dsimp only at hPp
                    refine lv_if_ne (tgt := 252) hx hb dL_both_223 (by decide) (fun c_223 => ?_) (fun c_223 => ?_)
                    · -- 223 taken
                      exact absurd c_44 c_223
                    · -- 223 not taken
                      refine lv_aload_n hx hb dL_both_226 rfl (lv_at hl 8 rfl) ?_
                      refine lv_iload_n hx hb dL_both_227 rfl (lv_at hl 11 rfl) ?_
                      refine lv_iconst (v := 4) hx hb dL_both_228 rfl ?_
                      refine lv_iload hx hb dL_both_229 (lv_at hl 0 rfl) ?_
                      refine qViTF hT (As := [.int (nI i), .int 4, .int (boE gg)]) (rest := []) hx hb hml hown hts (kX3_set l g (bo4 zo i gg) (J_o hj) (nI i) 4 (boE gg)) gL_both_X3_set rfl 3 hdX3_set rfl ⟨Nat.le_of_ble_eq_true rfl, Nat.le_of_ble_eq_true rfl⟩ ⟨Nat.le_of_ble_eq_true rfl, Nat.le_of_ble_eq_true rfl⟩ hK hPo hS A_o 0 3 rfl rfl rfl hl.1 rfl (Nat.le_of_ble_eq_true rfl) dL_both_231 (fun H locs hz hk hPo hS => ?_)
                      have hPp := P2_kp hj hPp hk
                      refine lv_nm (y := 0) (congrArg Prod.fst (set_e (z := zo) hi gg)) ?_
                      rw [(set_e (z := zo) hi gg)] at hPo
                      dsimp only at hPo
                      refine lv_if_ne (tgt := 252) hx hb dL_both_234 (by decide) (fun c_234 => ?_) (fun c_234 => ?_)
                      · -- 234 taken
                        exact absurd c_44 c_234
                      · -- 234 not taken
                        refine lv_aload_n hx hb dL_both_237 rfl (lv_at hl 9 rfl) ?_
                        refine lv_iload_n hx hb dL_both_238 rfl (lv_at hl 11 rfl) ?_
                        refine lv_iconst (v := 4) hx hb dL_both_239 rfl ?_
                        refine lv_iload hx hb dL_both_240 (lv_at hl 0 rfl) ?_
                        refine qViTF hT (As := [.int (nI i), .int 4, .int (boE gg)]) (rest := []) hx hb hml hown hts (kX3_set l g (bo4 zp i gg) (J_p hj) (nI i) 4 (boE gg)) gL_both_X3_set rfl 3 hdX3_set rfl ⟨Nat.le_of_ble_eq_true rfl, Nat.le_of_ble_eq_true rfl⟩ ⟨Nat.le_of_ble_eq_true rfl, Nat.le_of_ble_eq_true rfl⟩ hK hPp hS A_p 0 3 rfl rfl rfl hl.1 rfl (Nat.le_of_ble_eq_true rfl) dL_both_242 (fun H locs hz hk hPp hS => ?_)
                        have hPo := P2_ko hj hPo hk
                        refine lv_nm (y := 0) (congrArg Prod.fst (set_e (z := zp) hi gg)) ?_
                        rw [(set_e (z := zp) hi gg)] at hPp
                        dsimp only at hPp
                        refine lv_if_ne (tgt := 252) hx hb dL_both_245 (by decide) (fun c_245 => ?_) (fun c_245 => ?_)
                        · -- 245 taken
                          exact absurd c_44 c_245
                        · -- 245 not taken
                          rw [bo_eq] at hPo hPp
                          refine lv_iconst (v := 1) hx hb dL_both_248 rfl ?_
                          refine lv_goto (tgt := 253) hx hb dL_both_249 (by decide) ?_
                          exact qRzR hx hb hr hlk rfl (P2_mk hPo hPp) hK hS dL_both_253 rfl rfl
    · -- 58 not taken
      exact absurd c_44 c_58
