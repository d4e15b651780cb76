/-! THE LAW'S SWEEP. -/
def swa (gg : Int32) : Int32 := lowF gg 1200 - 600
def swb (gg : Int32) : Int32 := lowF (gg >>> ((5 : Int32) &&& 31)) 1200 - 600
def swst (gg : Int32) : Int32 := 40 + lowF (gg >>> ((9 : Int32) &&& 31)) 300
def sww (gg : Int32) : Int32 := 1 + lowF (gg >>> ((13 : Int32) &&& 31)) 20
def swn (gg : Int32) : Int32 := lowF (gg >>> ((17 : Int32) &&& 31)) 4
def swk (gg : Int32) : Int32 := (gg >>> ((20 : Int32) &&& 31)) &&& 1
theorem low600 (v : Int32) : inR (lowF v 1200 - 600) (-3000) 3000 = true := by
  have h := low_b v (n := 1200) (by decide)
  have e : (600 : Int32).toInt = 600 := rfl
  have e2 : (1200 : Int32).toInt = 1200 := rfl
  rw [e2] at h
  rw [inR_iff, fb_subI (by rw [e]; omega) (by rw [e]; omega), e, show (-3000 : Int32).toInt = -3000 from rfl, show (3000 : Int32).toInt = 3000 from rfl]; omega
theorem swst_in (gg : Int32) : inR (swst gg) 1 1000 = true := by
  have h := low_b (gg >>> ((9 : Int32) &&& 31)) (n := 300) (by decide)
  have e : (40 : Int32).toInt = 40 := rfl
  have e2 : (300 : Int32).toInt = 300 := rfl
  rw [e2] at h
  unfold swst
  rw [inR_iff, fb_addI (by rw [e]; omega) (by rw [e]; omega), e, show (1 : Int32).toInt = 1 from rfl, show (1000 : Int32).toInt = 1000 from rfl]; omega
theorem sww_in (gg : Int32) : inR (sww gg) 1 50 = true := inR_up (low1r _ (n := 20) (by decide) rfl) (by decide)
theorem swn_in (gg : Int32) : inR (swn gg) 0 100 = true := inR_up (lowr _ (N := 3) (b := 3) rfl rfl) (by decide)
theorem swk_in (gg : Int32) : inR (swk gg) 0 1 = true := and_in _ (k := 1) (by decide) rfl rfl
theorem isSw_ok (gg : Int32) : isSw (swa gg) (swb gg) (swst gg) (sww gg) (swn gg) (swk gg) = true := by
  unfold isSw
  have h1 : inR (swa gg) (-3000) 3000 = true := low600 _
  have h2 : inR (swb gg) (-3000) 3000 = true := low600 _
  rw [h1, h2, swst_in, sww_in, swk_in, swn_in]; rfl
theorem rc_nn {z : zS} (hI : qInv z) : ¬ z 0 3 < 0 := fun q => by
  have h := inR_b (inv_rc hI) (x := 0) (y := 60) rfl rfl
  have := (fb_sgnI _).mp q
  omega
theorem rc_ge {z : zS} (hI : qInv z) : 0 ≤ z 0 3 := by
  have h := inR_b (inv_rc hI) (x := 0) (y := 60) rfl rfl
  rw [Int32.le_iff_toInt_le, i0]; omega
theorem sw_full {zo : zS} {a b st w n back : Int32} (hsw : isSw a b st w n back = true) (hon : ¬ zo 0 0 = 0) (h : 60 < nI (allF a b st back)) : s_sweep (zu zo 0 3 0) a b st w n back = (-4, zu zo 0 3 0) := by
  unfold s_sweep
  rw [if_pos hsw, zu_col _ _ _ _ _ _ (by decide : ¬ 0 = 3), if_neg hon, zu_same, Int32.zero_add, if_pos h]
theorem sw_start {zo zp : zS} (hIo : qInv zo) (hIp : qInv zp) (hal : alk zo zp) (hon : ¬ zo 0 0 = 0) {a b st w n back : Int32} (hsw : isSw a b st w n back = true) (h : ¬ 60 < nI (allF a b st back)) : swI zo zp (s_sweep (zu zo 0 3 0) a b st w n back) a b st w (ix n) (lastF a b st) (allF a b st back) 0 (zu (zu zo 0 3 0) 0 4 0) (zu zp 0 3 0) := by
  have h0 := alk_zc hal (k := 3) (k' := 3) (by decide) (by decide) 0 0
  have h1 := alk_zc h0 (k := 4) (k' := 3) (by decide) (by decide) 0 0
  have e33 : zu (zu zp 0 3 0) 0 3 0 = zu zp 0 3 0 := zu_zu _ _ _ _ _
  rw [e33] at h1
  have c3 : zu (zu zo 0 3 0) 0 4 0 0 3 = 0 := by rw [zu_col _ _ _ _ _ _ (by decide), zu_same]
  refine ⟨⟨h1, c3, zu_same _ _ _ _, fun k i _ _ hi => absurd hi (Nat.not_lt_zero i)⟩, inv_cc0 (inv_clear hIo), inv_clear hIp, zu_same _ _ _ _, (keep_c (by decide)).tr (keep_c (by decide)), keep_c (by decide), by rw [zu_row _ _ _ _ _ (by decide), zu_row _ _ _ _ _ (by decide)], zu_row _ _ _ _ _ (by decide), fun i hi => ?_, ?_, ?_⟩
  · rw [c3] at hi; exact absurd hi (Nat.not_lt_zero i)
  · rw [zu_col _ _ _ _ _ _ (by decide), ← hal.2.2.1]; exact hon
  · unfold s_sweep
    rw [if_pos hsw, zu_col _ _ _ _ _ _ (by decide : ¬ 0 = 3), if_neg hon, zu_same, Int32.zero_add, if_neg h, ← inH_a h0, Nat.sub_zero]
theorem sw_end2 {zo zp : zS} {F : Int32 × zS} {a b st w : Int32} {n last all k : Nat} {y x : zS} (h : swI zo zp F a b st w n last all k y x) (e : k = all) : swE zo zp F k false x := by
  subst e; exact sw_end h
theorem rest_2 {z : zS} {n : Int32} (h : inR n 0 100 = true) : (s_rest z n).2 = coolA z (ix n) := by unfold s_rest; rw [if_pos h]
theorem mxR_ge (z : zS) : ∀ (f i : Nat) (g : Int32), 0 ≤ g → 0 ≤ mxR z f i g
  | 0, _, g, h => h
  | f + 1, i, g, h => by
    unfold mxR
    refine mxR_ge z f (i + 1) _ ?_
    split
    · exact h
    · unfold maxI
      split
      · rename_i q
        rw [Int32.le_iff_toInt_le, i0] at h ⊢
        have := Int32.lt_iff_toInt_lt.mp q
        omega
      · exact h
theorem rest_ge {z : zS} {n : Int32} (h : inR n 0 100 = true) : 0 ≤ (s_rest z n).1 := by
  unfold s_rest; rw [if_pos h]; exact mxR_ge _ _ _ _ (by decide)
theorem stp_a {L j : Nat} (h : L < j) (h2 : j ≤ 2 * L) : nI (2 * L + 1) - 1 - nI j = nI (if j ≤ L then j else 2 * L - j) := by
  rw [if_neg (by omega), nI_m1 (by omega), Nat.add_sub_cancel, pk_sub h2]
theorem swV_t {a b st : Int32} {la k : Nat} (h : b < a) : a - st * nI (if k ≤ la then k else 2 * la - k) = swV a b st la k := by
  unfold swV
  rw [if_pos h, Int32.mul_neg, Int32.mul_comm, Int32.sub_eq_add_neg]
theorem swV_f {a b st : Int32} {la k : Nat} (h : ¬ b < a) : a + st * nI (if k ≤ la then k else 2 * la - k) = swV a b st la k := by
  unfold swV
  rw [if_neg h, Int32.mul_comm]
theorem bit_b {y1 x1 : Int32} {B : Bool} (h1 : y1 = if B = true then 1 else x1) (hB : B = true → x1 = 0) : ((if y1 = 0 then (0 : Int32) else 1) = (if x1 = 0 then 0 else 1)) ↔ ¬ B = true := by
  cases B
  · rw [if_neg (by decide)] at h1
    rw [h1]; simp
  · rw [if_pos rfl] at h1
    rw [h1, hB rfl]; decide
theorem rd_same {d i : Nat} {y x : zS} (h : swQ d y x) (hi : i < d) (hd : d ≤ 60) (t : Int32) : s_reading y (nI i) t = s_reading x (nI i) t := by
  have e : ix (nI i) = i := ix_nI (by omega)
  unfold s_reading hasB
  rw [h.2.1, h.2.2.1, e, h.2.2.2 2 i (by decide) (by decide) hi, h.2.2.2 3 i (by decide) (by decide) hi, h.2.2.2 4 i (by decide) (by decide) hi, h.2.2.2 5 i (by decide) (by decide) hi]
theorem op_same {y x : zS} (h : alk y x) {i : Nat} (hi : i < 4) (t : Int32) : s_ofPart y (nI i) t = s_ofPart x (nI i) t := by
  obtain ⟨n1, n2⟩ := nI_in4 hi
  unfold s_ofPart pOk
  rw [n2, h.2.1 i hi]
theorem rd_none {y : zS} {d : Nat} (h : y 0 3 = nI d) (t : Int32) : s_reading y (nI d) t = -1 := by
  unfold s_reading hasB
  rw [h, if_neg]
  rw [Bool.and_eq_true, decide_eq_true_eq, decide_eq_true_eq]
  exact fun q => i_lt_t q.2 (i_rf _)
/-- what a sweep of the law leaves of both houses -/
def swPost (zo zp : zS) (u : zS × zS) : Prop := qInv u.1 ∧ qInv u.2 ∧ keepP u.1 zo ∧ keepP u.2 zp ∧ u.1 1 = zo 1 ∧ u.2 1 = zp 1 ∧ qRd u.1
theorem sw_post0 {zo zp f : zS} (hIo : qInv zo) (hIp : qInv zp) (h : f = zu zo 0 3 0) : swPost zo zp (f, zu zp 0 3 0) := by
  subst h
  refine ⟨inv_clear hIo, inv_clear hIp, keep_c (by decide), keep_c (by decide), zu_row zo 0 3 1 0 (by decide), zu_row zp 0 3 1 0 (by decide), fun i hi => ?_⟩
  have e : zu zo 0 3 0 0 3 = 0 := zu_same _ _ _ _
  have hi : i < ix (zu zo 0 3 0 0 3) := hi
  rw [e] at hi
  exact absurd hi (Nat.not_lt_zero i)
set_option maxHeartbeats 4000000 in
set_option maxRecDepth 100000 in
theorem kL_sweep (l : Launch) (g : qG) {ad : Nat → Nat} (zo zp : zS) (hj : adInj 30 ad) (hIo : qInv zo) (hIp : qInv zp) (hal : alk zo zp) (hon : ¬ zo 0 0 = 0) (gg : Int32) : qMiR l yL_sweep wsL_sweep 8 g (W2 g ad) (adOf 30 ad) (zo, zp) [.ref (ad 0), .ref (aP ad 0), .int gg] (swPost zo zp) := by
  refine qStart (cc := cL_sweep) (maxL := 18) (ret := (some .boolean)) (plainFor_of_name (by decide)) rfl (Nat.le_of_ble_eq_true rfl) ?_
  intro p e s m args below meth c hx hb hml hown hts hr hlk hP hK ls hl
  have hl : lv_has ls 18 [(0, .ref (ad 0)), (1, .ref (aP ad 0)), (2, .int gg)] := hl
  have hS : va_S (adOf 30 ad) s.heap s.heap [] := va_S.rf
  have hPo := P2_o hP
  have hPp := P2_p hP
  have hsa : inR (swa gg) (-3000) 3000 = true := low600 _
  have hsb : inR (swb gg) (-3000) 3000 = true := low600 _
  have hst := swst_in gg
  have hww := sww_in gg
  have hnn := swn_in gg
  have hkk := swk_in gg
  have hok := isSw_ok gg
  have hsv := fun {q : Nat} (hq : q ≤ lastF (swa gg) (swb gg) (swst gg)) => (sw_v hsa hsb hst hq).1
  have hl6 := (sw_v hsa hsb hst (Nat.zero_le _)).2
  obtain ⟨la, hla⟩ : ∃ la, la = lastF (swa gg) (swb gg) (swst gg) := ⟨_, rfl⟩
  obtain ⟨al, hall⟩ : ∃ al, al = allF (swa gg) (swb gg) (swst gg) (swk gg) := ⟨_, rfl⟩
  have ha1 : swk gg = 1 → al = 2 * la + 1 := fun q => by rw [hall, hla]; unfold allF; rw [if_pos q]
  have ha2 : ¬ swk gg = 1 → al = la + 1 := fun q => by rw [hall, hla]; unfold allF; rw [if_neg q]
  have hala : al ≤ 2 * la + 1 := by by_cases q : swk gg = 1; exact Nat.le_of_eq (ha1 q); have := ha2 q; omega
  have hla6 : la ≤ 6000 := by rw [hla]; exact hl6.1
  obtain ⟨F, hF⟩ : ∃ F : Int32 × zS, F = s_sweep (zu zo 0 3 0) (swa gg) (swb gg) (swst gg) (sww gg) (swn gg) (swk gg) := ⟨_, rfl⟩
  have hIF : qInv F.2 := by rw [hF]; exact inv_sweep (inv_clear hIo) _ _ _ _ _ _
  have hst0 : ¬ 60 < nI al → swI zo zp F (swa gg) (swb gg) (swst gg) (sww gg) (ix (swn gg)) la al 0 (zu (zu zo 0 3 0) 0 4 0) (zu zp 0 3 0) := fun q => by rw [hF, hla, hall]; exact sw_start hIo hIp hal hon hok (by rw [← hall]; exact q)
  have tail307 : ∀ (dn : Nat) (bu : Bool) (x : zS), swE zo zp F dn bu x → dn ≤ 60 → ∀ (H : Heap) (locs : List Loc), va_P g.1 vwCl (WX g ad F.2) H → va_P g.1 vwCl (WX g (aP ad) x) H → va_S (adOf 30 ad) s.heap H locs → ∀ ls : Array Slot, lv_has ls 18 [(0, .ref (ad 0)), (1, .ref (aP ad 0)), (11, .int F.1), (12, .int (nI dn)), (13, .int (bI bu))] → W p l e (rmL 8) s m args below meth c H locs 0 0 (MQ below (va_Qi (fun q9 u9 => q9 = 1 ∧ (swPost zo zp) u9) (qU g (W2 g ad)) (adOf 30 ad)) args s 0 0 (adOf 30 ad)) (F0 m 307 ls []) := by
    intro dn bu x hE hdn H locs hPo hPp hS ls hl
    obtain ⟨e1, e2, e3, e4, e5, e6, e7, e8, e9, e10, e11⟩ := hE
    have loopB : ∀ (k : Nat) (i : Nat), i + k = 4 → ∀ (H : Heap) (locs : List Loc), va_P g.1 vwCl (WX g ad F.2) H → va_P g.1 vwCl (WX g (aP ad) x) H → va_S (adOf 30 ad) s.heap H locs → ∀ ls : Array Slot, lv_has ls 18 [(0, .ref (ad 0)), (1, .ref (aP ad 0)), (12, .int (nI dn)), (14, .int (nI i))] → W p l e (rmL 8) s m args below meth c H locs 0 0 (MQ below (va_Qi (fun q9 u9 => q9 = 1 ∧ (swPost zo zp) u9) (qU g (W2 g ad)) (adOf 30 ad)) args s 0 0 (adOf 30 ad)) (F0 m 466 ls []) := by
      intro k
      induction k with
      | zero =>
        intro i hi2 H locs hPo hPp hS ls hl
        refine lv_iload hx hb dL_sweep_466 (lv_at hl 3 rfl) ?_
        refine lv_iconst (v := 4) hx hb dL_sweep_468 rfl ?_
        refine lv_icmp_ge (tgt := 515) hx hb dL_sweep_469 (by decide) (fun c_469 => ?_) (fun c_469 => ?_)
        · -- 469 taken
          have c_469n := i_le_t c_469
          refine lv_aload_n hx hb dL_sweep_515 rfl (lv_at hl 0 rfl) ?_
          refine lv_iload hx hb dL_sweep_516 (lv_at hl 2 rfl) ?_
          refine lv_iconst (v := 0) hx hb dL_sweep_518 rfl ?_
          refine qViF (As := [.int (nI dn), .int 0]) (rest := []) hx hb hml hown hts (kX3_reading l g F.2 (J_o hj) e2 (nI dn) 0) gL_sweep_X3_reading rfl 2 hdX3_reading rfl ⟨Nat.le_of_ble_eq_true rfl, Nat.le_of_ble_eq_true rfl⟩ ⟨Nat.le_of_ble_eq_true rfl, Nat.le_of_ble_eq_true rfl⟩ hK hPo hS A_o 0 3 rfl rfl rfl hl.1 rfl (Nat.le_of_ble_eq_true rfl) dL_sweep_519 (fun H locs hz hk hPo hS => ?_)
          have hPp := P2_kp hj hPp hk
          refine lv_nm (y := (-1)) (rd_none e1.2.1 0) ?_
          refine lv_iconst (v := -1) hx hb dL_sweep_522 rfl ?_
          refine lv_icmp_ne (tgt := 530) hx hb dL_sweep_523 (by decide) (fun c_523 => ?_) (fun c_523 => ?_)
          · -- 523 taken
            exact absurd rfl c_523
          · -- 523 not taken
            refine lv_iconst (v := 1) hx hb dL_sweep_526 rfl ?_
            refine lv_goto (tgt := 531) hx hb dL_sweep_527 (by decide) ?_
            exact qRzR hx hb hr hlk rfl (P2_mk hPo hPp) hK hS dL_sweep_531 rfl ⟨e2, e3, e4, e5, e6, e7, e8⟩
        · -- 469 not taken
          have c_469n := i_le_f c_469
          exact absurd (nI_lt' (b := 4) (by omega) (by omega) c_469) (by omega)
      | succ k ih =>
        intro i hi2 H locs hPo hPp hS ls hl
        have loopBi : ∀ (k2 : Nat) (q : Nat), q + k2 = 6 → ∀ (H : Heap) (locs : List Loc), va_P g.1 vwCl (WX g ad F.2) H → va_P g.1 vwCl (WX g (aP ad) x) H → va_S (adOf 30 ad) s.heap H locs → ∀ ls : Array Slot, lv_has ls 18 [(0, .ref (ad 0)), (1, .ref (aP ad 0)), (12, .int (nI dn)), (14, .int (nI i)), (15, .int (nI q))] → W p l e (rmL 8) s m args below meth c H locs 0 0 (MQ below (va_Qi (fun q9 u9 => q9 = 1 ∧ (swPost zo zp) u9) (qU g (W2 g ad)) (adOf 30 ad)) args s 0 0 (adOf 30 ad)) (F0 m 475 ls []) := by
          intro k2
          induction k2 with
          | zero =>
            intro q hq2 H locs hPo hPp hS ls hl
            refine lv_iload hx hb dL_sweep_475 (lv_at hl 4 rfl) ?_
            refine lv_bipush (v := 6) hx hb dL_sweep_477 (by decide) ?_
            refine lv_icmp_ge (tgt := 509) hx hb dL_sweep_479 (by decide) (fun c_479 => ?_) (fun c_479 => ?_)
            · -- 479 taken
              have c_479n := i_le_t c_479
              refine lv_iinc (v := nI (i + 1)) (lv' := [(14, .int (nI (i + 1))), (0, .ref (ad 0)), (1, .ref (aP ad 0)), (12, .int (nI dn)), (15, .int (nI q))]) hx hb dL_sweep_509 hl (k := 3) rfl (nI_1 i) (by decide) rfl (fun ls hl => ?_)
              refine lv_goto (tgt := 466) hx hb dL_sweep_512 (by decide) ?_
              exact ih (i + 1) (by omega) _ _ hPo hPp hS ls (lv_sub hl [1, 2, 3, 0] rfl)
            · -- 479 not taken
              have c_479n := i_le_f c_479
              exact absurd (nI_lt' (b := 6) (by omega) (by omega) c_479) (by omega)
          | succ k2 ih =>
            intro q hq2 H locs hPo hPp hS ls hl
            refine lv_iload hx hb dL_sweep_475 (lv_at hl 4 rfl) ?_
            refine lv_bipush (v := 6) hx hb dL_sweep_477 (by decide) ?_
            refine lv_icmp_ge (tgt := 509) hx hb dL_sweep_479 (by decide) (fun c_479 => ?_) (fun c_479 => ?_)
            · -- 479 taken
              have c_479n := i_le_t c_479
              exact absurd (nI_ge' (b := 6) (by omega) (by omega) c_479) (by omega)
            · -- 479 not taken
              have c_479n := i_le_f c_479
              refine lv_aload_n hx hb dL_sweep_482 rfl (lv_at hl 0 rfl) ?_
              refine lv_iload hx hb dL_sweep_483 (lv_at hl 3 rfl) ?_
              refine lv_iload hx hb dL_sweep_485 (lv_at hl 4 rfl) ?_
              refine qViF (As := [.int (nI i), .int (nI q)]) (rest := []) hx hb hml hown hts (kX3_ofPart l g F.2 (J_o hj) (nI i) (nI q)) gL_sweep_X3_ofPart rfl 2 hdX3_ofPart rfl ⟨Nat.le_of_ble_eq_true rfl, Nat.le_of_ble_eq_true rfl⟩ ⟨Nat.le_of_ble_eq_true rfl, Nat.le_of_ble_eq_true rfl⟩ hK hPo hS A_o 0 3 rfl rfl rfl hl.1 rfl (Nat.le_of_ble_eq_true rfl) dL_sweep_487 (fun H locs hz hk hPo hS => ?_)
              have hPp := P2_kp hj hPp hk
              refine lv_aload_n hx hb dL_sweep_490 rfl (lv_at hl 1 rfl) ?_
              refine lv_iload hx hb dL_sweep_491 (lv_at hl 3 rfl) ?_
              refine lv_iload hx hb dL_sweep_493 (lv_at hl 4 rfl) ?_
              refine qViF (As := [.int (nI i), .int (nI q)]) (rest := [.int (s_ofPart F.2 (nI i) (nI q))]) hx hb hml hown hts (kX3_ofPart l g x (J_p hj) (nI i) (nI q)) gL_sweep_X3_ofPart rfl 2 hdX3_ofPart rfl ⟨Nat.le_of_ble_eq_true rfl, Nat.le_of_ble_eq_true rfl⟩ ⟨Nat.le_of_ble_eq_true rfl, Nat.le_of_ble_eq_true rfl⟩ hK hPp hS A_p 0 3 rfl rfl rfl hl.1 rfl (Nat.le_of_ble_eq_true rfl) dL_sweep_495 (fun H locs hz hk hPp hS => ?_)
              have hPo := P2_ko hj hPo hk
              refine lv_icmp_eq (tgt := 503) hx hb dL_sweep_498 (by decide) (fun c_498 => ?_) (fun c_498 => ?_)
              · -- 498 taken
                refine lv_iinc (v := nI (q + 1)) (lv' := [(15, .int (nI (q + 1))), (0, .ref (ad 0)), (1, .ref (aP ad 0)), (12, .int (nI dn)), (14, .int (nI i))]) hx hb dL_sweep_503 hl (k := 4) rfl (nI_1 q) (by decide) rfl (fun ls hl => ?_)
                refine lv_goto (tgt := 475) hx hb dL_sweep_506 (by decide) ?_
                exact ih (q + 1) (by omega) _ _ hPo hPp hS ls (lv_sub hl [1, 2, 3, 4, 0] rfl)
              · -- 498 not taken
                exact absurd (op_same e1.1 (by omega) _) c_498
        refine lv_iload hx hb dL_sweep_466 (lv_at hl 3 rfl) ?_
        refine lv_iconst (v := 4) hx hb dL_sweep_468 rfl ?_
        refine lv_icmp_ge (tgt := 515) hx hb dL_sweep_469 (by decide) (fun c_469 => ?_) (fun c_469 => ?_)
        · -- 469 taken
          have c_469n := i_le_t c_469
          exact absurd (nI_ge' (b := 4) (by omega) (by omega) c_469) (by omega)
        · -- 469 not taken
          have c_469n := i_le_f c_469
          refine lv_iconst (v := 0) hx hb dL_sweep_472 rfl ?_
          refine lv_istore (lv' := [(15, .int 0), (0, .ref (ad 0)), (1, .ref (aP ad 0)), (12, .int (nI dn)), (14, .int (nI i))]) hx hb dL_sweep_473 hl (by decide) rfl (fun ls hl => ?_)
          exact loopBi 6 0 rfl _ _ hPo hPp hS ls (lv_sub hl [1, 2, 3, 4, 0] rfl)
    have loopA : ∀ (k : Nat) (i : Nat), i + k = dn → ∀ (H : Heap) (locs : List Loc), va_P g.1 vwCl (WX g ad F.2) H → va_P g.1 vwCl (WX g (aP ad) x) H → va_S (adOf 30 ad) s.heap H locs → ∀ ls : Array Slot, lv_has ls 18 [(0, .ref (ad 0)), (1, .ref (aP ad 0)), (12, .int (nI dn)), (14, .int (nI i))] → W p l e (rmL 8) s m args below meth c H locs 0 0 (MQ below (va_Qi (fun q9 u9 => q9 = 1 ∧ (swPost zo zp) u9) (qU g (W2 g ad)) (adOf 30 ad)) args s 0 0 (adOf 30 ad)) (F0 m 414 ls []) := by
      intro k
      induction k with
      | zero =>
        intro i hi2 H locs hPo hPp hS ls hl
        refine lv_iload hx hb dL_sweep_414 (lv_at hl 3 rfl) ?_
        refine lv_iload hx hb dL_sweep_416 (lv_at hl 2 rfl) ?_
        refine lv_icmp_ge (tgt := 463) hx hb dL_sweep_418 (by decide) (fun c_418 => ?_) (fun c_418 => ?_)
        · -- 418 taken
          have c_418n := i_le_t c_418
          refine lv_iconst (v := 0) hx hb dL_sweep_463 rfl ?_
          refine lv_istore (lv' := [(14, .int 0), (0, .ref (ad 0)), (1, .ref (aP ad 0)), (12, .int (nI dn))]) hx hb dL_sweep_464 hl (by decide) rfl (fun ls hl => ?_)
          exact loopB 4 0 rfl _ _ hPo hPp hS ls (lv_sub hl [1, 2, 3, 0] rfl)
        · -- 418 not taken
          have c_418n := i_le_f c_418
          exact absurd (nI_lt' (by omega) (by omega) c_418) (by omega)
      | succ k ih =>
        intro i hi2 H locs hPo hPp hS ls hl
        have loopAi : ∀ (k2 : Nat) (q : Nat), q + k2 = 4 → ∀ (H : Heap) (locs : List Loc), va_P g.1 vwCl (WX g ad F.2) H → va_P g.1 vwCl (WX g (aP ad) x) H → va_S (adOf 30 ad) s.heap H locs → ∀ ls : Array Slot, lv_has ls 18 [(0, .ref (ad 0)), (1, .ref (aP ad 0)), (12, .int (nI dn)), (14, .int (nI i)), (15, .int (nI q))] → W p l e (rmL 8) s m args below meth c H locs 0 0 (MQ below (va_Qi (fun q9 u9 => q9 = 1 ∧ (swPost zo zp) u9) (qU g (W2 g ad)) (adOf 30 ad)) args s 0 0 (adOf 30 ad)) (F0 m 424 ls []) := by
          intro k2
          induction k2 with
          | zero =>
            intro q hq2 H locs hPo hPp hS ls hl
            refine lv_iload hx hb dL_sweep_424 (lv_at hl 4 rfl) ?_
            refine lv_iconst (v := 4) hx hb dL_sweep_426 rfl ?_
            refine lv_icmp_ge (tgt := 457) hx hb dL_sweep_427 (by decide) (fun c_427 => ?_) (fun c_427 => ?_)
            · -- 427 taken
              have c_427n := i_le_t c_427
              refine lv_iinc (v := nI (i + 1)) (lv' := [(14, .int (nI (i + 1))), (0, .ref (ad 0)), (1, .ref (aP ad 0)), (12, .int (nI dn)), (15, .int (nI q))]) hx hb dL_sweep_457 hl (k := 3) rfl (nI_1 i) (by decide) rfl (fun ls hl => ?_)
              refine lv_goto (tgt := 414) hx hb dL_sweep_460 (by decide) ?_
              exact ih (i + 1) (by omega) _ _ hPo hPp hS ls (lv_sub hl [1, 2, 3, 0] rfl)
            · -- 427 not taken
              have c_427n := i_le_f c_427
              exact absurd (nI_lt' (b := 4) (by omega) (by omega) c_427) (by omega)
          | succ k2 ih =>
            intro q hq2 H locs hPo hPp hS ls hl
            refine lv_iload hx hb dL_sweep_424 (lv_at hl 4 rfl) ?_
            refine lv_iconst (v := 4) hx hb dL_sweep_426 rfl ?_
            refine lv_icmp_ge (tgt := 457) hx hb dL_sweep_427 (by decide) (fun c_427 => ?_) (fun c_427 => ?_)
            · -- 427 taken
              have c_427n := i_le_t c_427
              exact absurd (nI_ge' (b := 4) (by omega) (by omega) c_427) (by omega)
            · -- 427 not taken
              have c_427n := i_le_f c_427
              refine lv_aload_n hx hb dL_sweep_430 rfl (lv_at hl 0 rfl) ?_
              refine lv_iload hx hb dL_sweep_431 (lv_at hl 3 rfl) ?_
              refine lv_iload hx hb dL_sweep_433 (lv_at hl 4 rfl) ?_
              refine qViF (As := [.int (nI i), .int (nI q)]) (rest := []) hx hb hml hown hts (kX3_reading l g F.2 (J_o hj) e2 (nI i) (nI q)) gL_sweep_X3_reading rfl 2 hdX3_reading rfl ⟨Nat.le_of_ble_eq_true rfl, Nat.le_of_ble_eq_true rfl⟩ ⟨Nat.le_of_ble_eq_true rfl, Nat.le_of_ble_eq_true rfl⟩ hK hPo hS A_o 0 3 rfl rfl rfl hl.1 rfl (Nat.le_of_ble_eq_true rfl) dL_sweep_435 (fun H locs hz hk hPo hS => ?_)
              have hPp := P2_kp hj hPp hk
              refine lv_aload_n hx hb dL_sweep_438 rfl (lv_at hl 1 rfl) ?_
              refine lv_iload hx hb dL_sweep_439 (lv_at hl 3 rfl) ?_
              refine lv_iload hx hb dL_sweep_441 (lv_at hl 4 rfl) ?_
              refine qViF (As := [.int (nI i), .int (nI q)]) (rest := [.int (s_reading F.2 (nI i) (nI q))]) hx hb hml hown hts (kX3_reading l g x (J_p hj) e3 (nI i) (nI q)) gL_sweep_X3_reading rfl 2 hdX3_reading rfl ⟨Nat.le_of_ble_eq_true rfl, Nat.le_of_ble_eq_true rfl⟩ ⟨Nat.le_of_ble_eq_true rfl, Nat.le_of_ble_eq_true rfl⟩ hK hPp hS A_p 0 3 rfl rfl rfl hl.1 rfl (Nat.le_of_ble_eq_true rfl) dL_sweep_443 (fun H locs hz hk hPp hS => ?_)
              have hPo := P2_ko hj hPo hk
              refine lv_icmp_eq (tgt := 451) hx hb dL_sweep_446 (by decide) (fun c_446 => ?_) (fun c_446 => ?_)
              · -- 446 taken
                refine lv_iinc (v := nI (q + 1)) (lv' := [(15, .int (nI (q + 1))), (0, .ref (ad 0)), (1, .ref (aP ad 0)), (12, .int (nI dn)), (14, .int (nI i))]) hx hb dL_sweep_451 hl (k := 4) rfl (nI_1 q) (by decide) rfl (fun ls hl => ?_)
                refine lv_goto (tgt := 424) hx hb dL_sweep_454 (by decide) ?_
                exact ih (q + 1) (by omega) _ _ hPo hPp hS ls (lv_sub hl [1, 2, 3, 4, 0] rfl)
              · -- 446 not taken
                exact absurd (rd_same e1 (by omega) hdn _) c_446
        refine lv_iload hx hb dL_sweep_414 (lv_at hl 3 rfl) ?_
        refine lv_iload hx hb dL_sweep_416 (lv_at hl 2 rfl) ?_
        refine lv_icmp_ge (tgt := 463) hx hb dL_sweep_418 (by decide) (fun c_418 => ?_) (fun c_418 => ?_)
        · -- 418 taken
          have c_418n := i_le_t c_418
          exact absurd (nI_ge' (by omega) (by omega) c_418) (by omega)
        · -- 418 not taken
          have c_418n := i_le_f c_418
          refine lv_iconst (v := 0) hx hb dL_sweep_421 rfl ?_
          refine lv_istore (lv' := [(15, .int 0), (0, .ref (ad 0)), (1, .ref (aP ad 0)), (12, .int (nI dn)), (14, .int (nI i))]) hx hb dL_sweep_422 hl (by decide) rfl (fun ls hl => ?_)
          exact loopAi 4 0 rfl _ _ hPo hPp hS ls (lv_sub hl [1, 2, 3, 4, 0] rfl)
    refine lv_iload hx hb dL_sweep_307 (lv_at hl 2 rfl) ?_
    refine lv_iload hx hb dL_sweep_309 (lv_at hl 4 rfl) ?_
    refine lv_if_eq (tgt := 322) hx hb dL_sweep_311 (by decide) (fun c_311 => ?_) (fun c_311 => ?_)
    · -- 311 taken
      have c_311 := bI_0 c_311
      refine lv_iload hx hb dL_sweep_322 (lv_at hl 3 rfl) ?_
      refine lv_icmp_ne (tgt := 409) hx hb dL_sweep_324 (by decide) (fun c_324 => ?_) (fun c_324 => ?_)
      · -- 324 taken
        exact absurd (e9.trans (if_neg (show ¬ bu = true by rw [c_311]; decide))) c_324
      · -- 324 not taken
        refine lv_aload_n hx hb dL_sweep_327 rfl (lv_at hl 0 rfl) ?_
        refine lv_iconst (v := 1) hx hb dL_sweep_328 rfl ?_
        refine qViF (As := [.int 1]) (rest := []) hx hb hml hown hts (kX3_many l g F.2 (J_o hj) e2 1) gL_sweep_X3_many rfl 1 hdX3_many rfl ⟨Nat.le_of_ble_eq_true rfl, Nat.le_of_ble_eq_true rfl⟩ ⟨Nat.le_of_ble_eq_true rfl, Nat.le_of_ble_eq_true rfl⟩ hK hPo hS A_o 0 3 rfl rfl rfl hl.1 rfl (Nat.le_of_ble_eq_true rfl) dL_sweep_329 (fun H locs hz hk hPo hS => ?_)
        have hPp := P2_kp hj hPp hk
        refine lv_nm (y := nI dn) ((many_1 _).trans e1.2.1) ?_
        refine lv_iload hx hb dL_sweep_332 (lv_at hl 3 rfl) ?_
        refine lv_icmp_ne (tgt := 409) hx hb dL_sweep_334 (by decide) (fun c_334 => ?_) (fun c_334 => ?_)
        · -- 334 taken
          exact absurd rfl c_334
        · -- 334 not taken
          refine lv_iload hx hb dL_sweep_337 (lv_at hl 4 rfl) ?_
          refine lv_if_eq (tgt := 398) hx hb dL_sweep_339 (by decide) (fun c_339 => ?_) (fun c_339 => ?_)
          · -- 339 taken
            have c_339 := bI_0 c_339
            refine lv_aload_n hx hb dL_sweep_398 rfl (lv_at hl 0 rfl) ?_
            refine lv_iconst (v := 0) hx hb dL_sweep_399 rfl ?_
            refine lv_iconst (v := 0) hx hb dL_sweep_400 rfl ?_
            refine qViF (As := [.int 0, .int 0]) (rest := []) hx hb hml hown hts (kX3_why l g F.2 (J_o hj) 0 0) gL_sweep_X3_why rfl 2 hdX3_why rfl ⟨Nat.le_of_ble_eq_true rfl, Nat.le_of_ble_eq_true rfl⟩ ⟨Nat.le_of_ble_eq_true rfl, Nat.le_of_ble_eq_true rfl⟩ hK hPo hS A_o 0 3 rfl rfl rfl hl.1 rfl (Nat.le_of_ble_eq_true rfl) dL_sweep_401 (fun H locs hz hk hPo hS => ?_)
            have hPp := P2_kp hj hPp hk
            refine lv_nm (y := (-9)) (e11 c_339) ?_
            refine lv_bipush (v := -9) hx hb dL_sweep_404 (by decide) ?_
            refine lv_icmp_eq (tgt := 411) hx hb dL_sweep_406 (by decide) (fun c_406 => ?_) (fun c_406 => ?_)
            · -- 406 taken
              refine lv_iconst (v := 0) hx hb dL_sweep_411 rfl ?_
              refine lv_istore (lv' := [(14, .int 0), (0, .ref (ad 0)), (1, .ref (aP ad 0)), (11, .int F.1), (12, .int (nI dn)), (13, .int (bI bu))]) hx hb dL_sweep_412 hl (by decide) rfl (fun ls hl => ?_)
              exact loopA dn 0 (by omega) _ _ hPo hPp hS ls (lv_sub hl [1, 2, 4, 0] rfl)
            · -- 406 not taken
              exact absurd rfl c_406
          · -- 339 not taken
            have c_339 := bI_n c_339
            exact absurd (c_311.symm.trans c_339) (by decide)
    · -- 311 not taken
      have c_311 := bI_n c_311
      refine lv_bipush (v := -100) hx hb dL_sweep_314 (by decide) ?_
      refine lv_iload hx hb dL_sweep_316 (lv_at hl 3 rfl) ?_
      refine lv_isub hx hb dL_sweep_318 ?_
      refine lv_goto (tgt := 324) hx hb dL_sweep_319 (by decide) ?_
      refine lv_icmp_ne (tgt := 409) hx hb dL_sweep_324 (by decide) (fun c_324 => ?_) (fun c_324 => ?_)
      · -- 324 taken
        exact absurd (e9.trans (if_pos c_311)) c_324
      · -- 324 not taken
        refine lv_aload_n hx hb dL_sweep_327 rfl (lv_at hl 0 rfl) ?_
        refine lv_iconst (v := 1) hx hb dL_sweep_328 rfl ?_
        refine qViF (As := [.int 1]) (rest := []) hx hb hml hown hts (kX3_many l g F.2 (J_o hj) e2 1) gL_sweep_X3_many rfl 1 hdX3_many rfl ⟨Nat.le_of_ble_eq_true rfl, Nat.le_of_ble_eq_true rfl⟩ ⟨Nat.le_of_ble_eq_true rfl, Nat.le_of_ble_eq_true rfl⟩ hK hPo hS A_o 0 3 rfl rfl rfl hl.1 rfl (Nat.le_of_ble_eq_true rfl) dL_sweep_329 (fun H locs hz hk hPo hS => ?_)
        have hPp := P2_kp hj hPp hk
        refine lv_nm (y := nI dn) ((many_1 _).trans e1.2.1) ?_
        refine lv_iload hx hb dL_sweep_332 (lv_at hl 3 rfl) ?_
        refine lv_icmp_ne (tgt := 409) hx hb dL_sweep_334 (by decide) (fun c_334 => ?_) (fun c_334 => ?_)
        · -- 334 taken
          exact absurd rfl c_334
        · -- 334 not taken
          refine lv_iload hx hb dL_sweep_337 (lv_at hl 4 rfl) ?_
          refine lv_if_eq (tgt := 398) hx hb dL_sweep_339 (by decide) (fun c_339 => ?_) (fun c_339 => ?_)
          · -- 339 taken
            have c_339 := bI_0 c_339
            exact absurd (c_311.symm.trans c_339) (by decide)
          · -- 339 not taken
            have c_339 := bI_n c_339
            refine lv_aload_n hx hb dL_sweep_342 rfl (lv_at hl 0 rfl) ?_
            refine lv_iconst (v := 0) hx hb dL_sweep_343 rfl ?_
            refine lv_iconst (v := 0) hx hb dL_sweep_344 rfl ?_
            refine qViF (As := [.int 0, .int 0]) (rest := []) hx hb hml hown hts (kX3_why l g F.2 (J_o hj) 0 0) gL_sweep_X3_why rfl 2 hdX3_why rfl ⟨Nat.le_of_ble_eq_true rfl, Nat.le_of_ble_eq_true rfl⟩ ⟨Nat.le_of_ble_eq_true rfl, Nat.le_of_ble_eq_true rfl⟩ hK hPo hS A_o 0 3 rfl rfl rfl hl.1 rfl (Nat.le_of_ble_eq_true rfl) dL_sweep_345 (fun H locs hz hk hPo hS => ?_)
            have hPp := P2_kp hj hPp hk
            refine lv_nm (y := 1) (e10 c_339).2.1 ?_
            refine lv_iconst (v := 1) hx hb dL_sweep_348 rfl ?_
            refine lv_icmp_ne (tgt := 409) hx hb dL_sweep_349 (by decide) (fun c_349 => ?_) (fun c_349 => ?_)
            · -- 349 taken
              exact absurd rfl c_349
            · -- 349 not taken
              refine lv_aload_n hx hb dL_sweep_352 rfl (lv_at hl 0 rfl) ?_
              refine lv_iconst (v := 0) hx hb dL_sweep_353 rfl ?_
              refine lv_iconst (v := 1) hx hb dL_sweep_354 rfl ?_
              refine qViF (As := [.int 0, .int 1]) (rest := []) hx hb hml hown hts (kX3_why l g F.2 (J_o hj) 0 1) gL_sweep_X3_why rfl 2 hdX3_why rfl ⟨Nat.le_of_ble_eq_true rfl, Nat.le_of_ble_eq_true rfl⟩ ⟨Nat.le_of_ble_eq_true rfl, Nat.le_of_ble_eq_true rfl⟩ hK hPo hS A_o 0 3 rfl rfl rfl hl.1 rfl (Nat.le_of_ble_eq_true rfl) dL_sweep_355 (fun H locs hz hk hPo hS => ?_)
              have hPp := P2_kp hj hPp hk
              refine lv_nm (y := nI (dn - 1)) (e10 c_339).2.2.1 ?_
              refine lv_iload hx hb dL_sweep_358 (lv_at hl 3 rfl) ?_
              refine lv_iconst (v := 1) hx hb dL_sweep_360 rfl ?_
              refine lv_isub hx hb dL_sweep_361 ?_
              refine lv_nm (y := nI (dn - 1)) (nI_m1 (e10 c_339).1) ?_
              refine lv_icmp_ne (tgt := 409) hx hb dL_sweep_362 (by decide) (fun c_362 => ?_) (fun c_362 => ?_)
              · -- 362 taken
                exact absurd rfl c_362
              · -- 362 not taken
                refine lv_aload_n hx hb dL_sweep_365 rfl (lv_at hl 0 rfl) ?_
                refine lv_iconst (v := 1) hx hb dL_sweep_366 rfl ?_
                refine lv_iconst (v := 1) hx hb dL_sweep_367 rfl ?_
                refine qViF (As := [.int 1, .int 1]) (rest := []) hx hb hml hown hts (kX3_why l g F.2 (J_o hj) 1 1) gL_sweep_X3_why rfl 2 hdX3_why rfl ⟨Nat.le_of_ble_eq_true rfl, Nat.le_of_ble_eq_true rfl⟩ ⟨Nat.le_of_ble_eq_true rfl, Nat.le_of_ble_eq_true rfl⟩ hK hPo hS A_o 0 3 rfl rfl rfl hl.1 rfl (Nat.le_of_ble_eq_true rfl) dL_sweep_368 (fun H locs hz hk hPo hS => ?_)
                have hPp := P2_kp hj hPp hk
                refine lv_aload_n hx hb dL_sweep_371 rfl (lv_at hl 1 rfl) ?_
                refine lv_iconst (v := 0) hx hb dL_sweep_372 rfl ?_
                refine lv_iconst (v := 1) hx hb dL_sweep_373 rfl ?_
                refine qViF (As := [.int 0, .int 1]) (rest := [.int (s_why F.2 1 1)]) hx hb hml hown hts (kX3_why l g x (J_p hj) 0 1) gL_sweep_X3_why rfl 2 hdX3_why rfl ⟨Nat.le_of_ble_eq_true rfl, Nat.le_of_ble_eq_true rfl⟩ ⟨Nat.le_of_ble_eq_true rfl, Nat.le_of_ble_eq_true rfl⟩ hK hPp hS A_p 0 3 rfl rfl rfl hl.1 rfl (Nat.le_of_ble_eq_true rfl) dL_sweep_374 (fun H locs hz hk hPp hS => ?_)
                have hPo := P2_ko hj hPo hk
                refine lv_icmp_ne (tgt := 409) hx hb dL_sweep_377 (by decide) (fun c_377 => ?_) (fun c_377 => ?_)
                · -- 377 taken
                  exact absurd (e10 c_339).2.2.2.1 c_377
                · -- 377 not taken
                  refine lv_aload_n hx hb dL_sweep_380 rfl (lv_at hl 0 rfl) ?_
                  refine lv_iconst (v := 2) hx hb dL_sweep_381 rfl ?_
                  refine lv_iconst (v := 1) hx hb dL_sweep_382 rfl ?_
                  refine qViF (As := [.int 2, .int 1]) (rest := []) hx hb hml hown hts (kX3_why l g F.2 (J_o hj) 2 1) gL_sweep_X3_why rfl 2 hdX3_why rfl ⟨Nat.le_of_ble_eq_true rfl, Nat.le_of_ble_eq_true rfl⟩ ⟨Nat.le_of_ble_eq_true rfl, Nat.le_of_ble_eq_true rfl⟩ hK hPo hS A_o 0 3 rfl rfl rfl hl.1 rfl (Nat.le_of_ble_eq_true rfl) dL_sweep_383 (fun H locs hz hk hPo hS => ?_)
                  have hPp := P2_kp hj hPp hk
                  refine lv_aload_n hx hb dL_sweep_386 rfl (lv_at hl 1 rfl) ?_
                  refine lv_iconst (v := 1) hx hb dL_sweep_387 rfl ?_
                  refine lv_iconst (v := 1) hx hb dL_sweep_388 rfl ?_
                  refine qViF (As := [.int 1, .int 1]) (rest := [.int (s_why F.2 2 1)]) hx hb hml hown hts (kX3_why l g x (J_p hj) 1 1) gL_sweep_X3_why rfl 2 hdX3_why rfl ⟨Nat.le_of_ble_eq_true rfl, Nat.le_of_ble_eq_true rfl⟩ ⟨Nat.le_of_ble_eq_true rfl, Nat.le_of_ble_eq_true rfl⟩ hK hPp hS A_p 0 3 rfl rfl rfl hl.1 rfl (Nat.le_of_ble_eq_true rfl) dL_sweep_389 (fun H locs hz hk hPp hS => ?_)
                  have hPo := P2_ko hj hPo hk
                  refine lv_icmp_eq (tgt := 411) hx hb dL_sweep_392 (by decide) (fun c_392 => ?_) (fun c_392 => ?_)
                  · -- 392 taken
                    refine lv_iconst (v := 0) hx hb dL_sweep_411 rfl ?_
                    refine lv_istore (lv' := [(14, .int 0), (0, .ref (ad 0)), (1, .ref (aP ad 0)), (11, .int F.1), (12, .int (nI dn)), (13, .int (bI bu))]) hx hb dL_sweep_412 hl (by decide) rfl (fun ls hl => ?_)
                    exact loopA dn 0 (by omega) _ _ hPo hPp hS ls (lv_sub hl [1, 2, 4, 0] rfl)
                  · -- 392 not taken
                    exact absurd (e10 c_339).2.2.2.2 c_392
  have tail167 : ∀ (_ : True), ¬ 60 < nI al → ∀ (H : Heap) (locs : List Loc), va_P g.1 vwCl (WX g ad F.2) H → va_P g.1 vwCl (WX g (aP ad) (zu zp 0 3 0)) H → va_S (adOf 30 ad) s.heap H locs → ∀ ls : Array Slot, lv_has ls 18 [(0, .ref (ad 0)), (1, .ref (aP ad 0)), (2, .int gg), (3, .int (swa gg)), (4, .int (swb gg)), (5, .int (swst gg)), (6, .int (sww gg)), (7, .int (swn gg)), (8, .int (swk gg)), (9, .int (nI (la + 1))), (10, .int (nI al)), (11, .int F.1)] → W p l e (rmL 8) s m args below meth c H locs 0 0 (MQ below (va_Qi (fun q9 u9 => q9 = 1 ∧ (swPost zo zp) u9) (qU g (W2 g ad)) (adOf 30 ad)) args s 0 0 (adOf 30 ad)) (F0 m 167 ls []) := by
    intro _ h60 H locs hPo hPp hS ls hl
    have hal60 : al ≤ 60 := nI_gtf (a := al) (b := 60) (by omega) (by decide) h60
    have loop : ∀ (k : Nat) (j : Nat) (y x : zS), j + k = al → swI zo zp F (swa gg) (swb gg) (swst gg) (sww gg) (ix (swn gg)) la al j y x → ∀ (H : Heap) (locs : List Loc), va_P g.1 vwCl (WX g ad F.2) H → va_P g.1 vwCl (WX g (aP ad) x) H → va_S (adOf 30 ad) s.heap H locs → ∀ ls : Array Slot, lv_has ls 18 [(0, .ref (ad 0)), (1, .ref (aP ad 0)), (2, .int gg), (3, .int (swa gg)), (4, .int (swb gg)), (5, .int (swst gg)), (6, .int (sww gg)), (7, .int (swn gg)), (8, .int (swk gg)), (9, .int (nI (la + 1))), (10, .int (nI al)), (11, .int F.1), (12, .int (nI j)), (13, .int 0), (14, .int (nI j))] → W p l e (rmL 8) s m args below meth c H locs 0 0 (MQ below (va_Qi (fun q9 u9 => q9 = 1 ∧ (swPost zo zp) u9) (qU g (W2 g ad)) (adOf 30 ad)) args s 0 0 (adOf 30 ad)) (F0 m 176 ls []) := by
      intro k
      induction k with
      | zero =>
        intro j y x hj2 hsw H locs hPo hPp hS ls hl
        refine lv_iload hx hb dL_sweep_176 (lv_at hl 14 rfl) ?_
        refine lv_iload hx hb dL_sweep_178 (lv_at hl 10 rfl) ?_
        refine lv_icmp_ge (tgt := 307) hx hb dL_sweep_180 (by decide) (fun c_180 => ?_) (fun c_180 => ?_)
        · -- 180 taken
          have c_180n := i_le_t c_180
          exact tail307 j false x (sw_end2 hsw (by omega)) (by omega) _ _ hPo hPp hS ls (lv_sub hl [0, 1, 11, 12, 13] rfl)
        · -- 180 not taken
          have c_180n := i_le_f c_180
          exact absurd (nI_lt' (by omega) (by omega) c_180) (by omega)
      | succ k ih =>
        intro j y x hj2 hsw H locs hPo hPp hS ls hl
        have tail249 : ∀ (_ : True), ∀ (H : Heap) (locs : List Loc), va_P g.1 vwCl (WX g ad F.2) H → va_P g.1 vwCl (WX g (aP ad) x) H → va_S (adOf 30 ad) s.heap H locs → ∀ ls : Array Slot, lv_has ls 18 [(0, .ref (ad 0)), (1, .ref (aP ad 0)), (2, .int gg), (3, .int (swa gg)), (4, .int (swb gg)), (5, .int (swst gg)), (6, .int (sww gg)), (7, .int (swn gg)), (8, .int (swk gg)), (9, .int (nI (la + 1))), (10, .int (nI al)), (11, .int F.1), (12, .int (nI j)), (13, .int 0), (14, .int (nI j)), (15, .int (nI (if j ≤ la then j else 2 * la - j))), (16, .int (inH x)), (17, .int (if x (10 + ix (inH x)) 1 = 0 then 0 else 1))] → W p l e (rmL 8) s m args below meth c H locs 0 0 (MQ below (va_Qi (fun q9 u9 => q9 = 1 ∧ (swPost zo zp) u9) (qU g (W2 g ad)) (adOf 30 ad)) args s 0 0 (adOf 30 ad)) (F0 m 249 ls [.int (swV (swa gg) (swb gg) (swst gg) la j), .ref (aP ad 0)]) := by
          intro _ H locs hPo hPp hS ls hl
          have hV : inR (swV (swa gg) (swb gg) (swst gg) la j) (-3000) 3000 = true := by
            unfold swV
            exact hsv (by rw [← hla]; split <;> omega)
          have hx3 : x 0 3 = nI j := hsw.1.2.2.1
          have hIx : qInv x := hsw.2.2.1
          have hxon : ¬ x 0 0 = 0 := hsw.2.2.2.2.2.2.2.2.2.1
          have hnx := on_hand hIx hxon
          have hx60 : ¬ x 0 3 = 60 := fun q => by rw [hx3] at q; have h9 := congrArg ix q; rw [ix_nI (by omega), show ix (60 : Int32) = 60 from rfl] at h9; omega
          obtain ⟨x2, hx2⟩ : ∃ x2, x2 = (s_pulse x (swV (swa gg) (swb gg) (swst gg) la j) (sww gg)).2 := ⟨_, rfl⟩
          have hstp := sw_step hsw (by omega) (by omega) hww hV
          rw [← hx2] at hstp
          have hpv : (s_pulse x (swV (swa gg) (swb gg) (swst gg) la j) (sww gg)).1 = nI j + 1 := by rw [(pulse_eq2 hV hww hxon hx60).1, hx3]
          have hpk := pulse_pack hIx hV hww hxon hx60
          rw [← hx2] at hpk
          obtain ⟨k1, -, -, -, -, -, -, -, k9, -, -⟩ := hpk
          have hb1 : x2 (10 + ix (inH x)) 1 = if puB x (swV (swa gg) (swb gg) (swst gg) la j) (sww gg) = true then 1 else x (10 + ix (inH x)) 1 := by rw [k9]; exact (puS_p x (swV (swa gg) (swb gg) (swst gg) la j) (sww gg)).2.1
          have hbb := bit_b hb1 (fun q => (puB_iff.mp q).2)
          have hp2 : pOk x2 (inH x) = true := by have h9 := pOk_inH (z := x2) (by rw [inH_congr k1]; exact hnx); rw [inH_congr k1] at h9; exact h9
          refine lv_iload hx hb dL_sweep_249 (lv_at hl 6 rfl) ?_
          refine qViF (As := [.int (swV (swa gg) (swb gg) (swst gg) la j), .int (sww gg)]) (rest := []) hx hb hml hown hts (kX3_pulse l g x (J_p hj) hIx (swV (swa gg) (swb gg) (swst gg) la j) (sww gg)) gL_sweep_X3_pulse rfl 2 hdX3_pulse rfl ⟨Nat.le_of_ble_eq_true rfl, Nat.le_of_ble_eq_true rfl⟩ ⟨Nat.le_of_ble_eq_true rfl, Nat.le_of_ble_eq_true rfl⟩ hK hPp hS A_p 0 3 rfl rfl rfl hl.1 rfl (Nat.le_of_ble_eq_true rfl) dL_sweep_251 (fun H locs hz hk hPp hS => ?_)
          have hPo := P2_ko hj hPo hk
          refine lv_nm (y := nI j + 1) hpv ?_
          rw [← hx2] at hPp
          refine lv_iload hx hb dL_sweep_254 (lv_at hl 14 rfl) ?_
          refine lv_iconst (v := 1) hx hb dL_sweep_256 rfl ?_
          refine lv_iadd hx hb dL_sweep_257 ?_
          refine lv_icmp_eq (tgt := 263) hx hb dL_sweep_258 (by decide) (fun c_258 => ?_) (fun c_258 => ?_)
          · -- 258 taken
            refine lv_iinc (v := nI (j + 1)) (lv' := [(12, .int (nI (j + 1))), (0, .ref (ad 0)), (1, .ref (aP ad 0)), (2, .int gg), (3, .int (swa gg)), (4, .int (swb gg)), (5, .int (swst gg)), (6, .int (sww gg)), (7, .int (swn gg)), (8, .int (swk gg)), (9, .int (nI (la + 1))), (10, .int (nI al)), (11, .int F.1), (13, .int 0), (14, .int (nI j)), (15, .int (nI (if j ≤ la then j else 2 * la - j))), (16, .int (inH x)), (17, .int (if x (10 + ix (inH x)) 1 = 0 then 0 else 1))]) hx hb dL_sweep_263 hl (k := 12) rfl (nI_1 j) (by decide) rfl (fun ls hl => ?_)
            refine lv_aload_n hx hb dL_sweep_266 rfl (lv_at hl 2 rfl) ?_
            refine lv_iload hx hb dL_sweep_267 (lv_at hl 16 rfl) ?_
            refine lv_iconst (v := 4) hx hb dL_sweep_269 rfl ?_
            refine qViF (As := [.int (inH x), .int 4]) (rest := []) hx hb hml hown hts (kX3_ofPart l g x2 (J_p hj) (inH x) 4) gL_sweep_X3_ofPart rfl 2 hdX3_ofPart rfl ⟨Nat.le_of_ble_eq_true rfl, Nat.le_of_ble_eq_true rfl⟩ ⟨Nat.le_of_ble_eq_true rfl, Nat.le_of_ble_eq_true rfl⟩ hK hPp hS A_p 0 3 rfl rfl rfl hl.1 rfl (Nat.le_of_ble_eq_true rfl) dL_sweep_270 (fun H locs hz hk hPp hS => ?_)
            have hPo := P2_ko hj hPo hk
            refine lv_nm (y := (if x2 (10 + ix (inH x)) 1 = 0 then 0 else 1)) (ofp_4 hp2) ?_
            refine lv_iload hx hb dL_sweep_273 (lv_at hl 17 rfl) ?_
            refine lv_icmp_eq (tgt := 282) hx hb dL_sweep_275 (by decide) (fun c_275 => ?_) (fun c_275 => ?_)
            · -- 275 taken
              have hnb := hbb.mp c_275
              refine lv_iconst (v := 0) hx hb dL_sweep_282 rfl ?_
              refine lv_istore (lv' := [(13, .int 0), (12, .int (nI (j + 1))), (0, .ref (ad 0)), (1, .ref (aP ad 0)), (2, .int gg), (3, .int (swa gg)), (4, .int (swb gg)), (5, .int (swst gg)), (6, .int (sww gg)), (7, .int (swn gg)), (8, .int (swk gg)), (9, .int (nI (la + 1))), (10, .int (nI al)), (11, .int F.1), (14, .int (nI j)), (15, .int (nI (if j ≤ la then j else 2 * la - j))), (16, .int (inH x)), (17, .int (if x (10 + ix (inH x)) 1 = 0 then 0 else 1))]) hx hb dL_sweep_283 hl (by decide) rfl (fun ls hl => ?_)
              refine lv_iload hx hb dL_sweep_285 (lv_at hl 0 rfl) ?_
              refine lv_if_ne (tgt := 301) hx hb dL_sweep_287 (by decide) (fun c_287 => ?_) (fun c_287 => ?_)
              · -- 287 taken
                exact absurd rfl c_287
              · -- 287 not taken
                refine lv_aload_n hx hb dL_sweep_290 rfl (lv_at hl 3 rfl) ?_
                refine lv_iload hx hb dL_sweep_291 (lv_at hl 9 rfl) ?_
                refine qViF (As := [.int (swn gg)]) (rest := []) hx hb hml hown hts (kX3_rest l g x2 (J_p hj) (swn gg)) gL_sweep_X3_rest rfl 1 hdX3_rest rfl ⟨Nat.le_of_ble_eq_true rfl, Nat.le_of_ble_eq_true rfl⟩ ⟨Nat.le_of_ble_eq_true rfl, Nat.le_of_ble_eq_true rfl⟩ hK hPp hS A_p 0 3 rfl rfl rfl hl.1 rfl (Nat.le_of_ble_eq_true rfl) dL_sweep_293 (fun H locs hz hk hPp hS => ?_)
                have hPo := P2_ko hj hPo hk
                rw [rest_2 hnn] at hPp
                refine lv_if_ge (tgt := 301) hx hb dL_sweep_296 (by decide) (fun c_296 => ?_) (fun c_296 => ?_)
                · -- 296 taken
                  have c_296n := i_le_t c_296
                  refine lv_iinc (v := nI (j + 1)) (lv' := [(14, .int (nI (j + 1))), (13, .int 0), (12, .int (nI (j + 1))), (0, .ref (ad 0)), (1, .ref (aP ad 0)), (2, .int gg), (3, .int (swa gg)), (4, .int (swb gg)), (5, .int (swst gg)), (6, .int (sww gg)), (7, .int (swn gg)), (8, .int (swk gg)), (9, .int (nI (la + 1))), (10, .int (nI al)), (11, .int F.1), (15, .int (nI (if j ≤ la then j else 2 * la - j))), (16, .int (inH x)), (17, .int (if x (10 + ix (inH x)) 1 = 0 then 0 else 1))]) hx hb dL_sweep_301 hl (k := 14) rfl (nI_1 j) (by decide) rfl (fun ls hl => ?_)
                  refine lv_goto (tgt := 176) hx hb dL_sweep_304 (by decide) ?_
                  exact ih (j + 1) _ _ (by omega) (hstp.2 hnb) _ _ hPo hPp hS ls (lv_sub hl [3, 4, 5, 6, 7, 8, 9, 10, 11, 12, 13, 14, 2, 1, 0] rfl)
                · -- 296 not taken
                  have c_296n := i_le_f c_296
                  exact absurd (rest_ge hnn) c_296
            · -- 275 not taken
              have hpb : puB x (swV (swa gg) (swb gg) (swst gg) la j) (sww gg) = true := Classical.not_not.mp (fun q => c_275 (hbb.mpr q))
              refine lv_iconst (v := 1) hx hb dL_sweep_278 rfl ?_
              refine lv_goto (tgt := 283) hx hb dL_sweep_279 (by decide) ?_
              refine lv_istore (lv' := [(13, .int 1), (12, .int (nI (j + 1))), (0, .ref (ad 0)), (1, .ref (aP ad 0)), (2, .int gg), (3, .int (swa gg)), (4, .int (swb gg)), (5, .int (swst gg)), (6, .int (sww gg)), (7, .int (swn gg)), (8, .int (swk gg)), (9, .int (nI (la + 1))), (10, .int (nI al)), (11, .int F.1), (14, .int (nI j)), (15, .int (nI (if j ≤ la then j else 2 * la - j))), (16, .int (inH x)), (17, .int (if x (10 + ix (inH x)) 1 = 0 then 0 else 1))]) hx hb dL_sweep_283 hl (by decide) rfl (fun ls hl => ?_)
              refine lv_iload hx hb dL_sweep_285 (lv_at hl 0 rfl) ?_
              refine lv_if_ne (tgt := 301) hx hb dL_sweep_287 (by decide) (fun c_287 => ?_) (fun c_287 => ?_)
              · -- 287 taken
                refine lv_iinc (v := nI (j + 1)) (lv' := [(14, .int (nI (j + 1))), (13, .int 1), (12, .int (nI (j + 1))), (0, .ref (ad 0)), (1, .ref (aP ad 0)), (2, .int gg), (3, .int (swa gg)), (4, .int (swb gg)), (5, .int (swst gg)), (6, .int (sww gg)), (7, .int (swn gg)), (8, .int (swk gg)), (9, .int (nI (la + 1))), (10, .int (nI al)), (11, .int F.1), (15, .int (nI (if j ≤ la then j else 2 * la - j))), (16, .int (inH x)), (17, .int (if x (10 + ix (inH x)) 1 = 0 then 0 else 1))]) hx hb dL_sweep_301 hl (k := 14) rfl (nI_1 j) (by decide) rfl (fun ls hl => ?_)
                refine lv_goto (tgt := 176) hx hb dL_sweep_304 (by decide) ?_
                refine lv_iload hx hb dL_sweep_176 (lv_at hl 0 rfl) ?_
                refine lv_iload hx hb dL_sweep_178 (lv_at hl 13 rfl) ?_
                refine lv_icmp_ge (tgt := 307) hx hb dL_sweep_180 (by decide) (fun c_180 => ?_) (fun c_180 => ?_)
                · -- 180 taken
                  have c_180n := i_le_t c_180
                  exact tail307 (j + 1) true x2 (hstp.1 hpb) (by omega) _ _ hPo hPp hS ls (lv_sub hl [3, 4, 14, 2, 1] rfl)
                · -- 180 not taken
                  have c_180n := i_le_f c_180
                  refine lv_iload hx hb dL_sweep_183 (lv_at hl 1 rfl) ?_
                  refine lv_if_ne (tgt := 307) hx hb dL_sweep_185 (by decide) (fun c_185 => ?_) (fun c_185 => ?_)
                  · -- 185 taken
                    exact tail307 (j + 1) true x2 (hstp.1 hpb) (by omega) _ _ hPo hPp hS ls (lv_sub hl [3, 4, 14, 2, 1] rfl)
                  · -- 185 not taken
                    exact absurd c_185 c_287
              · -- 287 not taken
                exact absurd c_287 (by decide)
          · -- 258 not taken
            exact absurd rfl c_258
        refine lv_iload hx hb dL_sweep_176 (lv_at hl 14 rfl) ?_
        refine lv_iload hx hb dL_sweep_178 (lv_at hl 10 rfl) ?_
        refine lv_icmp_ge (tgt := 307) hx hb dL_sweep_180 (by decide) (fun c_180 => ?_) (fun c_180 => ?_)
        · -- 180 taken
          have c_180n := i_le_t c_180
          exact absurd (nI_ge' (by omega) (by omega) c_180) (by omega)
        · -- 180 not taken
          have c_180n := i_le_f c_180
          refine lv_iload hx hb dL_sweep_183 (lv_at hl 13 rfl) ?_
          refine lv_if_ne (tgt := 307) hx hb dL_sweep_185 (by decide) (fun c_185 => ?_) (fun c_185 => ?_)
          · -- 185 taken
            exact absurd rfl c_185
          · -- 185 not taken
            refine lv_iload hx hb dL_sweep_188 (lv_at hl 14 rfl) ?_
            refine lv_iload hx hb dL_sweep_190 (lv_at hl 9 rfl) ?_
            refine lv_icmp_ge (tgt := 200) hx hb dL_sweep_192 (by decide) (fun c_192 => ?_) (fun c_192 => ?_)
            · -- 192 taken
              have c_192n := i_le_t c_192
              refine lv_iload hx hb dL_sweep_200 (lv_at hl 10 rfl) ?_
              refine lv_iconst (v := 1) hx hb dL_sweep_202 rfl ?_
              refine lv_isub hx hb dL_sweep_203 ?_
              refine lv_iload hx hb dL_sweep_204 (lv_at hl 14 rfl) ?_
              refine lv_isub hx hb dL_sweep_206 ?_
              refine lv_nm (y := nI (if j ≤ la then j else 2 * la - j)) (by rw [ha1 (Classical.not_not.mp (fun q => by have := ha2 q; have := nI_ge' (by omega) (by omega) c_192; omega))]; exact stp_a (by have := nI_ge' (by omega) (by omega) c_192; omega) (by omega)) ?_
              refine lv_istore (lv' := [(15, .int (nI (if j ≤ la then j else 2 * la - j))), (0, .ref (ad 0)), (1, .ref (aP ad 0)), (2, .int gg), (3, .int (swa gg)), (4, .int (swb gg)), (5, .int (swst gg)), (6, .int (sww gg)), (7, .int (swn gg)), (8, .int (swk gg)), (9, .int (nI (la + 1))), (10, .int (nI al)), (11, .int F.1), (12, .int (nI j)), (13, .int 0), (14, .int (nI j))]) hx hb dL_sweep_207 hl (by decide) rfl (fun ls hl => ?_)
              refine lv_aload_n hx hb dL_sweep_209 rfl (lv_at hl 2 rfl) ?_
              refine lv_iconst (v := 0) hx hb dL_sweep_210 rfl ?_
              refine qViF (As := [.int 0]) (rest := []) hx hb hml hown hts (kX3_now l g x (J_p hj) 0) gL_sweep_X3_now rfl 1 hdX3_now rfl ⟨Nat.le_of_ble_eq_true rfl, Nat.le_of_ble_eq_true rfl⟩ ⟨Nat.le_of_ble_eq_true rfl, Nat.le_of_ble_eq_true rfl⟩ hK hPp hS A_p 0 3 rfl rfl rfl hl.1 rfl (Nat.le_of_ble_eq_true rfl) dL_sweep_211 (fun H locs hz hk hPp hS => ?_)
              have hPo := P2_ko hj hPo hk
              refine lv_nm (y := inH x) (now_0 x) ?_
              refine lv_istore (lv' := [(16, .int (inH x)), (15, .int (nI (if j ≤ la then j else 2 * la - j))), (0, .ref (ad 0)), (1, .ref (aP ad 0)), (2, .int gg), (3, .int (swa gg)), (4, .int (swb gg)), (5, .int (swst gg)), (6, .int (sww gg)), (7, .int (swn gg)), (8, .int (swk gg)), (9, .int (nI (la + 1))), (10, .int (nI al)), (11, .int F.1), (12, .int (nI j)), (13, .int 0), (14, .int (nI j))]) hx hb dL_sweep_214 hl (by decide) rfl (fun ls hl => ?_)
              refine lv_aload_n hx hb dL_sweep_216 rfl (lv_at hl 3 rfl) ?_
              refine lv_iload hx hb dL_sweep_217 (lv_at hl 0 rfl) ?_
              refine lv_iconst (v := 4) hx hb dL_sweep_219 rfl ?_
              refine qViF (As := [.int (inH x), .int 4]) (rest := []) hx hb hml hown hts (kX3_ofPart l g x (J_p hj) (inH x) 4) gL_sweep_X3_ofPart rfl 2 hdX3_ofPart rfl ⟨Nat.le_of_ble_eq_true rfl, Nat.le_of_ble_eq_true rfl⟩ ⟨Nat.le_of_ble_eq_true rfl, Nat.le_of_ble_eq_true rfl⟩ hK hPp hS A_p 0 3 rfl rfl rfl hl.1 rfl (Nat.le_of_ble_eq_true rfl) dL_sweep_220 (fun H locs hz hk hPp hS => ?_)
              have hPo := P2_ko hj hPo hk
              refine lv_nm (y := (if x (10 + ix (inH x)) 1 = 0 then 0 else 1)) (ofp_4 (pOk_inH (on_hand hsw.2.2.1 hsw.2.2.2.2.2.2.2.2.2.1))) ?_
              refine lv_istore (lv' := [(17, .int (if x (10 + ix (inH x)) 1 = 0 then 0 else 1)), (16, .int (inH x)), (15, .int (nI (if j ≤ la then j else 2 * la - j))), (0, .ref (ad 0)), (1, .ref (aP ad 0)), (2, .int gg), (3, .int (swa gg)), (4, .int (swb gg)), (5, .int (swst gg)), (6, .int (sww gg)), (7, .int (swn gg)), (8, .int (swk gg)), (9, .int (nI (la + 1))), (10, .int (nI al)), (11, .int F.1), (12, .int (nI j)), (13, .int 0), (14, .int (nI j))]) hx hb dL_sweep_223 hl (by decide) rfl (fun ls hl => ?_)
              refine lv_aload_n hx hb dL_sweep_225 rfl (lv_at hl 4 rfl) ?_
              refine lv_iload hx hb dL_sweep_226 (lv_at hl 7 rfl) ?_
              refine lv_iload_n hx hb dL_sweep_228 rfl (lv_at hl 6 rfl) ?_
              refine lv_icmp_ge (tgt := 242) hx hb dL_sweep_229 (by decide) (fun c_229 => ?_) (fun c_229 => ?_)
              · -- 229 taken
                have c_229n := i_le_t c_229
                refine lv_iload_n hx hb dL_sweep_242 rfl (lv_at hl 6 rfl) ?_
                refine lv_iload hx hb dL_sweep_243 (lv_at hl 8 rfl) ?_
                refine lv_iload hx hb dL_sweep_245 (lv_at hl 2 rfl) ?_
                refine lv_imul hx hb dL_sweep_247 ?_
                refine lv_iadd hx hb dL_sweep_248 ?_
                refine lv_nm (y := swV (swa gg) (swb gg) (swst gg) la j) (swV_f c_229n) ?_
                exact tail249 trivial _ _ hPo hPp hS ls (lv_sub hl [3, 4, 5, 6, 7, 8, 9, 10, 11, 12, 13, 14, 15, 16, 17, 2, 1, 0] rfl)
              · -- 229 not taken
                have c_229n := i_le_f c_229
                refine lv_iload_n hx hb dL_sweep_232 rfl (lv_at hl 6 rfl) ?_
                refine lv_iload hx hb dL_sweep_233 (lv_at hl 8 rfl) ?_
                refine lv_iload hx hb dL_sweep_235 (lv_at hl 2 rfl) ?_
                refine lv_imul hx hb dL_sweep_237 ?_
                refine lv_isub hx hb dL_sweep_238 ?_
                refine lv_goto (tgt := 249) hx hb dL_sweep_239 (by decide) ?_
                refine lv_nm (y := swV (swa gg) (swb gg) (swst gg) la j) (swV_t c_229n) ?_
                exact tail249 trivial _ _ hPo hPp hS ls (lv_sub hl [3, 4, 5, 6, 7, 8, 9, 10, 11, 12, 13, 14, 15, 16, 17, 2, 1, 0] rfl)
            · -- 192 not taken
              have c_192n := i_le_f c_192
              refine lv_iload hx hb dL_sweep_195 (lv_at hl 14 rfl) ?_
              refine lv_goto (tgt := 207) hx hb dL_sweep_197 (by decide) ?_
              refine lv_nm (y := nI (if j ≤ la then j else 2 * la - j)) (stp_f (by have := nI_lt' (by omega) (by omega) c_192; omega)) ?_
              refine lv_istore (lv' := [(15, .int (nI (if j ≤ la then j else 2 * la - j))), (0, .ref (ad 0)), (1, .ref (aP ad 0)), (2, .int gg), (3, .int (swa gg)), (4, .int (swb gg)), (5, .int (swst gg)), (6, .int (sww gg)), (7, .int (swn gg)), (8, .int (swk gg)), (9, .int (nI (la + 1))), (10, .int (nI al)), (11, .int F.1), (12, .int (nI j)), (13, .int 0), (14, .int (nI j))]) hx hb dL_sweep_207 hl (by decide) rfl (fun ls hl => ?_)
              refine lv_aload_n hx hb dL_sweep_209 rfl (lv_at hl 2 rfl) ?_
              refine lv_iconst (v := 0) hx hb dL_sweep_210 rfl ?_
              refine qViF (As := [.int 0]) (rest := []) hx hb hml hown hts (kX3_now l g x (J_p hj) 0) gL_sweep_X3_now rfl 1 hdX3_now rfl ⟨Nat.le_of_ble_eq_true rfl, Nat.le_of_ble_eq_true rfl⟩ ⟨Nat.le_of_ble_eq_true rfl, Nat.le_of_ble_eq_true rfl⟩ hK hPp hS A_p 0 3 rfl rfl rfl hl.1 rfl (Nat.le_of_ble_eq_true rfl) dL_sweep_211 (fun H locs hz hk hPp hS => ?_)
              have hPo := P2_ko hj hPo hk
              refine lv_nm (y := inH x) (now_0 x) ?_
              refine lv_istore (lv' := [(16, .int (inH x)), (15, .int (nI (if j ≤ la then j else 2 * la - j))), (0, .ref (ad 0)), (1, .ref (aP ad 0)), (2, .int gg), (3, .int (swa gg)), (4, .int (swb gg)), (5, .int (swst gg)), (6, .int (sww gg)), (7, .int (swn gg)), (8, .int (swk gg)), (9, .int (nI (la + 1))), (10, .int (nI al)), (11, .int F.1), (12, .int (nI j)), (13, .int 0), (14, .int (nI j))]) hx hb dL_sweep_214 hl (by decide) rfl (fun ls hl => ?_)
              refine lv_aload_n hx hb dL_sweep_216 rfl (lv_at hl 3 rfl) ?_
              refine lv_iload hx hb dL_sweep_217 (lv_at hl 0 rfl) ?_
              refine lv_iconst (v := 4) hx hb dL_sweep_219 rfl ?_
              refine qViF (As := [.int (inH x), .int 4]) (rest := []) hx hb hml hown hts (kX3_ofPart l g x (J_p hj) (inH x) 4) gL_sweep_X3_ofPart rfl 2 hdX3_ofPart rfl ⟨Nat.le_of_ble_eq_true rfl, Nat.le_of_ble_eq_true rfl⟩ ⟨Nat.le_of_ble_eq_true rfl, Nat.le_of_ble_eq_true rfl⟩ hK hPp hS A_p 0 3 rfl rfl rfl hl.1 rfl (Nat.le_of_ble_eq_true rfl) dL_sweep_220 (fun H locs hz hk hPp hS => ?_)
              have hPo := P2_ko hj hPo hk
              refine lv_nm (y := (if x (10 + ix (inH x)) 1 = 0 then 0 else 1)) (ofp_4 (pOk_inH (on_hand hsw.2.2.1 hsw.2.2.2.2.2.2.2.2.2.1))) ?_
              refine lv_istore (lv' := [(17, .int (if x (10 + ix (inH x)) 1 = 0 then 0 else 1)), (16, .int (inH x)), (15, .int (nI (if j ≤ la then j else 2 * la - j))), (0, .ref (ad 0)), (1, .ref (aP ad 0)), (2, .int gg), (3, .int (swa gg)), (4, .int (swb gg)), (5, .int (swst gg)), (6, .int (sww gg)), (7, .int (swn gg)), (8, .int (swk gg)), (9, .int (nI (la + 1))), (10, .int (nI al)), (11, .int F.1), (12, .int (nI j)), (13, .int 0), (14, .int (nI j))]) hx hb dL_sweep_223 hl (by decide) rfl (fun ls hl => ?_)
              refine lv_aload_n hx hb dL_sweep_225 rfl (lv_at hl 4 rfl) ?_
              refine lv_iload hx hb dL_sweep_226 (lv_at hl 7 rfl) ?_
              refine lv_iload_n hx hb dL_sweep_228 rfl (lv_at hl 6 rfl) ?_
              refine lv_icmp_ge (tgt := 242) hx hb dL_sweep_229 (by decide) (fun c_229 => ?_) (fun c_229 => ?_)
              · -- 229 taken
                have c_229n := i_le_t c_229
                refine lv_iload_n hx hb dL_sweep_242 rfl (lv_at hl 6 rfl) ?_
                refine lv_iload hx hb dL_sweep_243 (lv_at hl 8 rfl) ?_
                refine lv_iload hx hb dL_sweep_245 (lv_at hl 2 rfl) ?_
                refine lv_imul hx hb dL_sweep_247 ?_
                refine lv_iadd hx hb dL_sweep_248 ?_
                refine lv_nm (y := swV (swa gg) (swb gg) (swst gg) la j) (swV_f c_229n) ?_
                exact tail249 trivial _ _ hPo hPp hS ls (lv_sub hl [3, 4, 5, 6, 7, 8, 9, 10, 11, 12, 13, 14, 15, 16, 17, 2, 1, 0] rfl)
              · -- 229 not taken
                have c_229n := i_le_f c_229
                refine lv_iload_n hx hb dL_sweep_232 rfl (lv_at hl 6 rfl) ?_
                refine lv_iload hx hb dL_sweep_233 (lv_at hl 8 rfl) ?_
                refine lv_iload hx hb dL_sweep_235 (lv_at hl 2 rfl) ?_
                refine lv_imul hx hb dL_sweep_237 ?_
                refine lv_isub hx hb dL_sweep_238 ?_
                refine lv_goto (tgt := 249) hx hb dL_sweep_239 (by decide) ?_
                refine lv_nm (y := swV (swa gg) (swb gg) (swst gg) la j) (swV_t c_229n) ?_
                exact tail249 trivial _ _ hPo hPp hS ls (lv_sub hl [3, 4, 5, 6, 7, 8, 9, 10, 11, 12, 13, 14, 15, 16, 17, 2, 1, 0] rfl)
    refine lv_iconst (v := 0) hx hb dL_sweep_167 rfl ?_
    refine lv_istore (lv' := [(12, .int 0), (0, .ref (ad 0)), (1, .ref (aP ad 0)), (2, .int gg), (3, .int (swa gg)), (4, .int (swb gg)), (5, .int (swst gg)), (6, .int (sww gg)), (7, .int (swn gg)), (8, .int (swk gg)), (9, .int (nI (la + 1))), (10, .int (nI al)), (11, .int F.1)]) hx hb dL_sweep_168 hl (by decide) rfl (fun ls hl => ?_)
    refine lv_iconst (v := 0) hx hb dL_sweep_170 rfl ?_
    refine lv_istore (lv' := [(13, .int 0), (12, .int 0), (0, .ref (ad 0)), (1, .ref (aP ad 0)), (2, .int gg), (3, .int (swa gg)), (4, .int (swb gg)), (5, .int (swst gg)), (6, .int (sww gg)), (7, .int (swn gg)), (8, .int (swk gg)), (9, .int (nI (la + 1))), (10, .int (nI al)), (11, .int F.1)]) hx hb dL_sweep_171 hl (by decide) rfl (fun ls hl => ?_)
    refine lv_iconst (v := 0) hx hb dL_sweep_173 rfl ?_
    refine lv_istore (lv' := [(14, .int 0), (13, .int 0), (12, .int 0), (0, .ref (ad 0)), (1, .ref (aP ad 0)), (2, .int gg), (3, .int (swa gg)), (4, .int (swb gg)), (5, .int (swst gg)), (6, .int (sww gg)), (7, .int (swn gg)), (8, .int (swk gg)), (9, .int (nI (la + 1))), (10, .int (nI al)), (11, .int F.1)]) hx hb dL_sweep_174 hl (by decide) rfl (fun ls hl => ?_)
    exact loop al 0 _ _ (by omega) (hst0 h60) _ _ hPo hPp hS ls (lv_sub hl [3, 4, 5, 6, 7, 8, 9, 10, 11, 12, 13, 14, 2, 1, 0] rfl)
  have tail122 : ∀ (_ : True), ∀ (H : Heap) (locs : List Loc), va_P g.1 vwCl (WX g ad (zu zo 0 3 0)) H → va_P g.1 vwCl (WX g (aP ad) (zu zp 0 3 0)) H → va_S (adOf 30 ad) s.heap H locs → ∀ ls : Array Slot, lv_has ls 18 [(0, .ref (ad 0)), (1, .ref (aP ad 0)), (2, .int gg), (3, .int (swa gg)), (4, .int (swb gg)), (5, .int (swst gg)), (6, .int (sww gg)), (7, .int (swn gg)), (8, .int (swk gg)), (9, .int (nI (la + 1))), (10, .int (nI al))] → W p l e (rmL 8) s m args below meth c H locs 0 0 (MQ below (va_Qi (fun q9 u9 => q9 = 1 ∧ (swPost zo zp) u9) (qU g (W2 g ad)) (adOf 30 ad)) args s 0 0 (adOf 30 ad)) (F0 m 122 ls []) := by
    intro _ H locs hPo hPp hS ls hl
    refine lv_aload_n hx hb dL_sweep_122 rfl (lv_at hl 0 rfl) ?_
    refine lv_iload_n hx hb dL_sweep_123 rfl (lv_at hl 3 rfl) ?_
    refine lv_iload hx hb dL_sweep_124 (lv_at hl 4 rfl) ?_
    refine lv_iload hx hb dL_sweep_126 (lv_at hl 5 rfl) ?_
    refine lv_iload hx hb dL_sweep_128 (lv_at hl 6 rfl) ?_
    refine lv_iload hx hb dL_sweep_130 (lv_at hl 7 rfl) ?_
    refine lv_iload hx hb dL_sweep_132 (lv_at hl 8 rfl) ?_
    refine qViF (As := [.int (swa gg), .int (swb gg), .int (swst gg), .int (sww gg), .int (swn gg), .int (swk gg)]) (rest := []) hx hb hml hown hts (kX3_sweep l g (zu zo 0 3 0) (J_o hj) (inv_clear hIo) (swa gg) (swb gg) (swst gg) (sww gg) (swn gg) (swk gg)) gL_sweep_X3_sweep rfl 6 hdX3_sweep rfl ⟨Nat.le_of_ble_eq_true rfl, Nat.le_of_ble_eq_true rfl⟩ ⟨Nat.le_of_ble_eq_true rfl, Nat.le_of_ble_eq_true rfl⟩ hK hPo hS A_o 0 3 rfl rfl rfl hl.1 rfl (Nat.le_of_ble_eq_true rfl) dL_sweep_134 (fun H locs hz hk hPo hS => ?_)
    have hPp := P2_kp hj hPp hk
    refine lv_nm (y := F.1) (congrArg Prod.fst hF.symm) ?_
    rw [← hF] at hPo
    refine lv_istore (lv' := [(11, .int F.1), (0, .ref (ad 0)), (1, .ref (aP ad 0)), (2, .int gg), (3, .int (swa gg)), (4, .int (swb gg)), (5, .int (swst gg)), (6, .int (sww gg)), (7, .int (swn gg)), (8, .int (swk gg)), (9, .int (nI (la + 1))), (10, .int (nI al))]) hx hb dL_sweep_137 hl (by decide) rfl (fun ls hl => ?_)
    refine lv_iload hx hb dL_sweep_139 (lv_at hl 11 rfl) ?_
    refine lv_bipush (v := 60) hx hb dL_sweep_141 (by decide) ?_
    refine lv_icmp_le (tgt := 167) hx hb dL_sweep_143 (by decide) (fun c_143 => ?_) (fun c_143 => ?_)
    · -- 143 taken
      have c_143n := i_le_t c_143
      exact tail167 trivial c_143n _ _ hPo hPp hS ls (lv_sub hl [1, 2, 3, 4, 5, 6, 7, 8, 9, 10, 11, 0] rfl)
    · -- 143 not taken
      have c_143n := i_le_f c_143
      have hFf : F = (-4, zu zo 0 3 0) := by rw [hF]; exact sw_full hok hon (by rw [← hall]; exact c_143n)
      have hF1 : F.1 = -4 := by rw [hFf]
      have hF2 : F.2 = zu zo 0 3 0 := by rw [hFf]
      refine lv_iload hx hb dL_sweep_146 (lv_at hl 0 rfl) ?_
      refine lv_bipush (v := -4) hx hb dL_sweep_148 (by decide) ?_
      refine lv_icmp_ne (tgt := 165) hx hb dL_sweep_150 (by decide) (fun c_150 => ?_) (fun c_150 => ?_)
      · -- 150 taken
        exact absurd hF1 c_150
      · -- 150 not taken
        refine lv_aload_n hx hb dL_sweep_153 rfl (lv_at hl 1 rfl) ?_
        refine lv_iconst (v := 1) hx hb dL_sweep_154 rfl ?_
        refine qViF (As := [.int 1]) (rest := []) hx hb hml hown hts (kX3_many l g F.2 (J_o hj) hIF 1) gL_sweep_X3_many rfl 1 hdX3_many rfl ⟨Nat.le_of_ble_eq_true rfl, Nat.le_of_ble_eq_true rfl⟩ ⟨Nat.le_of_ble_eq_true rfl, Nat.le_of_ble_eq_true rfl⟩ hK hPo hS A_o 0 3 rfl rfl rfl hl.1 rfl (Nat.le_of_ble_eq_true rfl) dL_sweep_155 (fun H locs hz hk hPo hS => ?_)
        have hPp := P2_kp hj hPp hk
        refine lv_nm (y := F.2 0 3) (many_1 _) ?_
        refine lv_if_ne (tgt := 165) hx hb dL_sweep_158 (by decide) (fun c_158 => ?_) (fun c_158 => ?_)
        · -- 158 taken
          exact absurd (by rw [hF2]; exact zu_same _ _ _ _) c_158
        · -- 158 not taken
          refine lv_iconst (v := 1) hx hb dL_sweep_161 rfl ?_
          refine lv_goto (tgt := 166) hx hb dL_sweep_162 (by decide) ?_
          exact qRzR hx hb hr hlk rfl (P2_mk hPo hPp) hK hS dL_sweep_166 rfl (sw_post0 hIo hIp hF2)
  refine lv_iload_n hx hb dL_sweep_0 rfl (lv_at hl 2 rfl) ?_
  refine lv_sipush (v := 1200) hx hb dL_sweep_1 (by decide) ?_
  refine qSiF (As := [.int gg, .int 1200]) (rest := []) hx hb hml hown hts (kL_low l g (Wd := qE) (A := fun _ => False) () gg 1200 (by decide)) gL_sweep_L_low rfl 2 hdL_low rfl ⟨Nat.le_of_ble_eq_true rfl, Nat.le_of_ble_eq_true rfl⟩ ⟨Nat.le_of_ble_eq_true rfl, Nat.le_of_ble_eq_true rfl⟩ hK P_e hS (fun _ h => h.elim) hl.1 rfl (Nat.le_of_ble_eq_true rfl) dL_sweep_4 (fun H locs hz hk _ hS => ?_)
  have hPo := P_all hPo hk
  have hPp := P_all hPp hk
  refine lv_sipush (v := 600) hx hb dL_sweep_7 (by decide) ?_
  refine lv_isub hx hb dL_sweep_10 ?_
  refine lv_nm (y := swa gg) rfl ?_
  refine lv_istore_n (lv' := [(3, .int (swa gg)), (0, .ref (ad 0)), (1, .ref (aP ad 0)), (2, .int gg)]) hx hb dL_sweep_11 rfl hl (by decide) rfl (fun ls hl => ?_)
  refine lv_iload_n hx hb dL_sweep_12 rfl (lv_at hl 3 rfl) ?_
  refine lv_iconst (v := 5) hx hb dL_sweep_13 rfl ?_
  refine lv_ishr hx hb dL_sweep_14 ?_
  refine lv_sipush (v := 1200) hx hb dL_sweep_15 (by decide) ?_
  refine qSiF (As := [.int (gg >>> ((5 : Int32) &&& 31)), .int 1200]) (rest := []) hx hb hml hown hts (kL_low l g (Wd := qE) (A := fun _ => False) () (gg >>> ((5 : Int32) &&& 31)) 1200 (by decide)) gL_sweep_L_low rfl 2 hdL_low rfl ⟨Nat.le_of_ble_eq_true rfl, Nat.le_of_ble_eq_true rfl⟩ ⟨Nat.le_of_ble_eq_true rfl, Nat.le_of_ble_eq_true rfl⟩ hK P_e hS (fun _ h => h.elim) hl.1 rfl (Nat.le_of_ble_eq_true rfl) dL_sweep_18 (fun H locs hz hk _ hS => ?_)
  have hPo := P_all hPo hk
  have hPp := P_all hPp hk
  refine lv_sipush (v := 600) hx hb dL_sweep_21 (by decide) ?_
  refine lv_isub hx hb dL_sweep_24 ?_
  refine lv_nm (y := swb gg) rfl ?_
  refine lv_istore (lv' := [(4, .int (swb gg)), (3, .int (swa gg)), (0, .ref (ad 0)), (1, .ref (aP ad 0)), (2, .int gg)]) hx hb dL_sweep_25 hl (by decide) rfl (fun ls hl => ?_)
  refine lv_bipush (v := 40) hx hb dL_sweep_27 (by decide) ?_
  refine lv_iload_n hx hb dL_sweep_29 rfl (lv_at hl 4 rfl) ?_
  refine lv_bipush (v := 9) hx hb dL_sweep_30 (by decide) ?_
  refine lv_ishr hx hb dL_sweep_32 ?_
  refine lv_sipush (v := 300) hx hb dL_sweep_33 (by decide) ?_
  refine qSiF (As := [.int (gg >>> ((9 : Int32) &&& 31)), .int 300]) (rest := [.int 40]) hx hb hml hown hts (kL_low l g (Wd := qE) (A := fun _ => False) () (gg >>> ((9 : Int32) &&& 31)) 300 (by decide)) gL_sweep_L_low rfl 2 hdL_low rfl ⟨Nat.le_of_ble_eq_true rfl, Nat.le_of_ble_eq_true rfl⟩ ⟨Nat.le_of_ble_eq_true rfl, Nat.le_of_ble_eq_true rfl⟩ hK P_e hS (fun _ h => h.elim) hl.1 rfl (Nat.le_of_ble_eq_true rfl) dL_sweep_36 (fun H locs hz hk _ hS => ?_)
  have hPo := P_all hPo hk
  have hPp := P_all hPp hk
  refine lv_iadd hx hb dL_sweep_39 ?_
  refine lv_nm (y := swst gg) rfl ?_
  refine lv_istore (lv' := [(5, .int (swst gg)), (4, .int (swb gg)), (3, .int (swa gg)), (0, .ref (ad 0)), (1, .ref (aP ad 0)), (2, .int gg)]) hx hb dL_sweep_40 hl (by decide) rfl (fun ls hl => ?_)
  refine lv_iconst (v := 1) hx hb dL_sweep_42 rfl ?_
  refine lv_iload_n hx hb dL_sweep_43 rfl (lv_at hl 5 rfl) ?_
  refine lv_bipush (v := 13) hx hb dL_sweep_44 (by decide) ?_
  refine lv_ishr hx hb dL_sweep_46 ?_
  refine lv_bipush (v := 20) hx hb dL_sweep_47 (by decide) ?_
  refine qSiF (As := [.int (gg >>> ((13 : Int32) &&& 31)), .int 20]) (rest := [.int 1]) hx hb hml hown hts (kL_low l g (Wd := qE) (A := fun _ => False) () (gg >>> ((13 : Int32) &&& 31)) 20 (by decide)) gL_sweep_L_low rfl 2 hdL_low rfl ⟨Nat.le_of_ble_eq_true rfl, Nat.le_of_ble_eq_true rfl⟩ ⟨Nat.le_of_ble_eq_true rfl, Nat.le_of_ble_eq_true rfl⟩ hK P_e hS (fun _ h => h.elim) hl.1 rfl (Nat.le_of_ble_eq_true rfl) dL_sweep_49 (fun H locs hz hk _ hS => ?_)
  have hPo := P_all hPo hk
  have hPp := P_all hPp hk
  refine lv_iadd hx hb dL_sweep_52 ?_
  refine lv_nm (y := sww gg) rfl ?_
  refine lv_istore (lv' := [(6, .int (sww gg)), (5, .int (swst gg)), (4, .int (swb gg)), (3, .int (swa gg)), (0, .ref (ad 0)), (1, .ref (aP ad 0)), (2, .int gg)]) hx hb dL_sweep_53 hl (by decide) rfl (fun ls hl => ?_)
  refine lv_iload_n hx hb dL_sweep_55 rfl (lv_at hl 6 rfl) ?_
  refine lv_bipush (v := 17) hx hb dL_sweep_56 (by decide) ?_
  refine lv_ishr hx hb dL_sweep_58 ?_
  refine lv_iconst (v := 4) hx hb dL_sweep_59 rfl ?_
  refine qSiF (As := [.int (gg >>> ((17 : Int32) &&& 31)), .int 4]) (rest := []) hx hb hml hown hts (kL_low l g (Wd := qE) (A := fun _ => False) () (gg >>> ((17 : Int32) &&& 31)) 4 (by decide)) gL_sweep_L_low rfl 2 hdL_low rfl ⟨Nat.le_of_ble_eq_true rfl, Nat.le_of_ble_eq_true rfl⟩ ⟨Nat.le_of_ble_eq_true rfl, Nat.le_of_ble_eq_true rfl⟩ hK P_e hS (fun _ h => h.elim) hl.1 rfl (Nat.le_of_ble_eq_true rfl) dL_sweep_60 (fun H locs hz hk _ hS => ?_)
  have hPo := P_all hPo hk
  have hPp := P_all hPp hk
  refine lv_nm (y := swn gg) rfl ?_
  refine lv_istore (lv' := [(7, .int (swn gg)), (6, .int (sww gg)), (5, .int (swst gg)), (4, .int (swb gg)), (3, .int (swa gg)), (0, .ref (ad 0)), (1, .ref (aP ad 0)), (2, .int gg)]) hx hb dL_sweep_63 hl (by decide) rfl (fun ls hl => ?_)
  refine lv_iload_n hx hb dL_sweep_65 rfl (lv_at hl 7 rfl) ?_
  refine lv_bipush (v := 20) hx hb dL_sweep_66 (by decide) ?_
  refine lv_ishr hx hb dL_sweep_68 ?_
  refine lv_iconst (v := 1) hx hb dL_sweep_69 rfl ?_
  refine lv_iand hx hb dL_sweep_70 ?_
  refine lv_nm (y := swk gg) rfl ?_
  refine lv_istore (lv' := [(8, .int (swk gg)), (7, .int (swn gg)), (6, .int (sww gg)), (5, .int (swst gg)), (4, .int (swb gg)), (3, .int (swa gg)), (0, .ref (ad 0)), (1, .ref (aP ad 0)), (2, .int gg)]) hx hb dL_sweep_71 hl (by decide) rfl (fun ls hl => ?_)
  refine lv_aload_n hx hb dL_sweep_73 rfl (lv_at hl 6 rfl) ?_
  refine qViF (As := []) (rest := []) hx hb hml hown hts (kX3_clear l g zo (J_o hj)) gL_sweep_X3_clear rfl 0 hdX3_clear rfl ⟨Nat.le_of_ble_eq_true rfl, Nat.le_of_ble_eq_true rfl⟩ ⟨Nat.le_of_ble_eq_true rfl, Nat.le_of_ble_eq_true rfl⟩ hK hPo hS A_o 0 3 rfl rfl rfl hl.1 rfl (Nat.le_of_ble_eq_true rfl) dL_sweep_74 (fun H locs hz hk hPo hS => ?_)
  have hPp := P2_kp hj hPp hk
  refine lv_nm (y := zo 0 3) (congrArg Prod.fst (show s_clear zo = (zo 0 3, zu zo 0 3 0) from rfl)) ?_
  rw [(show s_clear zo = (zo 0 3, zu zo 0 3 0) from rfl)] at hPo
  dsimp only at hPo
  refine lv_if_lt (tgt := 87) hx hb dL_sweep_77 (by decide) (fun c_77 => ?_) (fun c_77 => ?_)
  · -- 77 taken
    have c_77n := i_lt_t c_77
    exact absurd c_77 (rc_nn hIo)
  · -- 77 not taken
    have c_77n := i_lt_f c_77
    refine lv_aload_n hx hb dL_sweep_80 rfl (lv_at hl 7 rfl) ?_
    refine qViF (As := []) (rest := []) hx hb hml hown hts (kX3_clear l g zp (J_p hj)) gL_sweep_X3_clear rfl 0 hdX3_clear rfl ⟨Nat.le_of_ble_eq_true rfl, Nat.le_of_ble_eq_true rfl⟩ ⟨Nat.le_of_ble_eq_true rfl, Nat.le_of_ble_eq_true rfl⟩ hK hPp hS A_p 0 3 rfl rfl rfl hl.1 rfl (Nat.le_of_ble_eq_true rfl) dL_sweep_81 (fun H locs hz hk hPp hS => ?_)
    have hPo := P2_ko hj hPo hk
    refine lv_nm (y := zp 0 3) (congrArg Prod.fst (show s_clear zp = (zp 0 3, zu zp 0 3 0) from rfl)) ?_
    rw [(show s_clear zp = (zp 0 3, zu zp 0 3 0) from rfl)] at hPp
    dsimp only at hPp
    refine lv_if_ge (tgt := 89) hx hb dL_sweep_84 (by decide) (fun c_84 => ?_) (fun c_84 => ?_)
    · -- 84 taken
      have c_84n := i_le_t c_84
      refine lv_iload hx hb dL_sweep_89 (lv_at hl 4 rfl) ?_
      refine lv_iload_n hx hb dL_sweep_91 rfl (lv_at hl 5 rfl) ?_
      refine lv_isub hx hb dL_sweep_92 ?_
      refine qSiF (As := [.int ((swb gg) - (swa gg))]) (rest := []) hx hb hml hown hts (kL_size l g (Wd := qE) (A := fun _ => False) () ((swb gg) - (swa gg))) gL_sweep_L_size rfl 1 hdL_size rfl ⟨Nat.le_of_ble_eq_true rfl, Nat.le_of_ble_eq_true rfl⟩ ⟨Nat.le_of_ble_eq_true rfl, Nat.le_of_ble_eq_true rfl⟩ hK P_e hS (fun _ h => h.elim) hl.1 rfl (Nat.le_of_ble_eq_true rfl) dL_sweep_93 (fun H locs hz hk _ hS => ?_)
      have hPo := P_all hPo hk
      have hPp := P_all hPp hk
      refine lv_iload hx hb dL_sweep_96 (lv_at hl 3 rfl) ?_
      refine lv_idiv hx hb dL_sweep_98 (st_ne0 hst) ?_
      refine lv_iconst (v := 1) hx hb dL_sweep_99 rfl ?_
      refine lv_iadd hx hb dL_sweep_100 ?_
      refine lv_nm (y := nI (la + 1)) (by rw [hl6.2, hla]; exact nI_1 _) ?_
      refine lv_istore (lv' := [(9, .int (nI (la + 1))), (8, .int (swk gg)), (7, .int (swn gg)), (6, .int (sww gg)), (5, .int (swst gg)), (4, .int (swb gg)), (3, .int (swa gg)), (0, .ref (ad 0)), (1, .ref (aP ad 0)), (2, .int gg)]) hx hb dL_sweep_101 hl (by decide) rfl (fun ls hl => ?_)
      refine lv_iload hx hb dL_sweep_103 (lv_at hl 1 rfl) ?_
      refine lv_iconst (v := 1) hx hb dL_sweep_105 rfl ?_
      refine lv_icmp_ne (tgt := 118) hx hb dL_sweep_106 (by decide) (fun c_106 => ?_) (fun c_106 => ?_)
      · -- 106 taken
        refine lv_iload hx hb dL_sweep_118 (lv_at hl 0 rfl) ?_
        refine lv_nm (y := nI al) (by rw [ha2 c_106]) ?_
        refine lv_istore (lv' := [(10, .int (nI al)), (9, .int (nI (la + 1))), (8, .int (swk gg)), (7, .int (swn gg)), (6, .int (sww gg)), (5, .int (swst gg)), (4, .int (swb gg)), (3, .int (swa gg)), (0, .ref (ad 0)), (1, .ref (aP ad 0)), (2, .int gg)]) hx hb dL_sweep_120 hl (by decide) rfl (fun ls hl => ?_)
        exact tail122 trivial _ _ hPo hPp hS ls (lv_sub hl [8, 9, 10, 7, 6, 5, 4, 3, 2, 1, 0] rfl)
      · -- 106 not taken
        refine lv_iconst (v := 2) hx hb dL_sweep_109 rfl ?_
        refine lv_iload hx hb dL_sweep_110 (lv_at hl 0 rfl) ?_
        refine lv_imul hx hb dL_sweep_112 ?_
        refine lv_iconst (v := 1) hx hb dL_sweep_113 rfl ?_
        refine lv_isub hx hb dL_sweep_114 ?_
        refine lv_goto (tgt := 120) hx hb dL_sweep_115 (by decide) ?_
        refine lv_nm (y := nI al) (by rw [ha1 c_106, show 2 * nI (la + 1) - 1 = nI (2 * la + 1) from by rw [show (2 : Int32) = nI 2 from rfl, pk_mul, nI_m1 (by omega)]; exact congrArg nI (by omega)]) ?_
        refine lv_istore (lv' := [(10, .int (nI al)), (9, .int (nI (la + 1))), (8, .int (swk gg)), (7, .int (swn gg)), (6, .int (sww gg)), (5, .int (swst gg)), (4, .int (swb gg)), (3, .int (swa gg)), (0, .ref (ad 0)), (1, .ref (aP ad 0)), (2, .int gg)]) hx hb dL_sweep_120 hl (by decide) rfl (fun ls hl => ?_)
        exact tail122 trivial _ _ hPo hPp hS ls (lv_sub hl [8, 9, 10, 7, 6, 5, 4, 3, 2, 1, 0] rfl)
    · -- 84 not taken
      have c_84n := i_le_f c_84
      exact absurd (rc_ge hIp) c_84
