/-! A SWEEP AND ITS PULSES ONE BY ONE. -/
/-- alike but for readings and causes -/
def alk (y x : zS) : Prop := y 1 = x 1 ∧ (∀ n, n < 4 → y (10 + n) = x (10 + n)) ∧ y 0 0 = x 0 0 ∧ y 0 1 = x 0 1 ∧ y 0 2 = x 0 2
def swQ (j : Nat) (y x : zS) : Prop := alk y x ∧ y 0 3 = nI j ∧ x 0 3 = nI j ∧ ∀ k i, 2 ≤ k → k < 6 → i < j → y k i = x k i
theorem inH_a {y x : zS} (h : alk y x) : inH y = inH x := inH_cg (fun t => by rw [h.1]) (fun n hn => by rw [h.2.1 n hn]; exact ⟨rfl, rfl, rfl⟩)
theorem eqv_a {y x : zS} (h : alk y x) {i : Nat} (hi : i < 4) : eqv (10 + i) y x := ⟨h.1, h.2.1 i hi, h.2.2.2.1, h.2.2.2.2⟩
theorem alk_zup {A B : zS} (h : alk A B) (i k : Nat) (v : Int32) : alk (zu A (10 + i) k v) (zu B (10 + i) k v) := by
  refine ⟨?_, fun n hn => ?_, ?_, ?_, ?_⟩
  · rw [zu_row _ _ _ _ _ (by omega), zu_row _ _ _ _ _ (by omega)]; exact h.1
  · funext b; simp only [zu]; rw [h.2.1 n hn]
  · rw [zu_row _ _ _ _ _ (by omega), zu_row _ _ _ _ _ (by omega)]; exact h.2.2.1
  · rw [zu_row _ _ _ _ _ (by omega), zu_row _ _ _ _ _ (by omega)]; exact h.2.2.2.1
  · rw [zu_row _ _ _ _ _ (by omega), zu_row _ _ _ _ _ (by omega)]; exact h.2.2.2.2
theorem alk_zc {A B : zS} (h : alk A B) {k k' : Nat} (hk : 3 ≤ k) (hk' : 3 ≤ k') (v v' : Int32) : alk (zu A 0 k v) (zu B 0 k' v') := by
  refine ⟨?_, fun n hn => ?_, ?_, ?_, ?_⟩
  · rw [zu_row _ _ _ _ _ (by omega), zu_row _ _ _ _ _ (by omega)]; exact h.1
  · rw [zu_row _ _ _ _ _ (by omega), zu_row _ _ _ _ _ (by omega)]; exact h.2.1 n hn
  · rw [zu_col _ _ _ _ _ _ (by omega), zu_col _ _ _ _ _ _ (by omega)]; exact h.2.2.1
  · rw [zu_col _ _ _ _ _ _ (by omega), zu_col _ _ _ _ _ _ (by omega)]; exact h.2.2.2.1
  · rw [zu_col _ _ _ _ _ _ (by omega), zu_col _ _ _ _ _ _ (by omega)]; exact h.2.2.2.2
theorem puX_c {y x : zS} (h : alk y x) (hn : ¬ inH x = -9) (v : Int32) : alk (puX y v) (puX x v) := by
  have hi := (inH_lt hn).2.1
  have hc := alk_zc h (k := 4) (k' := 4) (by decide) (by decide) 0 0
  have E := eqv_a hc hi
  unfold puX
  rw [inH_a h]
  unfold opS
  rw [E.2.1, uF_c E, ownd_c E]
  split
  · exact alk_zup hc _ _ _
  · exact hc
theorem pu_c {y x : zS} (h : alk y x) (hn : ¬ inH x = -9) (v w : Int32) : puU y v = puU x v ∧ puA y v = puA x v ∧ puW y v w = puW x v w ∧ puB y v w = puB x v w := by
  have hi := (inH_lt hn).2.1
  have E := eqv_a (puX_c h hn v) hi
  have e := inH_a h
  have e1 : puU y v = puU x v := by unfold puU; rw [e, uF_c E]
  have e2 : puA y v = puA x v := by unfold puA; rw [e, e1, amp_c E]
  have e3 : puW y v w = puW x v w := by unfold puW; rw [e, e1, e2, h.2.1 _ hi]
  exact ⟨e1, e2, e3, by unfold puB; rw [e3, e, h.2.1 _ hi]⟩
theorem puS_2 (z : zS) (v w : Int32) : puS z v w (10 + ix (inH z)) 2 = if z (10 + ix (inH z)) 5 = 3 ∧ ¬ puX z v (10 + ix (inH z)) 2 = 0 ∧ ownd z (10 + ix (inH z)) (puA z v) < z (10 + ix (inH z)) 10 then 0 else puX z v (10 + ix (inH z)) 2 := by
  obtain ⟨r1, r2, r3, r4, r5⟩ := rd_at (puX z v) (ix (inH z)) v w
  have e : ownd (rdS (puX z v) (10 + ix (inH z)) v w).2 (10 + ix (inH z)) (puA z v) = ownd z (10 + ix (inH z)) (puA z v) := by
    unfold ownd
    rw [r4 3 (by decide) (by decide), puX_6 z v (by decide), rd_row _ _ _ _ (by decide), (addS_row _ _ _ _ _).1, puX_r z v (by decide)]
  unfold puS
  rw [e]
  unfold shutS
  rw [r4 5 (by decide) (by decide), r4 2 (by decide) (by decide), r4 10 (by decide) (by decide), puX_6 z v (by decide : ¬ 5 = 2), puX_6 z v (by decide : ¬ 10 = 2)]
  split
  · exact zu_same _ _ _ _
  · exact r4 2 (by decide) (by decide)
theorem puS_c {y x : zS} (h : alk y x) (hn : ¬ inH x = -9) (v w : Int32) : alk (puS y v w) (puS x v w) := by
  have hi := (inH_lt hn).2.1
  have e := inH_a h
  obtain ⟨e1, e2, e3, e4⟩ := pu_c h hn v w
  have hX := puX_c h hn v
  obtain ⟨a1, a2, a3, a4, a5⟩ := puS_p y v w
  obtain ⟨b1, b2, b3, b4, b5⟩ := puS_p x v w
  have a6 := puS_2 y v w
  have b6 := puS_2 x v w
  rw [e] at a1 a2 a3 a4 a5 a6
  have hp := h.2.1 _ hi
  refine ⟨by rw [puS_1, puS_1]; exact h.1, fun n hn4 => ?_, ?_, ?_, ?_⟩
  · by_cases c : n = ix (inH x)
    · rw [c]
      funext k
      by_cases c6 : k = 6
      · rw [c6, a1, b1, e3]
      by_cases c1 : k = 1
      · rw [c1, a2, b2, e4, hp]
      by_cases c2 : k = 2
      · rw [c2, a6, b6, hp, e2, ownd_c (eqv_a h hi), hX.2.1 _ hi]
      · rw [a3 k c6 c1 c2, b3 k c6 c1 c2, hp]
    · rw [a5 n c, b5 n c]; exact h.2.1 n hn4
  · rw [puS_0 y v w (by decide), puS_0 x v w (by decide), if_neg (by decide), if_neg (by decide)]; exact h.2.2.1
  · rw [puS_0 y v w (by decide), puS_0 x v w (by decide), if_neg (by decide), if_neg (by decide)]; exact h.2.2.2.1
  · rw [puS_0 y v w (by decide), puS_0 x v w (by decide), if_neg (by decide), if_neg (by decide)]; exact h.2.2.2.2
theorem swQ_pu {j : Nat} {y x : zS} (h : swQ j y x) (hj : j < 60) (hn : ¬ inH x = -9) (v w : Int32) : swQ (j + 1) (puS y v w) (puS x v w) := by
  obtain ⟨ha, h3, h3x, hr⟩ := h
  have hi := (inH_lt hn).2.1
  obtain ⟨e1, e2, e3, e4⟩ := pu_c ha hn v w
  have E := eqv_a (puX_c ha hn v) hi
  obtain ⟨a1, a2, a3, a4, a5⟩ := puS_had y v w
  obtain ⟨b1, b2, b3, b4, b5⟩ := puS_had x v w
  have ej : ix (nI j) = j := ix_nI (by omega)
  rw [h3, ej] at a1 a2 a3 a4 a5
  rw [h3x, ej] at b1 b2 b3 b4 b5
  refine ⟨puS_c ha hn v w, by rw [puS_03, h3]; exact nI_1 j, by rw [puS_03, h3x]; exact nI_1 j, fun k i h1 h2 h4 => ?_⟩
  by_cases c : i = j
  · rw [c]
    rcases (show k = 2 ∨ k = 3 ∨ k = 4 ∨ k = 5 by omega) with rfl | rfl | rfl | rfl
    · rw [a1, b1]
    · rw [a2, b2, e1, e2, tld_c E]
    · rw [a3, b3, e2]
    · rw [a4, b4, e1, inH_a ha, ru_c E]
  · rw [a5 k i h1 h2 c, b5 k i h1 h2 c]; exact hr k i h1 h2 (by omega)
theorem cool_A (z : zS) (k a b : Nat) : coolA z k a b = if b = 6 ∧ 10 ≤ a ∧ a < 14 then coolN k (z a 6) else z a b := cool_at k 4 0 z a b
theorem cool_low (z : zS) (k : Nat) {a : Nat} (h : a < 10) : coolA z k a = z a := by
  funext b; rw [cool_A, if_neg (by omega)]
theorem alk_cool {y x : zS} (h : alk y x) (k : Nat) : alk (coolA y k) (coolA x k) := by
  refine ⟨by rw [cool_low _ _ (by decide), cool_low _ _ (by decide)]; exact h.1, fun n hn => ?_, ?_, ?_, ?_⟩
  · funext b; rw [cool_A, cool_A, h.2.1 n hn]
  · rw [cool_low _ _ (by decide), cool_low _ _ (by decide)]; exact h.2.2.1
  · rw [cool_low _ _ (by decide), cool_low _ _ (by decide)]; exact h.2.2.2.1
  · rw [cool_low _ _ (by decide), cool_low _ _ (by decide)]; exact h.2.2.2.2
theorem swQ_cool {j : Nat} {y x : zS} (h : swQ j y x) (k : Nat) : swQ j (coolA y k) (coolA x k) := by
  refine ⟨alk_cool h.1 k, by rw [cool_low _ _ (by decide)]; exact h.2.1, by rw [cool_low _ _ (by decide)]; exact h.2.2.1, fun a i h1 h2 h4 => ?_⟩
  rw [cool_low _ _ (by omega), cool_low _ _ (by omega)]; exact h.2.2.2 a i h1 h2 h4
theorem keep_cool (z : zS) (k : Nat) : keepP (coolA z k) z := by
  refine ⟨by rw [cool_low _ _ (by decide)], by rw [cool_low _ _ (by decide)], by rw [cool_low _ _ (by decide)], fun t => by rw [cool_low _ _ (by decide)], fun n hn => ?_⟩
  rw [cool_A, cool_A, cool_A, if_neg (by omega), if_neg (by omega), if_neg (by omega)]; exact ⟨rfl, rfl, rfl⟩
/-- the readings' bounds -/
def qRd (z : zS) : Prop := ∀ i, i < ix (z 0 3) → -3000 ≤ (z 3 i).toInt ∧ (z 3 i).toInt ≤ 3000 ∧ -21000 ≤ (z 4 i).toInt ∧ (z 4 i).toInt ≤ 21000
theorem tld_b {z : zS} (hI : qInv z) {v : Int32} (hv : inR v (-3000) 3000 = true) (hn : ¬ inH z = -9) : -3000 ≤ (tldF (puX z v) (puU z v) (puA z v)).toInt ∧ (tldF (puX z v) (puU z v) (puA z v)).toInt ≤ 3000 := by
  obtain ⟨h1, h2, h3, h4, h5, h6⟩ := pulse_lim hI hv hn
  have hs := uF_sgn (z := puX z v) (p := 10 + ix (inH z)) hv
  have hi := (inH_lt hn).2.1
  have hl := (inv_opS (inv_cc0 hI) hi v).2.2.1
  have hd := dropF_Z (z := puX z v) hl h5 h6
  have hb : -8000 ≤ (tldF (puX z v) (puU z v) (puA z v)).toInt ∧ (tldF (puX z v) (puU z v) (puA z v)).toInt ≤ 8000 := by
    unfold tldF
    split
    · omega
    · rw [fb_addI (by omega) (by omega)]; omega
  rw [Int32.le_iff_toInt_le, absI_N (x := tldF (puX z v) (puU z v) (puA z v)) (by omega), hs.2.2.2.1, nI_toInt (by omega)] at h2
  omega
theorem qRd_pu {z : zS} (h : qRd z) (hI : qInv z) {v : Int32} (hv : inR v (-3000) 3000 = true) (hn : ¬ inH z = -9) (w : Int32) : qRd (puS z v w) := by
  obtain ⟨a1, a2, a3, a4, a5⟩ := puS_had z v w
  have hb := tld_b hI hv hn
  have hl := pulse_lim hI hv hn
  obtain ⟨c1, c2, c3⟩ := inR_ix (n := 60) rfl (inv_rc hI)
  intro i hi
  rw [puS_03, c2, nI_1, ix_nI (by omega)] at hi
  by_cases c : i = ix (z 0 3)
  · rw [c, a2, a3]; exact ⟨hb.1, hb.2, hl.2.2.2.2.1, hl.2.2.2.2.2⟩
  · rw [a5 3 i (by decide) (by decide) c, a5 4 i (by decide) (by decide) c]; exact h i (by omega)
theorem qRd_of {y z : zS} (h : qRd z) (h0 : y 0 3 = z 0 3) (h3 : y 3 = z 3) (h4 : y 4 = z 4) : qRd y := fun i hi => by
  rw [h3, h4]; exact h i (by rw [← h0]; exact hi)
theorem qRd_cool {z : zS} (h : qRd z) (k : Nat) : qRd (coolA z k) := qRd_of h (by rw [cool_low _ _ (by decide)]) (cool_low _ _ (by decide)) (cool_low _ _ (by decide))
theorem pulS_eq {z : zS} (h4 : z 0 4 = 0) (v w : Int32) : pulS z (10 + ix (inH z)) v w = (if puB z v w = true then puW z v w - 999 else 0, puS z v w) := by
  have ez : zu z 0 4 0 = z := by
    have := zu_self z 0 4
    rw [h4] at this; exact this
  have e1 : (pulS (zu z 0 4 0) (10 + ix (inH z)) v w).1 = if puB z v w = true then puW z v w - 999 else 0 := by
    show (rdS (puX z v) (10 + ix (inH z)) v w).1 = _
    rw [(rd_at _ _ _ _).2.2.1]
    rw [puX_6 z v (by decide : ¬ 6 = 2), puX_6 z v (by decide : ¬ 1 = 2)]
    show (if puW z v w < 1000 ∨ ¬ z (10 + ix (inH z)) 1 = 0 then 0 else puW z v w - 999) = _
    unfold puB
    by_cases h1 : puW z v w < 1000
    · rw [if_pos (Or.inl h1)]; simp [h1]
    · by_cases h2 : z (10 + ix (inH z)) 1 = 0
      · rw [if_neg (fun q => q.elim h1 (fun q => q h2))]; simp [h1, h2]
      · rw [if_pos (Or.inr h2)]; simp [h2]
  have e2 : (pulS (zu z 0 4 0) (10 + ix (inH z)) v w).2 = puS z v w := rfl
  rw [ez] at e1 e2
  exact Prod.ext (by dsimp only; exact e1) (by dsimp only; exact e2)
theorem puB_pos {z : zS} {v w : Int32} (h : puB z v w = true) : 0 < puW z v w - 999 := by
  unfold puB at h
  rw [Bool.and_eq_true, decide_eq_true_eq] at h
  have h1 := Int32.le_iff_toInt_le.mp (i_lt_f h.1)
  have h2 := fb_rng (puW z v w)
  have e4 : (1000 : Int32).toInt = 1000 := rfl
  have e5 : (999 : Int32).toInt = 999 := rfl
  rw [e4] at h1
  rw [Int32.lt_iff_toInt_lt, i0, fb_subI (by rw [e5]; omega) (by rw [e5]; omega), e5]; omega
theorem inv_puS {z : zS} (hI : qInv z) (h4 : z 0 4 = 0) {v w : Int32} (hv : inR v (-3000) 3000 = true) (hw : inR w 1 50 = true) (hn : ¬ inH z = -9) (hnf : ¬ z 0 3 = 60) : qInv (puS z v w) ∧ keepP (puS z v w) z ∧ puS z v w 0 4 = 0 := by
  have e : (pulS z (10 + ix (inH z)) v w).2 = puS z v w := by rw [pulS_eq h4]
  have hi := (inH_lt hn).2.1
  have h1 := inv_pulS hI hi hv hw hnf
  have h2 := (pulS_low (z := z) (i := ix (inH z)) v w).1
  rw [e] at h1 h2
  exact ⟨h1, h2, by rw [puS_0 z v w (by decide), if_pos rfl]⟩
theorem put_why {z : zS} (h : z 0 4 = 0) (k n ab : Int32) : s_why (tellS (putS z 1 k) n ab) 0 0 = 1 ∧ s_why (tellS (putS z 1 k) n ab) 0 1 = k ∧ s_why (tellS (putS z 1 k) n ab) 1 1 = n ∧ s_why (tellS (putS z 1 k) n ab) 2 1 = ab := by
  have e : putS z 1 k = zu (zu (zu z 6 0 1) 7 0 k) 0 4 1 := by
    unfold putS; rw [if_pos (by rw [h]; decide), h]; rfl
  have e1 : putS (putS z 1 k) 2 n = zu (zu (zu (zu (zu (zu z 6 0 1) 7 0 k) 0 4 1) 6 1 2) 7 1 n) 0 4 2 := by
    rw [e]; unfold putS; rw [if_pos (by rw [zu_same]; decide), zu_same]; rfl
  have e2 : tellS (putS z 1 k) n ab = zu (zu (zu (zu (zu (zu (zu (zu (zu z 6 0 1) 7 0 k) 0 4 1) 6 1 2) 7 1 n) 0 4 2) 6 2 3) 7 2 ab) 0 4 3 := by
    unfold tellS; rw [e1]; unfold putS; rw [if_pos (by rw [zu_same]; decide), zu_same]; rfl
  rw [e2]
  refine ⟨?_, ?_, ?_, ?_⟩
  · unfold s_why; rw [if_pos (by decide), zu_same, if_neg (by decide), if_pos rfl, show ix (0 : Int32) = 0 from rfl]; simp [zu]
  · unfold s_why; rw [if_pos (by decide), zu_same, if_neg (by decide), if_neg (by decide), show ix (0 : Int32) = 0 from rfl]; simp [zu]
  · unfold s_why; rw [if_pos (by decide), zu_same, if_neg (by decide), if_neg (by decide), show ix (1 : Int32) = 1 from rfl]; simp [zu]
  · unfold s_why; rw [if_pos (by decide), zu_same, if_neg (by decide), if_neg (by decide), show ix (2 : Int32) = 2 from rfl]; simp [zu]
