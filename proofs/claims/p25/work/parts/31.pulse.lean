/-! WHAT A PULSE LEAVES BEHIND. -/
/-- two states alike in what is found at the part p -/
def eqv (p : Nat) (y x : zS) : Prop := y 1 = x 1 ∧ y p = x p ∧ y 0 1 = x 0 1 ∧ y 0 2 = x 0 2
theorem hl_c {y x : zS} (h : y 1 = x 1) : hlB y = hlB x := by unfold hlB; rw [h]
theorem four_c {y x : zS} (h : y 1 = x 1) : fourB y = fourB x := by unfold fourB; rw [hl_c h, h]
theorem ownd_c {p : Nat} {y x : zS} (h : eqv p y x) (a : Int32) : ownd y p a = ownd x p a := by unfold ownd; rw [h.1, h.2.1]
theorem amp_c {p : Nat} {y x : zS} (h : eqv p y x) (a : Int32) : ampF y p a = ampF x p a := by unfold ampF; rw [ownd_c h, ownd_c h, h.2.1]
theorem drop_c {p : Nat} {y x : zS} (h : eqv p y x) (a : Int32) : dropF y a = dropF x a := by unfold dropF; rw [h.2.2.2]
theorem al_c {p : Nat} {y x : zS} (h : eqv p y x) (a : Int32) : alB y p a = alB x p a := by unfold alB; rw [amp_c h, h.2.2.1]
theorem aw_c {p : Nat} {y x : zS} (h : eqv p y x) (a v : Int32) : awB y p a v = awB x p a v := by unfold awB; rw [al_c h, amp_c h, drop_c h, four_c h.1]
theorem uN_c {p : Nat} {y x : zS} (h : eqv p y x) (v : Int32) : uN y p v = uN x p v := by
  unfold uN
  rw [show (fun k => awB y p (sgn v * nI k) v) = (fun k => awB x p (sgn v * nI k) v) from funext (fun k => aw_c h _ _)]
theorem uF_c {p : Nat} {y x : zS} (h : eqv p y x) (v : Int32) : uF y p v = uF x p v := by unfold uF; rw [uN_c h]
theorem ru_c {p : Nat} {y x : zS} (h : eqv p y x) (u v : Int32) : ruF y p u v = ruF x p u v := by unfold ruF; rw [al_c h]
theorem tld_c {p : Nat} {y x : zS} (h : eqv p y x) (u a : Int32) : tldF y u a = tldF x u a := by unfold tldF; rw [four_c h.1, drop_c h]
theorem cc0_eqv (z : zS) (i : Nat) : eqv (10 + i) (zu z 0 4 0) z := ⟨zu_row _ _ _ _ _ (by decide), zu_row _ _ _ _ _ (by omega), zu_col _ _ _ _ _ _ (by decide), zu_col _ _ _ _ _ _ (by decide)⟩
theorem put_row {z : zS} (s n : Int32) {r : Nat} (h : ¬ r = 0 ∧ ¬ r = 6 ∧ ¬ r = 7) : putS z s n r = z r := by
  unfold putS
  split
  · rw [zu_row _ _ _ _ _ h.1, zu_row _ _ _ _ _ h.2.2, zu_row _ _ _ _ _ h.2.1]
  · rfl
theorem tell_row {z : zS} (n a : Int32) {r : Nat} (h : ¬ r = 0 ∧ ¬ r = 6 ∧ ¬ r = 7) : tellS z n a r = z r := (put_row _ _ h).trans (put_row _ _ h)
theorem tell_p {z : zS} (n a : Int32) (k : Nat) : tellS z n a (10 + k) = z (10 + k) := (put_p _ _ k).trans (put_p _ _ k)
theorem tell_why {x : zS} (h : x 0 4 = 0) (n ab : Int32) : s_why (tellS x n ab) 0 0 = 2 ∧ s_why (tellS x n ab) 0 1 = n ∧ s_why (tellS x n ab) 1 0 = 3 ∧ s_why (tellS x n ab) 1 1 = ab ∧ s_why (tellS x n ab) 2 0 = -9 := by
  have e : putS x 2 n = zu (zu (zu x 6 0 2) 7 0 n) 0 4 1 := by
    unfold putS; rw [if_pos (by rw [h]; decide), h]; rfl
  have e2 : tellS x n ab = zu (zu (zu (zu (zu (zu x 6 0 2) 7 0 n) 0 4 1) 6 1 3) 7 1 ab) 0 4 2 := by
    unfold tellS; rw [e]; unfold putS; rw [if_pos (by rw [zu_same]; decide), zu_same]; rfl
  rw [e2]
  refine ⟨?_, ?_, ?_, ?_, ?_⟩
  · unfold s_why; rw [if_pos (by decide), zu_same, if_neg (by decide), if_pos rfl, show ix (0 : Int32) = 0 from rfl]; simp [zu]
  · unfold s_why; rw [if_pos (by decide), zu_same, if_neg (by decide), if_neg (by decide), show ix (0 : Int32) = 0 from rfl]; simp [zu]
  · unfold s_why; rw [if_pos (by decide), zu_same, if_neg (by decide), if_pos rfl, show ix (1 : Int32) = 1 from rfl]; simp [zu]
  · unfold s_why; rw [if_pos (by decide), zu_same, if_neg (by decide), if_neg (by decide), show ix (1 : Int32) = 1 from rfl]; simp [zu]
  · unfold s_why; rw [if_pos (by decide), zu_same, if_pos (by decide)]
theorem why_0 {x : zS} (h : x 0 4 = 0) (w : Int32) (hw : inR w 0 1 = true) : s_why x 0 w = -9 := by
  unfold s_why; rw [if_pos ⟨by decide, hw⟩, h, if_pos (by decide)]
theorem addS_row (z : zS) (v t a r : Int32) : addS z v t a r 1 = z 1 ∧ addS z v t a r 2 (ix (z 0 3)) = v ∧ addS z v t a r 3 (ix (z 0 3)) = t ∧ addS z v t a r 4 (ix (z 0 3)) = a ∧ addS z v t a r 5 (ix (z 0 3)) = r ∧ ∀ k j, 2 ≤ k → k < 6 → ¬ j = ix (z 0 3) → addS z v t a r k j = z k j := by
  unfold addS
  refine ⟨by funext b; simp [zu], by simp [zu], by simp [zu], by simp [zu], by simp [zu], fun k j h1 h2 h3 => ?_⟩
  rw [zu_row _ _ _ _ _ (by omega), zu_col _ _ _ _ _ _ h3, zu_col _ _ _ _ _ _ h3, zu_col _ _ _ _ _ _ h3, zu_col _ _ _ _ _ _ h3]
theorem addS_low (z : zS) (v t a r : Int32) {j : Nat} (h : ¬ j = 3) : addS z v t a r 0 j = z 0 j := by
  unfold addS
  rw [zu_col _ _ _ _ _ _ h, zu_row _ _ _ _ _ (by decide), zu_row _ _ _ _ _ (by decide), zu_row _ _ _ _ _ (by decide), zu_row _ _ _ _ _ (by decide)]
theorem opS_eq (z : zS) (p : Nat) (v : Int32) (h : ¬ snB (z p) (ownd z p (uF z p v)) = true) : opS z p v = z := by unfold opS; rw [if_neg h]
/-- the part's row behind pulS, by columns -/
theorem rd_at (x : zS) (i : Nat) (v w : Int32) : (rdS x (10 + i) v w).2 (10 + i) 6 = minI (wldF (x (10 + i) 6) (uF x (10 + i) v) (ampF x (10 + i) (uF x (10 + i) v)) w) 1000
    ∧ (rdS x (10 + i) v w).2 (10 + i) 1 = (if wldF (x (10 + i) 6) (uF x (10 + i) v) (ampF x (10 + i) (uF x (10 + i) v)) w < 1000 ∨ ¬ x (10 + i) 1 = 0 then x (10 + i) 1 else 1)
    ∧ (rdS x (10 + i) v w).1 = (if wldF (x (10 + i) 6) (uF x (10 + i) v) (ampF x (10 + i) (uF x (10 + i) v)) w < 1000 ∨ ¬ x (10 + i) 1 = 0 then 0 else wldF (x (10 + i) 6) (uF x (10 + i) v) (ampF x (10 + i) (uF x (10 + i) v)) w - 999)
    ∧ (∀ k, ¬ k = 6 → ¬ k = 1 → (rdS x (10 + i) v w).2 (10 + i) k = x (10 + i) k)
    ∧ (∀ n, ¬ n = i → (rdS x (10 + i) v w).2 (10 + n) = x (10 + n)) := by
  by_cases hc : wldF (x (10 + i) 6) (uF x (10 + i) v) (ampF x (10 + i) (uF x (10 + i) v)) w < 1000 ∨ ¬ x (10 + i) 1 = 0
  · have e : rdS x (10 + i) v w = (0, zu (addS x v (tldF x (uF x (10 + i) v) (ampF x (10 + i) (uF x (10 + i) v))) (ampF x (10 + i) (uF x (10 + i) v)) (ruF x (10 + i) (uF x (10 + i) v) v)) (10 + i) 6 (minI (wldF (x (10 + i) 6) (uF x (10 + i) v) (ampF x (10 + i) (uF x (10 + i) v)) w) 1000)) := by
      unfold rdS warmS; rw [addS_p, if_pos hc]
    rw [e, if_pos hc, if_pos hc]
    refine ⟨zu_same _ _ _ _, ?_, rfl, fun k h1 h2 => ?_, fun n hn => ?_⟩
    · show zu _ _ _ _ _ _ = _
      rw [zu_col _ _ _ _ _ _ (by decide), addS_p]
    · show zu _ _ _ _ _ _ = _
      rw [zu_col _ _ _ _ _ _ h1, addS_p]
    · show zu _ _ _ _ _ = _
      rw [zu_row _ _ _ _ _ (by omega), addS_p]
  · have e : rdS x (10 + i) v w = (wldF (x (10 + i) 6) (uF x (10 + i) v) (ampF x (10 + i) (uF x (10 + i) v)) w - 999, zu (zu (addS x v (tldF x (uF x (10 + i) v) (ampF x (10 + i) (uF x (10 + i) v))) (ampF x (10 + i) (uF x (10 + i) v)) (ruF x (10 + i) (uF x (10 + i) v) v)) (10 + i) 6 (minI (wldF (x (10 + i) 6) (uF x (10 + i) v) (ampF x (10 + i) (uF x (10 + i) v)) w) 1000)) (10 + i) 1 1) := by
      unfold rdS warmS; rw [addS_p, if_neg hc]
    rw [e, if_neg hc, if_neg hc]
    refine ⟨?_, zu_same _ _ _ _, rfl, fun k h1 h2 => ?_, fun n hn => ?_⟩
    · show zu _ _ _ _ _ _ = _
      rw [zu_col _ _ _ _ _ _ (by decide), zu_same]
    · show zu _ _ _ _ _ _ = _
      rw [zu_col _ _ _ _ _ _ h2, zu_col _ _ _ _ _ _ h1, addS_p]
    · show zu _ _ _ _ _ = _
      rw [zu_row _ _ _ _ _ (by omega), zu_row _ _ _ _ _ (by omega), addS_p]
theorem shut_at (x : zS) (i : Nat) (a : Int32) : (∀ k, ¬ k = 2 → shutS x (10 + i) a (10 + i) k = x (10 + i) k) ∧ (x (10 + i) 5 = 3 → a < x (10 + i) 10 → shutS x (10 + i) a (10 + i) 2 = 0) ∧ (∀ n, ¬ n = i → shutS x (10 + i) a (10 + n) = x (10 + n)) := by
  unfold shutS
  split
  · refine ⟨fun k h => zu_col _ _ _ _ _ _ h, fun _ _ => zu_same _ _ _ _, fun n hn => zu_row _ _ _ _ _ (by omega)⟩
  · rename_i h
    refine ⟨fun k h => rfl, fun h1 h2 => ?_, fun n hn => rfl⟩
    exact Classical.not_not.mp (fun q => h ⟨h1, q, h2⟩)
theorem opS_at (x : zS) (i : Nat) (v : Int32) : (∀ k, ¬ k = 2 → opS x (10 + i) v (10 + i) k = x (10 + i) k) ∧ (∀ n, ¬ n = i → opS x (10 + i) v (10 + n) = x (10 + n)) := by
  unfold opS
  split
  · exact ⟨fun k h => zu_col _ _ _ _ _ _ h, fun n hn => zu_row _ _ _ _ _ (by omega)⟩
  · exact ⟨fun _ _ => rfl, fun _ _ => rfl⟩
/-- the state ahead of a pulse's reading: what opens is open -/
def puX (z : zS) (v : Int32) : zS := opS (zu z 0 4 0) (10 + ix (inH z)) v
def puU (z : zS) (v : Int32) : Int32 := uF (puX z v) (10 + ix (inH z)) v
def puA (z : zS) (v : Int32) : Int32 := ampF (puX z v) (10 + ix (inH z)) (puU z v)
def puW (z : zS) (v w : Int32) : Int32 := wldF (z (10 + ix (inH z)) 6) (puU z v) (puA z v) w
def puB (z : zS) (v w : Int32) : Bool := decide (¬ puW z v w < 1000) && decide (z (10 + ix (inH z)) 1 = 0)
theorem puX_6 (z : zS) (v : Int32) {k : Nat} (h : ¬ k = 2) : puX z v (10 + ix (inH z)) k = z (10 + ix (inH z)) k := by
  unfold puX
  rw [(opS_at _ _ _).1 k h, zu_row _ _ _ _ _ (by omega)]
theorem puX_03 (z : zS) (v : Int32) {k : Nat} (h : ¬ k = 4) : puX z v 0 k = z 0 k := by
  unfold puX
  rw [opS_low v (by decide : 0 < 10), zu_col _ _ _ _ _ _ h]
theorem puX_04 (z : zS) (v : Int32) : puX z v 0 4 = 0 := by
  unfold puX
  rw [opS_low v (by decide : 0 < 10), zu_same]
theorem puX_r (z : zS) (v : Int32) {r : Nat} (h : 1 ≤ r ∧ r < 10) : puX z v r = z r := by
  unfold puX
  rw [opS_low v h.2, zu_row _ _ _ _ _ (by omega)]
/-- where nothing opens the state is the one that would() told of -/
theorem puX_no {z : zS} {v : Int32} (h : ¬ snB (z (10 + ix (inH z))) (ownd z (10 + ix (inH z)) (uF z (10 + ix (inH z)) v)) = true) : eqv (10 + ix (inH z)) (puX z v) z := by
  have e := cc0_eqv z (ix (inH z))
  unfold puX
  rw [opS_eq _ _ _ (by rw [e.2.1, uF_c e, ownd_c e]; exact h)]
  exact e
/-- what a pulse leaves: S without its causes -/
def puS (z : zS) (v w : Int32) : zS := shutS (rdS (puX z v) (10 + ix (inH z)) v w).2 (10 + ix (inH z)) (ownd (rdS (puX z v) (10 + ix (inH z)) v w).2 (10 + ix (inH z)) (puA z v))
theorem pulse_eq {z : zS} {v w : Int32} (hv : inR v (-3000) 3000 = true) (hw : inR w 1 50 = true) (hon : ¬ z 0 0 = 0) (hnf : ¬ z 0 3 = 60) :
    s_pulse z v w = if puB z v w = true then (z 0 3 + 1, tellS (puS z v w) (inH z) (puW z v w - 999))
      else (z 0 3 + 1, puS z v w) := by
  have e1 : (pulS (zu z 0 4 0) (10 + ix (inH z)) v w).1 = if puB z v w = true then puW z v w - 999 else 0 := by
    show (rdS (puX z v) (10 + ix (inH z)) v w).1 = _
    rw [(rd_at _ _ _ _).2.2.1]
    rw [puX_6 z v (by decide : ¬ 6 = 2), puX_6 z v (by decide : ¬ 1 = 2)]
    show (if puW z v w < 1000 ∨ ¬ z (10 + ix (inH z)) 1 = 0 then 0 else puW z v w - 999) = _
    unfold puB
    by_cases h1 : puW z v w < 1000
    · rw [if_pos (Or.inl h1)]; simp [h1]
    · by_cases h2 : z (10 + ix (inH z)) 1 = 0
      · rw [if_neg (fun q => q.elim h1 (fun q => q h2))]; simp [h1, h2]
      · rw [if_pos (Or.inr h2)]; simp [h2]
  have e3 : (pulS (zu z 0 4 0) (10 + ix (inH z)) v w).2 0 3 = z 0 3 + 1 := by
    rw [(pulS_low v w).2.1, zu_col _ _ _ _ _ _ (by decide)]
  have e2 : (pulS (zu z 0 4 0) (10 + ix (inH z)) v w).2 = puS z v w := rfl
  have hpos : puB z v w = true → 0 < puW z v w - 999 := fun h => by
    unfold puB at h
    rw [Bool.and_eq_true, decide_eq_true_eq] at h
    have h1 := Int32.le_iff_toInt_le.mp (i_lt_f h.1)
    have h2 := fb_rng (puW z v w)
    have e4 : (1000 : Int32).toInt = 1000 := rfl
    have e5 : (999 : Int32).toInt = 999 := rfl
    rw [e4] at h1
    rw [Int32.lt_iff_toInt_lt, i0, fb_subI (by rw [e5]; omega) (by rw [e5]; omega), e5]; omega
  unfold s_pulse
  rw [if_pos ⟨hv, hw⟩, if_neg hon, if_neg hnf, e1]
  by_cases h : puB z v w = true
  · rw [if_pos h, if_pos h, if_pos (hpos h), tell_3, e3, e2]
  · rw [if_neg h, if_neg h, if_neg (by decide), e3, e2]
theorem rd_row (x : zS) (i : Nat) (v w : Int32) {r : Nat} (hr : r < 10) : (rdS x (10 + i) v w).2 r = addS x v (tldF x (uF x (10 + i) v) (ampF x (10 + i) (uF x (10 + i) v))) (ampF x (10 + i) (uF x (10 + i) v)) (ruF x (10 + i) (uF x (10 + i) v) v) r := by
  unfold rdS; exact warm_low _ _ _ hr
theorem puS_row (z : zS) (v w : Int32) {r : Nat} (hr : r < 10) : puS z v w r = addS (puX z v) v (tldF (puX z v) (puU z v) (puA z v)) (puA z v) (ruF (puX z v) (10 + ix (inH z)) (puU z v) v) r := by
  unfold puS; rw [shut_low _ hr]; exact rd_row _ _ _ _ hr
theorem puS_1 (z : zS) (v w : Int32) : puS z v w 1 = z 1 := by
  rw [puS_row z v w (by decide), (addS_row _ _ _ _ _).1, puX_r z v (by decide)]
theorem puS_0 (z : zS) (v w : Int32) {k : Nat} (h : ¬ k = 3) : puS z v w 0 k = if k = 4 then 0 else z 0 k := by
  rw [puS_row z v w (by decide), addS_low _ _ _ _ _ h]
  split
  · rename_i e; rw [e]; exact puX_04 z v
  · rename_i e; exact puX_03 z v e
theorem puS_03 (z : zS) (v w : Int32) : puS z v w 0 3 = z 0 3 + 1 := by
  rw [puS_row z v w (by decide), addS_3, puX_03 z v (by decide)]
theorem puS_had (z : zS) (v w : Int32) : puS z v w 2 (ix (z 0 3)) = v ∧ puS z v w 3 (ix (z 0 3)) = tldF (puX z v) (puU z v) (puA z v) ∧ puS z v w 4 (ix (z 0 3)) = puA z v ∧ puS z v w 5 (ix (z 0 3)) = ruF (puX z v) (10 + ix (inH z)) (puU z v) v ∧ ∀ k j, 2 ≤ k → k < 6 → ¬ j = ix (z 0 3) → puS z v w k j = z k j := by
  have h := addS_row (puX z v) v (tldF (puX z v) (puU z v) (puA z v)) (puA z v) (ruF (puX z v) (10 + ix (inH z)) (puU z v) v)
  rw [puX_03 z v (by decide : ¬ 3 = 4)] at h
  refine ⟨?_, ?_, ?_, ?_, fun k j h1 h2 h3 => ?_⟩
  · rw [puS_row z v w (by decide)]; exact h.2.1
  · rw [puS_row z v w (by decide)]; exact h.2.2.1
  · rw [puS_row z v w (by decide)]; exact h.2.2.2.1
  · rw [puS_row z v w (by decide)]; exact h.2.2.2.2.1
  · rw [puS_row z v w (by omega), h.2.2.2.2.2 k j h1 h2 h3, puX_r z v (by omega)]
theorem puS_p (z : zS) (v w : Int32) : puS z v w (10 + ix (inH z)) 6 = minI (puW z v w) 1000
    ∧ puS z v w (10 + ix (inH z)) 1 = (if puB z v w = true then 1 else z (10 + ix (inH z)) 1)
    ∧ (∀ k, ¬ k = 6 → ¬ k = 1 → ¬ k = 2 → puS z v w (10 + ix (inH z)) k = z (10 + ix (inH z)) k)
    ∧ (z (10 + ix (inH z)) 5 = 3 → ownd z (10 + ix (inH z)) (puA z v) < z (10 + ix (inH z)) 10 → puS z v w (10 + ix (inH z)) 2 = 0)
    ∧ ∀ n, ¬ n = ix (inH z) → puS z v w (10 + n) = z (10 + n) := by
  obtain ⟨r1, r2, r3, r4, r5⟩ := rd_at (puX z v) (ix (inH z)) v w
  have hs := shut_at (rdS (puX z v) (10 + ix (inH z)) v w).2 (ix (inH z)) (ownd (rdS (puX z v) (10 + ix (inH z)) v w).2 (10 + ix (inH z)) (puA z v))
  rw [puX_6 z v (by decide : ¬ 6 = 2)] at r1 r2
  rw [puX_6 z v (by decide : ¬ 1 = 2)] at r2
  refine ⟨?_, ?_, fun k h6 h1 h2 => ?_, fun h5 hm => ?_, fun n hn => ?_⟩
  · unfold puS; rw [hs.1 6 (by decide)]; exact r1
  · unfold puS; rw [hs.1 1 (by decide), r2]
    show (if puW z v w < 1000 ∨ ¬ z (10 + ix (inH z)) 1 = 0 then z (10 + ix (inH z)) 1 else 1) = _
    unfold puB
    by_cases c1 : puW z v w < 1000
    · rw [if_pos (Or.inl c1)]; simp [c1]
    · by_cases c2 : z (10 + ix (inH z)) 1 = 0
      · rw [if_neg (fun q => q.elim c1 (fun q => q c2))]; simp [c1, c2]
      · rw [if_pos (Or.inr c2)]; simp [c2]
  · unfold puS; rw [hs.1 k h2, r4 k h6 h1, puX_6 z v h2]
  · unfold puS
    refine hs.2.1 ?_ ?_
    · rw [r4 5 (by decide) (by decide), puX_6 z v (by decide)]; exact h5
    · rw [r4 10 (by decide) (by decide), puX_6 z v (by decide)]
      have e : ownd (rdS (puX z v) (10 + ix (inH z)) v w).2 (10 + ix (inH z)) (puA z v) = ownd z (10 + ix (inH z)) (puA z v) := by
        unfold ownd
        rw [r4 3 (by decide) (by decide), puX_6 z v (by decide), rd_row _ _ _ _ (by decide), (addS_row _ _ _ _ _).1, puX_r z v (by decide)]
      rw [e]; exact hm
  · unfold puS
    rw [hs.2.2 n hn, r5 n hn]
    unfold puX
    rw [(opS_at _ _ _).2 n hn, zu_row _ _ _ _ _ (by omega)]
theorem pulse_eq2 {z : zS} {v w : Int32} (hv : inR v (-3000) 3000 = true) (hw : inR w 1 50 = true) (hon : ¬ z 0 0 = 0) (hnf : ¬ z 0 3 = 60) :
    (s_pulse z v w).1 = z 0 3 + 1 ∧ (s_pulse z v w).2 = if puB z v w = true then tellS (puS z v w) (inH z) (puW z v w - 999) else puS z v w := by
  have hq := pulse_eq hv hw hon hnf
  by_cases h : puB z v w = true
  · rw [if_pos h] at hq
    rw [hq, if_pos h]
    constructor <;> dsimp only
  · rw [if_neg h] at hq
    rw [hq, if_neg h]
    constructor <;> dsimp only
/-- behind a pulse, what each call of the law shows -/
theorem pulse_pack {z : zS} (hI : qInv z) {v w : Int32} (hv : inR v (-3000) 3000 = true) (hw : inR w 1 50 = true) (hon : ¬ z 0 0 = 0) (hnf : ¬ z 0 3 = 60) :
    keepP (s_pulse z v w).2 z ∧ (s_pulse z v w).2 1 = z 1 ∧ (s_pulse z v w).2 0 3 = z 0 3 + 1
    ∧ (s_pulse z v w).2 2 (ix (z 0 3)) = v ∧ (s_pulse z v w).2 3 (ix (z 0 3)) = tldF (puX z v) (puU z v) (puA z v) ∧ (s_pulse z v w).2 4 (ix (z 0 3)) = puA z v ∧ (s_pulse z v w).2 5 (ix (z 0 3)) = ruF (puX z v) (10 + ix (inH z)) (puU z v) v
    ∧ (∀ k j, 2 ≤ k → k < 6 → ¬ j = ix (z 0 3) → (s_pulse z v w).2 k j = z k j)
    ∧ (∀ n, (s_pulse z v w).2 (10 + n) = puS z v w (10 + n))
    ∧ (puB z v w = true → s_why (s_pulse z v w).2 0 0 = 2 ∧ s_why (s_pulse z v w).2 0 1 = inH z ∧ s_why (s_pulse z v w).2 1 0 = 3 ∧ s_why (s_pulse z v w).2 1 1 = puW z v w - 999 ∧ s_why (s_pulse z v w).2 2 0 = -9)
    ∧ (¬ puB z v w = true → s_why (s_pulse z v w).2 0 0 = -9) := by
  have hk : keepP (puS z v w) z := by
    refine ⟨?_, ?_, ?_, fun t => by rw [puS_1], fun n hn => ?_⟩
    · rw [puS_0 z v w (by decide), if_neg (by decide)]
    · rw [puS_0 z v w (by decide), if_neg (by decide)]
    · rw [puS_0 z v w (by decide), if_neg (by decide)]
    · obtain ⟨-, -, p3, -, p5⟩ := puS_p z v w
      by_cases e : n = ix (inH z)
      · rw [e]; exact ⟨p3 0 (by decide) (by decide) (by decide), p3 3 (by decide) (by decide) (by decide), p3 4 (by decide) (by decide) (by decide)⟩
      · rw [p5 n e]; exact ⟨rfl, rfl, rfl⟩
  have h4 : puS z v w 0 4 = 0 := by rw [puS_0 z v w (by decide), if_pos rfl]
  obtain ⟨d1, d2, d3, d4, d5⟩ := puS_had z v w
  have he := (pulse_eq2 hv hw hon hnf).2
  by_cases h : puB z v w = true
  · rw [if_pos h] at he
    rw [he]
    refine ⟨(tell_keep _ _).tr hk, ?_, ?_, ?_, ?_, ?_, ?_, fun k j h1 h2 h3 => ?_, fun n => tell_p _ _ n, fun _ => tell_why h4 _ _, fun q => absurd h q⟩
    · rw [tell_row _ _ (by decide)]; exact puS_1 z v w
    · rw [tell_3]; exact puS_03 z v w
    · rw [tell_row _ _ (by decide)]; exact d1
    · rw [tell_row _ _ (by decide)]; exact d2
    · rw [tell_row _ _ (by decide)]; exact d3
    · rw [tell_row _ _ (by decide)]; exact d4
    · rw [tell_row _ _ (by omega)]; exact d5 k j h1 h2 h3
  · rw [if_neg h] at he
    rw [he]
    exact ⟨hk, puS_1 z v w, puS_03 z v w, d1, d2, d3, d4, d5, fun n => rfl, fun q => absurd q h, fun _ => why_0 h4 0 (by decide)⟩
/-- the limits of a pulse's reading -/
theorem pulse_lim {z : zS} (hI : qInv z) {v : Int32} (hv : inR v (-3000) 3000 = true) (hn : ¬ inH z = -9) : absI (puA z v) ≤ z 0 1 ∧ absI (tldF (puX z v) (puU z v) (puA z v)) ≤ absI v ∧ -3000 ≤ (puU z v).toInt ∧ (puU z v).toInt ≤ 3000 ∧ -21000 ≤ (puA z v).toInt ∧ (puA z v).toInt ≤ 21000 := by
  have hi := (inH_lt hn).2.1
  have hIx : qInv (puX z v) := inv_opS (inv_cc0 hI) hi v
  have hu := uF_rng (z := puX z v) (p := 10 + ix (inH z)) hv
  have ha := ampF_Z (z := puX z v) (p := 10 + ix (inH z)) (inv_p hIx _ hi) hu.1 hu.2
  have hw := aw_all hIx hi hv (Nat.le_refl (uN (puX z v) (10 + ix (inH z)) v))
  have hs := uF_sgn (z := puX z v) (p := 10 + ix (inH z)) hv
  have hl := uN_le (z := puX z v) (p := 10 + ix (inH z)) (v := v)
  rw [awB_iff] at hw
  refine ⟨?_, ?_, hu.1, hu.2, ha.2.1, ha.2.2⟩
  · rw [Int32.le_iff_toInt_le, ← puX_03 z v (by decide : ¬ 1 = 4)]; exact hw.1
  · unfold tldF
    split
    · show absI (uF (puX z v) (10 + ix (inH z)) v) ≤ _
      rw [hs.2.2.1, hs.2.2.2.1, Int32.le_iff_toInt_le, nI_toInt (by omega), nI_toInt (by omega)]; omega
    · rename_i c
      rw [Int32.le_iff_toInt_le]
      exact hw.2.resolve_left c
/-- the heat that the law counts -/
theorem then_pack {h u a w : Int32} (hh : inR h 0 1000 = true) (h1 : -3000 ≤ u.toInt) (h2 : u.toInt ≤ 3000) (h3 : -21000 ≤ a.toInt) (h4 : a.toInt ≤ 21000) (hw : inR w 1 50 = true) :
    (h.toInt64 + (absI u).toInt64 * (absI a).toInt64 * w.toInt64 / 500000).toInt32 = wldF h u a w ∧ (999 < h.toInt64 + (absI u).toInt64 * (absI a).toInt64 * w.toInt64 / 500000 ↔ ¬ wldF h u a w < 1000) := by
  have hh2 := inR_b hh (x := 0) (y := 1000) rfl rfl
  have hw2 := inR_b hw (x := 1) (y := 50) rfl rfl
  have eu := absI_N (x := u) (by omega)
  have ea := absI_N (x := a) (by omega)
  obtain ⟨-, n1, n2, n3⟩ := mul3L (u := absI u) (a := absI a) (w := w) (by omega) (by omega) (by omega) (by omega) (by omega) hw2.2
  have hpos : 0 ≤ (absI u).toInt * (absI a).toInt * w.toInt := Int.mul_nonneg (Int.mul_nonneg (by omega) (by omega)) (by omega)
  have e5 : (500000 : Int64).toInt = 500000 := rfl
  have e9 : (999 : Int64).toInt = 999 := rfl
  have ed : ((absI u).toInt64 * (absI a).toInt64 * w.toInt64 / 500000).toInt = (absI u).toInt * (absI a).toInt * w.toInt / 500000 := by
    rw [Int64.toInt_div, e5, n1, Int.tdiv_eq_ediv_of_nonneg hpos, fb_bmodL (by omega) (by omega)]
  have eT : (h.toInt64 + (absI u).toInt64 * (absI a).toInt64 * w.toInt64 / 500000).toInt = h.toInt + (absI u).toInt * (absI a).toInt * w.toInt / 500000 := by
    rw [fb_addL (by rw [toL, ed]; omega) (by rw [toL, ed]; omega), toL, ed]
  have e32 : (h.toInt64 + (absI u).toInt64 * (absI a).toInt64 * w.toInt64 / 500000).toInt32.toInt = h.toInt + (absI u).toInt * (absI a).toInt * w.toInt / 500000 := by
    rw [Int64.toInt_toInt32, eT, fb_bmod (by omega) (by omega)]
  have ew : (wldF h u a w).toInt = h.toInt + (absI u).toInt * (absI a).toInt * w.toInt / 500000 := by
    rw [(wld_Z hh h1 h2 h3 h4 hw).1, Int.natAbs_mul, Int.natAbs_mul, Int.natCast_mul, Int.natCast_mul, ← eu, ← ea, show (w.toInt.natAbs : Int) = w.toInt by omega]
  refine ⟨Int32.toInt_inj.mp (e32.trans ew.symm), ?_⟩
  rw [Int64.lt_iff_toInt_lt, Int32.lt_iff_toInt_lt, eT, ew, e9, show (1000 : Int32).toInt = 1000 from rfl]
  omega
