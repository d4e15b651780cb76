/-! THE LAW'S LOOP OF PULSES BESIDE THE CLASS'S SWEEP. -/
def swV (a b st : Int32) (last k : Nat) : Int32 := a + nI (if k ≤ last then k else 2 * last - k) * (if b < a then -st else st)
/-- ahead of pulse k: y where the sweep stands, x where the other house stands, F what the sweep comes to -/
def swI (zo zp : zS) (F : Int32 × zS) (a b st w : Int32) (n last all k : Nat) (y x : zS) : Prop := swQ k y x ∧ qInv y ∧ qInv x ∧ y 0 4 = 0 ∧ keepP y zo ∧ keepP x zp ∧ y 1 = zo 1 ∧ x 1 = zp 1 ∧ qRd y ∧ ¬ x 0 0 = 0 ∧ swR (10 + ix (inH x)) (inH x) a (if b < a then -st else st) w n last all (all - k) k y = F
/-- behind all of them -/
def swE (zo zp : zS) (F : Int32 × zS) (done : Nat) (bu : Bool) (x : zS) : Prop := swQ done F.2 x ∧ qInv F.2 ∧ qInv x ∧ keepP F.2 zo ∧ keepP x zp ∧ F.2 1 = zo 1 ∧ x 1 = zp 1 ∧ qRd F.2 ∧ F.1 = (if bu = true then -100 - nI done else nI done) ∧ (bu = true → 1 ≤ done ∧ s_why F.2 0 0 = 1 ∧ s_why F.2 0 1 = nI (done - 1) ∧ s_why F.2 1 1 = s_why x 0 1 ∧ s_why F.2 2 1 = s_why x 1 1) ∧ (bu = false → s_why F.2 0 0 = -9)
theorem inv_cool {z : zS} (hI : qInv z) (k : Nat) : qInv (coolA z k) := (inv_coolA hI k).1
theorem on_hand {x : zS} (hI : qInv x) (h : ¬ x 0 0 = 0) : ¬ inH x = -9 := hI.2.2.2.2.2.2.2 h
theorem sw_end {zo zp : zS} {F : Int32 × zS} {a b st w : Int32} {n last all : Nat} {y x : zS} (h : swI zo zp F a b st w n last all all y x) : swE zo zp F all false x := by
  obtain ⟨h1, h2, h3, h4, h5, h6, h7, h8, h9, h10, h11⟩ := h
  rw [Nat.sub_self] at h11
  have e : F = (nI all, y) := h11.symm
  rw [e]
  exact ⟨h1, h2, h3, h5, h6, h7, h8, h9, rfl, (fun q => by cases q), fun _ => why_0 h4 0 (by decide)⟩
theorem sw_step {zo zp : zS} {F : Int32 × zS} {a b st w : Int32} {n last all k : Nat} {y x : zS} (h : swI zo zp F a b st w n last all k y x) (hk : k < all) (hall : all ≤ 60) (hw : inR w 1 50 = true) (hv : inR (swV a b st last k) (-3000) 3000 = true) :
    (puB x (swV a b st last k) w = true → swE zo zp F (k + 1) true (s_pulse x (swV a b st last k) w).2)
    ∧ (¬ puB x (swV a b st last k) w = true → swI zo zp F a b st w n last all (k + 1) (coolA (puS y (swV a b st last k) w) n) (coolA (s_pulse x (swV a b st last k) w).2 n)) := by
  obtain ⟨h1, h2, h3, h4, h5, h6, h7, h8, h9, h10, h11⟩ := h
  have hn := on_hand h3 h10
  have hi := (inH_lt hn).2.1
  have ha := h1.1
  have e := inH_a ha
  have hny : ¬ inH y = -9 := by rw [e]; exact hn
  obtain ⟨e1, e2, e3, e4⟩ := pu_c ha hn (swV a b st last k) w
  have k60 : ∀ z : zS, z 0 3 = nI k → ¬ z 0 3 = 60 := fun z hz q => by
    rw [hz] at q
    have := congrArg ix q
    rw [ix_nI (by omega), show ix (60 : Int32) = 60 from rfl] at this; omega
  have hnx := k60 x h1.2.2.1
  have hnfy := k60 y h1.2.1
  obtain ⟨p1, p2⟩ := pulse_eq2 hv hw h10 hnx
  obtain ⟨q1, q2, q3, q4, q5, q6, q7, q8, q9, q10, q11⟩ := pulse_pack h3 hv hw h10 hnx
  have hQ := swQ_pu h1 (by omega) hn (swV a b st last k) w
  obtain ⟨i1, i2, i3⟩ := inv_puS h2 h4 hv hw hny hnfy
  have hR := qRd_pu h9 h2 hv hny w
  have es : all - k = (all - (k + 1)) + 1 := by omega
  have ep := pulS_eq h4 (swV a b st last k) w
  rw [e] at ep
  rw [es] at h11
  unfold swR at h11
  have ev : a + nI (if k ≤ last then k else 2 * last - k) * (if b < a then -st else st) = swV a b st last k := rfl
  rw [ev, ep] at h11
  dsimp only at h11
  have hix := inv_pulse h3 (swV a b st last k) w
  by_cases hb : puB x (swV a b st last k) w = true
  · refine ⟨fun _ => ?_, fun q => absurd hb q⟩
    have hby : puB y (swV a b st last k) w = true := by rw [e4]; exact hb
    rw [if_pos hby] at h11
    have h12 : (-100 - (nI k + 1), tellS (putS (puS y (swV a b st last k) w) 1 (nI k)) (inH x) (puW y (swV a b st last k) w - 999)) = F := by
      rw [← h11, if_pos (puB_pos hby)]
    rw [if_pos hb] at p2
    rw [← h12, p2]
    unfold swE
    dsimp only
    obtain ⟨w1, w2, w3, w4⟩ := put_why i3 (nI k) (inH x) (puW y (swV a b st last k) w - 999)
    have t4 : puS x (swV a b st last k) w 0 4 = 0 := by rw [puS_0 _ _ _ (by decide), if_pos rfl]
    obtain ⟨v1, v2, v3, v4, v5⟩ := tell_why t4 (inH x) (puW x (swV a b st last k) w - 999)
    have rowT : ∀ (z : zS) (c d : Int32) (r : Nat), 1 ≤ r → r < 6 → tellS (putS z 1 (nI k)) c d r = z r := fun z c d r h1 h2 => by
      rw [tell_row _ _ (by omega), put_row _ _ (by omega)]
    have rowU : ∀ (z : zS) (c d : Int32) (r : Nat), 1 ≤ r → r < 6 → tellS z c d r = z r := fun z c d r h1 h2 => tell_row _ _ (by omega)
    have kT := (tell_keep (z := putS (puS y (swV a b st last k) w) 1 (nI k)) (inH x) (puW y (swV a b st last k) w - 999)).tr (put_keep (z := puS y (swV a b st last k) w) 1 (nI k))
    have kU := tell_keep (z := puS x (swV a b st last k) w) (inH x) (puW x (swV a b st last k) w - 999)
    have cT : tellS (putS (puS y (swV a b st last k) w) 1 (nI k)) (inH x) (puW y (swV a b st last k) w - 999) 0 3 = puS y (swV a b st last k) w 0 3 := (tell_3 _ _).trans (put_3 _ _)
    have cU : tellS (puS x (swV a b st last k) w) (inH x) (puW x (swV a b st last k) w - 999) 0 3 = puS x (swV a b st last k) w 0 3 := tell_3 _ _
    refine ⟨⟨⟨?_, fun m hm => ?_, ?_, ?_, ?_⟩, cT.trans hQ.2.1, cU.trans hQ.2.2.1, fun r i r1 r2 r3 => ?_⟩, inv_tell (inv_put i1 _ _) _ _, by rw [← p2]; exact hix, kT.tr (i2.tr h5), by rw [← p2]; exact q1.tr h6, ?_, ?_, ?_, ?_, fun _ => ⟨by omega, w1, ?_, ?_, ?_⟩, fun q => by cases q⟩
    · rw [rowT _ _ _ 1 (by decide) (by decide), rowU _ _ _ 1 (by decide) (by decide)]; exact hQ.1.1
    · rw [tell_p, put_p, tell_p]; exact hQ.1.2.1 m hm
    · rw [kT.1, kU.1]; exact hQ.1.2.2.1
    · rw [kT.2.1, kU.2.1]; exact hQ.1.2.2.2.1
    · rw [kT.2.2.1, kU.2.2.1]; exact hQ.1.2.2.2.2
    · rw [rowT _ _ _ r (by omega) r2, rowU _ _ _ r (by omega) r2]; exact hQ.2.2.2 r i r1 r2 r3
    · rw [rowT _ _ _ 1 (by decide) (by decide), puS_1]; exact h7
    · rw [rowU _ _ _ 1 (by decide) (by decide), puS_1]; exact h8
    · exact qRd_of hR cT (rowT _ _ _ 3 (by decide) (by decide)) (rowT _ _ _ 4 (by decide) (by decide))
    · show -100 - (nI k + 1) = if true = true then -100 - nI (k + 1) else nI (k + 1)
      rw [if_pos rfl, nI_1]
    · rw [Nat.add_sub_cancel]; exact w2
    · rw [v2]; exact w3
    · rw [v4, ← e3]; exact w4
  · refine ⟨fun q => absurd q hb, fun _ => ?_⟩
    have hby : ¬ puB y (swV a b st last k) w = true := by rw [e4]; exact hb
    rw [if_neg hby, if_neg (by decide)] at h11
    rw [if_neg hb] at p2
    rw [p2]
    have hx1 : inH (coolA (puS x (swV a b st last k) w) n) = inH x := by
      rw [p2] at q1
      exact inH_congr ((keep_cool _ _).tr q1)
    refine ⟨swQ_cool hQ n, inv_cool i1 n, inv_cool (by rw [← p2]; exact hix) n, by rw [cool_low _ _ (by decide)]; exact i3, (keep_cool _ _).tr (i2.tr h5), (keep_cool _ _).tr (by rw [← p2]; exact q1.tr h6), by rw [cool_low _ _ (by decide), puS_1]; exact h7, by rw [cool_low _ _ (by decide), puS_1]; exact h8, qRd_cool hR n, ?_, ?_⟩
    · rw [cool_low _ _ (by decide), puS_0 _ _ _ (by decide), if_neg (by decide)]; exact h10
    · rw [hx1]; exact h11
