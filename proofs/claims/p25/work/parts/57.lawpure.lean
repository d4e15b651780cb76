/-! WHAT THE LAW'S OWN STEPS COME TO, over numbers. -/
def LA (zo zp : zS) : Prop := qInv zo ∧ qInv zp ∧ alk zo zp ∧ zo 0 0 = 0 ∧ ∀ n, n < 4 → zo (10 + n) 0 = 1 ∧ ¬ zo (10 + n) 3 = zo (10 + n) 4
-- a new part
theorem boS_low (z : zS) (i : Nat) (gg : Int32) {a : Nat} (h : a < 10) : boS z i gg a = z a := by unfold boS; rw [if_neg (by omega)]
theorem boS_at (z : zS) (i : Nat) (gg : Int32) : boS z i gg (10 + i) = boR gg := by unfold boS; rw [if_pos rfl]
theorem boS_ne (z : zS) {i n : Nat} (gg : Int32) (h : ¬ n = i) : boS z i gg (10 + n) = z (10 + n) := by unfold boS; rw [if_neg (by omega)]
theorem inR_dn {v a a' b : Int32} (h : inR v a b = true) (hb : a'.toInt ≤ a.toInt) : inR v a' b = true := by
  have := inR_iff.mp h
  rw [inR_iff]; omega
theorem boR_inv (gg : Int32) : partInv (boR gg) := by
  refine ⟨Or.inr rfl, Or.inl rfl, Or.inl rfl, boF_in gg, boO_in gg, boK_in gg, (show inR 0 0 1000 = true by decide), inR_dn (boA_in gg) (by decide), inR_up (inR_dn (boB_in gg) (by decide)) (by decide), inR_up (boC_in gg) (by decide), inR_up (boD_in gg) (by decide), boE_in gg⟩
theorem inv_boS {z : zS} (hI : qInv z) (h0 : z 0 0 = 0) (i : Nat) (gg : Int32) : qInv (boS z i gg) := by
  refine inv_off hI h0 (boS_low z i gg (by decide)) (fun t ht => ?_) (fun n hn => ?_)
  · rw [boS_low z i gg (by decide)]; exact inv_pn hI t ht
  · by_cases c : n = i
    · rw [c, boS_at]; exact boR_inv gg
    · rw [boS_ne z gg c]; exact inv_p hI n hn
theorem alk_boS {zo zp : zS} (h : alk zo zp) (i : Nat) (gg : Int32) : alk (boS zo i gg) (boS zp i gg) := by
  refine ⟨by rw [boS_low _ _ _ (by decide), boS_low _ _ _ (by decide)]; exact h.1, fun n hn => ?_, ?_, ?_, ?_⟩
  · by_cases c : n = i
    · rw [c, boS_at, boS_at]
    · rw [boS_ne _ gg c, boS_ne _ gg c]; exact h.2.1 n hn
  · rw [boS_low _ _ _ (by decide), boS_low _ _ _ (by decide)]; exact h.2.2.1
  · rw [boS_low _ _ _ (by decide), boS_low _ _ _ (by decide)]; exact h.2.2.2.1
  · rw [boS_low _ _ _ (by decide), boS_low _ _ _ (by decide)]; exact h.2.2.2.2
/-- ahead of part k of the first four -/
def LB (k : Nat) (zo zp : zS) : Prop := qInv zo ∧ qInv zp ∧ alk zo zp ∧ zo 0 0 = 0 ∧ (∀ n, n < 4 → k ≤ n → zo (10 + n) 0 = 0) ∧ ∀ n, n < k → zo (10 + n) 0 = 1 ∧ ¬ zo (10 + n) 3 = zo (10 + n) 4
theorem LB_step {k : Nat} {zo zp : zS} (h : LB k zo zp) (hk : k < 4) (gg : Int32) : LB (k + 1) (boS zo k gg) (boS zp k gg) := by
  obtain ⟨h1, h2, h3, h4, h5, h6⟩ := h
  refine ⟨inv_boS h1 h4 k gg, inv_boS h2 (by rw [← h3.2.2.1]; exact h4) k gg, alk_boS h3 k gg, by rw [boS_low _ _ _ (by decide)]; exact h4, fun n hn hk2 => ?_, fun n hn => ?_⟩
  · rw [boS_ne _ gg (by omega)]; exact h5 n hn (by omega)
  · by_cases c : n = k
    · rw [c, boS_at]; exact ⟨rfl, boO_ne gg⟩
    · rw [boS_ne _ gg c]; exact h6 n (by omega)
theorem LB_end {zo zp : zS} (h : LB 4 zo zp) : LA zo zp := ⟨h.1, h.2.1, h.2.2.1, h.2.2.2.1, h.2.2.2.2.2⟩
-- relays off
theorem nI_in8 {q : Nat} (hq : q < 8) : inR (nI q) 0 7 = true := by
  rw [inR_iff, i0, nI_toInt (by omega), show (7 : Int32).toInt = 7 from rfl]; omega
theorem pins_t (z : zS) {t : Nat} (ht : t < 4) : s_pins z (nI t) = z 1 t := by
  obtain ⟨n1, n2⟩ := nI_in4 ht
  unfold s_pins; rw [if_pos n1, n2]
theorem rl_off {z : zS} {t q : Nat} (ht : t < 4) (hq : q < 8) (h0 : z 0 0 = 0) (hb : ¬ z 1 t &&& sh (nI q) = 0) : s_relay z (nI t) (nI q) 0 = (1, zu z 1 t (z 1 t &&& (sh (nI q) ^^^ (-1)))) := by
  obtain ⟨n1, n2⟩ := nI_in4 ht
  unfold s_relay
  rw [if_pos ⟨n1, nI_in8 hq⟩, if_pos (by decide), if_pos ⟨h0, fun r => absurd r.1 (by decide)⟩, n2, if_neg hb, if_neg (by decide)]
theorem sh_self : ∀ x : Fin 256, ∀ q : Fin 8, (nI x.val &&& (sh (nI q.val) ^^^ (-1))) &&& sh (nI q.val) = 0 := by decide +kernel
theorem sh_none : ∀ x : Fin 256, (∀ q : Fin 8, nI x.val &&& sh (nI q.val) = 0) → nI x.val = 0 := by decide +kernel
theorem and_z {x m y : Int32} (h : x &&& y = 0) : (x &&& m) &&& y = 0 := by
  rw [Int32.and_assoc, Int32.and_comm m y, ← Int32.and_assoc, h]; exact Int32.zero_and
/-- while the relays are opened: terminals below t, and of t the pins below q, are done -/
def LR (zb : zS) (t q : Nat) (zo zp : zS) : Prop := qInv zo ∧ qInv zp ∧ alk zo zp ∧ zo 0 0 = 0 ∧ (∀ n, zo (10 + n) = zb (10 + n)) ∧ (∀ a, a < t → zo 1 a = 0) ∧ ∀ a, a < q → zo 1 t &&& sh (nI a) = 0
theorem alk_z1 {A B : zS} (h : alk A B) (t : Nat) (v : Int32) : alk (zu A 1 t v) (zu B 1 t v) := by
  refine ⟨?_, fun n hn => ?_, ?_, ?_, ?_⟩
  · funext b; simp only [zu]; rw [h.1]
  · rw [zu_row _ _ _ _ _ (by omega), zu_row _ _ _ _ _ (by omega)]; exact h.2.1 n hn
  · rw [zu_row _ _ _ _ _ (by decide), zu_row _ _ _ _ _ (by decide)]; exact h.2.2.1
  · rw [zu_row _ _ _ _ _ (by decide), zu_row _ _ _ _ _ (by decide)]; exact h.2.2.2.1
  · rw [zu_row _ _ _ _ _ (by decide), zu_row _ _ _ _ _ (by decide)]; exact h.2.2.2.2
theorem inv_r1 {z : zS} {t q v : Int32} {r : Int32} {y : zS} (hI : qInv z) (h : s_relay z t q v = (r, y)) : qInv y := by
  have h1 := inv_relay hI t q v
  rw [h] at h1; exact h1
theorem LR_step {zb : zS} {t q : Nat} {zo zp : zS} (h : LR zb t q zo zp) (ht : t < 4) (hq : q < 8) (hb : ¬ zo 1 t &&& sh (nI q) = 0) :
    s_relay zp (nI t) (nI q) 0 = (1, zu zp 1 t (zo 1 t &&& (sh (nI q) ^^^ (-1)))) ∧ LR zb t (q + 1) (zu zo 1 t (zo 1 t &&& (sh (nI q) ^^^ (-1)))) (zu zp 1 t (zo 1 t &&& (sh (nI q) ^^^ (-1)))) := by
  obtain ⟨h1, h2, h3, h4, h5, h6, h7⟩ := h
  have ho := rl_off ht hq h4 hb
  have hp := rl_off (z := zp) ht hq (by rw [← h3.2.2.1]; exact h4) (by rw [← h3.1]; exact hb)
  rw [← h3.1] at hp
  refine ⟨hp, inv_r1 h1 ho, inv_r1 h2 hp, alk_z1 h3 _ _, by rw [zu_row _ _ _ _ _ (by decide)]; exact h4, fun n => by rw [zu_row _ _ _ _ _ (by omega)]; exact h5 n, fun a ha => ?_, fun a ha => ?_⟩
  · rw [zu_col _ _ _ _ _ _ (by omega)]; exact h6 a ha
  · rw [zu_same]
    by_cases c : a = q
    · obtain ⟨x, hx, e⟩ := inR_nI (n := 255) rfl (inv_pn h1 t ht)
      rw [c, e]; exact sh_self ⟨x, by omega⟩ ⟨q, hq⟩
    · exact and_z (h7 a (by omega))
theorem LR_skip {zb : zS} {t q : Nat} {zo zp : zS} (h : LR zb t q zo zp) (hb : zo 1 t &&& sh (nI q) = 0) : LR zb t (q + 1) zo zp := by
  obtain ⟨h1, h2, h3, h4, h5, h6, h7⟩ := h
  refine ⟨h1, h2, h3, h4, h5, h6, fun a ha => ?_⟩
  by_cases c : a = q
  · rw [c]; exact hb
  · exact h7 a (by omega)
theorem LR_next {zb : zS} {t : Nat} {zo zp : zS} (h : LR zb t 8 zo zp) (ht : t < 4) : LR zb (t + 1) 0 zo zp := by
  obtain ⟨h1, h2, h3, h4, h5, h6, h7⟩ := h
  refine ⟨h1, h2, h3, h4, h5, fun a ha => ?_, fun a ha => absurd ha (Nat.not_lt_zero a)⟩
  by_cases c : a = t
  · obtain ⟨x, hx, e⟩ := inR_nI (n := 255) rfl (inv_pn h1 t ht)
    rw [c, e]
    exact sh_none ⟨x, by omega⟩ (fun q => by rw [← e]; exact h7 q.val q.isLt)
  · exact h6 a (by omega)
-- relays on
theorem sh_ne0 : ∀ q : Fin 8, ¬ sh (nI q.val) &&& sh (nI q.val) = 0 := by decide +kernel
theorem sh_ne2 : ∀ q r : Fin 8, ¬ nI q.val = nI r.val → sh (nI q.val) &&& sh (nI r.val) = 0 := by decide +kernel
theorem sh_bc : ∀ q : Fin 8, bcF (sh (nI q.val)) = 1 := by decide +kernel
theorem sh_0 : ∀ q : Fin 8, ¬ sh (nI q.val) = 0 := by decide +kernel
theorem to8 {f : Int32} (h : inR f 0 7 = true) : ∃ k : Fin 8, f = nI k.val := by
  obtain ⟨k, hk, e⟩ := inR_nI (n := 7) rfl h
  exact ⟨⟨k, by omega⟩, e⟩
theorem rl_on {z : zS} {t : Nat} (ht : t < 4) {f : Int32} (hf : inR f 0 7 = true) (h0 : z 0 0 = 0) (hz : z 1 t = 0) (hs : ¬ shortsB z (nI t) (sh f) = true) : s_relay z (nI t) f 1 = (0, zu z 1 t (sh f)) := by
  obtain ⟨n1, n2⟩ := nI_in4 ht
  unfold s_relay
  rw [if_pos ⟨n1, hf⟩, if_pos (by decide), if_pos ⟨h0, fun r => hs r.2⟩, n2, hz, if_pos Int32.zero_and, if_pos rfl, Int32.zero_or]
theorem sb_hi {z : zS} {q : Int32} (h : z 1 1 = 0) : ¬ shortsB z (nI 0) q = true := by
  unfold shortsB
  rw [h, Int32.zero_and, decide_eq_false (show ¬ nI 0 = 1 by decide)]; simp
theorem sb_lo {z : zS} {q : Int32} (h : z 1 0 &&& q = 0) : ¬ shortsB z (nI 1) q = true := by
  unfold shortsB
  rw [h, decide_eq_false (show ¬ nI 1 = 0 by decide)]; simp
theorem sb_se {z : zS} {q : Int32} {t : Nat} (h : t = 2 ∨ t = 3) : ¬ shortsB z (nI t) q = true := by
  unfold shortsB
  rcases h with rfl | rfl
  · rw [decide_eq_false (show ¬ nI 2 = 0 by decide), decide_eq_false (show ¬ nI 2 = 1 by decide)]; simp
  · rw [decide_eq_false (show ¬ nI 3 = 0 by decide), decide_eq_false (show ¬ nI 3 = 1 by decide)]; simp
/-- HIGH and LOW at their pins, and the senses too (f) or not -/
def rC (z : zS) (hi lo : Int32) (f : Bool) : zS := if f = true then zu (zu (zu (zu z 1 0 (sh hi)) 1 1 (sh lo)) 1 2 (sh hi)) 1 3 (sh lo) else zu (zu z 1 0 (sh hi)) 1 1 (sh lo)
/-- with HIGH and LOW at the pins of part kk, POWER OFF -/
def LC (zb : zS) (kk : Nat) (hi : Int32) (f : Bool) (zo zp : zS) : Prop := qInv zo ∧ qInv zp ∧ alk zo zp ∧ zo 0 0 = 0 ∧ (∀ n, zo (10 + n) = zb (10 + n)) ∧ inR hi 0 7 = true ∧ zo 1 0 = sh hi ∧ hlB zo = true ∧ jnB zo (10 + kk) = true ∧ fourB zo = f
theorem on_1 {zb zo zp : zS} {hi lo : Int32} (h : LR zb 4 0 zo zp) (hh : inR hi 0 7 = true) (hl : inR lo 0 7 = true) (hne : ¬ hi = lo) :
    s_relay zo 0 hi 1 = (0, zu zo 1 0 (sh hi)) ∧ s_relay zp 0 hi 1 = (0, zu zp 1 0 (sh hi))
    ∧ s_relay (zu zo 1 0 (sh hi)) 1 lo 1 = (0, zu (zu zo 1 0 (sh hi)) 1 1 (sh lo)) ∧ s_relay (zu zp 1 0 (sh hi)) 1 lo 1 = (0, zu (zu zp 1 0 (sh hi)) 1 1 (sh lo))
    ∧ s_relay (zu (zu zo 1 0 (sh hi)) 1 1 (sh lo)) 2 hi 1 = (0, zu (zu (zu zo 1 0 (sh hi)) 1 1 (sh lo)) 1 2 (sh hi)) ∧ s_relay (zu (zu zp 1 0 (sh hi)) 1 1 (sh lo)) 2 hi 1 = (0, zu (zu (zu zp 1 0 (sh hi)) 1 1 (sh lo)) 1 2 (sh hi))
    ∧ s_relay (zu (zu (zu zo 1 0 (sh hi)) 1 1 (sh lo)) 1 2 (sh hi)) 3 lo 1 = (0, zu (zu (zu (zu zo 1 0 (sh hi)) 1 1 (sh lo)) 1 2 (sh hi)) 1 3 (sh lo)) ∧ s_relay (zu (zu (zu zp 1 0 (sh hi)) 1 1 (sh lo)) 1 2 (sh hi)) 3 lo 1 = (0, zu (zu (zu (zu zp 1 0 (sh hi)) 1 1 (sh lo)) 1 2 (sh hi)) 1 3 (sh lo)) := by
  obtain ⟨h1, h2, h3, h4, h5, h6, h7⟩ := h
  have h4p : zp 0 0 = 0 := by rw [← h3.2.2.1]; exact h4
  have h6p : ∀ a, a < 4 → zp 1 a = 0 := fun a ha => by rw [← h3.1]; exact h6 a ha
  have key : ∀ z : zS, z 0 0 = 0 → (∀ a, a < 4 → z 1 a = 0) → s_relay z 0 hi 1 = (0, zu z 1 0 (sh hi)) ∧ s_relay (zu z 1 0 (sh hi)) 1 lo 1 = (0, zu (zu z 1 0 (sh hi)) 1 1 (sh lo)) ∧ s_relay (zu (zu z 1 0 (sh hi)) 1 1 (sh lo)) 2 hi 1 = (0, zu (zu (zu z 1 0 (sh hi)) 1 1 (sh lo)) 1 2 (sh hi)) ∧ s_relay (zu (zu (zu z 1 0 (sh hi)) 1 1 (sh lo)) 1 2 (sh hi)) 3 lo 1 = (0, zu (zu (zu (zu z 1 0 (sh hi)) 1 1 (sh lo)) 1 2 (sh hi)) 1 3 (sh lo)) := by
    intro z z0 zr
    have hsl : sh hi &&& sh lo = 0 := by
      obtain ⟨a, ea⟩ := to8 hh
      obtain ⟨c, ec⟩ := to8 hl
      rw [ea, ec]; exact sh_ne2 a c (by rw [← ea, ← ec]; exact hne)
    refine ⟨rl_on (t := 0) (by decide) hh z0 (zr 0 (by decide)) (sb_hi (zr 1 (by decide))), rl_on (t := 1) (by decide) hl ?_ ?_ (sb_lo ?_), rl_on (t := 2) (by decide) hh ?_ ?_ (sb_se (Or.inl rfl)), rl_on (t := 3) (by decide) hl ?_ ?_ (sb_se (Or.inr rfl))⟩
    · rw [zu_row _ _ _ _ _ (by decide)]; exact z0
    · rw [zu_col _ _ _ _ _ _ (by decide)]; exact zr 1 (by decide)
    · rw [zu_same]; exact hsl
    · rw [zu_row _ _ _ _ _ (by decide), zu_row _ _ _ _ _ (by decide)]; exact z0
    · rw [zu_col _ _ _ _ _ _ (by decide), zu_col _ _ _ _ _ _ (by decide)]; exact zr 2 (by decide)
    · rw [zu_row _ _ _ _ _ (by decide), zu_row _ _ _ _ _ (by decide), zu_row _ _ _ _ _ (by decide)]; exact z0
    · rw [zu_col _ _ _ _ _ _ (by decide), zu_col _ _ _ _ _ _ (by decide), zu_col _ _ _ _ _ _ (by decide)]; exact zr 3 (by decide)
  obtain ⟨o1, o2, o3, o4⟩ := key zo h4 h6
  obtain ⟨p1, p2, p3, p4⟩ := key zp h4p h6p
  exact ⟨o1, p1, o2, p2, o3, p3, o4, p4⟩
theorem LC_of {zb zo zp : zS} {hi lo : Int32} {kk : Nat} (f : Bool) (h : LR zb 4 0 zo zp) (hh : inR hi 0 7 = true) (hl : inR lo 0 7 = true) (hne : ¬ hi = lo) (hp : (hi = zb (10 + kk) 3 ∧ lo = zb (10 + kk) 4) ∨ (hi = zb (10 + kk) 4 ∧ lo = zb (10 + kk) 3)) : LC zb kk hi f (rC zo hi lo f) (rC zp hi lo f) := by
  obtain ⟨o1, p1, o2, p2, o3, p3, o4, p4⟩ := on_1 h hh hl hne
  obtain ⟨h1, h2, h3, h4, h5, h6, h7⟩ := h
  have io2 := inv_r1 (inv_r1 h1 o1) o2
  have ip2 := inv_r1 (inv_r1 h2 p1) p2
  have io4 := inv_r1 (inv_r1 io2 o3) o4
  have ip4 := inv_r1 (inv_r1 ip2 p3) p4
  have hrow : rC zo hi lo f 1 0 = sh hi ∧ rC zo hi lo f 1 1 = sh lo ∧ (f = true → rC zo hi lo f 1 2 = sh hi ∧ rC zo hi lo f 1 3 = sh lo) ∧ (f = false → rC zo hi lo f 1 2 = 0) := by
    cases f
    · unfold rC
      rw [if_neg (by decide)]
      refine ⟨by rw [zu_col _ _ _ _ _ _ (by decide), zu_same], zu_same _ _ _ _, (fun q => by cases q), fun _ => ?_⟩
      rw [zu_col _ _ _ _ _ _ (by decide), zu_col _ _ _ _ _ _ (by decide)]; exact h6 2 (by decide)
    · unfold rC
      rw [if_pos rfl]
      refine ⟨by rw [zu_col _ _ _ _ _ _ (by decide), zu_col _ _ _ _ _ _ (by decide), zu_col _ _ _ _ _ _ (by decide), zu_same], by rw [zu_col _ _ _ _ _ _ (by decide), zu_col _ _ _ _ _ _ (by decide), zu_same], fun _ => ⟨by rw [zu_col _ _ _ _ _ _ (by decide), zu_same], zu_same _ _ _ _⟩, fun q => by cases q⟩
  have hlow : rC zo hi lo f 0 0 = 0 ∧ ∀ n, rC zo hi lo f (10 + n) = zb (10 + n) := by
    unfold rC
    split
    · refine ⟨by rw [zu_row _ _ _ _ _ (by decide), zu_row _ _ _ _ _ (by decide), zu_row _ _ _ _ _ (by decide), zu_row _ _ _ _ _ (by decide)]; exact h4, fun n => ?_⟩
      rw [zu_row _ _ _ _ _ (by omega), zu_row _ _ _ _ _ (by omega), zu_row _ _ _ _ _ (by omega), zu_row _ _ _ _ _ (by omega)]; exact h5 n
    · refine ⟨by rw [zu_row _ _ _ _ _ (by decide), zu_row _ _ _ _ _ (by decide)]; exact h4, fun n => ?_⟩
      rw [zu_row _ _ _ _ _ (by omega), zu_row _ _ _ _ _ (by omega)]; exact h5 n
  have hhl : hlB (rC zo hi lo f) = true := by
    refine hl_iff.mpr ⟨?_, ?_⟩
    · rw [hrow.1]
      obtain ⟨a, ea⟩ := to8 hh
      rw [ea]; exact sh_bc a
    · rw [hrow.2.1]
      obtain ⟨a, ea⟩ := to8 hl
      rw [ea]; exact sh_bc a
  refine ⟨?_, ?_, ?_, hlow.1, hlow.2, hh, hrow.1, hhl, ?_, ?_⟩
  · unfold rC; split
    · exact io4
    · exact io2
  · unfold rC; split
    · exact ip4
    · exact ip2
  · unfold rC; split
    · exact alk_z1 (alk_z1 (alk_z1 (alk_z1 h3 _ _) _ _) _ _) _ _
    · exact alk_z1 (alk_z1 h3 _ _) _ _
  · unfold jnB
    rw [hrow.1, hrow.2.1, hlow.2 kk]
    rcases hp with ⟨e1, e2⟩ | ⟨e1, e2⟩
    · rw [e1, e2]; simp
    · rw [e1, e2]; simp
  · unfold fourB
    rw [hhl, Bool.true_and]
    cases hf : f
    · rw [hf] at hrow
      rw [hrow.2.2.2 rfl, hrow.1]
      obtain ⟨a, ea⟩ := to8 hh
      rw [decide_eq_false (show ¬ 0 = sh hi from fun q => by rw [ea] at q; exact sh_0 a q.symm), Bool.false_and]
    · rw [hf] at hrow
      rw [(hrow.2.2.1 rfl).1, (hrow.2.2.1 rfl).2, hrow.1, hrow.2.1, decide_eq_true rfl, decide_eq_true rfl]; rfl
-- what is refused, and what is not
theorem rl_short {z : zS} {hi : Int32} (hh : inR hi 0 7 = true) (h : z 1 0 = sh hi) : s_relay z 1 hi 1 = (-3, z) := by
  have hs : shortsB z 1 (sh hi) = true := by
    unfold shortsB
    obtain ⟨a, ea⟩ := to8 hh
    rw [h, ea, decide_eq_false (sh_ne0 a)]; rfl
  unfold s_relay
  rw [if_pos ⟨by decide, hh⟩, if_pos (by decide), if_neg (fun r => r.2 ⟨rfl, hs⟩)]
theorem rl_pow {z : zS} {hi : Int32} (hh : inR hi 0 7 = true) (h : ¬ z 0 0 = 0) : s_relay z 0 hi 0 = (-3, z) := by
  unfold s_relay
  rw [if_pos ⟨by decide, hh⟩, if_pos (by decide), if_neg (fun r => h r.1)]
theorem pt_pow {z : zS} (h : ¬ z 0 0 = 0) : s_part z 0 0 1 0 = (-3, z) := by
  unfold s_part
  rw [if_pos ⟨by decide, by decide, by decide⟩, if_pos (by decide), if_pos (Or.inr h)]
theorem rm_pow {z : zS} {k : Nat} (hk : k < 4) (h1 : z (10 + k) 0 = 1) (h : ¬ z 0 0 = 0) : s_remove z (nI k) = (-3, z) := by
  obtain ⟨n1, n2⟩ := nI_in4 hk
  have hp : pOk z (nI k) = true := by unfold pOk; rw [n1, n2, h1]; rfl
  unfold s_remove
  rw [if_pos hp, if_neg h]
theorem rm_off {z : zS} {k : Nat} (hk : k < 4) (h1 : z (10 + k) 0 = 1) (h : z 0 0 = 0) : s_remove z (nI k) = (1, zu z (10 + k) 0 0) := by
  obtain ⟨n1, n2⟩ := nI_in4 hk
  have hp : pOk z (nI k) = true := by unfold pOk; rw [n1, n2, h1]; rfl
  unfold s_remove
  rw [if_pos hp, if_pos h, n2]
theorem lim_ok {z : zS} {v : Int32} (h : inR v 1 4000 = true) : s_limit z v = (z 0 1, zu z 0 1 v) := by unfold s_limit; rw [if_pos (inR_up h (by decide))]
theorem lds_ok {z : zS} {v : Int32} (h : inR v 0 200 = true) : s_leads z v = (z 0 2, zu z 0 2 v) := by unfold s_leads; rw [if_pos h]
theorem lim_1 {z : zS} (hI : qInv z) : ¬ z 0 1 < 1 := fun q => by
  have h := inR_b hI.2.1 (x := 1) (y := 20000) rfl rfl
  have h1 := Int32.lt_iff_toInt_lt.mp q
  rw [show (1 : Int32).toInt = 1 from rfl] at h1; omega
theorem lds_0 {z : zS} (hI : qInv z) : ¬ z 0 2 < 0 := fun q => by
  have h := inR_b hI.2.2.1 (x := 0) (y := 200) rfl rfl
  have := (fb_sgnI _).mp q
  omega
theorem pw_on {z : zS} (h0 : z 0 0 = 0) (hn : ¬ inH z = -9) : s_power z 1 = (0, zu z 0 0 1) := by
  unfold s_power
  rw [if_pos (by decide), if_neg (fun r => hn r.2), if_pos h0, if_pos rfl]
theorem pw_off {z : zS} (h0 : ¬ z 0 0 = 0) : s_power z 0 = (1, zu z 0 0 0) := by
  unfold s_power
  rw [if_pos (by decide), if_neg (fun r => absurd r.1 (by decide)), if_neg h0, if_neg (by decide)]
theorem inv_pw {z y : zS} {v r : Int32} (hI : qInv z) (h : s_power z v = (r, y)) : qInv y := by
  have h1 := inv_power hI v
  rw [h] at h1; exact h1
theorem inHr_le (z : zS) {kk : Nat} (hk : thB z (10 + kk) = true) (hj : jnB z (10 + kk) = true) : ∀ (k i : Nat), i ≤ kk → kk < i + k → ∃ j, inHr z k i = nI j ∧ j ≤ kk
  | 0, i, h1, h2 => absurd h2 (by omega)
  | k + 1, i, h1, h2 => by
    unfold inHr
    by_cases c : (thB z (10 + i) && jnB z (10 + i)) = true
    · rw [if_pos c]; exact ⟨i, rfl, h1⟩
    · rw [if_neg c]
      have hne : ¬ i = kk := fun q => c (by rw [q, hk, hj]; rfl)
      exact inHr_le z hk hj k (i + 1) (by omega) (by omega)
theorem inH_le {z : zS} {kk : Nat} (hk4 : kk < 4) (hl : hlB z = true) (h1 : z (10 + kk) 0 = 1) (hj : jnB z (10 + kk) = true) : ∃ j, inH z = nI j ∧ j ≤ kk := by
  unfold inH
  rw [if_pos hl]
  exact inHr_le z (by unfold thB; rw [h1]; rfl) hj 4 0 (Nat.zero_le _) (by omega)
theorem nI_no9 {j : Nat} (h : j < 4) : ¬ nI j = -9 := fun q => by
  have h1 := congrArg Int32.toInt q
  rw [nI_toInt (by omega), show (-9 : Int32).toInt = -9 from rfl] at h1; omega
/-- what a round of the law comes to when POWER is ON -/
def LD (zo zp : zS) : Prop := qInv zo ∧ qInv zp ∧ alk zo zp ∧ ¬ zo 0 0 = 0 ∧ ∀ n, n < 4 → zo (10 + n) 0 = 1
theorem LC_set {zb zo zp : zS} {kk : Nat} {hi : Int32} {f : Bool} (h : LC zb kk hi f zo zp) {lm ld : Int32} (h1 : inR lm 1 4000 = true) (h2 : inR ld 0 200 = true) : LC zb kk hi f (zu (zu zo 0 1 lm) 0 2 ld) (zu (zu zp 0 1 lm) 0 2 ld) := by
  obtain ⟨a1, a2, a3, a4, a5, a6, a7, a8, a9, a10⟩ := h
  have e1 : ∀ z : zS, zu (zu z 0 1 lm) 0 2 ld 1 = z 1 := fun z => by rw [zu_row _ _ _ _ _ (by decide), zu_row _ _ _ _ _ (by decide)]
  have ep : ∀ (z : zS) (n : Nat), zu (zu z 0 1 lm) 0 2 ld (10 + n) = z (10 + n) := fun z n => by rw [zu_row _ _ _ _ _ (by omega), zu_row _ _ _ _ _ (by omega)]
  have e0 : ∀ z : zS, zu (zu z 0 1 lm) 0 2 ld 0 0 = z 0 0 := fun z => by rw [zu_col _ _ _ _ _ _ (by decide), zu_col _ _ _ _ _ _ (by decide)]
  have iv : ∀ z : zS, qInv z → qInv (zu (zu z 0 1 lm) 0 2 ld) := fun z hz => by
    have b1 := inv_limit hz lm
    rw [lim_ok h1] at b1
    have b2 := inv_leads b1 ld
    rw [lds_ok h2] at b2
    exact b2
  refine ⟨iv zo a1, iv zp a2, ⟨by rw [e1, e1]; exact a3.1, fun n hn => by rw [ep, ep]; exact a3.2.1 n hn, by rw [e0, e0]; exact a3.2.2.1, ?_, ?_⟩, by rw [e0]; exact a4, fun n => by rw [ep]; exact a5 n, a6, by rw [e1]; exact a7, by rw [hl_c (e1 zo)]; exact a8, ?_, by rw [four_c (e1 zo)]; exact a10⟩
  · rw [zu_col _ _ _ _ _ _ (by decide), zu_same, zu_col _ _ _ _ _ _ (by decide), zu_same]
  · rw [zu_same, zu_same]
  · have : jnB (zu (zu zo 0 1 lm) 0 2 ld) (10 + kk) = jnB zo (10 + kk) := by unfold jnB; rw [ep, e1]
    rw [this]; exact a9
theorem LC_hand {zb zo zp : zS} {kk : Nat} {hi : Int32} {f : Bool} (h : LC zb kk hi f zo zp) (hk : kk < 4) (hb : ∀ n, n < 4 → zb (10 + n) 0 = 1) : (∃ j, inH zo = nI j ∧ j ≤ kk) ∧ ¬ inH zo = -9 ∧ ¬ inH zp = -9 := by
  obtain ⟨a1, a2, a3, a4, a5, a6, a7, a8, a9, a10⟩ := h
  obtain ⟨j, e, hj⟩ := inH_le hk a8 (by rw [a5]; exact hb kk hk) a9
  have h9 : ¬ inH zo = -9 := by rw [e]; exact nI_no9 (by omega)
  exact ⟨⟨j, e, hj⟩, h9, by rw [← inH_a a3]; exact h9⟩
theorem LD_of {zb zo zp : zS} {kk : Nat} {hi : Int32} {f : Bool} (h : LC zb kk hi f zo zp) (hk : kk < 4) (hb : ∀ n, n < 4 → zb (10 + n) 0 = 1) : LD (zu zo 0 0 1) (zu zp 0 0 1) := by
  obtain ⟨hj, h9, h9p⟩ := LC_hand h hk hb
  obtain ⟨a1, a2, a3, a4, a5, a6, a7, a8, a9, a10⟩ := h
  have a4p : zp 0 0 = 0 := by rw [← a3.2.2.1]; exact a4
  refine ⟨inv_pw a1 (pw_on a4 h9), inv_pw a2 (pw_on a4p h9p), ⟨?_, fun n hn => ?_, ?_, ?_, ?_⟩, by rw [zu_same]; decide, fun n hn => ?_⟩
  · rw [zu_row _ _ _ _ _ (by decide), zu_row _ _ _ _ _ (by decide)]; exact a3.1
  · rw [zu_row _ _ _ _ _ (by omega), zu_row _ _ _ _ _ (by omega)]; exact a3.2.1 n hn
  · rw [zu_same, zu_same]
  · rw [zu_col _ _ _ _ _ _ (by decide), zu_col _ _ _ _ _ _ (by decide)]; exact a3.2.2.2.1
  · rw [zu_col _ _ _ _ _ _ (by decide), zu_col _ _ _ _ _ _ (by decide)]; exact a3.2.2.2.2
  · rw [zu_row _ _ _ _ _ (by omega), a5]; exact hb n hn
/-- behind the sweep: what stands till POWER is OFF -/
def LE (zo zp : zS) : Prop := qInv zo ∧ qInv zp ∧ zo 1 = zp 1 ∧ zo 0 1 = zp 0 1 ∧ zo 0 2 = zp 0 2 ∧ ¬ zo 0 0 = 0 ∧ ¬ zp 0 0 = 0 ∧ (∀ n, n < 4 → zo (10 + n) 0 = 1 ∧ zp (10 + n) 0 = 1)
theorem LE_of {zo zp yo yp : zS} (h : LD zo zp) (hs : swPost zo zp (yo, yp)) : LE yo yp ∧ qRd yo := by
  obtain ⟨a1, a2, a3, a4, a5⟩ := h
  obtain ⟨b1, b2, b3, b4, b5, b6, b7⟩ := hs
  have b3 : keepP yo zo := b3
  have b4 : keepP yp zp := b4
  refine ⟨⟨b1, b2, ?_, ?_, ?_, ?_, ?_, fun n hn => ⟨?_, ?_⟩⟩, b7⟩
  · exact b5.trans (a3.1.trans b6.symm)
  · rw [b3.2.1, b4.2.1]; exact a3.2.2.2.1
  · rw [b3.2.2.1, b4.2.2.1]; exact a3.2.2.2.2
  · rw [b3.1]; exact a4
  · rw [b4.1, ← a3.2.2.1]; exact a4
  · rw [(b3.2.2.2.2 n hn).1]; exact a5 n hn
  · rw [(b4.2.2.2.2 n hn).1, ← a3.2.1 n hn]; exact a5 n hn
theorem LE_keep {zo zp y : zS} (h : LE zo zp) (hI : qInv y) (hk : keepP y zo) (h1 : y 1 = zo 1) : LE y zp := by
  obtain ⟨a1, a2, a3, a4, a5, a6, a7, a8⟩ := h
  exact ⟨hI, a2, h1.trans a3, by rw [hk.2.1]; exact a4, by rw [hk.2.2.1]; exact a5, by rw [hk.1]; exact a6, a7, fun n hn => ⟨by rw [(hk.2.2.2.2 n hn).1]; exact (a8 n hn).1, (a8 n hn).2⟩⟩
theorem lp_keep {z : zS} (hI : qInv z) (hon : ¬ z 0 0 = 0) {v w : Int32} (hv : inR v (-3000) 3000 = true) (hw : inR w 1 50 = true) : qInv (lpS z v w) ∧ keepP (lpS z v w) z ∧ lpS z v w 1 = z 1 := by
  unfold lpS
  by_cases c : z 0 3 = 60
  · rw [if_pos c]
    exact ⟨inv_clear hI, keep_c (by decide), zu_row _ _ _ _ _ (by decide)⟩
  · rw [if_neg c]
    have h := pulse_pack hI hv hw hon c
    exact ⟨inv_pulse hI v w, h.1, h.2.1⟩
theorem LE_lp {zo zp : zS} (h : LE zo zp) {v w : Int32} (hv : inR v (-3000) 3000 = true) (hw : inR w 1 50 = true) : LE (lpS zo v w) zp := by
  obtain ⟨b1, b2, b3⟩ := lp_keep h.1 h.2.2.2.2.2.1 hv hw
  exact LE_keep h b1 b2 b3
theorem LE_cool {zo zp : zS} (h : LE zo zp) (k : Nat) : LE (coolA zo k) zp := LE_keep h (inv_cool h.1 k) (keep_cool _ _) (cool_low _ _ (by decide))
/-- ahead of part k of a new four: those before it are new and alike -/
def LF (k : Nat) (zo zp : zS) : Prop := qInv zo ∧ qInv zp ∧ zo 1 = zp 1 ∧ zo 0 1 = zp 0 1 ∧ zo 0 2 = zp 0 2 ∧ zo 0 0 = 0 ∧ zp 0 0 = 0 ∧ (∀ n, n < 4 → k ≤ n → zo (10 + n) 0 = 1 ∧ zp (10 + n) 0 = 1) ∧ ∀ n, n < k → zo (10 + n) = zp (10 + n) ∧ zo (10 + n) 0 = 1 ∧ ¬ zo (10 + n) 3 = zo (10 + n) 4
theorem LF_of {zo zp : zS} (h : LE zo zp) : LF 0 (zu zo 0 0 0) (zu zp 0 0 0) := by
  obtain ⟨a1, a2, a3, a4, a5, a6, a7, a8⟩ := h
  refine ⟨inv_pw a1 (pw_off a6), inv_pw a2 (pw_off a7), ?_, ?_, ?_, zu_same _ _ _ _, zu_same _ _ _ _, fun n hn _ => ?_, fun n hn => absurd hn (Nat.not_lt_zero n)⟩
  · rw [zu_row _ _ _ _ _ (by decide), zu_row _ _ _ _ _ (by decide)]; exact a3
  · rw [zu_col _ _ _ _ _ _ (by decide), zu_col _ _ _ _ _ _ (by decide)]; exact a4
  · rw [zu_col _ _ _ _ _ _ (by decide), zu_col _ _ _ _ _ _ (by decide)]; exact a5
  · rw [zu_row _ _ _ _ _ (by omega), zu_row _ _ _ _ _ (by omega)]; exact a8 n hn
theorem LF_step {k : Nat} {zo zp : zS} (h : LF k zo zp) (hk : k < 4) (gg : Int32) : LF (k + 1) (boS (zu zo (10 + k) 0 0) k gg) (boS (zu zp (10 + k) 0 0) k gg) := by
  obtain ⟨a1, a2, a3, a4, a5, a6, a7, a8, a9⟩ := h
  have iv : ∀ z : zS, qInv z → z 0 0 = 0 → z (10 + k) 0 = 1 → qInv (boS (zu z (10 + k) 0 0) k gg) := fun z hz h0 h1 => by
    have b := inv_remove hz (nI k)
    rw [rm_off hk h1 h0] at b
    exact inv_boS b (by show zu z (10 + k) 0 0 0 0 = 0; rw [zu_row _ _ _ _ _ (by omega)]; exact h0) k gg
  have lw : ∀ (z : zS) (a : Nat), a < 10 → boS (zu z (10 + k) 0 0) k gg a = z a := fun z a ha => by rw [boS_low _ _ _ ha, zu_row _ _ _ _ _ (by omega)]
  have pr : ∀ (z : zS) (n : Nat), ¬ n = k → boS (zu z (10 + k) 0 0) k gg (10 + n) = z (10 + n) := fun z n hn => by rw [boS_ne _ gg hn, zu_row _ _ _ _ _ (by omega)]
  have hk8 := a8 k hk (Nat.le_refl k)
  refine ⟨iv zo a1 a6 hk8.1, iv zp a2 a7 hk8.2, by rw [lw zo 1 (by decide), lw zp 1 (by decide)]; exact a3, by rw [lw zo 0 (by decide), lw zp 0 (by decide)]; exact a4, by rw [lw zo 0 (by decide), lw zp 0 (by decide)]; exact a5, by rw [lw zo 0 (by decide)]; exact a6, by rw [lw zp 0 (by decide)]; exact a7, fun n hn hkn => ?_, fun n hn => ?_⟩
  · rw [pr zo n (by omega), pr zp n (by omega)]; exact a8 n hn (by omega)
  · by_cases c : n = k
    · rw [c, boS_at, boS_at]; exact ⟨rfl, rfl, boO_ne gg⟩
    · rw [pr zo n c, pr zp n c]; exact a9 n (by omega)
theorem LF_end {zo zp : zS} (h : LF 4 zo zp) : LA zo zp := by
  obtain ⟨a1, a2, a3, a4, a5, a6, a7, a8, a9⟩ := h
  exact ⟨a1, a2, ⟨a3, fun n hn => (a9 n hn).1, by rw [a6, a7], a4, a5⟩, a6, fun n hn => (a9 n hn).2⟩
