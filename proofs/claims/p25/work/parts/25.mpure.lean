/-! THE REFERENCE'S OWN WORDS, and how they come to the same. -/
-- the one pin of a terminal
def pnR (x : Int32) : Nat → Nat → Int32 → Int32 → Int32
  | 0, _, its, n => if n = 1 then its else -9
  | k + 1, j, its, n => if (x >>> (nI j &&& 31)) &&& 1 = 1 then pnR x k (j + 1) (nI j) (n + 1) else pnR x k (j + 1) its n
def pnF (x : Int32) : Int32 := pnR x 8 0 (-9) 0
theorem pn_all : ∀ x : Fin 256, (bcF (nI x.val) = 1 ∧ sh (pnF (nI x.val)) = nI x.val ∧ inR (pnF (nI x.val)) 0 7 = true) ∨ (¬ bcF (nI x.val) = 1 ∧ pnF (nI x.val) = -9) := by decide +kernel
theorem sh_all : ∀ a b : Fin 8, sh (nI a.val) = sh (nI b.val) → a = b := by decide +kernel
theorem pn_cases {x : Int32} (hx : inR x 0 255 = true) : (bcF x = 1 ∧ sh (pnF x) = x ∧ inR (pnF x) 0 7 = true) ∨ (¬ bcF x = 1 ∧ pnF x = -9) := by
  obtain ⟨k, hk, rfl⟩ := inR_nI (n := 255) rfl hx
  exact pn_all ⟨k, by omega⟩
theorem sh_inj {a b : Int32} (ha : inR a 0 7 = true) (hb : inR b 0 7 = true) (h : sh a = sh b) : a = b := by
  obtain ⟨i, hi, rfl⟩ := inR_nI (n := 7) rfl ha
  obtain ⟨j, hj, rfl⟩ := inR_nI (n := 7) rfl hb
  have := sh_all ⟨i, by omega⟩ ⟨j, by omega⟩ h
  rw [show i = j from congrArg Fin.val this]
theorem m9_not {x : Int32} (h : inR x 0 7 = true) : ¬ x = -9 := fun q => by rw [q] at h; exact absurd h (by decide)
theorem pn_one {x : Int32} (hx : inR x 0 255 = true) : (bcF x = 1) ↔ ¬ pnF x = -9 := by
  rcases pn_cases hx with ⟨a, -, c⟩ | ⟨a, b⟩
  · exact ⟨fun _ => m9_not c, fun _ => a⟩
  · exact ⟨fun q => absurd q a, fun q => absurd b q⟩
theorem pn_eq {x f : Int32} (hx : inR x 0 255 = true) (hb : bcF x = 1) (hf : inR f 0 7 = true) : (sh f = x) ↔ (f = pnF x) := by
  rcases pn_cases hx with ⟨-, b, c⟩ | ⟨a, -⟩
  · exact ⟨fun q => sh_inj hf c (q.trans b.symm), fun q => by rw [q]; exact b⟩
  · exact absurd hb a
theorem pn_pn {x y : Int32} (hx : inR x 0 255 = true) (hy : inR y 0 255 = true) (hb : bcF y = 1) : (pnF x = pnF y) ↔ x = y := by
  refine ⟨fun q => ?_, fun q => by rw [q]⟩
  rcases pn_cases hy with ⟨-, b, c⟩ | ⟨a, -⟩
  · rcases pn_cases hx with ⟨-, b2, -⟩ | ⟨-, b2⟩
    · rw [← b2, ← b, q]
    · rw [b2] at q; exact absurd q.symm (m9_not c)
  · exact absurd hb a
def fwB (z : zS) (p : Nat) : Bool := decide (z p 3 = pnF (z 1 0))
def isM (z : zS) (p : Nat) : Bool := (decide (z p 3 = pnF (z 1 0)) && decide (z p 4 = pnF (z 1 1))) || (decide (z p 3 = pnF (z 1 1)) && decide (z p 4 = pnF (z 1 0)))
theorem hl_iff {z : zS} : hlB z = true ↔ bcF (z 1 0) = 1 ∧ bcF (z 1 1) = 1 := by
  unfold hlB
  rw [Bool.and_eq_true, decide_eq_true_eq, decide_eq_true_eq]
theorem inv_pn {z : zS} (hI : qInv z) (t : Nat) (ht : t < 4) : inR (z 1 t) 0 255 = true := hI.2.2.2.2.2.1 t ht
theorem hl_pn {z : zS} (hI : qInv z) : hlB z = true ↔ ¬ pnF (z 1 0) = -9 ∧ ¬ pnF (z 1 1) = -9 := by
  rw [hl_iff, pn_one (inv_pn hI 0 (by decide)), pn_one (inv_pn hI 1 (by decide))]
theorem jn_isM {z : zS} (hI : qInv z) (hl : hlB z = true) {i : Nat} (hi : i < 4) : jnB z (10 + i) = isM z (10 + i) := by
  obtain ⟨b0, b1⟩ := hl_iff.mp hl
  obtain ⟨-, -, -, h3, h4, -⟩ := inv_p hI i hi
  have e1 := pn_eq (inv_pn hI 0 (by decide)) b0 h3
  have e2 := pn_eq (inv_pn hI 0 (by decide)) b0 h4
  have e3 := pn_eq (inv_pn hI 1 (by decide)) b1 h3
  have e4 := pn_eq (inv_pn hI 1 (by decide)) b1 h4
  unfold jnB isM
  rw [decide_eq_decide.mpr e1, decide_eq_decide.mpr e2, decide_eq_decide.mpr e3, decide_eq_decide.mpr e4]
theorem fw_iff {z : zS} (hI : qInv z) (hl : hlB z = true) {i : Nat} (hi : i < 4) : fwB z (10 + i) = true ↔ sh (z (10 + i) 3) = z 1 0 := by
  obtain ⟨b0, -⟩ := hl_iff.mp hl
  obtain ⟨-, -, -, h3, -⟩ := inv_p hI i hi
  unfold fwB
  rw [decide_eq_true_eq]
  exact (pn_eq (inv_pn hI 0 (by decide)) b0 h3).symm
theorem four_M {z : zS} (hI : qInv z) : fourB z = (!(decide (pnF (z 1 0) = -9)) && (decide (pnF (z 1 2) = pnF (z 1 0)) && (!(decide (pnF (z 1 1) = -9)) && decide (pnF (z 1 3) = pnF (z 1 1))))) := by
  have h := hl_pn hI
  by_cases hl : hlB z = true
  · obtain ⟨b0, b1⟩ := hl_iff.mp hl
    obtain ⟨n0, n1⟩ := h.mp hl
    have e1 := pn_pn (inv_pn hI 2 (by decide)) (inv_pn hI 0 (by decide)) b0
    have e2 := pn_pn (inv_pn hI 3 (by decide)) (inv_pn hI 1 (by decide)) b1
    unfold fourB
    rw [hl]
    simp [n0, n1, e1, e2]
  · have hf : hlB z = false := by simpa using hl
    unfold fourB
    rw [hf]
    by_cases n0 : pnF (z 1 0) = -9
    · simp [n0]
    · have n1 : pnF (z 1 1) = -9 := Classical.not_not.mp (fun q => hl (h.mpr ⟨n0, q⟩))
      simp [n1]
-- whole parts of fractions
theorem cut_p {u d : Int32} (hd : 0 < d.toInt) (h : ¬ u < 0) : u / d = fdv u d := by
  have h0 : 0 ≤ u.toInt := by have : ¬ u.toInt < 0 := fun q => h ((fb_sgnI u).mpr q); omega
  refine Int32.toInt_inj.mp ?_
  rw [fdv_toInt u d hd, dv_toInt u d hd, Int.tdiv_eq_ediv_of_nonneg h0]
theorem ediv_neg {u d : Int} (hd : 0 < d) (hu : u < 0) : -((d - 1 - u) / d) = u / d := by
  have h1 := Int.mul_ediv_add_emod u d
  have h2 := Int.emod_nonneg u (Int.ne_of_gt hd)
  have h3 := Int.emod_lt_of_pos u hd
  have h4 : d - 1 - u = (d - 1 - u % d) + d * (-(u / d)) := by rw [Int.mul_neg]; omega
  rw [h4, Int.add_mul_ediv_left _ _ (Int.ne_of_gt hd), Int.ediv_eq_zero_of_lt (by omega) (by omega)]
  omega
theorem cut_n {u d : Int32} (hd : 0 < d.toInt) (hd2 : d.toInt ≤ 100000000) (hu : -1000000000 ≤ u.toInt) (h : u < 0) : -((d - 1 - u) / d) = fdv u d := by
  have h0 := (fb_sgnI u).mp h
  have e1 : (1 : Int32).toInt = 1 := rfl
  have s1 : (d - 1).toInt = d.toInt - 1 := by rw [fb_subI (by rw [e1]; omega) (by rw [e1]; omega), e1]
  have s2 : (d - 1 - u).toInt = d.toInt - 1 - u.toInt := by rw [fb_subI (by rw [s1]; omega) (by rw [s1]; omega), s1]
  have s3 : ((d - 1 - u) / d).toInt = (d.toInt - 1 - u.toInt) / d.toInt := by
    rw [dv_toInt _ _ hd, s2, Int.tdiv_eq_ediv_of_nonneg (by omega)]
  have b1 : 0 ≤ (d.toInt - 1 - u.toInt) / d.toInt := Int.ediv_nonneg (by omega) (by omega)
  refine Int32.toInt_inj.mp ?_
  rw [fdv_toInt u d hd, fb_negI (by rw [s3]; omega), s3]
  exact ediv_neg hd h0
theorem pos_ne {d : Int32} (hd : 0 < d.toInt) : ¬ d = 0 := fun q => by rw [q] at hd; exact absurd hd (by decide)
theorem sz_abs {v : Int32} (h : ¬ 0 ≤ v) : -v = absI v := by
  unfold absI
  rw [if_neg h, Int32.zero_sub]
-- a number's place in the row of numbers
theorem num_ix {n : Int32} (hn : inR n 0 3 = true) {k : Nat} (hk : k < 5) : 5 * n + nI k = nI (5 * ix n + k) ∧ vp_in (5 * n + nI k) 20 ∧ (5 * n + nI k).toNatClampNeg = 5 * ix n + k := by
  obtain ⟨h1, h2, -⟩ := inR_ix (n := 3) rfl hn
  have e : 5 * n + nI k = nI (5 * ix n + k) := by
    have e5 : (5 : Int32) * n = nI (5 * ix n) := by
      have : (5 : Int32) * nI (ix n) = nI (5 * ix n) := by rw [show (5 : Int32) = nI 5 from rfl, pk_mul]
      rw [← h2] at this
      exact this
    rw [e5, nI_add]
  refine ⟨e, ?_, ?_⟩
  · rw [e]; exact vp_in_nI (by omega) (by decide)
  · rw [e]; exact nI_clamp (by omega)
theorem num_rd (z : zS) {i k : Nat} (hk : k < 5) : z (10 + (5 * i + k) / 5) (7 + (5 * i + k) % 5) = z (10 + i) (7 + k) := by
  rw [show (5 * i + k) / 5 = i by omega, show (5 * i + k) % 5 = k by omega]
theorem num_at (z : zS) {n : Int32} (hn : inR n 0 3 = true) {k : Nat} (hk : k < 5) : z (10 + (5 * n + nI k).toNatClampNeg / 5) (7 + (5 * n + nI k).toNatClampNeg % 5) = z (10 + ix n) (7 + k) := by
  rw [(num_ix hn hk).2.2, num_rd z hk]
-- how far: what stands against volts u
def agF (z : zS) (p : Nat) (u v : Int32) : Int32 := if alB z p u = true then 1 else if fourB z = true then 0 else if absI v < absI (u + dropF z (ampF z p u)) then 2 else 0
theorem ag_0 {z : zS} {p : Nat} {u v : Int32} : agF z p u v = 0 ↔ awB z p u v = true := by
  unfold agF awB
  by_cases h1 : alB z p u = true
  · simp [h1]
  · by_cases h2 : fourB z = true
    · simp [h1, h2]
    · by_cases h3 : absI v < absI (u + dropF z (ampF z p u))
      · have h4 : ¬ absI (u + dropF z (ampF z p u)) ≤ absI v := fun q => i_le_t q h3
        simp [h1, h2, h3, h4]
      · have h4 := i_lt_f h3
        simp [h1, h2, h3, h4]
theorem ag_ru {z : zS} {p : Nat} {u v : Int32} (h : ¬ agF z p u v = 0) : agF z p u v = if alB z p u = true then 1 else 2 := by
  unfold agF at h ⊢
  by_cases h1 : alB z p u = true
  · rw [if_pos h1, if_pos h1]
  · rw [if_neg h1] at h ⊢
    rw [if_neg h1]
    by_cases h2 : fourB z = true
    · rw [if_pos h2] at h; exact absurd rfl h
    · rw [if_neg h2] at h ⊢
      by_cases h3 : absI v < absI (u + dropF z (ampF z p u))
      · rw [if_pos h3]
      · rw [if_neg h3] at h; exact absurd rfl h
theorem srch_eq2 {P : Nat → Bool} {K a : Nat} (ha : a ≤ K) (h1 : ∀ j, 1 ≤ j → j ≤ a → P j = true) (h2 : a = K ∨ P (a + 1) = false) : srch P K = a := by
  have hle := srch_le K P
  rcases Nat.lt_trichotomy (srch P K) a with q | q | q
  · have hn := srch_no K P (by omega)
    rw [h1 (srch P K + 1) (by omega) (by omega)] at hn; cases hn
  · exact q
  · rcases h2 with h2 | h2
    · omega
    · have := srch_yes K P (a + 1) (by omega) (by omega)
      rw [h2] at this; cases this
theorem sg_succ (v : Int32) (k : Nat) : sgn v * nI k + sgn v = sgn v * nI (k + 1) := by
  rw [nI_succ, Int32.mul_add, Int32.mul_one]
theorem sg_v {v : Int32} (hv : inR v (-3000) 3000 = true) : sgn v * nI (ix (absI v)) = v := by
  have hb := inR_b hv (x := -3000) (y := 3000) rfl rfl
  obtain ⟨e, hk⟩ := abs_nI hb.1 hb.2
  have ea := absI_Z (x := v) (by omega)
  rw [e, nI_toInt (by omega)] at ea
  refine Int32.toInt_inj.mp ?_
  rw [sgn_k hk]
  by_cases c : v < 0
  · have := (fb_sgnI v).mp c
    rw [if_pos c]; rw [if_neg (by omega)] at ea; omega
  · have : ¬ v.toInt < 0 := fun q => c ((fb_sgnI v).mpr q)
    rw [if_neg c]; rw [if_pos (by omega)] at ea; omega
theorem sg_lt {v : Int32} (hv : inR v (-3000) 3000 = true) {k : Nat} (hk : k ≤ ix (absI v)) (h : ¬ sgn v * nI k = v) : k < ix (absI v) := by
  rcases Nat.lt_or_ge k (ix (absI v)) with q | q
  · exact q
  · exact absurd (by rw [show k = ix (absI v) by omega]; exact sg_v hv) h
theorem sg_next (v : Int32) (k : Nat) : (if v < 0 then sgn v * nI k - 1 else sgn v * nI k + 1) = sgn v * nI (k + 1) := by
  rw [← sg_succ]
  by_cases c : v < 0
  · rw [if_pos c]
    have : sgn v = -1 := by unfold sgn; rw [if_pos c]
    rw [this, Int32.sub_eq_add_neg]
  · rw [if_neg c]
    have : sgn v = 1 := by unfold sgn; rw [if_neg c]
    rw [this]
theorem sg_rng {v : Int32} (hv : inR v (-3000) 3000 = true) {k : Nat} (hk : k ≤ ix (absI v)) : -3000 ≤ (sgn v * nI k).toInt ∧ (sgn v * nI k).toInt ≤ 3000 := by
  have hb := inR_b hv (x := -3000) (y := 3000) rfl rfl
  have := (abs_nI hb.1 hb.2).2
  rw [sgn_k (by omega)]
  split <;> omega
theorem fin_all {z : zS} {p : Nat} {v : Int32} (hv : inR v (-3000) 3000 = true) {k : Nat} (hk : k ≤ ix (absI v)) (hall : ∀ j, 1 ≤ j → j ≤ k → awB z p (sgn v * nI j) v = true) (he : sgn v * nI k = v) : uF z p v = sgn v * nI k ∧ ruF z p (uF z p v) v = 0 := by
  have hK : k = ix (absI v) := by
    rcases Nat.lt_or_ge k (ix (absI v)) with q | q
    · exfalso
      have h1 := he.trans (sg_v hv).symm
      have hb := inR_b hv (x := -3000) (y := 3000) rfl rfl
      have h3 := (abs_nI hb.1 hb.2).2
      have h2 := congrArg Int32.toInt h1
      rw [sgn_k (by omega), sgn_k h3] at h2
      split at h2 <;> omega
    · omega
  have e : uF z p v = sgn v * nI k := by
    unfold uF uN
    rw [srch_eq2 hk hall (Or.inl hK)]
  refine ⟨e, ?_⟩
  rw [e]; unfold ruF; rw [if_pos he]
theorem fin_stop {z : zS} {p : Nat} {v : Int32} {k : Nat} (hk : k < ix (absI v)) (hall : ∀ j, 1 ≤ j → j ≤ k → awB z p (sgn v * nI j) v = true) (hne : ¬ sgn v * nI k = v) (hs : ¬ agF z p (sgn v * nI (k + 1)) v = 0) : uF z p v = sgn v * nI k ∧ ruF z p (uF z p v) v = agF z p (sgn v * nI (k + 1)) v := by
  have hf : awB z p (sgn v * nI (k + 1)) v = false := by
    have := fun q => hs (ag_0.mpr q)
    simpa using this
  have e : uF z p v = sgn v * nI k := by
    unfold uF uN
    rw [srch_eq2 (by omega) hall (Or.inr hf)]
  refine ⟨e, ?_⟩
  rw [e, ag_ru hs]; unfold ruF; rw [if_neg hne, sg_next]
theorem upd_01 {r : Nat → Int32} {a e b g : Int32} : upd (upd (upd (upd r 0 a) 1 e) 1 g) 0 b = upd (upd r 0 b) 1 g := by
  funext j; simp only [upd]; split <;> (try split) <;> simp_all
theorem upd_a1 {r : Nat → Int32} {a e b g : Int32} : upd (upd (upd (upd r 0 a) 1 e) 0 b) 1 g = upd (upd r 0 b) 1 g := by
  funext j; simp only [upd]; split <;> (try split) <;> simp_all
theorem upd_3 {r : Nat → Int32} {a b c a2 b2 c2 : Int32} : upd (upd (upd (upd (upd (upd r 0 a) 1 b) 2 c) 0 a2) 1 b2) 2 c2 = upd (upd (upd r 0 a2) 1 b2) 2 c2 := by
  funext j; simp only [upd]; repeat (first | split | simp_all)
-- heat, as the reference counts it
def wlM (h u a t : Int32) : Int32 := h + ((absI u).toInt64 * (absI a).toInt64 * t.toInt64 / 500000).toInt32
def heS (z : zS) (p : Nat) (u a t : Int32) : zS := zu (zu z p 1 (if z p 1 = 0 then (if wlM (z p 6) u a t < 1000 then 0 else 1) else 1)) p 6 (if wlM (z p 6) u a t < 1000 then wlM (z p 6) u a t else 1000)
def hoF (z : zS) (p : Nat) (u a t : Int32) : Int32 := if wlM (z p 6) u a t < 1000 then -9 else if z p 1 = 0 then wlM (z p 6) u a t - 999 else -9
theorem absI_N {x : Int32} (h : x.toInt ≠ -2147483648) : (absI x).toInt = (x.toInt.natAbs : Int) := by
  rw [absI_Z h]; split <;> omega
theorem wl_eq {h u a t : Int32} (h1 : -3000 ≤ u.toInt) (h2 : u.toInt ≤ 3000) (h3 : -21000 ≤ a.toInt) (h4 : a.toInt ≤ 21000) (ht : inR t 1 50 = true) : wlM h u a t = wldF h u a t := by
  have ht := inR_b ht (x := 1) (y := 50) rfl rfl
  have eu := absI_N (x := u) (by omega)
  have ea := absI_N (x := a) (by omega)
  obtain ⟨-, m1, m2, m3⟩ := mul3L h1 h2 h3 h4 (w := t) (by omega) ht.2
  obtain ⟨-, n1, n2, n3⟩ := mul3L (u := absI u) (a := absI a) (w := t) (by omega) (by omega) (by omega) (by omega) (by omega) ht.2
  unfold wlM wldF
  have e : (absI u).toInt64 * (absI a).toInt64 * t.toInt64 = absL (u.toInt64 * a.toInt64 * t.toInt64) := by
    refine Int64.toInt_inj.mp ?_
    rw [n1, absL_Z (by rw [m1]; omega), m1, eu, ea, Int.natAbs_mul, Int.natAbs_mul]
    have : (t.toInt.natAbs : Int) = t.toInt := by omega
    rw [Int.natCast_mul, Int.natCast_mul, this]
  rw [e]
theorem zu_comm (z : zS) (p : Nat) {i j : Nat} (h : ¬ i = j) (x y : Int32) : zu (zu z p i x) p j y = zu (zu z p j y) p i x := by
  funext a b
  simp only [zu]
  by_cases ha : a = p
  · by_cases h1 : b = i
    · have h2 : ¬ b = j := fun q => h (h1.symm.trans q)
      simp [ha, h1, h2, h]
    · by_cases h2 : b = j
      · have h3 : ¬ j = i := fun q => h q.symm
        simp [ha, h1, h2, h3]
      · simp [ha, h1, h2]
  · simp [ha]
theorem minI_le {x : Int32} : minI x 1000 = if x < 1000 then x else 1000 := by
  unfold minI
  by_cases c : 1000 < x
  · have : ¬ x < 1000 := fun q => by
      have h1 := Int32.lt_iff_toInt_lt.mp c
      have h2 := Int32.lt_iff_toInt_lt.mp q
      omega
    rw [if_pos c, if_neg this]
  · rw [if_neg c]
    by_cases d : x < 1000
    · rw [if_pos d]
    · rw [if_neg d]
      refine Int32.toInt_inj.mp ?_
      have h1 : ¬ (1000 : Int32).toInt < x.toInt := fun q => c (Int32.lt_iff_toInt_lt.mpr q)
      have h2 : ¬ x.toInt < (1000 : Int32).toInt := fun q => d (Int32.lt_iff_toInt_lt.mpr q)
      omega
theorem he_eq {z : zS} {i : Nat} (hp : partInv (z (10 + i))) {u a t : Int32} (he : wlM (z (10 + i) 6) u a t = wldF (z (10 + i) 6) u a t) : heS z (10 + i) u a t = (warmS z (10 + i) u a t).2 ∧ hoF z (10 + i) u a t = if 0 < (warmS z (10 + i) u a t).1 then (warmS z (10 + i) u a t).1 else -9 := by
  obtain ⟨-, h1, -⟩ := hp
  unfold heS hoF warmS
  rw [he, minI_le]
  generalize wldF (z (10 + i) 6) u a t = W
  by_cases c : W < 1000
  · rw [if_pos c, if_pos c, if_pos c, if_pos (Or.inl c)]
    refine ⟨?_, ?_⟩
    · have e : (if z (10 + i) 1 = 0 then (0 : Int32) else 1) = z (10 + i) 1 := by
        rcases h1 with q | q <;> rw [q] <;> rfl
      rw [e, zu_self]
    · dsimp only; rw [if_neg (by decide)]
  · rw [if_neg c, if_neg c, if_neg c]
    by_cases d : z (10 + i) 1 = 0
    · rw [if_pos d, if_pos d, if_neg (fun q => q.elim c (fun q => q d))]
      refine ⟨zu_comm _ _ (by decide) _ _, ?_⟩
      have h2 : ¬ W.toInt < 1000 := fun q => c (Int32.lt_iff_toInt_lt.mpr q)
      have h3 := fb_rng W
      have e9 : (999 : Int32).toInt = 999 := rfl
      have e : (W - 999).toInt = W.toInt - 999 := by rw [fb_subI (by rw [e9]; omega) (by rw [e9]; omega), e9]
      rw [if_pos (Int32.lt_iff_toInt_lt.mpr (by rw [e, i0]; omega))]
    · rw [if_neg d, if_neg d, if_pos (Or.inr d)]
      refine ⟨?_, ?_⟩
      · have e : z (10 + i) 1 = 1 := h1.resolve_left d
        rw [← e, zu_self]
      · dsimp only; rw [if_neg (by decide)]
-- rests
theorem cool_at (k : Nat) : ∀ (f i : Nat) (z : zS) (a b : Nat), coolR k f i z a b = if b = 6 ∧ 10 + i ≤ a ∧ a < 10 + i + f then coolN k (z a 6) else z a b
  | 0, i, z, a, b => by
    rw [if_neg (by omega)]; rfl
  | f + 1, i, z, a, b => by
    show coolR k f (i + 1) (zu z (10 + i) 6 (coolN k (z (10 + i) 6))) a b = _
    rw [cool_at k f (i + 1)]
    by_cases h : b = 6
    · by_cases h2 : a = 10 + i
      · rw [if_neg (by omega), if_pos (by omega), h, h2, zu_same]
      · rw [zu_row _ _ _ _ _ h2]
        by_cases h3 : 10 + i ≤ a ∧ a < 10 + i + (f + 1)
        · rw [if_pos (by omega), if_pos ⟨h, h3⟩]
        · rw [if_neg (by omega), if_neg (fun q => h3 q.2)]
    · rw [if_neg (fun q => h q.1), if_neg (fun q => h q.1), zu_col _ _ _ _ _ _ h]
theorem cool_add (z : zS) (k : Nat) : coolA (coolA z 1) k = coolA z (k + 1) := by
  funext a b
  unfold coolA
  rw [cool_at k 4 0, cool_at (k + 1) 4 0, cool_at 1 4 0, cool_at 1 4 0]
  by_cases h : b = 6 ∧ 10 + 0 ≤ a ∧ a < 10 + 0 + 4
  · rw [if_pos h, if_pos h, if_pos ⟨rfl, h.2⟩]; rfl
  · rw [if_neg h, if_neg h, if_neg h]
theorem cool_0 (z : zS) : coolA z 0 = z := by
  funext a b
  unfold coolA
  rw [cool_at 0 4 0]
  split
  · rename_i h; rw [h.1]; rfl
  · rfl
-- the greatest of what is named
def mxQ (S : Int32 → Prop) (g0 g : Int32) : Prop := g0 ≤ g ∧ (∀ v, S v → v ≤ g) ∧ (g = g0 ∨ S g)
theorem i_tr {a b c : Int32} (h : a ≤ b) (k : b ≤ c) : a ≤ c := by
  rw [Int32.le_iff_toInt_le] at *; omega
theorem i_rf (a : Int32) : a ≤ a := by rw [Int32.le_iff_toInt_le]; omega
theorem mxQ.rf {S : Int32 → Prop} {g : Int32} (h : ∀ v, ¬ S v) : mxQ S g g := ⟨i_rf g, fun v q => absurd q (h v), Or.inl rfl⟩
theorem mxQ.tr {S S' : Int32 → Prop} {g0 g1 g2 : Int32} (h : mxQ S g0 g1) (k : mxQ S' g1 g2) : mxQ (fun v => S v ∨ S' v) g0 g2 := by
  refine ⟨i_tr h.1 k.1, fun v q => ?_, ?_⟩
  · rcases q with q | q
    · exact i_tr (h.2.1 v q) k.1
    · exact k.2.1 v q
  · rcases k.2.2 with q | q
    · rcases h.2.2 with q2 | q2
      · exact Or.inl (q.trans q2)
      · exact Or.inr (Or.inl (by rw [q]; exact q2))
    · exact Or.inr (Or.inr q)
theorem mxQ.ext {S S' : Int32 → Prop} {g0 g : Int32} (h : mxQ S g0 g) (e : ∀ v, S v ↔ S' v) : mxQ S' g0 g :=
  ⟨h.1, fun v q => h.2.1 v ((e v).mpr q), h.2.2.elim Or.inl (fun q => Or.inr ((e g).mp q))⟩
theorem mxQ.one {x g : Int32} : mxQ (fun v => v = x) g (maxI g x) := by
  unfold maxI
  by_cases c : g < x
  · rw [if_pos c]; exact ⟨by rw [Int32.le_iff_toInt_le]; rw [Int32.lt_iff_toInt_lt] at c; omega, fun v q => by rw [q]; exact i_rf x, Or.inr rfl⟩
  · rw [if_neg c]; exact ⟨i_rf g, fun v q => by rw [q]; exact i_lt_f c, Or.inl rfl⟩
theorem mxQ.un {S : Int32 → Prop} {g0 g g' : Int32} (h : mxQ S g0 g) (k : mxQ S g0 g') : g = g' := by
  have h1 : g ≤ g' := by
    rcases h.2.2 with q | q
    · rw [q]; exact k.1
    · exact k.2.1 g q
  have h2 : g' ≤ g := by
    rcases k.2.2 with q | q
    · rw [q]; exact h.1
    · exact h.2.1 g' q
  rw [Int32.le_iff_toInt_le] at h1 h2
  exact Int32.toInt_inj.mp (by omega)
theorem gpI_q (z : zS) (i : Nat) : ∀ (f j : Nat) (g : Int32), mxQ (fun v => ∃ y, j ≤ y ∧ y < j + f ∧ z 2 i = z 2 y ∧ v = absI (z 4 i - z 4 y)) g (gpI z i f j g)
  | 0, j, g => mxQ.rf (fun v ⟨y, h1, h2, _⟩ => by omega)
  | f + 1, j, g => by
    show mxQ _ g (gpI z i f (j + 1) (if z 2 i = z 2 j then maxI g (absI (z 4 i - z 4 j)) else g))
    have ih := gpI_q z i f (j + 1) (if z 2 i = z 2 j then maxI g (absI (z 4 i - z 4 j)) else g)
    have h0 : mxQ (fun v => z 2 i = z 2 j ∧ v = absI (z 4 i - z 4 j)) g (if z 2 i = z 2 j then maxI g (absI (z 4 i - z 4 j)) else g) := by
      by_cases c : z 2 i = z 2 j
      · rw [if_pos c]; exact mxQ.one.ext (fun v => ⟨fun q => ⟨c, q⟩, fun q => q.2⟩)
      · rw [if_neg c]; exact mxQ.rf (fun v q => c q.1)
    refine (h0.tr ih).ext (fun v => ⟨?_, ?_⟩)
    · rintro (⟨a, b⟩ | ⟨y, a, b, c, d⟩)
      · exact ⟨j, by omega, by omega, a, b⟩
      · exact ⟨y, by omega, by omega, c, d⟩
    · rintro ⟨y, a, b, c, d⟩
      by_cases e : y = j
      · left; rw [e] at c d; exact ⟨c, d⟩
      · right; exact ⟨y, by omega, by omega, c, d⟩
theorem gpR_q (z : zS) (b : Nat) : ∀ (f i : Nat) (g : Int32), i + f ≤ b → mxQ (fun v => ∃ x y, i ≤ x ∧ x < i + f ∧ x < y ∧ y ≤ b ∧ z 2 x = z 2 y ∧ v = absI (z 4 x - z 4 y)) g (gpR z b f i g)
  | 0, i, g, _ => mxQ.rf (fun v ⟨x, y, h1, h2, _⟩ => by omega)
  | f + 1, i, g, h => by
    show mxQ _ g (gpR z b f (i + 1) (gpI z i (b - i) (i + 1) g))
    refine ((gpI_q z i (b - i) (i + 1) g).tr (gpR_q z b f (i + 1) _ (by omega))).ext (fun v => ⟨?_, ?_⟩)
    · rintro (⟨y, h1, h2, h3, h4⟩ | ⟨x, y, h1, h2, h3⟩)
      · exact ⟨i, y, by omega, by omega, by omega, by omega, h3, h4⟩
      · exact ⟨x, y, by omega, by omega, h3⟩
    · rintro ⟨x, y, h1, h2, h3, h4, h5, h6⟩
      by_cases e : x = i
      · left; rw [e] at h3 h5 h6; exact ⟨y, by omega, by omega, h5, h6⟩
      · right; exact ⟨x, y, by omega, by omega, h3, h4, h5, h6⟩
def gmV (z : zS) (x y : Nat) : Int32 := if z 2 x = z 2 y then absI (z 4 x - z 4 y) else 0
def gmI (z : zS) (x : Nat) : Nat → Nat → Int32 → Int32
  | 0, _, g => g
  | f + 1, y, g => gmI z x f (y + 1) (if g < gmV z x y then gmV z x y else g)
def gmR (z : zS) (a : Nat) : Nat → Nat → Int32 → Int32
  | 0, _, g => g
  | f + 1, x, g => gmR z a f (x + 1) (gmI z x (x - a) a g)
def gmF (z : zS) (a b : Nat) : Int32 := gmR z a (b + 1 - a) a 0
theorem gmI_q (z : zS) (x : Nat) : ∀ (f j : Nat) (g : Int32), 0 ≤ g → mxQ (fun v => ∃ y, j ≤ y ∧ y < j + f ∧ z 2 x = z 2 y ∧ v = absI (z 4 x - z 4 y)) g (gmI z x f j g)
  | 0, j, g, _ => mxQ.rf (fun v ⟨y, h1, h2, _⟩ => by omega)
  | f + 1, j, g, hg => by
    show mxQ _ g (gmI z x f (j + 1) (if g < gmV z x j then gmV z x j else g))
    have h0 : mxQ (fun v => z 2 x = z 2 j ∧ v = absI (z 4 x - z 4 j)) g (if g < gmV z x j then gmV z x j else g) := by
      unfold gmV
      by_cases c : z 2 x = z 2 j
      · rw [if_pos c]; exact (mxQ.one (x := absI (z 4 x - z 4 j)) (g := g)).ext (fun v => ⟨fun q => ⟨c, q⟩, fun q => q.2⟩)
      · rw [if_neg c, if_neg (i_le_t hg)]; exact mxQ.rf (fun v q => c q.1)
    have ih := gmI_q z x f (j + 1) (if g < gmV z x j then gmV z x j else g) (i_tr hg h0.1)
    refine (h0.tr ih).ext (fun v => ⟨?_, ?_⟩)
    · rintro (⟨a, b⟩ | ⟨y, a, b, c, d⟩)
      · exact ⟨j, by omega, by omega, a, b⟩
      · exact ⟨y, by omega, by omega, c, d⟩
    · rintro ⟨y, a, b, c, d⟩
      by_cases e : y = j
      · left; rw [e] at c d; exact ⟨c, d⟩
      · right; exact ⟨y, by omega, by omega, c, d⟩
theorem gmR_q (z : zS) (a : Nat) : ∀ (f i : Nat) (g : Int32), a ≤ i → 0 ≤ g → mxQ (fun v => ∃ x y, i ≤ x ∧ x < i + f ∧ a ≤ y ∧ y < x ∧ z 2 x = z 2 y ∧ v = absI (z 4 x - z 4 y)) g (gmR z a f i g)
  | 0, i, g, _, _ => mxQ.rf (fun v ⟨x, y, h1, h2, _⟩ => by omega)
  | f + 1, i, g, h, hg => by
    show mxQ _ g (gmR z a f (i + 1) (gmI z i (i - a) a g))
    have q1 := gmI_q z i (i - a) a g hg
    refine (q1.tr (gmR_q z a f (i + 1) _ (by omega) (i_tr hg q1.1))).ext (fun v => ⟨?_, ?_⟩)
    · rintro (⟨y, h1, h2, h3, h4⟩ | ⟨x, y, h1, h2, h3⟩)
      · exact ⟨i, y, by omega, by omega, by omega, by omega, h3, h4⟩
      · exact ⟨x, y, by omega, by omega, h3⟩
    · rintro ⟨x, y, h1, h2, h3, h4, h5, h6⟩
      by_cases e : x = i
      · left; rw [e] at h4 h5 h6; exact ⟨y, by omega, by omega, h5, h6⟩
      · right; exact ⟨x, y, by omega, by omega, h3, h4, h5, h6⟩
theorem abs_sw (x y : Int32) : absI (x - y) = absI (y - x) := by
  have e : y - x = -(x - y) := by rw [Int32.neg_sub]
  rw [e]
  generalize x - y = d
  have hd := fb_rng d
  by_cases h : d.toInt = -2147483648
  · have : d = -2147483648 := Int32.toInt_inj.mp h
    rw [this]; decide
  · refine Int32.toInt_inj.mp ?_
    have en := fb_negI h
    rw [absI_N h, absI_N (by omega), en]; omega
theorem gm_eq (z : zS) {a b : Nat} (hab : a ≤ b) : gmF z a b = gpF z a b := by
  have h1 := gmR_q z a (b + 1 - a) a 0 (Nat.le_refl _) (by decide)
  have h2 := gpR_q z b (b - a) a 0 (by omega)
  refine (h1.ext (fun v => ⟨?_, ?_⟩)).un h2
  · rintro ⟨x, y, p1, p2, p3, p4, p5, p6⟩
    exact ⟨y, x, p3, by omega, p4, by omega, p5.symm, by rw [p6, abs_sw]⟩
  · rintro ⟨x, y, p1, p2, p3, p4, p5, p6⟩
    exact ⟨y, x, by omega, by omega, p1, p3, p5.symm, by rw [p6, abs_sw]⟩
-- common divisors end
def gdz : Nat → Int64 → Int64 → Bool
  | 0, _, y => decide (y = 0)
  | k + 1, x, y => if y = 0 then true else gdz k y (x - x / y * y)
theorem rem_Z {x y : Int64} (hy : ¬ y = 0) : (x - x / y * y).toInt = x.toInt.tmod y.toInt := by
  have hx := fb_rngL x
  have hyr := fb_rngL y
  have hy0 : y.toInt ≠ 0 := fun q => hy (Int64.toInt_inj.mp q)
  have e : x.toInt.tmod y.toInt = x.toInt - x.toInt.tdiv y.toInt * y.toInt := by
    have := Int.tmod_add_mul_tdiv x.toInt y.toInt
    rw [Int.mul_comm] at this
    omega
  have hm : (x.toInt.tmod y.toInt).natAbs ≤ x.toInt.natAbs := by
    rw [Int.natAbs_tmod]; exact Nat.mod_le _ _
  have hb : (x - x / y * y).toInt = (x.toInt - x.toInt.tdiv y.toInt * y.toInt).bmod (2 ^ 64) := by
    rw [Int64.toInt_sub, Int64.toInt_mul, Int64.toInt_div]
    simp
  rw [hb, ← e]
  refine fb_bmodL ?_ ?_
  · omega
  · have h2 : (x.toInt.tmod y.toInt).natAbs < y.toInt.natAbs := by
      rw [Int.natAbs_tmod]; exact Nat.mod_lt _ (by omega)
    omega
theorem gdz_mono : ∀ (k : Nat) (x y : Int64), gdz k x y = true → gdz (k + 1) x y = true
  | 0, x, y, h => by
    have h : y = 0 := by simpa [gdz] using h
    unfold gdz; rw [if_pos h]
  | k + 1, x, y, h => by
    unfold gdz at h ⊢
    by_cases c : y = 0
    · rw [if_pos c]
    · rw [if_neg c] at h ⊢
      exact gdz_mono k _ _ h
theorem gdz_le {k n : Nat} {x y : Int64} (h : gdz k x y = true) (hn : k ≤ n) : gdz n x y = true := by
  induction n with
  | zero => rw [show k = 0 by omega] at h; exact h
  | succ n ih =>
    by_cases c : k = n + 1
    · rw [← c]; exact h
    · exact gdz_mono n x y (ih (by omega))
theorem mod_half {b c : Nat} (hc : 0 < c) (hcb : c ≤ b) : 2 * (b % c) < b := by
  have h1 := Nat.div_add_mod b c
  have h2 := Nat.mod_lt b hc
  have h3 : 1 ≤ b / c := (Nat.one_le_div_iff hc).mpr hcb
  have h4 : c * 1 ≤ c * (b / c) := Nat.mul_le_mul_left c h3
  omega
theorem gdz_pow : ∀ (k : Nat) (x y : Int64), y.toInt.natAbs < 2 ^ k → gdz (2 * k) x y = true
  | 0, x, y, h => by
    have : y.toInt = 0 := by omega
    have : y = 0 := Int64.toInt_inj.mp this
    simp [gdz, this]
  | k + 1, x, y, h => by
    show gdz (2 * k + 1 + 1) x y = true
    unfold gdz
    by_cases c : y = 0
    · rw [if_pos c]
    · rw [if_neg c]
      unfold gdz
      by_cases c2 : x - x / y * y = 0
      · rw [if_pos c2]
      · rw [if_neg c2]
        refine gdz_pow k _ _ ?_
        have e1 := rem_Z (x := x) c
        have e2 := rem_Z (x := y) c2
        rw [e2, Int.natAbs_tmod]
        have y0 : y.toInt ≠ 0 := fun q => c (Int64.toInt_inj.mp q)
        have r0 : (x - x / y * y).toInt ≠ 0 := fun q => c2 (Int64.toInt_inj.mp q)
        have r1 : (x - x / y * y).toInt.natAbs < y.toInt.natAbs := by
          rw [e1, Int.natAbs_tmod]; exact Nat.mod_lt _ (by omega)
        have := mod_half (b := y.toInt.natAbs) (c := (x - x / y * y).toInt.natAbs) (by omega) (by omega)
        rw [Nat.pow_succ] at h
        omega
theorem gdz_all (x y : Int64) : gdz 1000 x y = true := by
  have hy := fb_rngL y
  exact gdz_le (gdz_pow 64 x y (by omega)) (by decide)
theorem gd_ne0 : ∀ (k : Nat) (x y : Int64), gdz k x y = true → (¬ x = 0 ∨ ¬ y = 0) → ¬ gdR k x y = 0
  | 0, x, y, h, h2 => by
    have h : y = 0 := by simpa [gdz] using h
    exact h2.resolve_right (fun q => q h)
  | k + 1, x, y, h, h2 => by
    unfold gdz at h
    unfold gdR
    by_cases c : y = 0
    · rw [if_pos c]; exact h2.resolve_right (fun q => q c)
    · rw [if_neg c] at h ⊢
      exact gd_ne0 k _ _ h (Or.inl c)
theorem absL_M {u : Int64} : absL u = if u < 0 then -u else u := by
  unfold absL
  by_cases c : 0 < u
  · have : ¬ u < 0 := fun q => by rw [Int64.lt_iff_toInt_lt] at c q; omega
    rw [if_pos c, if_neg this]
  · rw [if_neg c]
    by_cases d : u < 0
    · rw [if_pos d]
    · have : u = 0 := Int64.toInt_inj.mp (by rw [Int64.lt_iff_toInt_lt] at c d; omega)
      rw [if_neg d, this]; rfl
theorem absL_ne {u : Int64} (h : ¬ u = 0) : ¬ absL u = 0 := by
  unfold absL
  split
  · exact h
  · exact neg0L h
-- closed relays, counted bit by bit
def bcR (x : Int32) : Nat → Nat → Int32 → Int32
  | 0, _, g => g
  | f + 1, p, g => bcR x f (p + 1) (g + ((x >>> (nI p &&& 31)) &&& 1))
theorem bc_add (x : Int32) : ∀ (f p : Nat) (g : Int32), bcR x f p g = g + bcR x f p 0
  | 0, _, g => by show g = g + 0; rw [Int32.add_zero]
  | f + 1, p, g => by
    show bcR x f (p + 1) (g + ((x >>> (nI p &&& 31)) &&& 1)) = g + bcR x f (p + 1) (0 + ((x >>> (nI p &&& 31)) &&& 1))
    rw [bc_add x f (p + 1) (g + _), bc_add x f (p + 1) (0 + _), Int32.zero_add, Int32.add_assoc]
theorem bc_all : ∀ x : Fin 256, bcR (nI x.val) 8 0 0 = bcF (nI x.val) := by decide +kernel
theorem bc_eq {x : Int32} (hx : inR x 0 255 = true) (g : Int32) : bcR x 8 0 g = g + bcF x := by
  obtain ⟨k, hk, rfl⟩ := inR_nI (n := 255) rfl hx
  rw [bc_add, bc_all ⟨k, by omega⟩]
-- relays, bit by bit
theorem bit_all : ∀ x : Fin 256, ∀ p : Fin 8, ((nI x.val >>> (nI p.val &&& 31)) &&& 1 = if nI x.val &&& sh (nI p.val) = 0 then 0 else 1) ∧ ((nI x.val &&& (sh (nI p.val) ^^^ (-1))) ||| ((1 : Int32) <<< (nI p.val &&& 31)) = nI x.val ||| sh (nI p.val)) ∧ ((nI x.val &&& (sh (nI p.val) ^^^ (-1))) ||| ((0 : Int32) <<< (nI p.val &&& 31)) = nI x.val &&& (sh (nI p.val) ^^^ (-1))) := by decide +kernel
theorem bit_eq {x p : Int32} (hx : inR x 0 255 = true) (hp : inR p 0 7 = true) : ((x >>> (p &&& 31)) &&& 1 = if x &&& sh p = 0 then 0 else 1) ∧ ((x &&& (sh p ^^^ (-1))) ||| ((1 : Int32) <<< (p &&& 31)) = x ||| sh p) ∧ ((x &&& (sh p ^^^ (-1))) ||| ((0 : Int32) <<< (p &&& 31)) = x &&& (sh p ^^^ (-1))) := by
  obtain ⟨i, hi, rfl⟩ := inR_nI (n := 255) rfl hx
  obtain ⟨j, hj, rfl⟩ := inR_nI (n := 7) rfl hp
  exact bit_all ⟨i, by omega⟩ ⟨j, by omega⟩
theorem bit_1 {x p : Int32} (hx : inR x 0 255 = true) (hp : inR p 0 7 = true) : ((x >>> (p &&& 31)) &&& 1 = 1) ↔ ¬ x &&& sh p = 0 := by
  rw [(bit_eq hx hp).1]
  by_cases c : x &&& sh p = 0
  · rw [if_pos c]; exact ⟨fun q => absurd q (by decide), fun q => absurd c q⟩
  · rw [if_neg c]; exact ⟨fun _ => c, fun _ => rfl⟩
theorem in01 {v : Int32} (h : inR v 0 1 = true) : v = 0 ∨ v = 1 := by
  obtain ⟨k, hk, rfl⟩ := inR_nI (n := 1) rfl h
  rcases (show k = 0 ∨ k = 1 by omega) with rfl | rfl
  · exact Or.inl rfl
  · exact Or.inr rfl
theorem t01 {t : Int32} (ht : inR t 0 3 = true) (h : t < 2) : t = 0 ∨ t = 1 := by
  obtain ⟨k, hk, rfl⟩ := inR_nI (n := 3) rfl ht
  have := (nI_ltI (a := k) (b := 2) (by omega) (by decide)).mp h
  rcases (show k = 0 ∨ k = 1 by omega) with rfl | rfl
  · exact Or.inl rfl
  · exact Or.inr rfl
