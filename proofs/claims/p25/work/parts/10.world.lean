/-! THE WORLDS. One state z of numbers, in rows, for both sides: row 0: power, limit, leads, how many readings, how many causes; 1: the sets of pins; 2..5: forced, told, amps, rules; 6, 7: the causes' sorts and numbers; 10 + n: the part n: there, burnt, open, first, other, kind, heat, g, k, h, m, c. -/
abbrev zS : Type := Nat → Nat → Int32
def zu (z : zS) (i j : Nat) (v : Int32) : zS := fun a b => if a = i then (if b = j then v else z a b) else z a b
theorem zu_same (z : zS) (i j : Nat) (v : Int32) : zu z i j v i j = v := by simp [zu]
theorem zu_row (z : zS) (i j a : Nat) (v : Int32) (h : ¬ a = i) : zu z i j v a = z a := by funext b; simp [zu, h]
theorem zu_col (z : zS) (i j a b : Nat) (v : Int32) (h : ¬ b = j) : zu z i j v a b = z a b := by simp [zu, h]
theorem zu_upd (z : zS) (i j : Nat) (v : Int32) : zu z i j v i = upd (z i) j v := by funext b; simp [zu, upd]
abbrev qG : Type := va_G × ClassId × ClassId × ClassId
def qTys (g : qG) : List (ClassId × FieldType) := [(g.2.1, .int), (g.2.1, .int), (g.2.2.2, .object "PartCurves$Part")]
def pF (f : Nat → Int32) : List Value := [.int (f 0), .int (f 1), .int (f 2), .int (f 3), .int (f 4), .int (f 5), .int (f 6), .int (f 7), .int (f 8), .int (f 9), .int (f 10), .int (f 11)]
/-- the class's cells: 0 it, 1 its sets of pins, 2..5 the readings' rows, 6, 7 the causes' rows, 8 the row of parts, 9 the readings, 10..13 the parts, 14 the causes -/
def WX (g : qG) (ad : Nat → Nat) (z : zS) : va_W := [(ad 0, .inr (3, [.ref (ad 8), .ref (ad 1), .ref (ad 9), .ref (ad 14), .int (z 0 0), .int (z 0 1), .int (z 0 2)])),
  (ad 1, .inl (g.2.1, 4, .inl (z 1))), (ad 2, .inl (g.2.1, 60, .inl (z 2))), (ad 3, .inl (g.2.1, 60, .inl (z 3))), (ad 4, .inl (g.2.1, 60, .inl (z 4))), (ad 5, .inl (g.2.1, 60, .inl (z 5))), (ad 6, .inl (g.2.1, 3, .inl (z 6))), (ad 7, .inl (g.2.1, 3, .inl (z 7))),
  (ad 8, .inl (g.2.2.2, 4, .inr (.inr (.inr (.inr (fun n => some (ad (10 + n)))))))),
  (ad 9, .inr (2, [.ref (ad 2), .ref (ad 3), .ref (ad 4), .ref (ad 5), .int (z 0 3)])),
  (ad 10, .inr (1, pF (z 10))), (ad 11, .inr (1, pF (z 11))), (ad 12, .inr (1, pF (z 12))), (ad 13, .inr (1, pF (z 13))),
  (ad 14, .inr (0, [.ref (ad 6), .ref (ad 7), .int (z 0 4)]))]
def leastN (k : Nat) : Int32 := if k = 0 then 1 else if k = 1 then 1 else 0
def mostN (k : Nat) : Int32 := if k = 0 then 5000 else if k = 1 then 2000 else if k = 2 then 2000 else if k = 3 then 5000 else 5
def adOf (n : Nat) (ad : Nat → Nat) : Nat → Prop := fun q => ∃ i, i < n ∧ q = ad i
def adInj (n : Nat) (ad : Nat → Nat) : Prop := ∀ i j, i < n → j < n → ad i = ad j → i = j
theorem q_dom {ws : va_W} {n : Nat} {ad : Nat → Nat} (h : ws.map Prod.fst = (List.range n).map ad) {k : Nat} {q : Nat × va_E} (hk : ws[k]? = some q) : k < n ∧ q.1 = ad k := by
  have h1 : (ws.map Prod.fst)[k]? = some q.1 := by rw [List.getElem?_map, hk]; rfl
  rw [h, List.getElem?_map] at h1
  have hl : k < n := by
    rcases Nat.lt_or_ge k n with z | z
    · exact z
    · rw [List.getElem?_eq_none (by simpa using z)] at h1; cases h1
  rw [List.getElem?_range hl] at h1
  exact ⟨hl, (Option.some.inj h1).symm⟩
theorem q_D {ws : va_W} {n : Nat} {ad : Nat → Nat} (h : ws.map Prod.fst = (List.range n).map ad) (hj : adInj n ad) : va_D (adOf n ad) ws := by
  refine ⟨fun i j p q hi hj2 hpq => ?_, fun k q hk => ?_⟩
  · obtain ⟨h1, h2⟩ := q_dom h hi
    obtain ⟨h3, h4⟩ := q_dom h hj2
    exact hj i j h1 h3 (by rw [← h2, ← h4]; exact hpq)
  · obtain ⟨h1, h2⟩ := q_dom h hk
    exact ⟨k, h1, h2⟩
theorem WX_dom (g : qG) (ad : Nat → Nat) (z : zS) : (WX g ad z).map Prod.fst = (List.range 15).map ad := rfl
theorem WX_D (g : qG) {ad : Nat → Nat} (z : zS) (hj : adInj 15 ad) : va_D (adOf 15 ad) (WX g ad z) := q_D (WX_dom g ad z) hj
theorem q_4 {P : Nat → Prop} (h0 : P 0) (h1 : P 1) (h2 : P 2) (h3 : P 3) {i : Nat} (hi : i < 4) : P i := by
  rcases (show i = 0 ∨ i = 1 ∨ i = 2 ∨ i = 3 by omega) with rfl | rfl | rfl | rfl <;> assumption
theorem WX_p (g : qG) (ad : Nat → Nat) (z : zS) {e : Nat} (he : e < 4) : (WX g ad z)[10 + e]? = some (ad (10 + e), .inr (1, pF (z (10 + e)))) :=
  q_4 (P := fun e => (WX g ad z)[10 + e]? = some (ad (10 + e), .inr (1, pF (z (10 + e))))) rfl rfl rfl rfl he
-- a write, by its row
theorem WX_on (g : qG) (ad : Nat → Nat) (z : zS) (v : Int32) : (WX g ad z).set 0 (ad 0, .inr (3, [.ref (ad 8), .ref (ad 1), .ref (ad 9), .ref (ad 14), .int v, .int (z 0 1), .int (z 0 2)])) = WX g ad (zu z 0 0 v) := rfl
theorem WX_lim (g : qG) (ad : Nat → Nat) (z : zS) (v : Int32) : (WX g ad z).set 0 (ad 0, .inr (3, [.ref (ad 8), .ref (ad 1), .ref (ad 9), .ref (ad 14), .int (z 0 0), .int v, .int (z 0 2)])) = WX g ad (zu z 0 1 v) := rfl
theorem WX_lds (g : qG) (ad : Nat → Nat) (z : zS) (v : Int32) : (WX g ad z).set 0 (ad 0, .inr (3, [.ref (ad 8), .ref (ad 1), .ref (ad 9), .ref (ad 14), .int (z 0 0), .int (z 0 1), .int v])) = WX g ad (zu z 0 2 v) := rfl
theorem WX_rc (g : qG) (ad : Nat → Nat) (z : zS) (v : Int32) : (WX g ad z).set 9 (ad 9, .inr (2, [.ref (ad 2), .ref (ad 3), .ref (ad 4), .ref (ad 5), .int v])) = WX g ad (zu z 0 3 v) := rfl
theorem WX_cc (g : qG) (ad : Nat → Nat) (z : zS) (v : Int32) : (WX g ad z).set 14 (ad 14, .inr (0, [.ref (ad 6), .ref (ad 7), .int v])) = WX g ad (zu z 0 4 v) := rfl
theorem WX_1 (g : qG) (ad : Nat → Nat) (z : zS) (j : Nat) (v : Int32) : (WX g ad z).set 1 (ad 1, .inl (g.2.1, 4, .inl (upd (z 1) j v))) = WX g ad (zu z 1 j v) := rfl
theorem WX_2 (g : qG) (ad : Nat → Nat) (z : zS) (j : Nat) (v : Int32) : (WX g ad z).set 2 (ad 2, .inl (g.2.1, 60, .inl (upd (z 2) j v))) = WX g ad (zu z 2 j v) := rfl
theorem WX_3 (g : qG) (ad : Nat → Nat) (z : zS) (j : Nat) (v : Int32) : (WX g ad z).set 3 (ad 3, .inl (g.2.1, 60, .inl (upd (z 3) j v))) = WX g ad (zu z 3 j v) := rfl
theorem WX_4 (g : qG) (ad : Nat → Nat) (z : zS) (j : Nat) (v : Int32) : (WX g ad z).set 4 (ad 4, .inl (g.2.1, 60, .inl (upd (z 4) j v))) = WX g ad (zu z 4 j v) := rfl
theorem WX_5 (g : qG) (ad : Nat → Nat) (z : zS) (j : Nat) (v : Int32) : (WX g ad z).set 5 (ad 5, .inl (g.2.1, 60, .inl (upd (z 5) j v))) = WX g ad (zu z 5 j v) := rfl
theorem WX_6 (g : qG) (ad : Nat → Nat) (z : zS) (j : Nat) (v : Int32) : (WX g ad z).set 6 (ad 6, .inl (g.2.1, 3, .inl (upd (z 6) j v))) = WX g ad (zu z 6 j v) := rfl
theorem WX_7 (g : qG) (ad : Nat → Nat) (z : zS) (j : Nat) (v : Int32) : (WX g ad z).set 7 (ad 7, .inl (g.2.1, 3, .inl (upd (z 7) j v))) = WX g ad (zu z 7 j v) := rfl
theorem WX_part (g : qG) (ad : Nat → Nat) (z : zS) {e : Nat} (he : e < 4) (v : Int32) {k : Nat} (hk : k < 12) : (WX g ad z).set (10 + e) (ad (10 + e), .inr (1, (pF (z (10 + e))).set k (.int v))) = WX g ad (zu z (10 + e) k v) := by
  rcases (show k = 0 ∨ k = 1 ∨ k = 2 ∨ k = 3 ∨ k = 4 ∨ k = 5 ∨ k = 6 ∨ k = 7 ∨ k = 8 ∨ k = 9 ∨ k = 10 ∨ k = 11 by omega) with rfl | rfl | rfl | rfl | rfl | rfl | rfl | rfl | rfl | rfl | rfl | rfl <;> exact q_4 (P := fun e => (WX g ad z).set (10 + e) (ad (10 + e), .inr (1, (pF (z (10 + e))).set _ (.int v))) = WX g ad (zu z (10 + e) _ v)) rfl rfl rfl rfl he
