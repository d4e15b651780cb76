/-! WHAT EACH METHOD SAYS, over the state z of numbers. -/
abbrev ix (n : Int32) : Nat := n.toNatClampNeg
def inR (v a b : Int32) : Bool := decide (a ≤ v) && decide (v ≤ b)
def absI (x : Int32) : Int32 := if 0 ≤ x then x else 0 - x
def absL (x : Int64) : Int64 := if 0 < x then x else -x
def maxI (x y : Int32) : Int32 := if x < y then y else x
def minI (x y : Int32) : Int32 := if y < x then y else x
def fdv (x y : Int32) : Int32 := Int32.ofInt (x.toInt / y.toInt)
def sh (x : Int32) : Int32 := 1 <<< (x &&& 31)
theorem ne_toInt {x y : Int32} (h : ¬ x = y) {k : Int} (hk : y.toInt = k) : x.toInt ≠ k := fun e => h (Int32.toInt_inj.mp (e.trans hk.symm))
def pOk (z : zS) (n : Int32) : Bool := inR n 0 3 && !(decide (z (10 + ix n) 0 = 0))
def renewS (z : zS) (p : Nat) (first other kind : Int32) : zS := zu (zu (zu (zu (zu (zu (zu (zu (zu (zu (zu (zu z p 0 1) p 1 0) p 2 0) p 3 first) p 4 other) p 5 kind) p 6 0) p 7 1000) p 8 600) p 9 0) p 10 0) p 11 0
def s_part (z : zS) (n first other kind : Int32) : Int32 × zS :=
  if inR n 0 3 = true ∧ inR first 0 7 = true ∧ inR other 0 7 = true then
    if inR kind 0 3 = true then
      if first = other ∨ ¬ z 0 0 = 0 then (-3, z)
      else (if z (10 + ix n) 0 = 0 then 0 else 1, renewS z (10 + ix n) first other kind)
    else (-2, z)
  else (-1, z)
def s_remove (z : zS) (n : Int32) : Int32 × zS := if pOk z n = true then (if z 0 0 = 0 then (1, zu z (10 + ix n) 0 0) else (-3, z)) else (-1, z)
def takesB (w v : Int32) : Bool := decide (0 ≤ w) && (decide (w < 5) && (decide (leastN (ix w) ≤ v) && decide (v ≤ mostN (ix w))))
def s_set (z : zS) (n w v : Int32) : Int32 × zS := if pOk z n = true then (if takesB w v = true then (z (10 + ix n) (7 + ix w), zu z (10 + ix n) (7 + ix w) v) else (-2, z)) else (-1, z)
def s_ofPart (z : zS) (n w : Int32) : Int32 :=
  if pOk z n = true then
    if inR w 10 14 = true then z (10 + ix n) (7 + ix (w - 10))
    else if w = 0 then z (10 + ix n) 3 else if w = 1 then z (10 + ix n) 4 else if w = 2 then z (10 + ix n) 5 else if w = 3 then z (10 + ix n) 6
    else if w = 4 then (if z (10 + ix n) 1 = 0 then 0 else 1) else if w = 5 then (if z (10 + ix n) 2 = 0 then 0 else 1) else -2
  else -1
def shortsB (z : zS) (t pin : Int32) : Bool := (decide (t = 0) && !(decide (z 1 1 &&& pin = 0))) || (decide (t = 1) && !(decide (z 1 0 &&& pin = 0)))
def s_relay (z : zS) (t p v : Int32) : Int32 × zS :=
  if inR t 0 3 = true ∧ inR p 0 7 = true then
    if inR v 0 1 = true then
      if z 0 0 = 0 ∧ ¬ (v = 1 ∧ shortsB z t (sh p) = true) then
        (if z 1 (ix t) &&& sh p = 0 then 0 else 1, zu z 1 (ix t) (if v = 1 then z 1 (ix t) ||| sh p else z 1 (ix t) &&& (sh p ^^^ (-1))))
      else (-3, z)
    else (-2, z)
  else (-1, z)
def s_pins (z : zS) (t : Int32) : Int32 := if inR t 0 3 = true then z 1 (ix t) else -1
def us (x y : Int32) : Int32 := (x.toUInt32 >>> (y.toUInt32 &&& Int32.toUInt32 31)).toInt32
def bc1 (x : Int32) : Int32 := x - (us x 1 &&& 1431655765)
def bc2 (x : Int32) : Int32 := (x &&& 858993459) + (us x 2 &&& 858993459)
def bc3 (x : Int32) : Int32 := (x + us x 4) &&& 252645135
def bc4 (x : Int32) : Int32 := x + us x 8
def bc5 (x : Int32) : Int32 := x + us x 16
def bcF (x : Int32) : Int32 := bc5 (bc4 (bc3 (bc2 (bc1 x)))) &&& 63
def hlB (z : zS) : Bool := decide (bcF (z 1 0) = 1) && decide (bcF (z 1 1) = 1)
def jnB (z : zS) (p : Nat) : Bool := (decide (sh (z p 3) = z 1 0) && decide (sh (z p 4) = z 1 1)) || (decide (sh (z p 3) = z 1 1) && decide (sh (z p 4) = z 1 0))
def thB (z : zS) (p : Nat) : Bool := !(decide (z p 0 = 0))
def inHr (z : zS) : Nat → Nat → Int32
  | 0, _ => -9
  | k + 1, i => if thB z (10 + i) && jnB z (10 + i) then nI i else inHr z k (i + 1)
def inH (z : zS) : Int32 := if hlB z = true then inHr z 4 0 else -9
def s_power (z : zS) (v : Int32) : Int32 × zS :=
  if inR v 0 1 = true then (if v = 1 ∧ inH z = -9 then (-3, z) else (if z 0 0 = 0 then 0 else 1, zu z 0 0 (if v = 1 then 1 else 0))) else (-2, z)
def s_limit (z : zS) (v : Int32) : Int32 × zS := if inR v 1 20000 = true then (z 0 1, zu z 0 1 v) else (-2, z)
def s_leads (z : zS) (v : Int32) : Int32 × zS := if inR v 0 200 = true then (z 0 2, zu z 0 2 v) else (-2, z)
def fourB (z : zS) : Bool := hlB z && (decide (z 1 2 = z 1 0) && decide (z 1 3 = z 1 1))
def s_now (z : zS) (w : Int32) : Int32 := if w = 0 then inH z else if w = 1 then (if fourB z = true then 4 else 2) else if w = 2 then (if z 0 0 = 0 then 0 else 1) else if w = 3 then z 0 1 else if w = 4 then z 0 2 else -2
def coldF (f : Nat → Int32) (v : Int32) : Int32 :=
  if f 5 = 0 then fdv (v * f 7) 1000
  else if f 5 = 3 then (if f 2 = 0 then fdv (v * f 9) 1000 else fdv (v * f 7) 1000)
  else (fdv (v * f 9) 1000 + (if f 8 < v then fdv ((v - f 8) * f 7) 1000 else 0)) + (if f 5 = 2 ∧ v < -(f 8) then fdv ((v + f 8) * f 7) 1000 else 0)
def ownF (f : Nat → Int32) (v : Int32) : Int32 := if f 1 = 0 then (if 1 ≤ 1000 + f 11 * f 6 then fdv (1000 * coldF f v) (1000 + f 11 * f 6) else 0) else 0
def s_amps (z : zS) (n v : Int32) : Int32 := if pOk z n = true then (if inR v (-3000) 3000 = true then ownF (z (10 + ix n)) v + 50000 else -2) else -1
def ownd (z : zS) (p : Nat) (x : Int32) : Int32 := if sh (z p 3) = z 1 0 then x else -x
def ampF (z : zS) (p : Nat) (u : Int32) : Int32 := ownd z p (ownF (z p) (ownd z p u))
def dropF (z : zS) (a : Int32) : Int32 := fdv (a * z 0 2) 1000
def alB (z : zS) (p : Nat) (u : Int32) : Bool := decide (z 0 1 < absI (ampF z p u))
def awB (z : zS) (p : Nat) (u v : Int32) : Bool := !(alB z p u) && (fourB z || decide (absI (u + dropF z (ampF z p u)) ≤ absI v))
/-- how many of P 1, P 2, .. hold, one after the other, K at most -/
def srch : (Nat → Bool) → Nat → Nat
  | _, 0 => 0
  | P, K + 1 => if P 1 then 1 + srch (fun k => P (k + 1)) K else 0
def sgn (v : Int32) : Int32 := if v < 0 then -1 else 1
def uN (z : zS) (p : Nat) (v : Int32) : Nat := srch (fun k => awB z p (sgn v * nI k) v) (ix (absI v))
def uF (z : zS) (p : Nat) (v : Int32) : Int32 := sgn v * nI (uN z p v)
def ruF (z : zS) (p : Nat) (u v : Int32) : Int32 := if u = v then 0 else if alB z p (if v < 0 then u - 1 else u + 1) = true then 1 else 2
def s_would (z : zS) (v w : Int32) : Int32 :=
  if inR v (-3000) 3000 = true ∧ inR w 0 2 = true then
    if inH z = -9 then -3
    else if w = 0 then uF z (10 + ix (inH z)) v + 10000 else if w = 1 then ampF z (10 + ix (inH z)) (uF z (10 + ix (inH z)) v) + 50000 else ruF z (10 + ix (inH z)) (uF z (10 + ix (inH z)) v) v
  else -2
def snB (f : Nat → Int32) (x : Int32) : Bool := decide (f 5 = 3) && (decide (f 2 = 0) && (decide (f 1 = 0) && decide (f 8 ≤ x)))
def shutS (z : zS) (p : Nat) (x : Int32) : zS := if z p 5 = 3 ∧ ¬ z p 2 = 0 ∧ x < z p 10 then zu z p 2 0 else z
def wldF (h u a w : Int32) : Int32 := h + (absL (u.toInt64 * a.toInt64 * w.toInt64) / 500000).toInt32
def warmS (z : zS) (p : Nat) (u a w : Int32) : Int32 × zS :=
  if wldF (z p 6) u a w < 1000 ∨ ¬ z p 1 = 0 then (0, zu z p 6 (minI (wldF (z p 6) u a w) 1000)) else (wldF (z p 6) u a w - 999, zu (zu z p 6 (minI (wldF (z p 6) u a w) 1000)) p 1 1)
def addS (z : zS) (v t a r : Int32) : zS := zu (zu (zu (zu (zu z 2 (ix (z 0 3)) v) 3 (ix (z 0 3)) t) 4 (ix (z 0 3)) a) 5 (ix (z 0 3)) r) 0 3 (z 0 3 + 1)
def opS (z : zS) (p : Nat) (v : Int32) : zS := if snB (z p) (ownd z p (uF z p v)) = true then zu z p 2 1 else z
def tldF (z : zS) (u a : Int32) : Int32 := if fourB z = true then u else u + dropF z a
def rdS (z : zS) (p : Nat) (v w : Int32) : Int32 × zS := warmS (addS z v (tldF z (uF z p v) (ampF z p (uF z p v))) (ampF z p (uF z p v)) (ruF z p (uF z p v) v)) p (uF z p v) (ampF z p (uF z p v)) w
def pulS (z : zS) (p : Nat) (v w : Int32) : Int32 × zS :=
  ((rdS (opS z p v) p v w).1, shutS (rdS (opS z p v) p v w).2 p (ownd (rdS (opS z p v) p v w).2 p (ampF (opS z p v) p (uF (opS z p v) p v))))
def putS (z : zS) (s n : Int32) : zS := if z 0 4 < 3 then zu (zu (zu z 6 (ix (z 0 4)) s) 7 (ix (z 0 4)) n) 0 4 (z 0 4 + 1) else z
def tellS (z : zS) (n ab : Int32) : zS := putS (putS z 2 n) 3 ab
def s_pulse (z : zS) (v w : Int32) : Int32 × zS :=
  if inR v (-3000) 3000 = true ∧ inR w 1 50 = true then
    if z 0 0 = 0 then (-3, z)
    else if z 0 3 = 60 then (-4, z)
    else
      if 0 < (pulS (zu z 0 4 0) (10 + ix (inH z)) v w).1 then ((tellS (pulS (zu z 0 4 0) (10 + ix (inH z)) v w).2 (inH z) (pulS (zu z 0 4 0) (10 + ix (inH z)) v w).1) 0 3, tellS (pulS (zu z 0 4 0) (10 + ix (inH z)) v w).2 (inH z) (pulS (zu z 0 4 0) (10 + ix (inH z)) v w).1)
      else ((pulS (zu z 0 4 0) (10 + ix (inH z)) v w).2 0 3, (pulS (zu z 0 4 0) (10 + ix (inH z)) v w).2)
  else (-2, z)
def coolN : Nat → Int32 → Int32
  | 0, h => h
  | k + 1, h => coolN k (h - (h + 15) / 16)
def coolR (k : Nat) : Nat → Nat → zS → zS
  | 0, _, z => z
  | f + 1, i, z => coolR k f (i + 1) (zu z (10 + i) 6 (coolN k (z (10 + i) 6)))
def coolA (z : zS) (k : Nat) : zS := coolR k 4 0 z
def mxR (z : zS) : Nat → Nat → Int32 → Int32
  | 0, _, g => g
  | f + 1, i, g => mxR z f (i + 1) (if z (10 + i) 0 = 0 then g else maxI g (z (10 + i) 6))
def s_rest (z : zS) (n : Int32) : Int32 × zS := if inR n 0 100 = true then (mxR (coolA z (ix n)) 4 0 0, coolA z (ix n)) else (-2, z)
def isSw (a b st w n back : Int32) : Bool := (inR a (-3000) 3000 && inR b (-3000) 3000) && (inR st 1 1000 && (inR w 1 50 && (inR back 0 1 && inR n 0 100)))
/-- the steps of a sweep from the i-th pulse on, f of them left: the answer, the state -/
def swR (p : Nat) (hand a stb w : Int32) (k last all : Nat) : Nat → Nat → zS → Int32 × zS
  | 0, _, z => (nI all, z)
  | f + 1, i, z =>
    if 0 < (pulS z p (a + nI (if i ≤ last then i else 2 * last - i) * stb) w).1 then
      (-100 - (nI i + 1), tellS (putS (pulS z p (a + nI (if i ≤ last then i else 2 * last - i) * stb) w).2 1 (nI i)) hand (pulS z p (a + nI (if i ≤ last then i else 2 * last - i) * stb) w).1)
    else swR p hand a stb w k last all f (i + 1) (coolA (pulS z p (a + nI (if i ≤ last then i else 2 * last - i) * stb) w).2 k)
def lastF (a b st : Int32) : Nat := ix (absI (b - a) / st)
def allF (a b st back : Int32) : Nat := if back = 1 then 2 * lastF a b st + 1 else lastF a b st + 1
def s_sweep (z : zS) (a b st w n back : Int32) : Int32 × zS :=
  if isSw a b st w n back = true then
    if z 0 0 = 0 then (-3, z)
    else if 60 < z 0 3 + nI (allF a b st back) then (-4, z)
    else swR (10 + ix (inH z)) (inH z) a (if b < a then -st else st) w (ix n) (lastF a b st) (allF a b st back) (allF a b st back) 0 (zu z 0 4 0)
  else (-2, z)
def s_why (z : zS) (k w : Int32) : Int32 :=
  if inR k 0 2 = true ∧ inR w 0 1 = true then (if z 0 4 ≤ k then -9 else if w = 0 then z 6 (ix k) else z 7 (ix k)) else -2
def hasB (z : zS) (k : Int32) : Bool := decide (0 ≤ k) && decide (k < z 0 3)
def s_reading (z : zS) (k w : Int32) : Int32 :=
  if hasB z k = true then (if w = 0 then z 2 (ix k) + 10000 else if w = 1 then z 3 (ix k) + 10000 else if w = 2 then z 4 (ix k) + 50000 else if w = 3 then z 5 (ix k) else -2) else -1
def s_clear (z : zS) : Int32 × zS := (z 0 3, zu z 0 3 0)
def offF (z : zS) (i a b : Nat) : Int64 := absL ((z 3 i - z 3 a).toInt64 * (z 4 b - z 4 a).toInt64 - (z 4 i - z 4 a).toInt64 * (z 3 b - z 3 a).toInt64)
def knR (z : zS) (a b : Nat) : Nat → Nat → Int32 → Int64 → Int32
  | 0, _, pt, _ => pt
  | f + 1, i, pt, far => if far < offF z i a b then knR z a b f (i + 1) (nI i) (offF z i a b) else knR z a b f (i + 1) pt far
def knF (z : zS) (a b : Nat) : Int32 := knR z a b (b + 1 - a) a (-9) 0
def s_knee (z : zS) (a b : Int32) : Int32 := if hasB z a = true ∧ hasB z b = true then (if b < a then -2 else knF z (ix a) (ix b)) else -1
def smR (f : Nat → Int64) : Nat → Nat → Int64 → Int64
  | 0, _, s => s
  | k + 1, i, s => smR f k (i + 1) (s + f i)
def gdR : Nat → Int64 → Int64 → Int64
  | 0, x, _ => x
  | k + 1, x, y => if y = 0 then x else gdR k y (x - x / y * y)
def gdF (x y : Int64) : Int64 := gdR 1000 x y
def frF (u d : Int64) (up : Bool) : Int64 :=
  if d = 0 ∨ gdF (absL u) (absL d) = 0 then -9223372036854775808
  else if up then u / (if d < 0 then -(gdF (absL u) (absL d)) else gdF (absL u) (absL d)) else d / (if d < 0 then -(gdF (absL u) (absL d)) else gdF (absL u) (absL d))
def fX (z : zS) (a n : Nat) : Int64 := smR (fun i => (z 3 i).toInt64) n a 0
def fY (z : zS) (a n : Nat) : Int64 := smR (fun i => (z 4 i).toInt64) n a 0
def fP (z : zS) (a n : Nat) : Int64 := smR (fun i => (z 3 i).toInt64 * (z 4 i).toInt64) n a 0
def fQ (z : zS) (a n : Nat) : Int64 := smR (fun i => (z 3 i).toInt64 * (z 3 i).toInt64) n a 0
def fD (z : zS) (a n : Nat) : Int64 := lN n * fQ z a n - fX z a n * fX z a n
def fS (z : zS) (a n : Nat) : Int64 := lN n * fP z a n - fX z a n * fY z a n
def fB (z : zS) (a n : Nat) : Int64 := fY z a n * fQ z a n - fX z a n * fP z a n
def fitF (z : zS) (a n : Nat) (w : Int32) : Int64 :=
  if fD z a n = 0 then -9223372036854775808
  else if w = 0 then frF (fS z a n) (fD z a n) true else if w = 1 then frF (fS z a n) (fD z a n) false
  else if w = 2 then frF (fB z a n) (fD z a n) true else if w = 3 then frF (fB z a n) (fD z a n) false
  else if w = 4 then frF (-(fB z a n)) (fS z a n) true else frF (-(fB z a n)) (fS z a n) false
def s_fit (z : zS) (a b w : Int32) : Int64 :=
  if hasB z a = true ∧ hasB z b = true ∧ ¬ b < a ∧ inR w 0 5 = true then fitF z (ix a) (ix b + 1 - ix a) w else -9223372036854775808
def gpI (z : zS) (i : Nat) : Nat → Nat → Int32 → Int32
  | 0, _, g => g
  | f + 1, j, g => gpI z i f (j + 1) (if z 2 i = z 2 j then maxI g (absI (z 4 i - z 4 j)) else g)
def gpR (z : zS) (b : Nat) : Nat → Nat → Int32 → Int32
  | 0, _, g => g
  | f + 1, i, g => gpR z b f (i + 1) (gpI z i (b - i) (i + 1) g)
def gpF (z : zS) (a b : Nat) : Int32 := gpR z b (b - a) a 0
def s_gap (z : zS) (a b : Int32) : Int32 := if hasB z a = true ∧ hasB z b = true then (if b < a then -2 else gpF z (ix a) (ix b)) else -1
def ptR (z : zS) (bo : Bool) : Nat → Nat → Int32 → Int32
  | 0, _, g => g
  | f + 1, i, g => ptR z bo f (i + 1) (if z (10 + i) 0 = 0 then g else if z (10 + i) 1 = 0 ∧ bo = true then g else g + 1)
def clR (z : zS) : Nat → Nat → Int32 → Int32
  | 0, _, g => g
  | f + 1, i, g => clR z f (i + 1) (g + bcF (z 1 i))
def wrR (z : zS) (r : Int32) : Nat → Nat → Int32 → Int32
  | 0, _, g => g
  | f + 1, i, g => wrR z r f (i + 1) (if z 5 i = r then g + 1 else g)
def wrF (z : zS) (r : Int32) : Int32 := wrR z r (ix (z 0 3)) 0 0
def s_many (z : zS) (w : Int32) : Int32 :=
  if w = 0 then ptR z false 4 0 0 else if w = 1 then z 0 3 else if w = 2 then clR z 4 0 0 else if w = 3 then ptR z true 4 0 0 else if w = 4 then wrF z 1 else if w = 5 then wrF z 2 else -2
/-- what every state keeps to -/
def partInv (f : Nat → Int32) : Prop := (f 0 = 0 ∨ f 0 = 1) ∧ (f 1 = 0 ∨ f 1 = 1) ∧ (f 2 = 0 ∨ f 2 = 1) ∧ inR (f 3) 0 7 = true ∧ inR (f 4) 0 7 = true ∧ inR (f 5) 0 3 = true ∧ inR (f 6) 0 1000 = true ∧ inR (f 7) 0 5000 = true ∧ inR (f 8) 0 2000 = true ∧ inR (f 9) 0 2000 = true ∧ inR (f 10) 0 5000 = true ∧ inR (f 11) 0 5 = true
def qInv (z : zS) : Prop := (z 0 0 = 0 ∨ z 0 0 = 1) ∧ inR (z 0 1) 1 20000 = true ∧ inR (z 0 2) 0 200 = true ∧ inR (z 0 3) 0 60 = true ∧ inR (z 0 4) 0 3 = true ∧ (∀ t, t < 4 → inR (z 1 t) 0 255 = true) ∧ (∀ n, n < 4 → partInv (z (10 + n))) ∧ (¬ z 0 0 = 0 → ¬ inH z = -9)
theorem inR_iff {v a b : Int32} : inR v a b = true ↔ a.toInt ≤ v.toInt ∧ v.toInt ≤ b.toInt := by simp [inR, Int32.le_iff_toInt_le]
theorem inR_nI {v : Int32} {n : Nat} {b : Int32} (hb : b.toInt = n) (h : inR v 0 b = true) : ∃ k, k ≤ n ∧ v = nI k := by
  have h := inR_iff.mp h
  exact nI_of2 hb (fun q => by have := Int32.lt_iff_toInt_lt.mp q; simp at this; have h1 := h.1; simp at h1; omega) (Int32.le_iff_toInt_le.mpr h.2)
theorem ix_nI {n : Nat} (h : n < 2 ^ 31) : ix (nI n) = n := nI_clamp h
theorem inR_ix {v : Int32} {n : Nat} {b : Int32} (hb : b.toInt = n) (h : inR v 0 b = true) : ix v ≤ n ∧ v = nI (ix v) ∧ v.toInt = (ix v : Int) := by
  obtain ⟨k, h1, rfl⟩ := inR_nI hb h
  have hk : k < 2 ^ 31 := by have := b.toInt_lt; omega
  exact ⟨by rw [ix_nI hk]; exact h1, by rw [ix_nI hk], by rw [ix_nI hk]; exact nI_toInt hk⟩
theorem inR_vp {v : Int32} {n : Nat} {b : Int32} (hb : b.toInt = n) (h : inR v 0 b = true) (N : Nat) (hN : n < N) : vp_in v N := by
  obtain ⟨h1, h2, h3⟩ := inR_ix hb h
  exact vp_in_iff.mpr ⟨by omega, by omega⟩
theorem i_lt_t {x y : Int32} (h : x < y) : ¬ y ≤ x := by rw [Int32.le_iff_toInt_le]; rw [Int32.lt_iff_toInt_lt] at h; omega
theorem i_lt_f {x y : Int32} (h : ¬ x < y) : y ≤ x := by rw [Int32.le_iff_toInt_le]; rw [Int32.lt_iff_toInt_lt] at h; omega
theorem i_le_t {x y : Int32} (h : x ≤ y) : ¬ y < x := by rw [Int32.lt_iff_toInt_lt]; rw [Int32.le_iff_toInt_le] at h; omega
theorem i_le_f {x y : Int32} (h : ¬ x ≤ y) : y < x := by rw [Int32.lt_iff_toInt_lt]; rw [Int32.le_iff_toInt_le] at h; omega
