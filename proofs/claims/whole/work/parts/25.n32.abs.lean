/-! the event, in whole numbers: what class and reference both do -/
section ABS
/-- what is told: C cells with lo, hi, ri, fa; L links with from, at, nth, to, act, by -/
abbrev AC : Type := Nat × Nat × (Nat → Int) × (Nat → Int) × (Nat → Int) × (Nat → Int) × (Nat → Nat) × (Nat → Nat) × (Nat → Nat) × (Nat → Nat) × (Nat → Nat) × (Nat → Int)
def aC (q : AC) : Nat := q.1
def aL (q : AC) : Nat := q.2.1
def aLo (q : AC) : Nat → Int := q.2.2.1
def aHi (q : AC) : Nat → Int := q.2.2.2.1
def aRi (q : AC) : Nat → Int := q.2.2.2.2.1
def aFa (q : AC) : Nat → Int := q.2.2.2.2.2.1
def aFr (q : AC) : Nat → Nat := q.2.2.2.2.2.2.1
def aAt (q : AC) : Nat → Nat := q.2.2.2.2.2.2.2.1
def aNt (q : AC) : Nat → Nat := q.2.2.2.2.2.2.2.2.1
def aTo (q : AC) : Nat → Nat := q.2.2.2.2.2.2.2.2.2.1
def aAc (q : AC) : Nat → Nat := q.2.2.2.2.2.2.2.2.2.2.1
def aBy (q : AC) : Nat → Int := q.2.2.2.2.2.2.2.2.2.2.2
/-- levels, whether filling, counts -/
abbrev AV : Type := (Nat → Int) × (Nat → Int) × (Nat → Bool) × (Nat → Nat)
/-- a moment: TIME, and the levels -/
abbrev AM : Type := Int × Int × AV
def vN (v : AV) : Nat → Int := v.1
def vD (v : AV) : Nat → Int := v.2.1
def vF (v : AV) : Nat → Bool := v.2.2.1
def vK (v : AV) : Nat → Nat := v.2.2.2
def up {α : Type} (f : Nat → α) (k : Nat) (x : α) : Nat → α := fun j => if j = k then x else f j
theorem up_s {α : Type} (f : Nat → α) (k : Nat) (x : α) : up f k x k = x := if_pos rfl
theorem up_n {α : Type} {f : Nat → α} {k j : Nat} {x : α} (h : j ≠ k) : up f k x j = f j := if_neg h
/-- how far, how fast -/
def aWay (q : AC) (v : AV) (i : Nat) : Int := if vF v i then aHi q i * vD v i - vN v i else vN v i - aLo q i * vD v i
def aSpd (q : AC) (v : AV) (i : Nat) : Int := vD v i * (if vF v i then aRi q i else aFa q i)
def aRt (q : AC) (v : AV) (i : Nat) : Int := if vF v i then aRi q i else -aFa q i
/-- the first of the least -/
def pick (w d : Nat → Int) : Nat → Nat → Nat → Nat
  | 0, _, b => b
  | n + 1, i, b => if w i * d b < w b * d i then pick w d n (i + 1) i else pick w d n (i + 1) b
def aPick (q : AC) (v : AV) : Nat := pick (aWay q v) (aSpd q v) (aC q - 1) 1 0
/-- one link, if b has turned at its side z -/
def aAct (q : AC) (k : Nat) (v : AV) : AV :=
  if aAc q k = 0 then
    (if aHi q (aTo q k) * vD v (aTo q k) < vN v (aTo q k) + aBy q k * vD v (aTo q k) then (up (vN v) (aTo q k) (aHi q (aTo q k)), up (vD v) (aTo q k) 1, vF v, vK v)
     else if vN v (aTo q k) + aBy q k * vD v (aTo q k) < aLo q (aTo q k) * vD v (aTo q k) then (up (vN v) (aTo q k) (aLo q (aTo q k)), up (vD v) (aTo q k) 1, vF v, vK v)
     else (up (vN v) (aTo q k) (vN v (aTo q k) + aBy q k * vD v (aTo q k)), vD v, vF v, vK v))
  else if aAc q k = 1 then (vN v, vD v, up (vF v) (aTo q k) (!(vF v (aTo q k))), vK v)
  else (vN v, vD v, up (vF v) (aTo q k) (decide (aBy q k = 0)), vK v)
def aLink (q : AC) (b z k : Nat) (v : AV) : AV :=
  if aFr q k = b ∧ aAt q k = z then
    (if vK v k + 1 = aNt q k then aAct q k (vN v, vD v, vF v, up (vK v) k 0) else (vN v, vD v, vF v, up (vK v) k (vK v k + 1)))
  else v
def aLinks (q : AC) (b z : Nat) : Nat → Nat → AV → AV
  | 0, _, v => v
  | n + 1, k, v => aLinks q b z n (k + 1) (aLink q b z k v)
/-- time passes by wN / wD -/
def aPassN (q : AC) (v : AV) (wN wD : Int) (i : Nat) : Int := if i < aC q then rN (vN v i * wD + aRt q v i * wN * vD v i) (vD v i * wD) else vN v i
def aPassD (q : AC) (v : AV) (wN wD : Int) (i : Nat) : Int := if i < aC q then rD (vN v i * wD + aRt q v i * wN * vD v i) (vD v i * wD) else vD v i
def aSide (v : AV) (b : Nat) : Nat := if vF v b then 0 else 1
def aEvV (q : AC) (v : AV) : AV :=
  let b := aPick q v
  aLinks q b (aSide v b) (aL q) 0 (aPassN q v (aWay q v b) (aSpd q v b), aPassD q v (aWay q v b) (aSpd q v b), up (vF v) b (!(vF v b)), vK v)
def aEvT (q : AC) (a : AM) : Int × Int :=
  let b := aPick q a.2.2
  (rN (a.1 * aSpd q a.2.2 b + aWay q a.2.2 b * a.2.1) (a.2.1 * aSpd q a.2.2 b), rD (a.1 * aSpd q a.2.2 b + aWay q a.2.2 b * a.2.1) (a.2.1 * aSpd q a.2.2 b))
def aEv (q : AC) (a : AM) : AM := ((aEvT q a).1, (aEvT q a).2, aEvV q a.2.2)
def big (n d : Int) : Bool := decide (1000000 < n) || decide (n < -1000000) || decide (1000000 < d)
def aSp (v : AV) : Nat → Nat → Bool
  | 0, _ => false
  | n + 1, i => big (vN v i) (vD v i) || aSp v n (i + 1)
def aSpent (q : AC) (a : AM) : Bool := big a.1 a.2.1 || aSp a.2.2 (aC q) 0
end ABS
