-- what is asked: what an eye sees, which shifts explain
def sgB (t a b : Int32) : Bool := inB t (nI 0) (nI 2) && (inB a (nI 0) (nI 60) && (inB b a (nI 60) && decide (b - a < nI 20)))
def snA (h : Nat → Int32) (t a b x : Int32) : Nat → Int32
  | 0 => nI 0
  | i + 1 => if inB (h (5 * i) + x - a) (nI 0) (b - a) = true then snA h t a b x i ||| (if h (5 * i + 1) = t then nI 1 <<< ((h (5 * i) + x - a) &&& 31) else nI 0) else snA h t a b x i
def snH (h : Nat → Int32) (t a b x : Int32) : Nat → Int32
  | 0 => nI 0
  | i + 1 => if inB (h (5 * i) + x - a) (nI 0) (b - a) = true then snH h t a b x i ||| (if t < h (5 * i + 1) then nI 1 <<< ((h (5 * i) + x - a) &&& 31) else nI 0) else snH h t a b x i
theorem snA_s {h : Nat → Int32} {t a b x : Int32} {i : Nat} : snA h t a b x (i + 1) = if inB (h (5 * i) + x - a) (nI 0) (b - a) = true then snA h t a b x i ||| (if h (5 * i + 1) = t then nI 1 <<< ((h (5 * i) + x - a) &&& 31) else nI 0) else snA h t a b x i := rfl
theorem snH_s {h : Nat → Int32} {t a b x : Int32} {i : Nat} : snH h t a b x (i + 1) = if inB (h (5 * i) + x - a) (nI 0) (b - a) = true then snH h t a b x i ||| (if t < h (5 * i + 1) then nI 1 <<< ((h (5 * i) + x - a) &&& 31) else nI 0) else snH h t a b x i := rfl
def snI (h : Nat → Int32) (n : Nat) (t a b x : Int32) : Int32 := snA h t a b x n &&& (snH h t a b x n ^^^ (-1))
def opSees (wires : Nat) (h : Nat → Int32) (t a b : Int32) : Int32 := if sgB t a b = true then snI h wires t a b (h 43) else -1
def eyU (eyes : Nat → Int32) (e : Nat) (t a b x : Int32) : Nat → Int32 := upd (upd (upd (upd (upd eyes (5 * e) (nI 1)) (5 * e + 1) t) (5 * e + 2) a) (5 * e + 3) b) (5 * e + 4) x
def opEye (len span wires chg : Nat) (text : Nat → Nat) (h was eyes : Nat → Int32) (e t a b x : Int32) : Int32 × St := if inB e (nI 0) (nI 1) = true then if sgB t a b = true then if inB x (nI 0) (nI 1 <<< ((b - a + nI 1) &&& 31) - nI 1) = true then (eyU eyes e.toNatClampNeg t a b x 0 + eyU eyes e.toNatClampNeg t a b x 5, (len, span, wires, chg, text, h, was, eyU eyes e.toNatClampNeg t a b x)) else (-1, (len, span, wires, chg, text, h, was, eyes)) else (-1, (len, span, wires, chg, text, h, was, eyes)) else (-1, (len, span, wires, chg, text, h, was, eyes))
def eyF (eyes : Nat → Int32) : Nat → Int32 := upd (upd eyes 0 (nI 0)) 5 (nI 0)
def opForget (len span wires chg : Nat) (text : Nat → Nat) (h was eyes : Nat → Int32) : Int32 × St := (eyes 0 + eyes 5, (len, span, wires, chg, text, h, was, eyF eyes))
/-- whether an eye agrees with a shift -/
def eyO (h : Nat → Int32) (n : Nat) (eyes : Nat → Int32) (x : Int32) (t : Nat) : Bool := decide (eyes (5 * t) = 0) || decide (snI h n (eyes (5 * t + 1)) (eyes (5 * t + 2)) (eyes (5 * t + 3)) x = eyes (5 * t + 4))
def exT (p : Nat → Bool) (b : Bool) : Nat → Bool
  | 0 => b
  | t + 1 => exT p b t && p t
def isM (h : Nat → Int32) (n : Nat) (eyes : Nat → Int32) (u : Nat) : Bool := exT (eyO h n eyes ((-1) * nI u)) true 2
def isP (h : Nat → Int32) (n : Nat) (eyes : Nat → Int32) (u : Nat) : Bool := exT (eyO h n eyes (nI 1 * nI u)) (decide (0 < u)) 2
def stN (b : Bool) (n : Nat) : Nat := if b = true then n + 1 else n
def stR (b : Bool) (n : Nat) (r x : Int32) : Int32 := if b = true then if n = 0 then x + 100000 else r else r
/-- how many shifts explain, and the nearest one, of those nearer than u -/
def exC (h : Nat → Int32) (n : Nat) (eyes : Nat → Int32) : Nat → Nat
  | 0 => 0
  | u + 1 => stN (isP h n eyes u) (stN (isM h n eyes u) (exC h n eyes u))
def exR (h : Nat → Int32) (n : Nat) (eyes : Nat → Int32) : Nat → Int32
  | 0 => -4
  | u + 1 => stR (isP h n eyes u) (stN (isM h n eyes u) (exC h n eyes u)) (stR (isM h n eyes u) (exC h n eyes u) (exR h n eyes u) ((-1) * nI u)) (nI 1 * nI u)
theorem stN_le (b : Bool) (n : Nat) : stN b n ≤ n + 1 := by unfold stN; split <;> omega
theorem exC_le (h : Nat → Int32) (n : Nat) (eyes : Nat → Int32) : ∀ u, exC h n eyes u ≤ 2 * u
  | 0 => Nat.le_refl 0
  | u + 1 => by
    have h1 := exC_le h n eyes u
    have h2 := stN_le (isM h n eyes u) (exC h n eyes u)
    have h3 := stN_le (isP h n eyes u) (stN (isM h n eyes u) (exC h n eyes u))
    show stN _ _ ≤ _
    omega
def opExplains (wires : Nat) (h eyes : Nat → Int32) (what : Int32) : Int32 := if inB what (nI 0) (nI 1) = true then if what = 0 then nI (exC h wires eyes 10) else exR h wires eyes 10 else -1
