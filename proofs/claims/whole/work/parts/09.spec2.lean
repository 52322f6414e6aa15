-- what is asked, the state: how long the text is, SPAN, how many wires, how many changes can be undone, the text, the row, the rows ahead, the sights
abbrev St : Type := Nat × Nat × Nat × Nat × (Nat → Nat) × (Nat → Int32) × (Nat → Int32) × (Nat → Int32)
def wrB (wires : Nat) (i : Int32) : Bool := inB i (nI 0) (nI wires - nI 1)
theorem in_of {x : Int32} {n : Nat} (hn : n < 2147483648) (h : inB x (nI 0) (nI n) = true) : ∃ a, a ≤ n ∧ x = nI a := by
  obtain ⟨h1, h2⟩ := inB_iff.mp h
  obtain ⟨a, ha, rfl⟩ := nI_of (x := x) (i_nlt (by rw [← nI_0]; exact h1))
  exact ⟨a, (nI_leI (by omega) hn).mp h2, rfl⟩
theorem in_to {a n : Nat} (ha : a ≤ n) (hn : n < 2147483648) : inB (nI a) (nI 0) (nI n) = true := inB_t (nI_le (by omega) (by omega)) (nI_le ha hn)
theorem wr_of {wires : Nat} {i : Int32} (hw : wires ≤ 8) (h : wrB wires i = true) : ∃ a, a < wires ∧ i = nI a := by
  obtain ⟨h1, h2⟩ := inB_iff.mp h
  obtain ⟨a, ha, rfl⟩ := nI_of (x := i) (i_nlt (by rw [← nI_0]; exact h1))
  refine ⟨a, ?_, rfl⟩
  rcases Nat.eq_zero_or_pos wires with e | e
  · subst e
    rw [Int32.le_iff_toInt_le, nI_toInt ha] at h2
    exact absurd h2 (by have : (nI 0 - nI 1).toInt = -1 := by decide
                        omega)
  · rw [pk_sub (show 1 ≤ wires from e)] at h2
    have := (nI_leI ha (by omega)).mp h2
    omega
theorem wr_to {wires a : Nat} (hw : wires ≤ 8) (h : a < wires) : wrB wires (nI a) = true := by
  unfold wrB
  rw [pk_sub (show 1 ≤ wires by omega)]
  exact in_to (by omega) (by omega)
theorem wr_lt {wires a : Nat} (hw : wires ≤ 8) (ha : a < 2147483648) : wrB wires (nI a) = decide (a < wires) := by
  by_cases h : a < wires
  · rw [wr_to hw h]; simp [h]
  · cases hb : wrB wires (nI a) with
    | false => simp [h]
    | true =>
      obtain ⟨c, hc, e⟩ := wr_of hw hb
      rw [(nI_eq ha (by omega)).mp e] at h
      exact absurd hc h
def lowI (what : Int32) : Int32 := if what = nI 4 then nI 1 else nI 0
def highI (what : Int32) : Int32 := if what = 0 then nI 60 else if what = nI 2 then nI 60 else if what = nI 4 then nI 40 else nI 2
def mostI (w : Int32) : Int32 := if w = nI 1 then nI 40 else nI 9
/-- a row filled from another one, below k; from a place on, k of them -/
def cpG (s d : Nat → Int32) (k : Nat) : Nat → Int32 := fun j => if j < k then s j else d j
theorem cpG_0 (s d : Nat → Int32) : cpG s d 0 = d := funext fun j => if_neg (Nat.not_lt_zero j)
theorem cpG_ge {s d : Nat → Int32} {k j : Nat} (h : k ≤ j) : cpG s d k j = d j := if_neg (Nat.not_lt.mpr h)
theorem cpG_lt {s d : Nat → Int32} {k j : Nat} (h : j < k) : cpG s d k j = s j := if_pos h
theorem cpG_s (s d : Nat → Int32) (k : Nat) : upd (cpG s d k) k (s k) = cpG s d (k + 1) := by
  funext j
  unfold upd cpG
  by_cases h : j = k
  · subst h
    rw [if_pos rfl, if_pos (by omega)]
  · rw [if_neg h]
    by_cases g : j < k
    · rw [if_pos g, if_pos (by omega)]
    · rw [if_neg g, if_neg (by omega)]
def cpO (s d : Nat → Int32) (off k : Nat) : Nat → Int32 := fun j => if j < off then d j else if j < off + k then s (j - off) else d j
theorem cpO_0 (s d : Nat → Int32) (off : Nat) : cpO s d off 0 = d := by
  funext j
  unfold cpO
  split
  · rfl
  · rw [if_neg (by omega)]
theorem cpO_s (s d : Nat → Int32) (off k : Nat) : upd (cpO s d off k) (off + k) (s k) = cpO s d off (k + 1) := by
  funext j
  unfold upd cpO
  by_cases h : j = off + k
  · subst h
    rw [if_pos rfl, if_neg (by omega), if_pos (by omega), show off + k - off = k by omega]
  · rw [if_neg h]
    by_cases g : j < off
    · rw [if_pos g, if_pos g]
    · rw [if_neg g, if_neg g]
      by_cases g2 : j < off + k
      · rw [if_pos g2, if_pos (by omega)]
      · rw [if_neg g2, if_neg (by omega)]
/-- what is kept for undoing -/
def ntW (chg : Nat) (was h : Nat → Int32) : Nat → Int32 := if chg = 6 then cpO h (cpG (fun j => was (j + 45)) was 225) 225 45 else cpO h was (45 * chg) 45
def ntC (chg : Nat) : Nat := if chg = 6 then 6 else chg + 1
/-- a place of the row becomes v -/
def becm (len span wires chg : Nat) (text : Nat → Nat) (h was eyes : Nat → Int32) (pl : Nat) (v : Int32) : Int32 × St := if h pl = v then (-2, (len, span, wires, chg, text, h, was, eyes)) else (h pl, (len, span, wires, ntC chg, text, upd h pl v, ntW chg was h, eyes))
def opWrite (len span wires chg : Nat) (text : Nat → Nat) (h was eyes : Nat → Int32) (x : Int32) : Int32 × St := if inB x (nI 32) (nI 126) = true then if len = 200 then (-3, (len, span, wires, chg, text, h, was, eyes)) else (nI (len + 1), (len + 1, span, wires, chg, va_up text len x.toNatClampNeg, h, was, eyes)) else (-1, (len, span, wires, chg, text, h, was, eyes))
def opWipe (len span wires chg : Nat) (text : Nat → Nat) (h was eyes : Nat → Int32) : Int32 × St := (nI len, (0, span, wires, chg, text, h, was, eyes))
def opSet (len span wires chg : Nat) (text : Nat → Nat) (h was eyes : Nat → Int32) (i what v : Int32) : Int32 × St := if wrB wires i = true then if inB what (nI 0) (nI 4) = true then if inB v (lowI what) (highI what) = true then becm len span wires chg text h was eyes (5 * i.toNatClampNeg + what.toNatClampNeg) v else (-1, (len, span, wires, chg, text, h, was, eyes)) else (-1, (len, span, wires, chg, text, h, was, eyes)) else (-1, (len, span, wires, chg, text, h, was, eyes))
def opLimit (len span wires chg : Nat) (text : Nat → Nat) (h was eyes : Nat → Int32) (which v : Int32) : Int32 × St := if inB which (nI 0) (nI 2) = true then if inB v (nI 1) (mostI which) = true then becm len span wires chg text h was eyes (40 + which.toNatClampNeg) v else (-1, (len, span, wires, chg, text, h, was, eyes)) else (-1, (len, span, wires, chg, text, h, was, eyes))
def opShift (len span wires chg : Nat) (text : Nat → Nat) (h was eyes : Nat → Int32) (x : Int32) : Int32 × St := if inB x (-9) (nI 9) = true then if h 43 = x then (-2, (len, span, wires, chg, text, h, was, eyes)) else (h 43 + 100000, (len, span, wires, ntC chg, text, upd h 43 x, ntW chg was h, eyes)) else (-1, (len, span, wires, chg, text, h, was, eyes))
def unH (chg : Nat) (was h : Nat → Int32) : Nat → Int32 := cpG (fun j => was (45 * (chg - 1) + j)) h 45
def opUndo (len span wires chg : Nat) (text : Nat → Nat) (h was eyes : Nat → Int32) : Int32 × St := if chg = 0 then (-2, (len, span, wires, chg, text, h, was, eyes)) else (nI (chg - 1), (len, span, wires, chg - 1, text, unH chg was h, was, eyes))
def opPlace (span wires : Nat) (h : Nat → Int32) (i y : Int32) : Int32 := if wrB wires i = true then if inB y (nI 0) (nI span) = true then plc h span i.toNatClampNeg y.toNatClampNeg + 100000 else -1 else -1
def opHeight (span wires : Nat) (h : Nat → Int32) (i y : Int32) : Int32 := if wrB wires i = true then if inB y (nI 0) (nI span) = true then hgt h span i.toNatClampNeg y.toNatClampNeg else -1 else -1
def opPair (span wires : Nat) (h : Nat → Int32) (i k what : Int32) : Int32 := if wrB wires i = true then if wrB wires k = true then if i = k then -1 else if inB what (nI 0) (nI 3) = true then if what = nI 0 then nrF h span i.toNatClampNeg k.toNatClampNeg else if what = nI 1 then nI (nrC h span i.toNatClampNeg k.toNatClampNeg) else if what = nI 2 then bi (crs h span i.toNatClampNeg k.toNatClampNeg) else bi (way h span i.toNatClampNeg k.toNatClampNeg) else -1 else -1 else -1
def opWire (span wires : Nat) (h : Nat → Int32) (i what : Int32) : Int32 := if wrB wires i = true then if inB what (nI 0) (nI 8) = true then if what = nI 5 then bt (h 44) i.toNatClampNeg else if what = nI 6 then lng h span i.toNatClampNeg else if what = nI 7 then hgt h span i.toNatClampNeg (topR h span i.toNatClampNeg span) else if what = nI 8 then nI (topR h span i.toNatClampNeg span) else h (5 * i.toNatClampNeg + what.toNatClampNeg) else -1 else -1
def opBond (len span wires chg : Nat) (text : Nat → Nat) (h was eyes : Nat → Int32) (i : Int32) : Int32 × St := if wrB wires i = true then if bt (h 44) i.toNatClampNeg = nI 1 then (-2, (len, span, wires, chg, text, h, was, eyes)) else if barB h span wires i.toNatClampNeg (h 44) = true then (-2, (len, span, wires, chg, text, h, was, eyes)) else (bitsI (h 44 ||| nI 1 <<< (i &&& 31)), (len, span, wires, ntC chg, text, upd h 44 (h 44 ||| nI 1 <<< (i &&& 31)), ntW chg was h, eyes)) else (-1, (len, span, wires, chg, text, h, was, eyes))
def opTake (len span wires chg : Nat) (text : Nat → Nat) (h was eyes : Nat → Int32) (i : Int32) : Int32 × St := if wrB wires i = true then if bt (h 44) i.toNatClampNeg = 0 then (-2, (len, span, wires, chg, text, h, was, eyes)) else (bitsI (h 44 - nI 1 <<< (i &&& 31)), (len, span, wires, ntC chg, text, upd h 44 (h 44 - nI 1 <<< (i &&& 31)), ntW chg was h, eyes)) else (-1, (len, span, wires, chg, text, h, was, eyes))
def rdyS (h : Nat → Int32) (S n : Nat) : Nat → Int32
  | 0 => nI 0
  | k + 1 => rdyS h S n k ||| (if bt (h 44) k = 0 then if barB h S n k (h 44) = true then nI 0 else nI 1 <<< (nI k &&& 31) else nI 0)
def opReady (span wires : Nat) (h : Nat → Int32) : Int32 := rdyS h span wires wires
/-- the reference's end: the answer and the state; its scratch is free -/
def PO (cy : Nat → ClassId) (q : Nat → Nat) (r : Int32 × St) : Option Value → wS → Prop := PX (fun x g => x = r.1 ∧ ∃ (rsp rwi val ends : Nat) (rd fw bars ways : Nat → Int32), g = mdC cy q r.2.1 r.2.2.1 r.2.2.2.1 r.2.2.2.2.1 rsp rwi val ends r.2.2.2.2.2.1 r.2.2.2.2.2.2.1 r.2.2.2.2.2.2.2.1 rd r.2.2.2.2.2.2.2.2 fw bars ways)
theorem PO.mk {cy : Nat → ClassId} {q : Nat → Nat} {r : Int32 × St} {x : Int32} {len span wires chg rsp rwi val ends : Nat} {text : Nat → Nat} {h was rd eyes fw bars ways : Nat → Int32} (hr : r = (x, (len, span, wires, chg, text, h, was, eyes))) : PO cy q r (some (.int x)) (mdC cy q len span wires chg rsp rwi val ends text h was rd eyes fw bars ways) := by
  subst hr
  exact ⟨x, rfl, rfl, rsp, rwi, val, ends, rd, fw, bars, ways, rfl⟩
