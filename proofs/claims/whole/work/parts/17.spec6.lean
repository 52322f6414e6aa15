-- what is asked: reading the text
def lt0 (len : Nat) (text : Nat → Nat) (p : Nat) : Nat := if p < len then text p else 0
theorem lt0_b {len p : Nat} {text : Nat → Nat} (hb : ∀ j, text j ≤ 1000) : lt0 len text p ≤ 1000 := by
  unfold lt0
  split
  · exact hb p
  · omega
def dg (c : Nat) : Bool := decide (48 ≤ c) && decide (c ≤ 57)
theorem dg_t {c : Nat} (h1 : 48 ≤ c) (h2 : c ≤ 57) : dg c = true := by simp [dg, h1, h2]
theorem dg_f {c : Nat} (h : c < 48 ∨ 57 < c) : dg c = false := by
  rw [← Bool.not_eq_true]
  simp only [dg, Bool.and_eq_true, decide_eq_true_eq]
  omega
/-- a number of one or two figures: where it ends, what it is, whether it is one and in its range -/
def nmE (t : Nat → Nat) (p : Nat) : Nat := if dg (t p) = true then (if dg (t (p + 1)) = true then p + 2 else p + 1) else p
def nmV (t : Nat → Nat) (p : Nat) : Nat := if dg (t p) = true then (if dg (t (p + 1)) = true then 10 * (t p - 48) + (t (p + 1) - 48) else t p - 48) else 0
def nmO (t : Nat → Nat) (p : Nat) (lo hi : Int32) : Bool := decide (p < nmE t p) && inB (nI (nmV t p)) lo hi
theorem nmE_le (t : Nat → Nat) (p : Nat) : p ≤ nmE t p ∧ nmE t p ≤ p + 2 := by unfold nmE; split <;> (try split) <;> omega
theorem nmV_le (t : Nat → Nat) (p : Nat) : nmV t p ≤ 99 := by
  unfold nmV
  split
  · next h1 =>
    split
    · next h2 =>
      simp only [dg, Bool.and_eq_true, decide_eq_true_eq] at h1 h2
      omega
    · simp only [dg, Bool.and_eq_true, decide_eq_true_eq] at h1
      omega
  · omega
/-- five numbers with a comma between them, behind the place e -/
def wrE (t : Nat → Nat) (e : Nat) : Nat → Nat
  | 0 => e
  | k + 1 => nmE t (wrE t e k + 1)
theorem wrE_le (t : Nat → Nat) (e : Nat) : ∀ k, e ≤ wrE t e k ∧ wrE t e k ≤ e + 3 * k
  | 0 => ⟨Nat.le_refl _, Nat.le_refl _⟩
  | k + 1 => by
    have h1 := wrE_le t e k
    have h2 := nmE_le t (wrE t e k + 1)
    show e ≤ nmE t (wrE t e k + 1) ∧ nmE t (wrE t e k + 1) ≤ _
    omega
def wrK (t : Nat → Nat) (e k : Nat) : Bool := (decide (k = 0) || decide (t (wrE t e k) = 44)) && nmO t (wrE t e k + 1) (lowI (nI k)) (highI (nI k))
def wrV (t : Nat → Nat) (e : Nat) : Nat → Int32 := fun k => nI (nmV t (wrE t e k + 1))
def wrO (t : Nat → Nat) (wn e : Nat) : Bool := decide (wn ≠ 8) && allB (wrK t e) 5
/-- an item at the place i: whether it is one (but for its ;), where it ends, what it tells -/
def lmN (c : Nat) : Nat := if c = 103 then 0 else if c = 104 then 1 else if c = 116 then 2 else 3
def itO (t : Nat → Nat) (wn i : Nat) : Bool := if decide (i = 0) = decide (t i = 115) then if t i = 115 then nmO t (i + 1) (nI 8) (nI 40) else if t i = 119 then wrO t wn i else if lmN (t i) = 3 then false else nmO t (i + 1) (nI 1) (mostI (nI (lmN (t i)))) else false
def itE (t : Nat → Nat) (i : Nat) : Nat := if t i = 119 then wrE t i 5 else nmE t (i + 1)
def itS (t : Nat → Nat) (sp i : Nat) : Nat := if t i = 115 then nmV t (i + 1) else sp
def itW (t : Nat → Nat) (wn i : Nat) : Nat := if t i = 119 then wn + 1 else wn
def itR (t : Nat → Nat) (wn : Nat) (r : Nat → Int32) (i : Nat) : Nat → Int32 := if t i = 115 then r else if t i = 119 then cpO (wrV t i) r (5 * wn) 5 else upd r (40 + lmN (t i)) (nI (nmV t (i + 1)))
theorem itR_cg {t : Nat → Nat} {wn i : Nat} {r r2 : Nat → Int32} (h : ∀ j, j < 45 → r j = r2 j) : ∀ j, j < 45 → itR t wn r i j = itR t wn r2 i j := by
  intro j hj
  unfold itR
  split
  · exact h j hj
  · split
    · unfold cpO
      split
      · exact h j hj
      · split
        · rfl
        · exact h j hj
    · unfold upd
      split
      · rfl
      · exact h j hj
theorem itE_le (t : Nat → Nat) (i : Nat) : i ≤ itE t i ∧ itE t i ≤ i + 15 := by
  unfold itE
  split
  · have := wrE_le t i 5
    omega
  · have := nmE_le t (i + 1)
    omega
/-- the whole text from a place on: the fault (or -4), what it has told -/
def rdL (t : Nat → Nat) (len : Nat) : Nat → Nat → Nat → Nat → (Nat → Int32) → Int32 × Nat × Nat × (Nat → Int32)
  | 0, _, sp, wn, r => (-4, sp, wn, r)
  | d + 1, i, sp, wn, r => if i < len then if itO t wn i = true then if t (itE t i) = 59 then rdL t len d (itE t i + 1) (itS t sp i) (itW t wn i) (itR t wn r i) else (nI i, sp, wn, r) else (nI i, sp, wn, r) else (-4, sp, wn, r)
theorem nI_m4 {i : Nat} (h : i < 2147483648) : ¬ nI i = -4 := fun e => by
  have h1 := nI_pos h
  rw [e] at h1
  exact h1 (by decide)
theorem itW_le {t : Nat → Nat} {wn i : Nat} (h : itO t wn i = true) (hw : wn ≤ 8) : itW t wn i ≤ 8 := by
  unfold itW
  split
  · next e =>
    unfold itO at h
    split at h
    · rw [if_neg (by rw [e]; decide)] at h
      first | rw [if_pos e] at h | skip
      unfold wrO at h
      simp only [Bool.and_eq_true, decide_eq_true_eq] at h
      omega
    · cases h
  · exact hw
theorem cpG_cg {s s2 d : Nat → Int32} {k : Nat} (h : ∀ j, j < k → s j = s2 j) : cpG s d k = cpG s2 d k := by
  funext j
  unfold cpG
  split
  · next e => exact h j e
  · rfl
theorem rdL_b (t : Nat → Nat) (len : Nat) : ∀ (d i sp wn : Nat) (r : Nat → Int32), sp ≤ 99 → wn ≤ 8 → (rdL t len d i sp wn r).2.1 ≤ 99 ∧ (rdL t len d i sp wn r).2.2.1 ≤ 8
  | 0, _, _, _, _, h1, h2 => ⟨h1, h2⟩
  | d + 1, i, sp, wn, r, h1, h2 => by
    show (if _ then _ else _ : Int32 × Nat × Nat × (Nat → Int32)).2.1 ≤ 99 ∧ (if _ then _ else _ : Int32 × Nat × Nat × (Nat → Int32)).2.2.1 ≤ 8
    split
    · split
      · next e =>
        split
        · refine rdL_b t len d _ _ _ _ ?_ (itW_le e h2)
          unfold itS
          split
          · exact nmV_le _ _
          · exact h1
        · exact ⟨h1, h2⟩
      · exact ⟨h1, h2⟩
    · exact ⟨h1, h2⟩
def rdZ : Nat → Int32 := upd (upd (upd (fun _ => nI 0) 40 (nI 2)) 41 (nI 6)) 42 (nI 2)
def rdT (len : Nat) (text : Nat → Nat) : Int32 × Nat × Nat × (Nat → Int32) := rdL (lt0 len text) len (len + 1) 0 0 0 rdZ
theorem rdZ_cg (rd : Nat → Int32) : ∀ j, j < 45 → upd (upd (upd (cpG (fun _ => nI 0) rd 45) 40 (nI 2)) 41 (nI 6)) 42 (nI 2) j = rdZ j := by
  intro j hj
  unfold rdZ upd
  split
  · rfl
  · split
    · rfl
    · split
      · rfl
      · exact cpG_lt hj
theorem rdT_sp (len : Nat) (text : Nat → Nat) : (rdT len text).2.1 ≤ 99 ∧ (rdT len text).2.2.1 ≤ 8 := rdL_b _ _ _ _ _ _ _ (by omega) (by omega)
def opFault (len : Nat) (text : Nat → Nat) : Int32 := (rdT len text).1
def opLay (len span wires chg : Nat) (text : Nat → Nat) (h was eyes : Nat → Int32) : Int32 × St := if (rdT len text).1 = -4 then if (rdT len text).2.1 = 0 then (-2, (len, span, wires, chg, text, h, was, eyes)) else (nI (rdT len text).2.2.1, (len, (rdT len text).2.1, (rdT len text).2.2.1, 0, text, cpG (rdT len text).2.2.2 h 45, was, eyF eyes)) else (-2, (len, span, wires, chg, text, h, was, eyes))
