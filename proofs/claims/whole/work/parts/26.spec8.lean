-- bits of small sets; the eyes
theorem or0 (x : Int32) : x ||| nI 0 = x := by rw [nI_0]; exact Int32.or_zero
def pcN (s : Nat) : Nat := cntB (fun i => s.testBit i) 8
set_option maxRecDepth 100000 in
theorem bt_tb : ∀ s, s < 256 → ∀ k, k < 8 → (bt (nI s) k = nI 1 ↔ s.testBit k = true) ∧ (bt (nI s) k = 0 ↔ s.testBit k = false) ∧ ((nI s &&& nI 1 <<< (nI k &&& 31)) = 0 ↔ s.testBit k = false) := by decide +kernel
set_option maxRecDepth 100000 in
theorem rm_tb : ∀ s, s < 256 → ∀ k, k < 8 → s.testBit k = true → nI s - nI 1 <<< (nI k &&& 31) = nI (s - 2 ^ k) ∧ nI s &&& (nI 1 <<< (nI k &&& 31) ^^^ (-1)) = nI (s - 2 ^ k) ∧ pcN (s - 2 ^ k) + 1 = pcN s ∧ 2 ^ k ≤ s := by decide +kernel
set_option maxRecDepth 100000 in
theorem ad_tb : ∀ s, s < 256 → ∀ k, k < 8 → s.testBit k = false → nI s ||| nI 1 <<< (nI k &&& 31) = nI (s + 2 ^ k) := by decide +kernel
set_option maxRecDepth 100000 in
theorem bc_tb : ∀ s, s < 256 → bcI (nI s) = nI (pcN s) ∧ bitsI (nI s) = nI (pcN s) := by decide +kernel
theorem pc_0 : pcN 0 = 0 := by decide
set_option maxRecDepth 100000 in
theorem pc_all : ∀ n, n ≤ 8 → pcN (2 ^ n - 1) = n := by decide +kernel
/-- a set by its members below n -/
def mkS (p : Nat → Bool) : Nat → Nat
  | 0 => 0
  | k + 1 => if p k = true then mkS p k + 2 ^ k else mkS p k
theorem mkS_s {p : Nat → Bool} {k : Nat} : mkS p (k + 1) = if p k = true then mkS p k + 2 ^ k else mkS p k := rfl
theorem mkS_lt (p : Nat → Bool) : ∀ n, mkS p n < 2 ^ n
  | 0 => Nat.one_pos
  | k + 1 => by
    have := mkS_lt p k
    unfold mkS
    rw [Nat.pow_succ]
    split <;> omega
theorem mkS_hi (p : Nat → Bool) {n k : Nat} (h : n ≤ k) : (mkS p n).testBit k = false := Nat.testBit_lt_two_pow (Nat.lt_of_lt_of_le (mkS_lt p n) (Nat.pow_le_pow_right (by omega) h))
theorem mkS_tb (p : Nat → Bool) : ∀ n k, k < n → (mkS p n).testBit k = p k
  | 0, k, h => absurd h (Nat.not_lt_zero k)
  | n + 1, k, h => by
    have hl := mkS_lt p n
    unfold mkS
    split
    · next e =>
      rw [Nat.add_comm]
      rcases Nat.lt_or_ge k n with g | g
      · rw [Nat.testBit_two_pow_add_gt g, mkS_tb p n k g]
      · obtain rfl : k = n := by omega
        rw [Nat.testBit_two_pow_add_eq, mkS_hi p (Nat.le_refl k), e]
        rfl
    · next e =>
      rcases Nat.lt_or_ge k n with g | g
      · exact mkS_tb p n k g
      · obtain rfl : k = n := by omega
        rw [mkS_hi p (Nat.le_refl k)]
        cases hp : p k with
        | false => rfl
        | true => exact absurd hp e
theorem cntB_cg {p r : Nat → Bool} : ∀ {n : Nat}, (∀ k, k < n → p k = r k) → cntB p n = cntB r n
  | 0, _ => rfl
  | n + 1, h => by
    show cntB p n + (if p n then 1 else 0) = cntB r n + (if r n then 1 else 0)
    rw [cntB_cg (fun k hk => h k (by omega)), h n (by omega)]
theorem cntB_add {p : Nat → Bool} {n : Nat} : ∀ d, (∀ k, n ≤ k → k < n + d → p k = false) → cntB p (n + d) = cntB p n
  | 0, _ => rfl
  | d + 1, h => by
    show cntB p (n + d) + (if p (n + d) then 1 else 0) = _
    rw [cntB_add d (fun k h1 h2 => h k h1 (by omega)), h (n + d) (by omega) (by omega)]
    rfl
theorem pc_mk (p : Nat → Bool) {n : Nat} (hn : n ≤ 8) : pcN (mkS p n) = cntB p n := by
  unfold pcN
  have e : 8 = n + (8 - n) := by omega
  rw [e, cntB_add (p := fun i => (mkS p n).testBit i) (8 - n) (fun k h1 _ => mkS_hi p h1)]
  exact cntB_cg (fun k hk => mkS_tb p n k hk)
theorem bl_mk {h : Nat → Int32} {S i : Nat} : ∀ k, k ≤ 8 → blA h S i k = nI (mkS (pr8 h S i) k)
  | 0, _ => rfl
  | k + 1, hk => by
    have hl := mkS_lt (pr8 h S i) k
    have h2 : 2 ^ k ≤ 2 ^ 7 := Nat.pow_le_pow_right (by omega) (by omega)
    rw [blA_s, bl_mk k (by omega), mkS_s]
    by_cases h1 : i = k
    · rw [if_pos h1, if_neg (by unfold pr8; simp [h1])]
    · rw [if_neg h1]
      by_cases h3 : way h S i k = true
      · rw [if_pos h3, if_pos (by unfold pr8; simp [h1, h3]), ad_tb _ (by omega) k (by omega) (mkS_hi _ (Nat.le_refl k))]
      · rw [if_neg h3, if_neg (by unfold pr8; simp [h1, h3])]
def pr9 (h : Nat → Int32) (S k i : Nat) : Bool := decide (i ≠ k) && way h S i k
theorem bd_mk {h : Nat → Int32} {S k : Nat} : ∀ i, i ≤ 8 → bdA h S k i = nI (mkS (pr9 h S k) i)
  | 0, _ => rfl
  | i + 1, hi => by
    have hl := mkS_lt (pr9 h S k) i
    have h2 : 2 ^ i ≤ 2 ^ 7 := Nat.pow_le_pow_right (by omega) (by omega)
    rw [bdA_s, bd_mk i (by omega), mkS_s]
    by_cases h1 : i = k
    · rw [if_pos h1, if_neg (by unfold pr9; simp [h1])]
    · rw [if_neg h1]
      by_cases h3 : way h S i k = true
      · rw [if_pos h3, if_pos (by unfold pr9; simp [h1, h3]), ad_tb _ (by omega) i (by omega) (mkS_hi _ (Nat.le_refl i))]
      · rw [if_neg h3, if_neg (by unfold pr9; simp [h1, h3])]
theorem br_bd {h : Nat → Int32} {S k : Nat} : ∀ i, brA h S k i = bdA h S k i
  | 0 => rfl
  | i + 1 => by
    rw [bdA_s]
    show brA h S k i ||| _ = _
    rw [br_bd i]
    by_cases h1 : i = k
    · rw [if_pos h1, if_pos h1, or0]
    · rw [if_neg h1, if_neg h1]
      by_cases h3 : way h S i k = true
      · rw [if_pos h3, if_pos h3]
      · rw [if_neg h3, if_neg h3, or0]
/-- the sum that BondedWires makes of the pairs in the way -/
theorem bp_sum {h : Nat → Int32} {S n : Nat} (hn : n ≤ 8) : ∀ i, i ≤ n → accI (nI 0) (fun i => bcI (blA h S i n)) i = nI (prS (pr8 h S) n i)
  | 0, _ => rfl
  | i + 1, hi => by
    have hl := mkS_lt (pr8 h S i) n
    have h2 : 2 ^ n ≤ 2 ^ 8 := Nat.pow_le_pow_right (by omega) hn
    show accI (nI 0) (fun i => bcI (blA h S i n)) i + bcI (blA h S i n) = nI (prS (pr8 h S) n i + cntB (pr8 h S i) n)
    rw [bp_sum hn i (by omega), bl_mk n hn, (bc_tb _ (by omega)).1, pc_mk _ hn, nI_add]
/-- shifted numbers between two others -/
theorem inB_sh {X a b : Int32} (hX : sml X) (ha : sml a) (hb : sml b) : inB (X - a) (nI 0) (b - a) = (decide (a ≤ X) && decide (X ≤ b)) := by
  have e1 := sub_ti hX ha
  have e2 := sub_ti hb ha
  have h0 : (nI 0).toInt = 0 := rfl
  unfold inB
  rw [Bool.eq_iff_iff]
  simp only [Bool.and_eq_true, decide_eq_true_eq, Int32.le_iff_toInt_le, e1, e2, h0]
  omega
theorem sml_ad {t : Nat} {x : Int32} (ht : t ≤ 1000) (hx : -1000 ≤ x.toInt ∧ x.toInt ≤ 1000) : sml (nI t + x) := by
  unfold sml
  have e : (nI t).toInt = t := nI_toInt (by omega)
  rw [Int32.toInt_add, e, Int.bmod_eq_of_le (by omega) (by omega)]
  omega
