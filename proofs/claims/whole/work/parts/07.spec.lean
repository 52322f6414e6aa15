-- what is asked, as plain functions: of a row h of 45 numbers (8 wires of 5, three limits, shift, bonded), a span S
def inB (v lo hi : Int32) : Bool := decide (lo ≤ v) && decide (v ≤ hi)
def dst (a b : Int32) : Int32 := if a < b then b - a else a - b
theorem i_nle {a b : Int32} (h : a < b) : ¬ b ≤ a := by rw [Int32.le_iff_toInt_le]; rw [Int32.lt_iff_toInt_lt] at h; omega
theorem i_nlt {a b : Int32} (h : b ≤ a) : ¬ a < b := by rw [Int32.lt_iff_toInt_lt]; rw [Int32.le_iff_toInt_le] at h; omega
theorem i_lt {a b : Int32} (h : ¬ b ≤ a) : a < b := by rw [Int32.lt_iff_toInt_lt]; rw [Int32.le_iff_toInt_le] at h; omega
theorem i_le {a b : Int32} (h : ¬ a < b) : b ≤ a := by rw [Int32.le_iff_toInt_le]; rw [Int32.lt_iff_toInt_lt] at h; omega
theorem inB_t {v lo hi : Int32} (h1 : lo ≤ v) (h2 : v ≤ hi) : inB v lo hi = true := by simp [inB, h1, h2]
theorem inB_f1 {v lo hi : Int32} (h1 : v < lo) : inB v lo hi = false := by simp [inB, i_nle h1]
theorem inB_f2 {v lo hi : Int32} (h1 : hi < v) : inB v lo hi = false := by simp [inB, i_nle h1]
theorem inB_iff {v lo hi : Int32} : inB v lo hi = true ↔ lo ≤ v ∧ v ≤ hi := by simp [inB]
/-- how many, whether one, the first one below n -/
def cntB (p : Nat → Bool) : Nat → Nat
  | 0 => 0
  | n + 1 => cntB p n + (if p n then 1 else 0)
def anyB (p : Nat → Bool) : Nat → Bool
  | 0 => false
  | n + 1 => anyB p n || p n
def fstB (p : Nat → Bool) : Nat → Option Nat
  | 0 => none
  | n + 1 => match fstB p n with
    | some k => some k
    | none => if p n then some n else none
def accI (x : Int32) (g : Nat → Int32) : Nat → Int32
  | 0 => x
  | n + 1 => accI x g n + g n
theorem cntB_le (p : Nat → Bool) : ∀ n, cntB p n ≤ n
  | 0 => Nat.le_refl 0
  | n + 1 => by have := cntB_le p n; unfold cntB; split <;> omega
theorem cntB_t {p : Nat → Bool} {n : Nat} (h : p n = true) : cntB p (n + 1) = cntB p n + 1 := by
  show cntB p n + (if p n then 1 else 0) = _
  rw [h]
  rfl
theorem cntB_n {p : Nat → Bool} {n : Nat} (h : p n = false) : cntB p (n + 1) = cntB p n := by
  show cntB p n + (if p n then 1 else 0) = _
  rw [h]
  rfl
theorem anyB_f {p : Nat → Bool} : ∀ {n : Nat}, anyB p n = false ↔ ∀ k, k < n → p k = false
  | 0 => ⟨fun _ k hk => absurd hk (Nat.not_lt_zero k), fun _ => rfl⟩
  | n + 1 => by
    unfold anyB
    rw [Bool.or_eq_false_iff, anyB_f]
    refine ⟨fun h k hk => ?_, fun h => ⟨fun k hk => h k (by omega), h n (by omega)⟩⟩
    rcases Nat.lt_or_ge k n with g | g
    · exact h.1 k g
    · rw [show k = n by omega]; exact h.2
theorem anyB_t {p : Nat → Bool} {n : Nat} : anyB p n = true ↔ ∃ k, k < n ∧ p k = true := by
  cases hb : anyB p n with
  | true =>
    refine ⟨fun _ => ?_, fun _ => rfl⟩
    refine Classical.byContradiction fun hc => ?_
    have : anyB p n = false := anyB_f.mpr fun k hk => by
      cases hp : p k with
      | false => rfl
      | true => exact absurd ⟨k, hk, hp⟩ hc
    rw [hb] at this
    cases this
  | false =>
    refine ⟨fun h => (by cases h), fun ⟨k, hk, hp⟩ => ?_⟩
    rw [anyB_f.mp hb k hk] at hp
    cases hp
theorem fstB_none {p : Nat → Bool} : ∀ {n : Nat}, (∀ k, k < n → p k = false) → fstB p n = none
  | 0, _ => rfl
  | n + 1, h => by unfold fstB; rw [fstB_none (fun k hk => h k (by omega))]; simp [h n (by omega)]
theorem fstB_keep {p : Nat → Bool} {k : Nat} : ∀ (d n : Nat), fstB p n = some k → fstB p (n + d) = some k
  | 0, _, h => h
  | d + 1, n, h => by
    show fstB p (n + d + 1) = some k
    unfold fstB
    rw [fstB_keep d n h]
theorem fstB_at {p : Nat → Bool} {k n : Nat} (hk : k < n) (hb : ∀ j, j < k → p j = false) (hp : p k = true) : fstB p n = some k := by
  have h1 : fstB p (k + 1) = some k := by unfold fstB; rw [fstB_none hb]; simp [hp]
  have := fstB_keep (n - (k + 1)) (k + 1) h1
  rwa [show k + 1 + (n - (k + 1)) = n by omega] at this
/-- PLACE, HEIGHT -/
def plc (h : Nat → Int32) (S i y : Nat) : Int32 := (h (5 * i) + h 43) * nI (S - y) + h (5 * i + 2) * nI y
def hg (base shape peak : Int32) (S y : Nat) : Int32 := if y = 0 then base else if y = S then nI 0 else if shape = 0 then base + peak else if shape = nI 1 then base * nI (S - y) / nI S + nI 4 * peak * nI y * nI (S - y) / nI (S * S) else if y < S / 4 then base + peak * nI y / nI (S / 4) else (base + peak) * nI (S - y) / nI (S - S / 4)
def hgt (h : Nat → Int32) (S i y : Nat) : Int32 := hg (nI 10 * h (5 * i + 1)) (h (5 * i + 3)) (h (5 * i + 4)) S y
/-- LONG -/
def lng (h : Nat → Int32) (S i : Nat) : Int32 := accI (nI S + dst (plc h S i 0) (plc h S i S) / nI S) (fun y => dst (hgt h S i y) (hgt h S i (y + 1))) S
/-- the lowest row below n + 1 of the greatest height -/
def topR (h : Nat → Int32) (S i : Nat) : Nat → Nat
  | 0 => 0
  | n + 1 => if hgt h S i (topR h S i n) < hgt h S i (n + 1) then n + 1 else topR h S i n
theorem topR_le (h : Nat → Int32) (S i : Nat) : ∀ n, topR h S i n ≤ n
  | 0 => Nat.le_refl 0
  | n + 1 => by have := topR_le h S i n; unfold topR; split <;> omega
/-- NEAR at a row; CROSS; IN THE WAY (k of i, at the end e) -/
def nrA (h : Nat → Int32) (S i k y : Nat) : Bool := decide (dst (plc h S i y) (plc h S k y) < h 40 * nI S) && decide (dst (hgt h S i y) (hgt h S k y) < h 41)
def crs (h : Nat → Int32) (S i k : Nat) : Bool := (decide (plc h S i 0 - plc h S k 0 < 0) && decide (0 < plc h S i S - plc h S k S)) || (decide (0 < plc h S i 0 - plc h S k 0) && decide (plc h S i S - plc h S k S < 0))
def ovr (h : Nat → Int32) (S i k e y : Nat) : Bool := decide (0 ≤ hgt h S k y - hgt h S i e) && (decide (nI 2 * dst (nI y) (nI e) < nI 2 * h 42 + (hgt h S k y - hgt h S i e)) && decide (nI 2 * dst (plc h S k y) (plc h S i e) < nI S * (nI 2 * h 42 + (hgt h S k y - hgt h S i e))))
def wayA (h : Nat → Int32) (S i k e : Nat) : Bool := anyB (ovr h S i k e) (S + 1)
def way (h : Nat → Int32) (S i k : Nat) : Bool := wayA h S i k 0 || wayA h S i k S
def nrC (h : Nat → Int32) (S i k : Nat) : Nat := cntB (nrA h S i k) (S + 1)
def nrF (h : Nat → Int32) (S i k : Nat) : Int32 := match fstB (nrA h S i k) (S + 1) with
  | some y => nI y
  | none => -4
/-- bit k of a set; how many; whether one of a set, other than i, is in the way of i -/
def bt (x : Int32) (k : Nat) : Int32 := (x >>> (nI k &&& 31)) &&& nI 1
def bitsI (x : Int32) : Int32 := accI (nI 0) (bt x) 19
def barP (h : Nat → Int32) (S i : Nat) (x : Int32) (k : Nat) : Bool := decide (k ≠ i) && (decide (bt x k = nI 1) && way h S i k)
def barB (h : Nat → Int32) (S n i : Nat) (x : Int32) : Bool := anyB (barP h S i x) n
