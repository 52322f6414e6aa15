-- what is asked: the loop that mends a wire
def allB (p : Nat → Bool) : Nat → Bool
  | 0 => true
  | n + 1 => allB p n && p n
theorem allB_t {p : Nat → Bool} : ∀ {n : Nat}, allB p n = true ↔ ∀ k, k < n → p k = true
  | 0 => ⟨fun _ k hk => absurd hk (Nat.not_lt_zero k), fun _ => rfl⟩
  | n + 1 => by
    unfold allB
    rw [Bool.and_eq_true, allB_t]
    refine ⟨fun h k hk => ?_, fun h => ⟨fun k hk => h k (by omega), h n (by omega)⟩⟩
    rcases Nat.lt_or_ge k n with g | g
    · exact h.1 k g
    · rw [show k = n by omega]; exact h.2
theorem allB_f {p : Nat → Bool} {k n : Nat} (h : allB p k = false) (hk : k ≤ n) : allB p n = false := by
  cases hb : allB p n with
  | false => rfl
  | true =>
    rw [allB_t.mpr (fun j hj => allB_t.mp hb j (by omega))] at h
    cases h
def wlP (h : Nat → Int32) (S i k : Nat) : Bool := decide (k = i) || (decide (nrC h S i k = 0) && !(way h S i k && way h S k i))
def welB (h : Nat → Int32) (S n i : Nat) : Bool := allB (wlP h S i) n
def hqs (h : Nat → Int32) (i : Nat) (sh v : Int32) : Nat → Int32 := upd (upd h (5 * i + 3) sh) (5 * i + 4) v
theorem hqs_3 {h : Nat → Int32} {i : Nat} {a b x : Int32} : upd (hqs h i a b) (5 * i + 3) x = hqs h i x b := by
  unfold hqs
  rw [upd_sw (by omega), upd_uu]
theorem hqs_4 {h : Nat → Int32} {i : Nat} {a b x : Int32} : upd (hqs h i a b) (5 * i + 4) x = hqs h i a x := upd_uu
theorem hqs_at3 {h : Nat → Int32} {i : Nat} {a b : Int32} : hqs h i a b (5 * i + 3) = a := by
  unfold hqs
  rw [upd_un (by omega), upd_us]
theorem hqs_at4 {h : Nat → Int32} {i : Nat} {a b : Int32} : hqs h i a b (5 * i + 4) = b := upd_us
theorem hqs_id {h : Nat → Int32} {i : Nat} {a b : Int32} (h3 : h (5 * i + 3) = a) (h4 : h (5 * i + 4) = b) : hqs h i a b = h := by
  unfold hqs
  rw [upd_id h3, upd_id h4]
def tryB (h : Nat → Int32) (S n i : Nat) (sh v : Int32) : Bool := inB v (nI 1) (nI 40) && welB (hqs h i sh v) S n i
/-- the first that there is -/
def oN (g : Nat → Option Int32) : Nat → Option Int32
  | 0 => none
  | n + 1 => match oN g n with
    | some x => some x
    | none => g n
theorem oN_s {g : Nat → Option Int32} {n : Nat} (h : oN g n = none) : oN g (n + 1) = g n := by
  show (match oN g n with | some x => some x | none => g n) = g n
  rw [h]
theorem oN_k {g : Nat → Option Int32} {x : Int32} : ∀ (d n : Nat), oN g n = some x → oN g (n + d) = some x
  | 0, _, h => h
  | d + 1, n, h => by
    show (match oN g (n + d) with | some x => some x | none => g (n + d)) = some x
    rw [oN_k d n h]
theorem oN_t {g : Nat → Option Int32} {x : Int32} {k n : Nat} (hk : k < n) (h0 : oN g k = none) (hx : g k = some x) : oN g n = some x := by
  have := oN_k (n - (k + 1)) (k + 1) ((oN_s h0).trans hx)
  rwa [show k + 1 + (n - (k + 1)) = n by omega] at this
def c1 (h : Nat → Int32) (S n i : Nat) (sh v : Int32) : Option Int32 := if tryB h S n i sh v = true then some (nI 100 * sh + v) else none
theorem c1_t {h : Nat → Int32} {S n i : Nat} {sh v : Int32} (h1 : inB v (nI 1) (nI 40) = true) (h2 : welB (hqs h i sh v) S n i = true) : c1 h S n i sh v = some (nI 100 * sh + v) := by
  unfold c1 tryB
  rw [h1, h2]
  rfl
theorem c1_f1 {h : Nat → Int32} {S n i : Nat} {sh v : Int32} (h1 : inB v (nI 1) (nI 40) = false) : c1 h S n i sh v = none := by
  unfold c1 tryB
  rw [h1]
  rfl
theorem c1_f2 {h : Nat → Int32} {S n i : Nat} {sh v : Int32} (h1 : inB v (nI 1) (nI 40) = true) (h2 : welB (hqs h i sh v) S n i = false) : c1 h S n i sh v = none := by
  unfold c1 tryB
  rw [h1, h2]
  rfl
def shN (sh : Int32) (n : Nat) : Int32 := if n = 0 then sh else nI (n - 1)
def cdN (h : Nat → Int32) (S n i b j : Nat) : Option Int32 := match c1 h S n i (shN (h (5 * i + 3)) j) (h (5 * i + 4) + (-1) * nI b) with
  | some x => some x
  | none => c1 h S n i (shN (h (5 * i + 3)) j) (h (5 * i + 4) + nI 1 * nI b)
def lpO (h : Nat → Int32) (S n i : Nat) : Option Int32 := oN (fun b => oN (cdN h S n i b) 4) 40
def lpI (h : Nat → Int32) (S n i : Nat) : Int32 := match lpO h S n i with
  | some x => x
  | none => -4
theorem fnd_ge {t : Nat} {v : Int32} (ht : t ≤ 2) (h : inB v (nI 1) (nI 40) = true) : 0 ≤ nI 100 * nI t + v := by
  obtain ⟨h1, h2⟩ := inB_iff.mp h
  obtain ⟨a, ha, rfl⟩ := nI_of (x := v) (i_nlt (by rw [Int32.le_iff_toInt_le] at h1 ⊢; exact Int.le_trans (by decide) h1))
  have h3 := (nI_leI ha (by omega)).mp h2
  rw [pk_mul, nI_add]
  exact nI_pos' (by omega)
def opLoop (span wires : Nat) (h : Nat → Int32) (i : Int32) : Int32 := if wrB wires i = true then lpI h span wires i.toNatClampNeg else -1
def opMend (len span wires chg : Nat) (text : Nat → Nat) (h was eyes : Nat → Int32) (i : Int32) : Int32 × St := if wrB wires i = true then if lpI h span wires i.toNatClampNeg < 0 then (-4, (len, span, wires, chg, text, h, was, eyes)) else if lpI h span wires i.toNatClampNeg = nI 100 * h (5 * i.toNatClampNeg + 3) + h (5 * i.toNatClampNeg + 4) then (-2, (len, span, wires, chg, text, h, was, eyes)) else (dst (lpI h span wires i.toNatClampNeg - lpI h span wires i.toNatClampNeg / nI 100 * nI 100) (nI 100 * h (5 * i.toNatClampNeg + 3) + h (5 * i.toNatClampNeg + 4) - (nI 100 * h (5 * i.toNatClampNeg + 3) + h (5 * i.toNatClampNeg + 4)) / nI 100 * nI 100), (len, span, wires, ntC chg, text, hqs h i.toNatClampNeg (lpI h span wires i.toNatClampNeg / nI 100) (lpI h span wires i.toNatClampNeg - lpI h span wires i.toNatClampNeg / nI 100 * nI 100), ntW chg was h, eyes)) else (-1, (len, span, wires, chg, text, h, was, eyes))
