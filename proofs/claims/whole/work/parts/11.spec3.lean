-- what is asked: pairs, orders, who is stuck, sums
theorem upd_us {f : Nat → Int32} {k : Nat} {x : Int32} : upd f k x k = x := by unfold upd; exact if_pos rfl
theorem upd_un {f : Nat → Int32} {k j : Nat} {x : Int32} (h : j ≠ k) : upd f k x j = f j := by unfold upd; exact if_neg h
theorem upd_uu {f : Nat → Int32} {k : Nat} {x y : Int32} : upd (upd f k x) k y = upd f k y := by
  funext j
  unfold upd
  split <;> rfl
theorem upd_sw {f : Nat → Int32} {i j : Nat} (h : i ≠ j) (x y : Int32) : upd (upd f i x) j y = upd (upd f j y) i x := by
  funext k
  unfold upd
  by_cases h1 : k = j
  · subst h1
    rw [if_pos rfl, if_neg (fun e => h e.symm), if_pos rfl]
  · rw [if_neg h1, if_neg h1]
theorem upd_id {f : Nat → Int32} {k : Nat} {x : Int32} (h : f k = x) : upd f k x = f := by
  funext j
  unfold upd
  by_cases e : j = k
  · rw [if_pos e, e, h]
  · rw [if_neg e]
def prS (p : Nat → Nat → Bool) (n : Nat) : Nat → Nat
  | 0 => 0
  | i + 1 => prS p n i + cntB (p i) n
theorem prS_le (p : Nat → Nat → Bool) (n : Nat) : ∀ i, prS p n i ≤ i * n
  | 0 => Nat.zero_le _
  | i + 1 => by
    have h1 := prS_le p n i
    have h2 := cntB_le (p i) n
    show prS p n i + cntB (p i) n ≤ (i + 1) * n
    rw [Nat.succ_mul]
    omega
def pr6 (h : Nat → Int32) (S : Nat) (i k : Nat) : Bool := decide (i < k) && decide (0 < nrC h S i k)
def pr7 (h : Nat → Int32) (S : Nat) (i k : Nat) : Bool := decide (i < k) && crs h S i k
def pr8 (h : Nat → Int32) (S : Nat) (i k : Nat) : Bool := decide (i ≠ k) && way h S i k
def opCount (len span wires chg : Nat) (h : Nat → Int32) (what : Int32) : Int32 := if what = nI 0 then nI wires else if what = nI 1 then nI span else if what = nI 2 then h 40 else if what = nI 3 then h 41 else if what = nI 4 then h 42 else if what = nI 5 then bitsI (h 44) else if what = nI 6 then nI (prS (pr6 h span) wires wires) else if what = nI 7 then nI (prS (pr7 h span) wires wires) else if what = nI 8 then nI (prS (pr8 h span) wires wires) else if what = nI 9 then nI chg else if what = nI 10 then nI len else if what = nI 11 then h 43 + 100000 else if what = nI 12 then accI (nI 0) (lng h span) wires else -1
/-- those (bits, below n) that k is in the way of -/
def brA (h : Nat → Int32) (S k : Nat) : Nat → Int32
  | 0 => nI 0
  | i + 1 => brA h S k i ||| (if i = k then nI 0 else if way h S i k = true then nI 1 <<< (nI i &&& 31) else nI 0)
def foP (b : Nat → Int32) (x : Int32) (k : Nat) : Bool := decide (bt x k = nI 1) && decide (b k &&& x = 0)
/-- the lowest one of a set that is in the way of no other of it -/
def foI (b : Nat → Int32) (n : Nat) (x : Int32) : Int32 := match fstB (foP b x) n with
  | some k => nI k
  | none => -4
def lfI (b : Nat → Int32) (n : Nat) : Nat → Int32
  | 0 => nI 1 <<< (nI n &&& 31) - nI 1
  | j + 1 => lfI b n j - (if 0 ≤ foI b n (lfI b n j) then nI 1 <<< (foI b n (lfI b n j) &&& 31) else nI 0)
theorem lfI_s {b : Nat → Int32} {n j : Nat} : lfI b n (j + 1) = lfI b n j - (if 0 ≤ foI b n (lfI b n j) then nI 1 <<< (foI b n (lfI b n j) &&& 31) else nI 0) := rfl
theorem foI_cg {b c : Nat → Int32} {n : Nat} (h : ∀ k, k < n → b k = c k) (x : Int32) : foI b n x = foI c n x := by
  have e : ∀ j, j ≤ n → fstB (foP b x) j = fstB (foP c x) j := by
    intro j
    induction j with
    | zero => intro _; rfl
    | succ j ih =>
      intro hj
      unfold fstB
      rw [ih (by omega)]
      have : foP b x j = foP c x j := by unfold foP; rw [h j (by omega)]
      rw [this]
  unfold foI
  rw [e n (Nat.le_refl n)]
theorem lfI_cg {b c : Nat → Int32} {n : Nat} (h : ∀ k, k < n → b k = c k) : ∀ j, lfI b n j = lfI c n j
  | 0 => rfl
  | j + 1 => by unfold lfI; rw [lfI_cg h j, foI_cg h]
def brs (h : Nat → Int32) (S n : Nat) : Nat → Int32 := fun k => brA h S k n
def opStuck (span wires : Nat) (h : Nat → Int32) : Int32 := lfI (brs h span wires) wires wires
def opOrder (span wires : Nat) (h : Nat → Int32) (k : Int32) : Int32 := if inB k (nI 0) (nI 7) = true then if opStuck span wires h = 0 then if k < nI wires then foI (brs h span wires) wires (lfI (brs h span wires) wires k.toNatClampNeg) else -4 else -2 else -1
/-- ORDERS, as the reference counts them: from each set to those of one more -/
theorem shl1 : ∀ k, k < 31 → nI 1 <<< (nI k &&& 31) = nI (2 ^ k) := by decide +kernel
theorem all_eq {n : Nat} (h : n ≤ 8) : nI 1 <<< (nI n &&& 31) - nI 1 = nI (2 ^ n - 1) := by
  rw [shl1 n (by omega), pk_sub (Nat.one_le_two_pow)]
theorem or_nI (a b : Nat) : nI a ||| nI b = nI (a ||| b) := by
  apply Int32.toBitVec_inj.mp
  show (nI a).toBitVec ||| (nI b).toBitVec = (nI (a ||| b)).toBitVec
  apply BitVec.eq_of_toNat_eq
  show _ = (BitVec.ofNat 32 (a ||| b)).toNat
  rw [BitVec.toNat_or, BitVec.toNat_ofNat]
  show (BitVec.ofNat 32 a).toNat ||| (BitVec.ofNat 32 b).toNat = _
  rw [BitVec.toNat_ofNat, BitVec.toNat_ofNat, Nat.or_mod_two_pow]
def psK (b : Nat → Int32) (n s : Nat) (w : Nat → Int32) : Nat → (Nat → Int32)
  | 0 => w
  | k + 1 => if bt (nI s) k = 0 then if b k &&& (nI (2 ^ n - 1) - nI s) = 0 then upd (psK b n s w k) (s ||| 2 ^ k) (psK b n s w k (s ||| 2 ^ k) + psK b n s w k s) else psK b n s w k else psK b n s w k
theorem psK_s {b : Nat → Int32} {n s : Nat} {w : Nat → Int32} {k : Nat} : psK b n s w (k + 1) = if bt (nI s) k = 0 then if b k &&& (nI (2 ^ n - 1) - nI s) = 0 then upd (psK b n s w k) (s ||| 2 ^ k) (psK b n s w k (s ||| 2 ^ k) + psK b n s w k s) else psK b n s w k else psK b n s w k := rfl
def psS (b : Nat → Int32) (n : Nat) (w : Nat → Int32) : Nat → (Nat → Int32)
  | 0 => w
  | s + 1 => psK b n s (psS b n w s) n
def w0 (w : Nat → Int32) (k : Nat) : Nat → Int32 := cpG (fun j => if j = 0 then nI 1 else nI 0) w k
/-- the reference's count of orders, over a row w whose old contents do not matter -/
def opOrders (span wires : Nat) (h w : Nat → Int32) : Int32 := psS (brs h span wires) wires (w0 w (2 ^ wires)) (2 ^ wires - 1) (2 ^ wires - 1)
theorem or_lt8 {a k n : Nat} (ha : a < 2 ^ n) (hk : k < n) : a ||| 2 ^ k < 2 ^ n := Nat.or_lt_two_pow ha (Nat.pow_lt_pow_right (by omega) hk)
theorem psK_cg {b c : Nat → Int32} {n s : Nat} (h : ∀ k, k < n → b k = c k) (w : Nat → Int32) : ∀ k, k ≤ n → psK b n s w k = psK c n s w k
  | 0, _ => rfl
  | k + 1, hk => by rw [psK_s, psK_s, psK_cg h w k (by omega), h k (by omega)]
theorem psS_cg {b c : Nat → Int32} {n : Nat} (h : ∀ k, k < n → b k = c k) (w : Nat → Int32) : ∀ s, psS b n w s = psS c n w s
  | 0 => rfl
  | s + 1 => by unfold psS; rw [psS_cg h w s, psK_cg h _ n (Nat.le_refl n)]
theorem pw8 {n : Nat} (h : n ≤ 8) : 2 ^ n ≤ 256 ∧ 1 ≤ 2 ^ n := ⟨Nat.pow_le_pow_right (n := 2) (by omega) h, Nat.one_le_two_pow⟩
