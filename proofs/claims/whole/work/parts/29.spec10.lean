-- longs as sets of rows; a loop that is tried
section ROWS3
variable {p : Program} {l : Launch} {e : Env} {R : Room} {s : State} {m : MethodId} {args : Array Value} {below : List Frame} {meth : Method} {c : Code} {Q : State → Prop}
variable {nL : Nat} {D : va_G} {N : Nat} {q : Nat → Nat}
variable {f : wS} {lv : List (Nat × Value)} {pc : Nat} {st : List Value}
theorem aw_dt (a n : Nat) {lv' : List (Nat × Value)} (h : (lv.drop a).take n = lv') (K : AW p l e R s m args below meth c D N q nL Q f lv' pc st) : AW p l e R s m args below meth c D N q nL Q f lv pc st := aw_lv (fun x hx => List.mem_of_mem_drop (List.mem_of_mem_take (by rw [h]; exact hx))) K
end ROWS3
theorem lN_or (a b : Nat) : lN a ||| lN b = lN (a ||| b) := by
  apply Int64.toBitVec_inj.mp
  show (lN a).toBitVec ||| (lN b).toBitVec = (lN (a ||| b)).toBitVec
  apply BitVec.eq_of_toNat_eq
  show _ = (BitVec.ofNat 64 (a ||| b)).toNat
  rw [BitVec.toNat_or, BitVec.toNat_ofNat]
  show (BitVec.ofNat 64 a).toNat ||| (BitVec.ofNat 64 b).toNat = _
  rw [BitVec.toNat_ofNat, BitVec.toNat_ofNat, Nat.or_mod_two_pow]
theorem lN_and (a b : Nat) : lN a &&& lN b = lN (a &&& b) := by
  apply Int64.toBitVec_inj.mp
  show (lN a).toBitVec &&& (lN b).toBitVec = (lN (a &&& b)).toBitVec
  apply BitVec.eq_of_toNat_eq
  show _ = (BitVec.ofNat 64 (a &&& b)).toNat
  rw [BitVec.toNat_and, BitVec.toNat_ofNat]
  show (BitVec.ofNat 64 a).toNat &&& (BitVec.ofNat 64 b).toNat = _
  rw [BitVec.toNat_ofNat, BitVec.toNat_ofNat, Nat.and_mod_two_pow]
theorem lN_shl : ∀ y, y < 41 → lN 1 <<< ((nI y).toInt64 &&& 63) = lN (2 ^ y) := by decide +kernel
theorem lN_shr {m : Nat} (h : m < 2 ^ 63) : ((lN m).toUInt64 >>> ((nI 1).toInt64.toUInt64 &&& Int64.toUInt64 63)).toInt64 = lN (m / 2) := by
  have e : ((nI 1).toInt64.toUInt64 &&& Int64.toUInt64 63) = 1 := by decide
  rw [e]
  apply Int64.toBitVec_inj.mp
  apply BitVec.eq_of_toNat_eq
  show ((lN m).toUInt64 >>> 1).toBitVec.toNat = (BitVec.ofNat 64 (m / 2)).toNat
  rw [BitVec.toNat_ofNat]
  show ((lN m).toUInt64 >>> 1).toNat = _
  rw [UInt64.toNat_shiftRight]
  show ((BitVec.ofNat 64 m).toNat) >>> ((1 : UInt64).toNat % 64) = _
  rw [BitVec.toNat_ofNat]
  show (m % 2 ^ 64) >>> 1 = _
  rw [Nat.mod_eq_of_lt (by omega), Nat.mod_eq_of_lt (by omega), Nat.shiftRight_eq_div_pow]
theorem lN_0 {m : Nat} (h : m < 2 ^ 63) : lg_cmp (lN m) (lN 0) = 0 ↔ m = 0 := by
  rw [lg_cmp_eq]
  constructor
  · intro e
    have h1 := lg_ofNat_toInt h
    have h2 := lg_ofNat_toInt (n := 0) (by omega)
    have e' : (Int64.ofNat m).toInt = (Int64.ofNat 0).toInt := congrArg Int64.toInt e
    rw [h1, h2] at e'
    omega
  · intro e; rw [e]
theorem mkS_or {p : Nat → Bool} {k : Nat} (h : p k = true) : mkS p k ||| 2 ^ k = mkS p (k + 1) := by
  rw [mkS_s, if_pos h]
  have := Nat.two_pow_add_eq_or_of_lt (mkS_lt p k) 1
  rw [Nat.mul_one] at this
  rw [Nat.or_comm, ← this, Nat.add_comm]
/-- the rows that are left, from y on -/
theorem sh_0 {m y : Nat} (h : m >>> y = 0) {j : Nat} (hj : y ≤ j) : m.testBit j = false := by
  have : (m >>> y).testBit (j - y) = false := by rw [h]; exact Nat.zero_testBit _
  rw [Nat.testBit_shiftRight] at this
  rwa [show y + (j - y) = j by omega] at this
theorem sh_1 {m y : Nat} : m >>> y &&& 1 = 0 ↔ m.testBit y = false := by
  rw [Nat.and_one_is_mod]
  have : (m >>> y).testBit 0 = m.testBit y := by rw [Nat.testBit_shiftRight]; rfl
  rw [← this, Nat.testBit_zero]
  constructor
  · intro h; rw [h]; rfl
  · intro h
    have := of_decide_eq_false h
    omega
theorem shr_lt {m y : Nat} (h : m < 2 ^ 63) : m >>> y < 2 ^ 63 := by
  rw [Nat.shiftRight_eq_div_pow]
  exact Nat.lt_of_le_of_lt (Nat.div_le_self _ _) h
/-- a loop that is tried -/
theorem hq_o {h : Nat → Int32} {i j : Nat} {a b : Int32} (h3 : j ≠ 5 * i + 3) (h4 : j ≠ 5 * i + 4) : hqs h i a b j = h j := by
  unfold hqs
  rw [upd_un h4, upd_un h3]
theorem hq_plc {h : Nat → Int32} {i k S y : Nat} {a b : Int32} (hi : i < 8) : plc (hqs h i a b) S k y = plc h S k y := by
  unfold plc
  rw [hq_o (by omega) (by omega), hq_o (by omega) (by omega), hq_o (by omega) (by omega)]
theorem hq_hgk {h : Nat → Int32} {i k S y : Nat} {a b : Int32} (hk : k ≠ i) : hgt (hqs h i a b) S k y = hgt h S k y := by
  unfold hgt
  rw [hq_o (by omega) (by omega), hq_o (by omega) (by omega), hq_o (by omega) (by omega)]
theorem hq_hgi {h : Nat → Int32} {i S y : Nat} {a b : Int32} : hgt (hqs h i a b) S i y = hg (nI 10 * h (5 * i + 1)) a b S y := by
  unfold hgt
  rw [hq_o (by omega) (by omega), hqs_at3, hqs_at4]
theorem hq_end {h : Nat → Int32} {i S e : Nat} {a b : Int32} (he : e = 0 ∨ e = S) : hgt (hqs h i a b) S i e = hgt h S i e := by
  rw [hq_hgi]
  unfold hgt hg
  rcases he with rfl | rfl
  · rw [if_pos rfl, if_pos rfl]
  · by_cases h0 : e = 0
    · rw [if_pos h0, if_pos h0]
    · rw [if_neg h0, if_neg h0, if_pos rfl, if_pos rfl]
/-- near, with the heights of a trial -/
def nrT (h : Nat → Int32) (S i k : Nat) (g : Nat → Int32) (y : Nat) : Bool := clsB h S i k y && decide (dst (g y) (hgt h S k y) < h 41)
theorem hq_nr {h : Nat → Int32} {i k S y : Nat} {a b : Int32} {g : Nat → Int32} (hi : i < 8) (hk : k ≠ i) (hg : g y = hgt (hqs h i a b) S i y) : nrA (hqs h i a b) S i k y = nrT h S i k g y := by
  unfold nrA nrT clsB
  rw [hq_plc hi, hq_plc hi, hq_hgk hk, hg, hq_o (by omega) (by omega), hq_o (by omega) (by omega)]
theorem hq_wi {h : Nat → Int32} {i k S : Nat} {a b : Int32} (hi : i < 8) (hk : k ≠ i) : way (hqs h i a b) S i k = way h S i k := by
  have e : ∀ e, e = 0 ∨ e = S → wayA (hqs h i a b) S i k e = wayA h S i k e := fun e he => by
    unfold wayA
    refine anyB_cg (fun y hy => ?_)
    unfold ovr
    rw [hq_hgk hk, hq_end he, hq_plc hi, hq_plc hi, hq_o (by omega) (by omega)]
  unfold way
  rw [e 0 (Or.inl rfl), e S (Or.inr rfl)]
theorem hq_wk {h : Nat → Int32} {i k S : Nat} {a b : Int32} {g : Nat → Int32} (hi : i < 8) (hk : k ≠ i) (hg : ∀ y, y ≤ S → g y = hgt (hqs h i a b) S i y) : way (hqs h i a b) S k i = wyG h S k i g := by
  have e : ∀ e, wayA (hqs h i a b) S k i e = anyB (ovG h S k i e g) (S + 1) := fun e => by
    unfold wayA
    refine anyB_cg (fun y hy => ?_)
    unfold ovr ovG
    rw [hq_hgk hk, ← hg y (by omega), hq_plc hi, hq_plc hi, hq_o (by omega) (by omega)]
  unfold way wyG
  rw [e 0, e S]
/-- whether k stands against a trial -/
def badT (h : Nat → Int32) (S i k : Nat) (g : Nat → Int32) : Bool := anyB (nrT h S i k g) (S + 1) || (pr8 h S i k && wyG h S k i g)
theorem cntB_0 {p : Nat → Bool} : ∀ {n : Nat}, cntB p n = 0 ↔ anyB p n = false
  | 0 => ⟨fun _ => rfl, fun _ => rfl⟩
  | n + 1 => by
    show cntB p n + (if p n then 1 else 0) = 0 ↔ (anyB p n || p n) = false
    rw [Bool.or_eq_false_iff, ← cntB_0]
    cases hp : p n with
    | true => simp
    | false => simp
theorem hq_wl {h : Nat → Int32} {i k S : Nat} {a b : Int32} {g : Nat → Int32} (hi : i < 8) (hk : k ≠ i) (hg : ∀ y, y ≤ S → g y = hgt (hqs h i a b) S i y) : wlP (hqs h i a b) S i k = !badT h S i k g := by
  unfold wlP badT nrC
  rw [decide_eq_false hk, hq_wi hi hk, hq_wk hi hk hg, Bool.false_or]
  have e1 : decide (cntB (nrA (hqs h i a b) S i k) (S + 1) = 0) = !anyB (nrT h S i k g) (S + 1) := by
    rw [← anyB_cg (p := nrA (hqs h i a b) S i k) (fun y hy => hq_nr hi hk (hg y (by omega))), Bool.eq_iff_iff, decide_eq_true_eq, cntB_0, Bool.not_eq_true']
  have e2 : pr8 h S i k = way h S i k := by
    unfold pr8
    rw [decide_eq_true (p := i ≠ k) (fun e => hk e.symm), Bool.true_and]
  rw [e1, e2]
  simp
theorem hq_ok {h : Nat → Int32} {n i t v : Nat} (hO : hOK h n) (hi : i < n) (hn : n ≤ 8) (ht : t ≤ 2) (h1 : 1 ≤ v) (h2 : v ≤ 40) : hOK (hqs h i (nI t) (nI v)) n := by
  obtain ⟨hw, h40, h41, h42, h43, h44⟩ := hO
  refine ⟨fun k hk => ?_, ?_, ?_, ?_, ?_, ?_⟩
  · obtain ⟨a0, a1, a2, a3, a4⟩ := hw k hk
    rw [hq_o (j := 5 * k) (by omega) (by omega), hq_o (j := 5 * k + 1) (by omega) (by omega), hq_o (j := 5 * k + 2) (by omega) (by omega)]
    refine ⟨a0, a1, a2, ?_, ?_⟩
    · by_cases e : k = i
      · rw [e, hqs_at3]; exact ⟨t, ht, rfl⟩
      · rw [hq_o (by omega) (by omega)]; exact a3
    · by_cases e : k = i
      · rw [e, hqs_at4]; exact ⟨v, h1, h2, rfl⟩
      · rw [hq_o (by omega) (by omega)]; exact a4
  · rw [hq_o (by omega) (by omega)]; exact h40
  · rw [hq_o (by omega) (by omega)]; exact h41
  · rw [hq_o (by omega) (by omega)]; exact h42
  · rw [hq_o (by omega) (by omega)]; exact h43
  · rw [hq_o (by omega) (by omega)]; exact h44
/-- the order in which BondedWires tries the shapes -/
def sT (own turn : Nat) : Nat := if turn = 0 then own else if turn ≤ own then turn - 1 else turn
theorem sT_le {own turn : Nat} (h1 : own ≤ 2) (h2 : turn ≤ 2) : sT own turn ≤ 2 := by
  unfold sT
  split
  · exact h1
  · split <;> omega
def cF (h : Nat → Int32) (S n i p0 b : Nat) (sh : Int32) : Option Int32 := match c1 h S n i sh (nI p0 - nI b) with
  | some x => some x
  | none => c1 h S n i sh (nI p0 + nI b)
theorem cF_ref {h : Nat → Int32} {S n i p0 b j : Nat} (hp : h (5 * i + 4) = nI p0) : cdN h S n i b j = cF h S n i p0 b (shN (h (5 * i + 3)) j) := by
  unfold cdN cF
  rw [hp, o1_n, ← m1_n, show nI p0 + (0 - nI b) = nI p0 - nI b from by simp only [Int32.sub_eq_add_neg, Int32.zero_add]]
  rfl
theorem oN_4 (g : Nat → Option Int32) : oN g 4 = match g 0 with
    | some x => some x
    | none => match g 1 with
      | some x => some x
      | none => match g 2 with
        | some x => some x
        | none => g 3 := by
  simp only [oN]
  cases g 0 <;> cases g 1 <;> cases g 2 <;> rfl
theorem oN_3 (g : Nat → Option Int32) : oN g 3 = match g 0 with
    | some x => some x
    | none => match g 1 with
      | some x => some x
      | none => g 2 := by
  simp only [oN]
  cases g 0 <;> cases g 1 <;> rfl
theorem cF_eq {h : Nat → Int32} {S n i p0 b t : Nat} (hp : h (5 * i + 4) = nI p0) (ht : h (5 * i + 3) = nI t) (h2 : t ≤ 2) : oN (cdN h S n i b) 4 = oN (fun turn => cF h S n i p0 b (nI (sT t turn))) 3 := by
  rw [oN_4, oN_3, cF_ref hp, cF_ref hp, cF_ref hp, cF_ref hp, ht]
  rcases (show t = 0 ∨ t = 1 ∨ t = 2 by omega) with rfl | rfl | rfl
  · show (match cF h S n i p0 b (nI 0) with | some x => some x | none => match cF h S n i p0 b (nI 0) with | some x => some x | none => match cF h S n i p0 b (nI 1) with | some x => some x | none => cF h S n i p0 b (nI 2)) = (match cF h S n i p0 b (nI 0) with | some x => some x | none => match cF h S n i p0 b (nI 1) with | some x => some x | none => cF h S n i p0 b (nI 2))
    cases cF h S n i p0 b (nI 0) <;> rfl
  · show (match cF h S n i p0 b (nI 1) with | some x => some x | none => match cF h S n i p0 b (nI 0) with | some x => some x | none => match cF h S n i p0 b (nI 1) with | some x => some x | none => cF h S n i p0 b (nI 2)) = (match cF h S n i p0 b (nI 1) with | some x => some x | none => match cF h S n i p0 b (nI 0) with | some x => some x | none => cF h S n i p0 b (nI 2))
    cases cF h S n i p0 b (nI 1) <;> rfl
  · show (match cF h S n i p0 b (nI 2) with | some x => some x | none => match cF h S n i p0 b (nI 0) with | some x => some x | none => match cF h S n i p0 b (nI 1) with | some x => some x | none => cF h S n i p0 b (nI 2)) = (match cF h S n i p0 b (nI 2) with | some x => some x | none => match cF h S n i p0 b (nI 0) with | some x => some x | none => cF h S n i p0 b (nI 1))
    cases cF h S n i p0 b (nI 2) <;> cases cF h S n i p0 b (nI 0) <;> cases cF h S n i p0 b (nI 1) <;> rfl
def lpB (h : Nat → Int32) (S n i p0 t : Nat) : Option Int32 := oN (fun b => oN (fun turn => cF h S n i p0 b (nI (sT t turn))) 3) 40
theorem lp_eq {h : Nat → Int32} {S n i p0 t : Nat} (hp : h (5 * i + 4) = nI p0) (ht : h (5 * i + 3) = nI t) (h2 : t ≤ 2) : lpO h S n i = lpB h S n i p0 t := by
  unfold lpO lpB
  congr 1
  funext b
  exact cF_eq hp ht h2
