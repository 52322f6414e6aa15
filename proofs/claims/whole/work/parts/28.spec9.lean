-- orders: to sets of one more, or from sets of one less: the same
theorem accI_cg {x : Int32} {f g : Nat → Int32} : ∀ {n : Nat}, (∀ k, k < n → f k = g k) → accI x f n = accI x g n
  | 0, _ => rfl
  | n + 1, h => by
    show accI x f n + f n = accI x g n + g n
    rw [accI_cg (fun k hk => h k (by omega)), h n (by omega)]
theorem accI_2 {x : Int32} {f g : Nat → Int32} : ∀ n, accI (accI x f n) g n = accI x (fun k => f k + g k) n := by
  have gen : ∀ (y : Int32) (m n : Nat), accI (y + f m) g n = accI y g n + f m := by
    intro y m n
    induction n with
    | zero => rfl
    | succ n ih =>
      show accI (y + f m) g n + g n = accI y g n + g n + f m
      rw [ih]
      ac_rfl
  intro n
  induction n with
  | zero => rfl
  | succ n ih =>
    show accI (accI x f n + f n) g n + g n = accI x (fun k => f k + g k) n + (f n + g n)
    rw [gen, ih]
    ac_rfl
theorem accI_z {x : Int32} {f : Nat → Int32} : ∀ {n : Nat}, (∀ k, k < n → f k = 0) → accI x f n = x
  | 0, _ => rfl
  | n + 1, h => by
    show accI x f n + f n = x
    rw [accI_z (fun k hk => h k (by omega)), h n (by omega), Int32.add_zero]
theorem and_nI (a b : Nat) : nI a &&& nI b = nI (a &&& b) := by
  apply Int32.toBitVec_inj.mp
  show (nI a).toBitVec &&& (nI b).toBitVec = (nI (a &&& b)).toBitVec
  apply BitVec.eq_of_toNat_eq
  show _ = (BitVec.ofNat 32 (a &&& b)).toNat
  rw [BitVec.toNat_and, BitVec.toNat_ofNat]
  show (BitVec.ofNat 32 a).toNat &&& (BitVec.ofNat 32 b).toNat = _
  rw [BitVec.toNat_ofNat, BitVec.toNat_ofNat, Nat.and_mod_two_pow]
set_option maxRecDepth 100000 in
theorem not_tb : ∀ t, t < 256 → nI t ^^^ (-1) = nI (2 ^ 32 - (t + 1)) := by decide +kernel
theorem sb1 {B C : Nat} (hB : B < 256) : nI B &&& nI C = 0 ↔ ∀ j, B.testBit j = true → C.testBit j = false := by
  have hl : B &&& C ≤ B := Nat.and_le_left
  rw [and_nI, show (0 : Int32) = nI 0 from rfl, nI_eq (by omega) (by omega)]
  constructor
  · intro h j hj
    have : (B &&& C).testBit j = false := by rw [h]; exact Nat.zero_testBit j
    rw [Nat.testBit_and, hj] at this
    simpa using this
  · intro h
    apply Nat.eq_of_testBit_eq
    intro j
    rw [Nat.testBit_and, Nat.zero_testBit]
    cases hb : B.testBit j with
    | false => rfl
    | true => rw [h j hb]; rfl
set_option maxRecDepth 100000 in
theorem mi_tb : ∀ t, t < 256 → ∀ k, k < 8 → t.testBit k = true → (t - 2 ^ k) ||| 2 ^ k = t ∧ (t - 2 ^ k).testBit k = false ∧ t - 2 ^ k < t := by decide +kernel
set_option maxRecDepth 100000 in
theorem pl_tb : ∀ s, s < 256 → ∀ k, k < 8 → s.testBit k = false → (s ||| 2 ^ k) - 2 ^ k = s ∧ (s ||| 2 ^ k).testBit k = true ∧ s < s ||| 2 ^ k := by decide +kernel
def pT (b : Nat → Int32) (n s k : Nat) : Bool := !s.testBit k && decide (b k &&& (nI (2 ^ n - 1) - nI s) = 0)
/-- those that k is in the way of lie in a set, with k or without -/
theorem pT_iff {b : Nat → Int32} {n t k B : Nat} (hn : n ≤ 8) (hk : k < n) (ht : t < 2 ^ n) (hb : b k = nI B) (hB : B < 2 ^ n) (hBk : B.testBit k = false) (htk : t.testBit k = true) : pT b n (t - 2 ^ k) k = true ↔ b k &&& (nI t ^^^ (-1)) = 0 := by
  have hp := pw8 hn
  obtain ⟨h1, h2, h3⟩ := mi_tb t (by omega) k (by omega) htk
  unfold pT
  rw [h2, hb, pk_sub (by omega), not_tb t (by omega)]
  simp only [Bool.not_false, Bool.true_and, decide_eq_true_eq]
  rw [sb1 (by omega), sb1 (by omega)]
  have e1 : ∀ j, (2 ^ n - 1 - (t - 2 ^ k)).testBit j = (decide (j < n) && !(t - 2 ^ k).testBit j) := fun j => by
    rw [show 2 ^ n - 1 - (t - 2 ^ k) = 2 ^ n - ((t - 2 ^ k) + 1) by omega]
    exact Nat.testBit_two_pow_sub_succ (by omega) j
  have e2 : ∀ j, (2 ^ 32 - (t + 1)).testBit j = (decide (j < 32) && !t.testBit j) := fun j => Nat.testBit_two_pow_sub_succ (by omega) j
  have e3 : ∀ j, j ≠ k → t.testBit j = (t - 2 ^ k).testBit j := fun j hj => by
    have : ((t - 2 ^ k) ||| 2 ^ k).testBit j = (t - 2 ^ k).testBit j := by
      rw [Nat.testBit_or, Nat.testBit_two_pow_of_ne (fun e => hj e.symm), Bool.or_false]
    rwa [h1] at this
  have e4 : ∀ j, B.testBit j = true → j < n := fun j hj => by
    refine Nat.lt_of_not_le fun hle => ?_
    rw [Nat.testBit_lt_two_pow (Nat.lt_of_lt_of_le hB (Nat.pow_le_pow_right (by omega) hle))] at hj
    cases hj
  constructor
  · intro h j hj
    have hjn := e4 j hj
    have := h j hj
    rw [e1, decide_eq_true hjn] at this
    rw [e2, decide_eq_true (show j < 32 by omega), e3 j (fun e => by rw [e, hBk] at hj; cases hj)]
    exact this
  · intro h j hj
    have hjn := e4 j hj
    have := h j hj
    rw [e2, decide_eq_true (show j < 32 by omega), e3 j (fun e => by rw [e, hBk] at hj; cases hj)] at this
    rw [e1, decide_eq_true hjn]
    exact this
theorem psK_at {b : Nat → Int32} {n s : Nat} {w : Nat → Int32} (hn : n ≤ 8) (hs : s < 2 ^ n) : ∀ k, k ≤ n → psK b n s w k s = w s
  | 0, _ => rfl
  | k + 1, hk => by
    have hp := pw8 hn
    rw [psK_s]
    split
    · next e =>
      have e1 := ((bt_tb s (by omega) k (by omega)).2.1).mp e
      have e2 := (pl_tb s (by omega) k (by omega) e1).2.2
      split
      · rw [upd_un (by omega)]
        exact psK_at hn hs k (by omega)
      · exact psK_at hn hs k (by omega)
    · exact psK_at hn hs k (by omega)
theorem psK_v {b : Nat → Int32} {n s : Nat} {w : Nat → Int32} {T : Nat} (hn : n ≤ 8) (hs : s < 2 ^ n) : ∀ k, k ≤ n → psK b n s w k T = accI (w T) (fun k => if pT b n s k = true ∧ T = s ||| 2 ^ k then w s else 0) k
  | 0, _ => rfl
  | k + 1, hk => by
    have hp := pw8 hn
    have ih := psK_v (b := b) (w := w) (T := T) hn hs k (by omega)
    have hx := (bt_tb s (by omega) k (by omega)).2.1
    rw [psK_s]
    show _ = accI (w T) (fun k => if pT b n s k = true ∧ T = s ||| 2 ^ k then w s else 0) k + (if pT b n s k = true ∧ T = s ||| 2 ^ k then w s else 0)
    split
    · next e =>
      have e1 := hx.mp e
      split
      · next f =>
        have hpt : pT b n s k = true := by unfold pT; rw [e1, decide_eq_true f]; rfl
        by_cases hT : T = s ||| 2 ^ k
        · rw [if_pos ⟨hpt, hT⟩, ← hT, upd_us, ih, psK_at hn hs k (by omega)]
        · rw [if_neg (fun h => hT h.2), upd_un hT, ih, Int32.add_zero]
      · next f =>
        rw [if_neg (fun h => by have h1 := h.1; unfold pT at h1; rw [decide_eq_false f, Bool.and_false] at h1; cases h1), ih, Int32.add_zero]
    · next e =>
      rw [if_neg (fun h => by
        have h1 := h.1
        unfold pT at h1
        cases hb : s.testBit k with
        | false => exact e (hx.mpr hb)
        | true => rw [hb] at h1; cases h1), ih, Int32.add_zero]
theorem psS_v {b : Nat → Int32} {n : Nat} {w : Nat → Int32} {T : Nat} (hn : n ≤ 8) (hT : T < 2 ^ n) : ∀ s, s ≤ 2 ^ n → psS b n w s T = accI (w T) (fun k => if T.testBit k = true ∧ pT b n (T - 2 ^ k) k = true ∧ T - 2 ^ k < s then psS b n w (T - 2 ^ k) (T - 2 ^ k) else 0) n
  | 0, _ => by
    rw [accI_z (fun k hk => if_neg (fun h => Nat.not_lt_zero _ h.2.2))]
    rfl
  | s + 1, hs => by
    have hp := pw8 hn
    show psK b n s (psS b n w s) n T = _
    rw [psK_v hn (by omega) n (Nat.le_refl n), psS_v hn hT s (by omega), accI_2]
    refine accI_cg (fun k hk => ?_)
    by_cases hk1 : T.testBit k = true
    · obtain ⟨h1, h2, h3⟩ := mi_tb T (by omega) k (by omega) hk1
      by_cases he : T - 2 ^ k = s
      · rw [if_neg (fun h => by have := h.2.2; omega), Int32.zero_add]
        by_cases hq : pT b n s k = true
        · rw [if_pos ⟨hq, by rw [← he, h1]⟩, if_pos ⟨hk1, by rw [he]; exact hq, by omega⟩, he]
        · rw [if_neg (fun h => hq h.1), if_neg (fun h => hq (by rw [← he]; exact h.2.1))]
      · have hn2 : ¬ (pT b n s k = true ∧ T = s ||| 2 ^ k) := fun h => by
          have h4 : s.testBit k = false := by
            have := h.1
            unfold pT at this
            cases hb : s.testBit k with
            | false => rfl
            | true => rw [hb] at this; cases this
          exact he (by rw [h.2]; exact (pl_tb s (by omega) k (by omega) h4).1)
        rw [if_neg hn2, Int32.add_zero]
        by_cases hl : T - 2 ^ k < s
        · by_cases hq : pT b n (T - 2 ^ k) k = true
          · rw [if_pos ⟨hk1, hq, hl⟩, if_pos ⟨hk1, hq, by omega⟩]
          · rw [if_neg (fun h => hq h.2.1), if_neg (fun h => hq h.2.1)]
        · rw [if_neg (fun h => hl h.2.2), if_neg (fun h => by have := h.2.2; omega)]
    · have hn2 : ¬ (pT b n s k = true ∧ T = s ||| 2 ^ k) := fun h => by
        have h4 : s.testBit k = false := by
          have := h.1
          unfold pT at this
          cases hb : s.testBit k with
          | false => rfl
          | true => rw [hb] at this; cases this
        exact hk1 (by rw [h.2]; exact (pl_tb s (by omega) k (by omega) h4).2.1)
      rw [if_neg (fun h => hk1 h.1), if_neg hn2, if_neg (fun h => hk1 h.1), Int32.zero_add]
theorem wsK_v {b : Nat → Int32} {f0 : Nat} {w : Nat → Int32} : ∀ k, wsK b f0 w k = accI (nI 0) (fun k => if f0.testBit k = true ∧ b k &&& (nI f0 ^^^ (-1)) = 0 then w (f0 - 2 ^ k) else 0) k
  | 0 => rfl
  | k + 1 => by
    rw [wsK_s, wsK_v k]
    show _ = accI (nI 0) (fun k => if f0.testBit k = true ∧ b k &&& (nI f0 ^^^ (-1)) = 0 then w (f0 - 2 ^ k) else 0) k + (if f0.testBit k = true ∧ b k &&& (nI f0 ^^^ (-1)) = 0 then w (f0 - 2 ^ k) else 0)
    split
    · next e =>
      split
      · next f => rw [if_pos ⟨e, f⟩]
      · next f => rw [if_neg (fun h => f h.2), Int32.add_zero]
    · next e => rw [if_neg (fun h => e h.1), Int32.add_zero]
theorem plV_at {b : Nat → Int32} {n : Nat} {w : Nat → Int32} {j : Nat} : ∀ d, plV b n w (j + d) j = plV b n w j j
  | 0 => rfl
  | d + 1 => by
    show upd (plV b n w (j + d)) (j + d + 1) _ j = _
    rw [upd_un (by omega)]
    exact plV_at d
theorem ps_pl {b : Nat → Int32} {n : Nat} {w w2 : Nat → Int32} (hn : n ≤ 8) (hb : ∀ k, k < n → ∃ B, B < 2 ^ n ∧ B.testBit k = false ∧ b k = nI B) (hw : ∀ t, t < 2 ^ n → w t = if t = 0 then nI 1 else nI 0) : ∀ (m T : Nat), T < m → T < 2 ^ n → psS b n w T T = plV b n w2 T T := by
  have hp := pw8 hn
  intro m
  induction m with
  | zero => intro T h; exact absurd h (Nat.not_lt_zero T)
  | succ m ih =>
    intro T hTm hT
    rw [psS_v hn hT T (by omega), hw T hT]
    cases T with
    | zero =>
      rw [accI_z (fun k hk => if_neg (fun h => Nat.not_lt_zero _ h.2.2))]
      show nI 1 = upd w2 0 (nI 1) 0
      rw [upd_us]
    | succ t =>
      rw [if_neg (by omega)]
      show _ = upd (plV b n w2 t) (t + 1) (wsK b (t + 1) (plV b n w2 t) n) (t + 1)
      rw [upd_us, wsK_v]
      refine accI_cg (fun k hk => ?_)
      by_cases hk1 : (t + 1).testBit k = true
      · obtain ⟨B, hB, hBk, hbk⟩ := hb k hk
        obtain ⟨h1, h2, h3⟩ := mi_tb (t + 1) (by omega) k (by omega) hk1
        have hiff := pT_iff hn hk hT hbk hB hBk hk1
        by_cases hq : b k &&& (nI (t + 1) ^^^ (-1)) = 0
        · rw [if_pos ⟨hk1, hiff.mpr hq, h3⟩, if_pos ⟨hk1, hq⟩, ih _ (by omega) (by omega)]
          have := plV_at (b := b) (n := n) (w := w2) (j := t + 1 - 2 ^ k) (t - (t + 1 - 2 ^ k))
          rw [show t + 1 - 2 ^ k + (t - (t + 1 - 2 ^ k)) = t by omega] at this
          exact this.symm
        · rw [if_neg (fun h => hq (hiff.mp h.2.1)), if_neg (fun h => hq h.2)]
      · rw [if_neg (fun h => hk1 h.1), if_neg (fun h => hk1 h.1)]
theorem ord_eq {h : Nat → Int32} {S n : Nat} {w w2 : Nat → Int32} (hn : n ≤ 8) : opOrders S n h w = plV (brs h S n) n w2 (2 ^ n - 1) (2 ^ n - 1) := by
  have hp := pw8 hn
  unfold opOrders
  refine ps_pl hn (fun k hk => ⟨mkS (pr9 h S k) n, mkS_lt _ n, ?_, ?_⟩) (fun t ht => ?_) (2 ^ n) _ (by omega) (by omega)
  · rw [mkS_tb _ n k hk]
    unfold pr9
    simp
  · unfold brs
    rw [br_bd, bd_mk n hn]
  · exact cpG_lt ht
