-- bounds, and what BondedWires keeps of it
def hOK (h : Nat → Int32) (n : Nat) : Prop := (∀ i, i < n → (∃ t, t ≤ 60 ∧ h (5 * i) = nI t) ∧ (∃ t, t ≤ 2 ∧ h (5 * i + 1) = nI t) ∧ (∃ t, t ≤ 60 ∧ h (5 * i + 2) = nI t) ∧ (∃ t, t ≤ 2 ∧ h (5 * i + 3) = nI t) ∧ (∃ t, 1 ≤ t ∧ t ≤ 40 ∧ h (5 * i + 4) = nI t)) ∧ (∃ t, 1 ≤ t ∧ t ≤ 9 ∧ h 40 = nI t) ∧ (∃ t, 1 ≤ t ∧ t ≤ 40 ∧ h 41 = nI t) ∧ (∃ t, 1 ≤ t ∧ t ≤ 9 ∧ h 42 = nI t) ∧ (∃ t, t ≤ 18 ∧ h 43 = nI t - nI 9) ∧ (∃ t, t < 2 ^ n ∧ h 44 = nI t)
def sml (x : Int32) : Prop := -100000 ≤ x.toInt ∧ x.toInt ≤ 100000
theorem sml_n {t : Nat} (h : t ≤ 100000) : sml (nI t) := by
  unfold sml
  rw [nI_toInt (by omega)]
  omega
theorem sml_s {a b : Nat} (ha : a ≤ 100000) (hb : b ≤ 100000) : sml (nI a - nI b) := by
  unfold sml
  rw [pk_sub_toInt (by omega) (by omega)]
  omega
theorem sub_ti {a b : Int32} (ha : sml a) (hb : sml b) : (a - b).toInt = a.toInt - b.toInt := by
  unfold sml at ha hb
  rw [Int32.toInt_sub]
  exact Int.bmod_eq_of_le (by omega) (by omega)
theorem neg_sb (a b : Int32) : 0 - (a - b) = b - a := by rw [Int32.zero_sub, Int32.neg_sub]
theorem abs_dst {a b : Int32} (ha : sml a) (hb : sml b) : absI (a - b) = dst a b := by
  have e := sub_ti ha hb
  have h0 : (0 : Int32).toInt = 0 := rfl
  unfold absI dst
  by_cases h : a < b
  · rw [if_pos h, if_neg, neg_sb]
    rw [Int32.le_iff_toInt_le, e, h0]
    rw [Int32.lt_iff_toInt_lt] at h
    omega
  · rw [if_neg h, if_pos]
    rw [Int32.le_iff_toInt_le, e, h0]
    rw [Int32.lt_iff_toInt_lt] at h
    omega
theorem rg1 (a t b : Nat) : nI a + (nI t - nI b) = nI (a + t) - nI b := by
  rw [← nI_add]
  simp only [Int32.sub_eq_add_neg]
  ac_rfl
theorem rg2 (a b c : Nat) : nI a - nI b + nI c = nI (a + c) - nI b := by
  rw [← nI_add]
  simp only [Int32.sub_eq_add_neg]
  ac_rfl
theorem rg3 (a b u : Nat) : (nI a - nI b) * nI u = nI (a * u) - nI (b * u) := by
  rw [← pk_mul, ← pk_mul, Int32.sub_mul]
theorem mul_le' {a b c d : Nat} (h1 : a ≤ c) (h2 : b ≤ d) : a * b ≤ c * d := Nat.mul_le_mul h1 h2
theorem sm_plc {h : Nat → Int32} {n S i y : Nat} (hO : hOK h n) (hi : i < n) (hS : S ≤ 40) (hy : y ≤ S) : sml (plc h S i y) := by
  obtain ⟨⟨a, ha, e1⟩, -, ⟨f, hf, e2⟩, -⟩ := hO.1 i hi
  obtain ⟨t, ht, e3⟩ := hO.2.2.2.2.1
  unfold plc
  rw [e1, e2, e3, rg1, rg3, pk_mul, rg2]
  have h1 := mul_le' (show a + t ≤ 78 by omega) (show S - y ≤ 40 by omega)
  have h2 := mul_le' hf (show y ≤ 40 by omega)
  have h3 := mul_le' (Nat.le_refl 9) (show S - y ≤ 40 by omega)
  exact sml_s (by omega) (by omega)
theorem hg_n {b t p S y : Nat} (hb : b ≤ 20) (hp : p ≤ 40) (hs : 8 ≤ S) (hS : S ≤ 40) (hy : y ≤ S) : ∃ v, v ≤ 100000 ∧ hg (nI b) (nI t) (nI p) S y = nI v := by
  unfold hg
  split
  · exact ⟨b, by omega, rfl⟩
  · split
    · exact ⟨0, by omega, rfl⟩
    · split
      · exact ⟨b + p, by omega, nI_add b p⟩
      · have hss := mul_le' hS hS
        have hs1 : 0 < S * S := Nat.mul_pos (by omega) (by omega)
        split
        · have h1 := mul_le' hb (show S - y ≤ 40 by omega)
          have h2 := mul_le' (mul_le' (mul_le' (Nat.le_refl 4) hp) (show y ≤ 40 by omega)) (show S - y ≤ 40 by omega)
          rw [pk_mul, pk_div (by omega) (by omega) (by omega), pk_mul, pk_mul, pk_mul, pk_div (by omega) hs1 (by omega), nI_add]
          refine ⟨_, ?_, rfl⟩
          have h3 := Nat.div_le_self (b * (S - y)) S
          have h4 : 4 * p * y * (S - y) / (S * S) ≤ 4 * p * y * (S - y) / 64 := Nat.div_le_div_left (mul_le' hs hs) (by omega)
          omega
        · split
          · have h1 := mul_le' hp (show y ≤ 40 by omega)
            rw [pk_mul, pk_div (by omega) (by omega) (by omega), nI_add]
            refine ⟨_, ?_, rfl⟩
            have h3 := Nat.div_le_self (p * y) (S / 4)
            omega
          · have h1 := mul_le' (show b + p ≤ 60 by omega) (show S - y ≤ 40 by omega)
            rw [nI_add, pk_mul, pk_div (by omega) (by omega) (by omega)]
            refine ⟨_, ?_, rfl⟩
            have h3 := Nat.div_le_self ((b + p) * (S - y)) (S - S / 4)
            omega
theorem sm_hgt {h : Nat → Int32} {n S i y : Nat} (hO : hOK h n) (hi : i < n) (hs : 8 ≤ S) (hS : S ≤ 40) (hy : y ≤ S) : sml (hgt h S i y) := by
  obtain ⟨-, ⟨a, ha, e1⟩, -, ⟨t, ht, e2⟩, ⟨p, -, hp, e3⟩⟩ := hO.1 i hi
  unfold hgt
  rw [e1, e2, e3, pk_mul]
  obtain ⟨v, hv, e⟩ := hg_n (t := t) (show 10 * a ≤ 20 by omega) hp hs hS hy
  rw [e]
  exact sml_n hv
/-- a cut quotient -/
def cutI (w p : Int32) : Int32 := if p ≤ 0 then nI 0 else w / p
theorem cut_n {w : Int32} {p : Nat} (h : 0 < p) (hp : p < 2147483648) : cutI w (nI p) = w / nI p := by
  unfold cutI
  rw [if_neg]
  exact nI_nle h hp
def plX (x f : Int32) (S y : Nat) : Int32 := x * nI (S - y) + f * nI y
/-- what the bench holds is the row, where wires are, and limits, shift, bonded -/
def agr (now h : Nat → Int32) (n : Nat) : Prop := ∀ j, (j < 5 * n ∨ (40 ≤ j ∧ j < 45)) → now j = h j
theorem agr_w {now h : Nat → Int32} {n i k : Nat} (hA : agr now h n) (hi : i < n) (hk : k < 5) : now (i * 5 + k) = h (5 * i + k) := by
  rw [Nat.mul_comm i 5]
  exact hA _ (Or.inl (by omega))
def vPl (plr : Nat → Nat → Int32) (h : Nat → Int32) (S n : Nat) : Prop := ∀ i, i < n → ∀ y, y ≤ S → plr i y = plc h S i y
def vHg (hgr : Nat → Nat → Int32) (h : Nat → Int32) (S n : Nat) : Prop := ∀ i, i < n → ∀ y, y ≤ S → hgr i y = hgt h S i y
def clsB (h : Nat → Int32) (S i k y : Nat) : Bool := decide (dst (plc h S i y) (plc h S k y) < h 40 * nI S)
/-- over an end, with heights told by a row -/
def ovG (h : Nat → Int32) (S i k e : Nat) (g : Nat → Int32) (y : Nat) : Bool := decide (0 ≤ g y - hgt h S i e) && (decide (nI 2 * dst (nI y) (nI e) < nI 2 * h 42 + (g y - hgt h S i e)) && decide (nI 2 * dst (plc h S k y) (plc h S i e) < nI S * (nI 2 * h 42 + (g y - hgt h S i e))))
def wyG (h : Nat → Int32) (S i k : Nat) (g : Nat → Int32) : Bool := anyB (ovG h S i k 0 g) (S + 1) || anyB (ovG h S i k S g) (S + 1)
theorem anyB_cg {p r : Nat → Bool} : ∀ {n : Nat}, (∀ k, k < n → p k = r k) → anyB p n = anyB r n
  | 0, _ => rfl
  | n + 1, h => by unfold anyB; rw [anyB_cg (fun k hk => h k (by omega)), h n (by omega)]
theorem wyG_cg {h : Nat → Int32} {S i k : Nat} {g g2 : Nat → Int32} (hg : ∀ y, y ≤ S → g y = g2 y) : wyG h S i k g = wyG h S i k g2 := by
  unfold wyG
  rw [anyB_cg (r := ovG h S i k 0 g2) (fun y hy => by unfold ovG; rw [hg y (by omega)]), anyB_cg (p := ovG h S i k S g) (r := ovG h S i k S g2) (fun y hy => by unfold ovG; rw [hg y (by omega)])]
theorem wyG_way {h : Nat → Int32} {S i k : Nat} {g : Nat → Int32} (hg : ∀ y, y ≤ S → g y = hgt h S k y) : wyG h S i k g = way h S i k := by rw [wyG_cg hg]; rfl
/-- those in the way of i, those that k is in the way of, as bits -/
def blA (h : Nat → Int32) (S i : Nat) : Nat → Int32
  | 0 => nI 0
  | k + 1 => if i = k then blA h S i k else if way h S i k = true then blA h S i k ||| nI 1 <<< (nI k &&& 31) else blA h S i k
def bdA (h : Nat → Int32) (S k : Nat) : Nat → Int32
  | 0 => nI 0
  | i + 1 => if i = k then bdA h S k i else if way h S i k = true then bdA h S k i ||| nI 1 <<< (nI i &&& 31) else bdA h S k i
theorem blA_s {h : Nat → Int32} {S i k : Nat} : blA h S i (k + 1) = if i = k then blA h S i k else if way h S i k = true then blA h S i k ||| nI 1 <<< (nI k &&& 31) else blA h S i k := rfl
theorem bdA_s {h : Nat → Int32} {S i k : Nat} : bdA h S k (i + 1) = if i = k then bdA h S k i else if way h S i k = true then bdA h S k i ||| nI 1 <<< (nI i &&& 31) else bdA h S k i := rfl
def vBk (bk bd : Nat → Int32) (h : Nat → Int32) (S n : Nat) : Prop := ∀ j, j < 8 → bk j = (if j < n then blA h S j n else nI 0) ∧ bd j = (if j < n then bdA h S j n else nI 0)
theorem cmp_crs {a b c d : Int32} (ha : sml a) (hb : sml b) (hc : sml c) (hd : sml d) : decide (cmpI a b * cmpI c d < 0) = ((decide (a - b < 0) && decide (0 < c - d)) || (decide (0 < a - b) && decide (c - d < 0))) := by
  have e1 := sub_ti ha hb
  have e2 := sub_ti hc hd
  have h0 : (0 : Int32).toInt = 0 := rfl
  have hlt : ∀ x y : Int32, x < y ∨ x = y ∨ y < x := fun x y => by
    simp only [Int32.lt_iff_toInt_lt, ← Int32.toInt_inj]
    omega
  have v1 : a < b → cmpI a b = -1 := fun h => if_pos h
  have v2 : a = b → cmpI a b = nI 0 := fun h => by unfold cmpI; rw [if_neg (by rw [h]; exact Int32.lt_irrefl), if_pos h]
  have v3 : b < a → cmpI a b = nI 1 := fun h => by
    unfold cmpI
    rw [if_neg (i_nlt (by rw [Int32.le_iff_toInt_le]; rw [Int32.lt_iff_toInt_lt] at h; omega)), if_neg (fun e => by rw [e] at h; exact Int32.lt_irrefl h)]
  have w1 : c < d → cmpI c d = -1 := fun h => if_pos h
  have w2 : c = d → cmpI c d = nI 0 := fun h => by unfold cmpI; rw [if_neg (by rw [h]; exact Int32.lt_irrefl), if_pos h]
  have w3 : d < c → cmpI c d = nI 1 := fun h => by
    unfold cmpI
    rw [if_neg (i_nlt (by rw [Int32.le_iff_toInt_le]; rw [Int32.lt_iff_toInt_lt] at h; omega)), if_neg (fun e => by rw [e] at h; exact Int32.lt_irrefl h)]
  rw [Bool.eq_iff_iff]
  simp only [Bool.or_eq_true, Bool.and_eq_true, decide_eq_true_eq, Int32.lt_iff_toInt_lt, e1, e2, h0]
  have k1 : ((-1 : Int32) * -1).toInt = 1 := by decide
  have k2 : ((-1 : Int32) * nI 0).toInt = 0 := by decide
  have k3 : ((-1 : Int32) * nI 1).toInt = -1 := by decide
  have k4 : (nI 0 * (-1 : Int32)).toInt = 0 := by decide
  have k5 : (nI 0 * nI 0).toInt = 0 := by decide
  have k6 : (nI 0 * nI 1).toInt = 0 := by decide
  have k7 : (nI 1 * (-1 : Int32)).toInt = -1 := by decide
  have k8 : (nI 1 * nI 0).toInt = 0 := by decide
  have k9 : (nI 1 * nI 1).toInt = 1 := by decide
  rcases hlt a b with h | h | h <;> rcases hlt c d with g | g | g
  · rw [v1 h, w1 g, k1]; simp only [Int32.lt_iff_toInt_lt] at h g; omega
  · rw [v1 h, w2 g, k2]; subst g; simp only [Int32.lt_iff_toInt_lt] at h; omega
  · rw [v1 h, w3 g, k3]; simp only [Int32.lt_iff_toInt_lt] at h g; omega
  · rw [v2 h, w1 g, k4]; subst h; simp only [Int32.lt_iff_toInt_lt] at g; omega
  · rw [v2 h, w2 g, k5]; subst h; subst g; omega
  · rw [v2 h, w3 g, k6]; subst h; simp only [Int32.lt_iff_toInt_lt] at g; omega
  · rw [v3 h, w1 g, k7]; simp only [Int32.lt_iff_toInt_lt] at h g; omega
  · rw [v3 h, w2 g, k8]; subst g; simp only [Int32.lt_iff_toInt_lt] at h; omega
  · rw [v3 h, w3 g, k9]; simp only [Int32.lt_iff_toInt_lt] at h g; omega
