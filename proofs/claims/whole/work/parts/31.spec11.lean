-- what holds of every state, and of BondedWires beside it
def rel (n x : Nat) : Prop := x < 5 * n ∨ (40 ≤ x ∧ x < 45)
def okS (len span wires chg : Nat) (text : Nat → Nat) (h was eyes : Nat → Int32) : Prop := len ≤ 200 ∧ (∀ j, text j ≤ 1000) ∧ 8 ≤ span ∧ span ≤ 40 ∧ wires ≤ 8 ∧ chg ≤ 6 ∧ hOK h wires ∧ (∀ j, j < chg → hOK (fun x => was (45 * j + x)) wires) ∧ eyK eyes
def rgR (pnx chg : Nat) (prw : Nat → Nat → Int32) (was : Nat → Int32) (n : Nat) : Prop := ∀ j, j < chg → ∀ x, rel n x → prw ((pnx + 6 - chg + j) % 6) x = was (45 * j + x)
def bwQ (len span wires chg : Nat) (text : Nat → Nat) (h was eyes : Nat → Int32) (pnx vkn : Nat) (lett : Nat → Nat) (now : Nat → Int32) (prw plr hgr : Nat → Nat → Int32) (bk bd tld tie fst las saw : Nat → Int32) : Prop := (∀ j, lett j ≤ 1000) ∧ (∀ j, j < len → lett j = text j) ∧ agr now h wires ∧ vPl plr h span wires ∧ vHg hgr h span wires ∧ (vkn = 0 ∨ (vkn = 1 ∧ vBk bk bd h span wires)) ∧ pnx < 6 ∧ rgR pnx chg prw was wires ∧ eyR tld tie fst las saw eyes
def bwR (cy : Nat → ClassId) (q : Nat → Nat) (len span wires chg : Nat) (text : Nat → Nat) (h was eyes : Nat → Int32) (g : wS) : Prop := ∃ (dsp dwi dat pnx vkn : Nat) (dff lbl lsh lpk : Int32) (lett : Nat → Nat) (num lim now : Nat → Int32) (prw plr hgr : Nat → Nat → Int32) (bk bd wio wys trl : Nat → Int32) (clr : Nat → Int64) (tld tie fst las saw : Nat → Int32), g = (bwC cy q len dsp dwi dat span wires pnx chg vkn dff lbl lsh lpk lett num lim now prw plr hgr bk bd wio wys trl clr tld tie fst las saw) ∧ okS len span wires chg text h was eyes ∧ bwQ len span wires chg text h was eyes pnx vkn lett now prw plr hgr bk bd tld tie fst las saw
/-- the end of a call on BondedWires: the answer, the state -/
def PB (cy : Nat → ClassId) (q : Nat → Nat) (r : Int32 × St) : Option Value → wS → Prop := PX (fun x g => x = r.1 ∧ bwR cy q r.2.1 r.2.2.1 r.2.2.2.1 r.2.2.2.2.1 r.2.2.2.2.2.1 r.2.2.2.2.2.2.1 r.2.2.2.2.2.2.2.1 r.2.2.2.2.2.2.2.2 g)
theorem PB.mk {cy : Nat → ClassId} {q : Nat → Nat} {r : Int32 × St} {x : Int32} {len span wires chg : Nat} {text : Nat → Nat} {h was eyes : Nat → Int32} {dsp dwi dat pnx vkn : Nat} {dff lbl lsh lpk : Int32} {lett : Nat → Nat} {num lim now : Nat → Int32} {prw plr hgr : Nat → Nat → Int32} {bk bd wio wys trl : Nat → Int32} {clr : Nat → Int64} {tld tie fst las saw : Nat → Int32} (hr : r = (x, (len, span, wires, chg, text, h, was, eyes))) (S9 : okS len span wires chg text h was eyes) (Q9 : bwQ len span wires chg text h was eyes pnx vkn lett now prw plr hgr bk bd tld tie fst las saw) : PB cy q r (some (.int x)) (bwC cy q len dsp dwi dat span wires pnx chg vkn dff lbl lsh lpk lett num lim now prw plr hgr bk bd wio wys trl clr tld tie fst las saw) := by
  subst hr
  exact ⟨x, rfl, rfl, _, _, _, _, _, _, _, _, _, _, _, _, _, _, _, _, _, _, _, _, _, _, _, _, _, _, _, rfl, S9, Q9⟩
theorem hOK_cg {a b : Nat → Int32} {n : Nat} (hn : n ≤ 8) (h : ∀ x, rel n x → a x = b x) (hO : hOK a n) : hOK b n := by
  obtain ⟨hw, h40, h41, h42, h43, h44⟩ := hO
  refine ⟨fun i hi => ?_, ?_, ?_, ?_, ?_, ?_⟩
  · rw [← h (5 * i) (Or.inl (by omega)), ← h (5 * i + 1) (Or.inl (by omega)), ← h (5 * i + 2) (Or.inl (by omega)), ← h (5 * i + 3) (Or.inl (by omega)), ← h (5 * i + 4) (Or.inl (by omega))]
    exact hw i hi
  · rw [← h 40 (Or.inr (by omega))]; exact h40
  · rw [← h 41 (Or.inr (by omega))]; exact h41
  · rw [← h 42 (Or.inr (by omega))]; exact h42
  · rw [← h 43 (Or.inr (by omega))]; exact h43
  · rw [← h 44 (Or.inr (by omega))]; exact h44
theorem rel_lt {n x : Nat} (hn : n ≤ 8) (h : rel n x) : x < 45 := by unfold rel at h; omega
/-- keeping for undoing -/
theorem nt_old {chg : Nat} {was h : Nat → Int32} {j x : Nat} (hc : chg ≤ 6) (hx : x < 45) (hj : j + 1 < ntC chg) : ntW chg was h (45 * j + x) = was (45 * (if chg = 6 then j + 1 else j) + x) := by
  unfold ntW ntC at *
  by_cases h6 : chg = 6
  · rw [if_pos h6, if_pos h6]
    rw [if_pos h6] at hj
    unfold cpO
    rw [if_pos (by omega), cpG_lt (by omega)]
    show was (45 * j + x + 45) = _
    exact congrArg was (by omega)
  · rw [if_neg h6, if_neg h6]
    rw [if_neg h6] at hj
    unfold cpO
    rw [if_pos (by omega)]
theorem nt_new {chg : Nat} {was h : Nat → Int32} {x : Nat} (hc : chg ≤ 6) (hx : x < 45) : ntW chg was h (45 * (ntC chg - 1) + x) = h x := by
  unfold ntW ntC
  by_cases h6 : chg = 6
  · rw [if_pos h6, if_pos h6]
    unfold cpO
    rw [if_neg (by omega), if_pos (by omega)]
    exact congrArg h (by omega)
  · rw [if_neg h6, if_neg h6]
    unfold cpO
    rw [if_neg (by omega), if_pos (by omega)]
    exact congrArg h (by omega)
theorem nt_ok {chg n : Nat} {was h : Nat → Int32} (hn : n ≤ 8) (hc : chg ≤ 6) (hO : hOK h n) (hW : ∀ j, j < chg → hOK (fun x => was (45 * j + x)) n) : ∀ j, j < ntC chg → hOK (fun x => ntW chg was h (45 * j + x)) n := by
  intro j hj
  by_cases h1 : j + 1 < ntC chg
  · refine hOK_cg hn (fun x hx => ?_) (hW (if chg = 6 then j + 1 else j) ?_)
    · exact (nt_old hc (rel_lt hn hx) h1).symm
    · unfold ntC at h1
      split at h1 <;> split <;> omega
  · refine hOK_cg hn (fun x hx => ?_) hO
    have e : j = ntC chg - 1 := by omega
    rw [e]
    exact (nt_new hc (rel_lt hn hx)).symm
theorem ntC_le {chg : Nat} (hc : chg ≤ 6) : ntC chg ≤ 6 := by unfold ntC; split <;> omega
theorem hdU_nt {chg : Nat} (hc : chg ≤ 6) : hdU chg = ntC chg := by unfold hdU ntC; split <;> split <;> omega
theorem nxU_lt {p : Nat} : nxU p < 6 := by unfold nxU; split <;> omega
theorem nxD_lt {p : Nat} (h : p < 6) : nxD p < 6 := by unfold nxD; split <;> omega
theorem rg_keep {pnx chg n : Nat} {prw : Nat → Nat → Int32} {was h now : Nat → Int32} (hn : n ≤ 8) (hc : chg ≤ 6) (hp : pnx < 6) (hA : agr now h n) (hR : rgR pnx chg prw was n) : rgR (nxU pnx) (ntC chg) (va_up prw pnx (va_cpy now (prw pnx) 0 0 45)) (ntW chg was h) n := by
  intro j hj x hx
  have hx45 := rel_lt hn hx
  by_cases h1 : j + 1 < ntC chg
  · rw [nt_old hc hx45 h1]
    have hidx : (nxU pnx + 6 - ntC chg + j) % 6 = (pnx + 6 - chg + (if chg = 6 then j + 1 else j)) % 6 ∧ (pnx + 6 - chg + (if chg = 6 then j + 1 else j)) % 6 ≠ pnx ∧ (if chg = 6 then j + 1 else j) < chg := by
      unfold nxU ntC at *
      split at h1 <;> split <;> omega
    rw [hidx.1, va_up_ne _ _ hidx.2.1]
    exact hR _ hidx.2.2 x hx
  · have e : j = ntC chg - 1 := by omega
    have hidx : (nxU pnx + 6 - ntC chg + j) % 6 = pnx := by
      have := ntC_le hc
      have h0 : 0 < ntC chg := by omega
      unfold nxU
      split <;> omega
    rw [hidx, va_up_self, cpy_all hx45, e, nt_new hc hx45]
    exact hA x hx
theorem rg_undo {pnx chg n : Nat} {prw : Nat → Nat → Int32} {was : Nat → Int32} (h0 : ¬ chg = 0) (hc : chg ≤ 6) (hp : pnx < 6) (hR : rgR pnx chg prw was n) : rgR (nxD pnx) (chg - 1) prw was n := by
  intro j hj x hx
  have e : (nxD pnx + 6 - (chg - 1) + j) % 6 = (pnx + 6 - chg + j) % 6 := by
    unfold nxD
    split <;> omega
  rw [e]
  exact hR j (by omega) x hx
theorem ag_undo {pnx chg n : Nat} {prw : Nat → Nat → Int32} {was h now : Nat → Int32} (hn : n ≤ 8) (h0 : ¬ chg = 0) (hc : chg ≤ 6) (hp : pnx < 6) (hR : rgR pnx chg prw was n) : agr (va_cpy (prw (nxD pnx)) now 0 0 45) (unH chg was h) n := by
  intro x hx
  have hx45 := rel_lt hn hx
  have e : (pnx + 6 - chg + (chg - 1)) % 6 = nxD pnx := by
    unfold nxD
    split <;> omega
  have := hR (chg - 1) (by omega) x hx
  rw [e] at this
  rw [cpy_all hx45, this]
  unfold unH
  rw [cpG_lt hx45]
theorem un_ok {chg n : Nat} {was h : Nat → Int32} (hn : n ≤ 8) (h0 : ¬ chg = 0) (hW : ∀ j, j < chg → hOK (fun x => was (45 * j + x)) n) : hOK (unH chg was h) n := by
  refine hOK_cg hn (fun x hx => ?_) (hW (chg - 1) (by omega))
  unfold unH
  rw [cpG_lt (rel_lt hn hx)]
/-- one place of the row told anew -/
theorem agr_upd {now h : Nat → Int32} {n pl : Nat} {v : Int32} (hA : agr now h n) : agr (upd now pl v) (upd h pl v) n := by
  intro x hx
  unfold upd
  split
  · rfl
  · exact hA x hx
theorem lowI_n : ∀ w, w < 5 → lowI (nI w) = nI (if w = 4 then 1 else 0) := by decide
theorem highI_n : ∀ w, w < 5 → highI (nI w) = nI (if w = 0 then 60 else if w = 2 then 60 else if w = 4 then 40 else 2) := by decide
theorem mostI_n : ∀ w, w < 3 → mostI (nI w) = nI (if w = 1 then 40 else 9) := by decide
theorem in_n {v : Int32} {a b : Nat} (ha : a < 2147483648) (hb : b < 2147483648) (h : inB v (nI a) (nI b) = true) : ∃ t, a ≤ t ∧ t ≤ b ∧ v = nI t := by
  obtain ⟨h1, h2⟩ := inB_iff.mp h
  obtain ⟨t, ht, rfl⟩ := nI_of (x := v) (i_nlt (by rw [Int32.le_iff_toInt_le] at h1 ⊢; rw [nI_toInt ha] at h1; exact Int.le_trans (by rw [show (0 : Int32).toInt = 0 from rfl]; omega) h1))
  exact ⟨t, (nI_leI ha ht).mp h1, (nI_leI ht hb).mp h2, rfl⟩
theorem wr_in {w : Nat} {v : Int32} (hw : w < 5) (h : inB v (lowI (nI w)) (highI (nI w)) = true) : ∃ t, (if w = 4 then 1 else 0) ≤ t ∧ t ≤ (if w = 0 then 60 else if w = 2 then 60 else if w = 4 then 40 else 2) ∧ v = nI t := by
  rw [lowI_n w hw, highI_n w hw] at h
  exact in_n (by split <;> omega) (by split <;> (try split) <;> (try split) <;> omega) h
theorem set_ok {h : Nat → Int32} {n i w : Nat} {v : Int32} (hO : hOK h n) (hn : n ≤ 8) (hi : i < n) (hw : w < 5) (hv : inB v (lowI (nI w)) (highI (nI w)) = true) : hOK (upd h (5 * i + w) v) n := by
  obtain ⟨t, t1, t2, rfl⟩ := wr_in hw hv
  obtain ⟨hw0, h40, h41, h42, h43, h44⟩ := hO
  have un : ∀ x, x ≠ 5 * i + w → upd h (5 * i + w) (nI t) x = h x := fun x hx => upd_un hx
  refine ⟨fun k hk => ?_, ?_, ?_, ?_, ?_, ?_⟩
  · obtain ⟨a0, a1, a2, a3, a4⟩ := hw0 k hk
    refine ⟨?_, ?_, ?_, ?_, ?_⟩
    · by_cases e : 5 * k = 5 * i + w
      · rw [e, upd_us]; exact ⟨t, by rw [if_pos (by omega)] at t2; exact t2, rfl⟩
      · rw [un _ e]; exact a0
    · by_cases e : 5 * k + 1 = 5 * i + w
      · rw [e, upd_us]; exact ⟨t, by rw [if_neg (by omega), if_neg (by omega), if_neg (by omega)] at t2; exact t2, rfl⟩
      · rw [un _ e]; exact a1
    · by_cases e : 5 * k + 2 = 5 * i + w
      · rw [e, upd_us]; exact ⟨t, by rw [if_neg (by omega), if_pos (by omega)] at t2; exact t2, rfl⟩
      · rw [un _ e]; exact a2
    · by_cases e : 5 * k + 3 = 5 * i + w
      · rw [e, upd_us]; exact ⟨t, by rw [if_neg (by omega), if_neg (by omega), if_neg (by omega)] at t2; exact t2, rfl⟩
      · rw [un _ e]; exact a3
    · by_cases e : 5 * k + 4 = 5 * i + w
      · rw [e, upd_us]; exact ⟨t, by rw [if_pos (by omega)] at t1; exact t1, by rw [if_neg (by omega), if_neg (by omega), if_pos (by omega)] at t2; exact t2, rfl⟩
      · rw [un _ e]; exact a4
  · rw [un _ (by omega)]; exact h40
  · rw [un _ (by omega)]; exact h41
  · rw [un _ (by omega)]; exact h42
  · rw [un _ (by omega)]; exact h43
  · rw [un _ (by omega)]; exact h44
theorem lim_ok {h : Nat → Int32} {n w : Nat} {v : Int32} (hO : hOK h n) (hn : n ≤ 8) (hw : w < 3) (hv : inB v (nI 1) (mostI (nI w)) = true) : hOK (upd h (40 + w) v) n := by
  rw [mostI_n w hw] at hv
  obtain ⟨t, t1, t2, rfl⟩ := in_n (by omega) (by split <;> omega) hv
  obtain ⟨hw0, h40, h41, h42, h43, h44⟩ := hO
  have un : ∀ x, x ≠ 40 + w → upd h (40 + w) (nI t) x = h x := fun x hx => upd_un hx
  refine ⟨fun k hk => ?_, ?_, ?_, ?_, ?_, ?_⟩
  · rw [un _ (by omega), un _ (by omega), un _ (by omega), un _ (by omega), un _ (by omega)]
    exact hw0 k hk
  · by_cases e : 40 = 40 + w
    · obtain rfl : w = 0 := by omega
      rw [show 40 + 0 = 40 from rfl, upd_us]; exact ⟨t, t1, by rw [if_neg (by omega)] at t2; exact t2, rfl⟩
    · rw [un _ e]; exact h40
  · by_cases e : 41 = 40 + w
    · rw [e, upd_us]; exact ⟨t, t1, by rw [if_pos (by omega)] at t2; exact t2, rfl⟩
    · rw [un _ e]; exact h41
  · by_cases e : 42 = 40 + w
    · rw [e, upd_us]; exact ⟨t, t1, by rw [if_neg (by omega)] at t2; exact t2, rfl⟩
    · rw [un _ e]; exact h42
  · rw [un _ (by omega)]; exact h43
  · rw [un _ (by omega)]; exact h44
theorem shf_ok {h : Nat → Int32} {n : Nat} {v : Int32} (hO : hOK h n) (hn : n ≤ 8) (hv : inB v (-9) (nI 9) = true) : hOK (upd h 43 v) n := by
  obtain ⟨v1, v2⟩ := inB_iff.mp hv
  obtain ⟨hw0, h40, h41, h42, h43, h44⟩ := hO
  have un : ∀ x, x ≠ 43 → upd h 43 v x = h x := fun x hx => upd_un hx
  refine ⟨fun k hk => ?_, ?_, ?_, ?_, ?_, ?_⟩
  · rw [un _ (by omega), un _ (by omega), un _ (by omega), un _ (by omega), un _ (by omega)]
    exact hw0 k hk
  · rw [un _ (by omega)]; exact h40
  · rw [un _ (by omega)]; exact h41
  · rw [un _ (by omega)]; exact h42
  · rw [upd_us]
    rw [Int32.le_iff_toInt_le] at v1 v2
    have e1 : (-9 : Int32).toInt = -9 := rfl
    have e2 : (nI 9).toInt = 9 := rfl
    refine ⟨(v.toInt + 9).toNat, by omega, ?_⟩
    apply Int32.toInt_inj.mp
    rw [pk_sub_toInt (by omega) (by omega)]
    omega
  · rw [un _ (by omega)]; exact h44
theorem bnd_ok {h : Nat → Int32} {n t : Nat} (hO : hOK h n) (hn : n ≤ 8) (ht : t < 2 ^ n) : hOK (upd h 44 (nI t)) n := by
  obtain ⟨hw0, h40, h41, h42, h43, h44⟩ := hO
  have un : ∀ x, x ≠ 44 → upd h 44 (nI t) x = h x := fun x hx => upd_un hx
  refine ⟨fun k hk => ?_, ?_, ?_, ?_, ?_, ?_⟩
  · rw [un _ (by omega), un _ (by omega), un _ (by omega), un _ (by omega), un _ (by omega)]
    exact hw0 k hk
  · rw [un _ (by omega)]; exact h40
  · rw [un _ (by omega)]; exact h41
  · rw [un _ (by omega)]; exact h42
  · rw [un _ (by omega)]; exact h43
  · rw [upd_us]; exact ⟨t, ht, rfl⟩
/-- what only looks at wires, limits and shift is the same when others are bonded -/
theorem bnd_plc {h : Nat → Int32} {S i y : Nat} {v : Int32} (hi : i < 8) : plc (upd h 44 v) S i y = plc h S i y := by
  unfold plc
  rw [upd_un (by omega), upd_un (by omega), upd_un (by omega)]
theorem bnd_hgt {h : Nat → Int32} {S i y : Nat} {v : Int32} (hi : i < 8) : hgt (upd h 44 v) S i y = hgt h S i y := by
  unfold hgt
  rw [upd_un (by omega), upd_un (by omega), upd_un (by omega)]
theorem bnd_way {h : Nat → Int32} {S i k : Nat} {v : Int32} (hi : i < 8) (hk : k < 8) : way (upd h 44 v) S i k = way h S i k := by
  have e : ∀ e, wayA (upd h 44 v) S i k e = wayA h S i k e := fun e => by
    unfold wayA
    refine anyB_cg (fun y hy => ?_)
    unfold ovr
    rw [bnd_hgt hi, bnd_hgt hk, bnd_plc hi, bnd_plc hk, upd_un (by omega)]
  unfold way
  rw [e 0, e S]
theorem bnd_vPl {plr : Nat → Nat → Int32} {h : Nat → Int32} {S n : Nat} {v : Int32} (hn : n ≤ 8) (hP : vPl plr h S n) : vPl plr (upd h 44 v) S n := fun i hi y hy => (hP i hi y hy).trans (bnd_plc (by omega)).symm
theorem bnd_vHg {hgr : Nat → Nat → Int32} {h : Nat → Int32} {S n : Nat} {v : Int32} (hn : n ≤ 8) (hH : vHg hgr h S n) : vHg hgr (upd h 44 v) S n := fun i hi y hy => (hH i hi y hy).trans (bnd_hgt (by omega)).symm
theorem bnd_blA {h : Nat → Int32} {S i : Nat} {v : Int32} (hi : i < 8) : ∀ k, k ≤ 8 → blA (upd h 44 v) S i k = blA h S i k
  | 0, _ => rfl
  | k + 1, hk => by rw [blA_s, blA_s, bnd_blA hi k (by omega), bnd_way hi (by omega)]
theorem bnd_bdA {h : Nat → Int32} {S k : Nat} {v : Int32} (hk : k < 8) : ∀ i, i ≤ 8 → bdA (upd h 44 v) S k i = bdA h S k i
  | 0, _ => rfl
  | i + 1, hi => by rw [bdA_s, bdA_s, bnd_bdA hk i (by omega), bnd_way (by omega) hk]
theorem bnd_vBk {bk bd h : Nat → Int32} {S n : Nat} {v : Int32} (hn : n ≤ 8) (hB : vBk bk bd h S n) : vBk bk bd (upd h 44 v) S n := fun j hj => by
  rw [bnd_blA hj n hn, bnd_bdA hj n hn]
  exact hB j hj
/-- sets of bonded ones -/
theorem bt_bi {s k : Nat} (hs : s < 256) (hk : k < 8) : bt (nI s) k = bi (s.testBit k) := by
  have b := bt_tb s hs k hk
  cases hv : s.testBit k with
  | true => exact b.1.mpr hv
  | false => exact b.2.1.mpr hv
theorem bd_bi {s k : Nat} (hs : s < 256) (hk : k < 8) : bdB (nI s) (nI k) = s.testBit k := by
  have b := (bt_tb s hs k hk).2.2
  unfold bdB
  cases hv : s.testBit k with
  | true => exact decide_eq_true (fun e => by rw [b.mp e] at hv; cases hv)
  | false => exact decide_eq_false (fun e => e (b.mpr hv))
theorem bar_tb {h : Nat → Int32} {S n i s : Nat} (hn : n ≤ 8) (hs : s < 2 ^ n) : blA h S i n &&& nI s = 0 ↔ barB h S n i (nI s) = false := by
  have hp := pw8 hn
  have hl := mkS_lt (pr8 h S i) n
  rw [bl_mk n hn, sb1 (by omega)]
  unfold barB
  rw [anyB_f]
  constructor
  · intro h1 k hk
    unfold barP
    cases hv : pr8 h S i k with
    | false =>
      unfold pr8 at hv
      by_cases e : k = i
      · rw [decide_eq_false (p := k ≠ i) (fun g => g e)]; rfl
      · rw [decide_eq_true (p := i ≠ k) (fun g => e g.symm), Bool.true_and] at hv
        rw [hv, Bool.and_false, Bool.and_false]
    | true =>
      have h2 := h1 k (by rw [mkS_tb _ n k hk]; exact hv)
      have h3 : ¬ bt (nI s) k = nI 1 := fun e => by rw [((bt_tb s (by omega) k (by omega)).1).mp e] at h2; cases h2
      rw [decide_eq_false h3, Bool.false_and, Bool.and_false]
  · intro h1 j hj
    have hjn : j < n := Nat.lt_of_not_le fun hle => by rw [mkS_hi _ hle] at hj; cases hj
    rw [mkS_tb _ n j hjn] at hj
    unfold pr8 at hj
    rw [Bool.and_eq_true, decide_eq_true_eq] at hj
    have h2 := h1 j hjn
    unfold barP at h2
    rw [decide_eq_true (p := j ≠ i) (fun g => hj.1 g.symm), hj.2, Bool.true_and, Bool.and_true] at h2
    cases hv : s.testBit j with
    | false => rfl
    | true => exact absurd (((bt_tb s (by omega) j (by omega)).1).mpr hv) (of_decide_eq_false h2)
/-- the sights -/
theorem ey_cnt {tld tie fst las saw eyes : Nat → Int32} (hE : eyR tld tie fst las saw eyes) (hK : eyK eyes) : nI (cntB (fun e => decide (¬ tld e = 0)) 2) = eyes 0 + eyes 5 := by
  have e0 := (hE 0 (by omega)).1
  have e1 := (hE 1 (by omega)).1
  have k0 := (hK 0 (by omega)).1
  have k1 := (hK 1 (by omega)).1
  simp only [Nat.mul_zero, Nat.mul_one] at e0 e1 k0 k1
  show nI (0 + (if decide (¬ tld 0 = 0) then 1 else 0) + (if decide (¬ tld 1 = 0) then 1 else 0)) = _
  rw [e0, e1]
  rcases k0 with k0 | k0 <;> rcases k1 with k1 | k1 <;> rw [k0, k1] <;> decide
theorem eyU_at {eyes : Nat → Int32} {e : Nat} {t a b x : Int32} : eyU eyes e t a b x (5 * e) = nI 1 ∧ eyU eyes e t a b x (5 * e + 1) = t ∧ eyU eyes e t a b x (5 * e + 2) = a ∧ eyU eyes e t a b x (5 * e + 3) = b ∧ eyU eyes e t a b x (5 * e + 4) = x := by
  unfold eyU
  refine ⟨?_, ?_, ?_, ?_, upd_us⟩
  · rw [upd_un (by omega), upd_un (by omega), upd_un (by omega), upd_un (by omega), upd_us]
  · rw [upd_un (by omega), upd_un (by omega), upd_un (by omega), upd_us]
  · rw [upd_un (by omega), upd_un (by omega), upd_us]
  · rw [upd_un (by omega), upd_us]
theorem eyU_o {eyes : Nat → Int32} {e j : Nat} {t a b x : Int32} (h : j < 5 * e ∨ 5 * e + 4 < j) : eyU eyes e t a b x j = eyes j := by
  unfold eyU
  rw [upd_un (by omega), upd_un (by omega), upd_un (by omega), upd_un (by omega), upd_un (by omega)]
theorem eyU_R {tld tie fst las saw eyes : Nat → Int32} {e : Nat} {t a b x : Int32} (hE : eyR tld tie fst las saw eyes) : eyR (upd tld e (nI 1)) (upd tie e t) (upd fst e a) (upd las e b) (upd saw e x) (eyU eyes e t a b x) := by
  intro u hu
  by_cases h : u = e
  · subst h
    obtain ⟨a0, a1, a2, a3, a4⟩ := eyU_at (eyes := eyes) (e := u) (t := t) (a := a) (b := b) (x := x)
    rw [a0, a1, a2, a3, a4]
    exact ⟨upd_us, upd_us, upd_us, upd_us, upd_us⟩
  · rw [upd_un h, upd_un h, upd_un h, upd_un h, upd_un h, eyU_o (by omega), eyU_o (by omega), eyU_o (by omega), eyU_o (by omega), eyU_o (by omega)]
    exact hE u hu
theorem eyU_K {eyes : Nat → Int32} {e : Nat} {t a b x : Int32} (hK : eyK eyes) (hs : sgB t a b = true) : eyK (eyU eyes e t a b x) := by
  intro u hu
  by_cases h : u = e
  · subst h
    obtain ⟨a0, a1, a2, a3, a4⟩ := eyU_at (eyes := eyes) (e := u) (t := t) (a := a) (b := b) (x := x)
    rw [a0, a1, a2, a3]
    exact ⟨Or.inr rfl, fun _ => hs⟩
  · rw [eyU_o (by omega), eyU_o (by omega), eyU_o (by omega), eyU_o (by omega)]
    exact hK u hu
theorem eyF_R {tld tie fst las saw eyes : Nat → Int32} (hE : eyR tld tie fst las saw eyes) : eyR (cpG (fun _ => nI 0) tld 2) tie fst las saw (eyF eyes) := by
  intro u hu
  obtain ⟨a0, a1, a2, a3, a4⟩ := hE u hu
  have o : ∀ k, 1 ≤ k → k < 5 → eyF eyes (5 * u + k) = eyes (5 * u + k) := fun k h1 h2 => by
    unfold eyF
    rw [upd_un (by omega), upd_un (by omega)]
  rw [o 1 (by omega) (by omega), o 2 (by omega) (by omega), o 3 (by omega) (by omega), o 4 (by omega) (by omega), cpG_lt hu]
  refine ⟨?_, a1, a2, a3, a4⟩
  rcases (show u = 0 ∨ u = 1 by omega) with rfl | rfl
  · show nI 0 = upd (upd eyes 0 (nI 0)) 5 (nI 0) 0
    rw [upd_un (by omega), upd_us]
  · show nI 0 = upd (upd eyes 0 (nI 0)) 5 (nI 0) 5
    rw [upd_us]
theorem eyF_K {eyes : Nat → Int32} : eyK (eyF eyes) := by
  intro u hu
  have e : eyF eyes (5 * u) = nI 0 := by
    rcases (show u = 0 ∨ u = 1 by omega) with rfl | rfl
    · show upd (upd eyes 0 (nI 0)) 5 (nI 0) 0 = _
      rw [upd_un (by omega), upd_us]
    · show upd (upd eyes 0 (nI 0)) 5 (nI 0) 5 = _
      rw [upd_us]
  rw [e]
  exact ⟨Or.inl rfl, fun h => absurd h (by decide)⟩
/-- what a text without fault tells is in its ranges -/
theorem nmO_in {t : Nat → Nat} {p : Nat} {lo hi : Int32} (h : nmO t p lo hi = true) : inB (nI (nmV t p)) lo hi = true := by
  unfold nmO at h
  rw [Bool.and_eq_true] at h
  exact h.2
theorem cpO_in {s d : Nat → Int32} {off k j : Nat} (h : j < k) : cpO s d off k (off + j) = s j := by
  unfold cpO
  rw [if_neg (by omega), if_pos (by omega)]
  congr 1
  omega
theorem cpO_out {s d : Nat → Int32} {off k j : Nat} (h : j < off ∨ off + k ≤ j) : cpO s d off k j = d j := by
  unfold cpO
  rcases h with h | h
  · rw [if_pos h]
  · rw [if_neg (by omega), if_neg (by omega)]
theorem it_ok {t : Nat → Nat} {wn i sp : Nat} {r : Nat → Int32} (hI : itO t wn i = true) (hO : hOK r wn) (h4 : r 44 = nI 0) (hw : wn ≤ 8) (hs : sp = 0 ∨ (8 ≤ sp ∧ sp ≤ 40)) : hOK (itR t wn r i) (itW t wn i) ∧ itR t wn r i 44 = nI 0 ∧ itW t wn i ≤ 8 ∧ (itS t sp i = 0 ∨ (8 ≤ itS t sp i ∧ itS t sp i ≤ 40)) := by
  have hw2 := itW_le hI hw
  unfold itO at hI
  split at hI
  · by_cases e1 : t i = 115
    · rw [if_pos e1] at hI
      unfold itR itW itS at *
      rw [if_pos e1, if_neg (by rw [e1]; decide), if_pos e1]
      refine ⟨hO, h4, hw, Or.inr ?_⟩
      obtain ⟨v, v1, v2, v3⟩ := in_n (by omega) (by omega) (nmO_in hI)
      have := nmV_le t (i + 1)
      have := (nI_eq (by omega) (by omega)).mp v3
      omega
    · rw [if_neg e1] at hI
      by_cases e2 : t i = 119
      · rw [if_pos e2] at hI
        unfold itR itS
        unfold itW at hw2 ⊢
        rw [if_pos e2] at hw2
        rw [if_neg e1, if_pos e2, if_pos e2, if_neg e1]
        unfold wrO at hI
        rw [Bool.and_eq_true, allB_t] at hI
        have hk : ∀ k, k < 5 → ∃ v, (if k = 4 then 1 else 0) ≤ v ∧ v ≤ (if k = 0 then 60 else if k = 2 then 60 else if k = 4 then 40 else 2) ∧ wrV t i k = nI v := fun k hk => by
          have := hI.2 k hk
          unfold wrK at this
          rw [Bool.and_eq_true] at this
          exact wr_in hk (nmO_in this.2)
        obtain ⟨hw0, h40, h41, h42, h43, h44⟩ := hO
        have un : ∀ x, 40 ≤ x → cpO (wrV t i) r (5 * wn) 5 x = r x := fun x hx => cpO_out (Or.inr (by omega))
        refine ⟨⟨fun j hj => ?_, ?_, ?_, ?_, ?_, ?_⟩, ?_, by omega, hs⟩
        · by_cases e : j = wn
          · subst e
            have c0 := cpO_in (s := wrV t i) (d := r) (off := 5 * j) (k := 5) (j := 0) (by omega)
            rw [show 5 * j + 0 = 5 * j from rfl] at c0
            rw [c0, cpO_in (by omega), cpO_in (by omega), cpO_in (by omega), cpO_in (by omega)]
            obtain ⟨v0, a0, b0, c0⟩ := hk 0 (by omega)
            obtain ⟨v1, a1, b1, c1⟩ := hk 1 (by omega)
            obtain ⟨v2, a2, b2, c2⟩ := hk 2 (by omega)
            obtain ⟨v3, a3, b3, c3⟩ := hk 3 (by omega)
            obtain ⟨v4, a4, b4, c4⟩ := hk 4 (by omega)
            exact ⟨⟨v0, b0, c0⟩, ⟨v1, b1, c1⟩, ⟨v2, b2, c2⟩, ⟨v3, b3, c3⟩, ⟨v4, a4, b4, c4⟩⟩
          · rw [cpO_out (by omega), cpO_out (by omega), cpO_out (by omega), cpO_out (by omega), cpO_out (by omega)]
            exact hw0 j (by omega)
        · rw [un _ (by omega)]; exact h40
        · rw [un _ (by omega)]; exact h41
        · rw [un _ (by omega)]; exact h42
        · rw [un _ (by omega)]; exact h43
        · rw [un _ (by omega), h4]; exact ⟨0, Nat.two_pow_pos _, rfl⟩
        · rw [un _ (by omega), h4]
      · rw [if_neg e2] at hI
        unfold itR itW itS
        rw [if_neg e1, if_neg e2, if_neg e2, if_neg e1]
        by_cases e3 : lmN (t i) = 3
        · rw [if_pos e3] at hI; cases hI
        · rw [if_neg e3] at hI
          have hl : lmN (t i) < 3 := by
            have : lmN (t i) ≤ 3 := by unfold lmN; split <;> (try split) <;> (try split) <;> omega
            omega
          refine ⟨lim_ok hO hw hl (nmO_in hI), ?_, hw, hs⟩
          rw [upd_un (by omega), h4]
  · cases hI
theorem rdL_ok (t : Nat → Nat) (len : Nat) : ∀ (d i sp wn : Nat) (r : Nat → Int32), hOK r wn → r 44 = nI 0 → wn ≤ 8 → (sp = 0 ∨ (8 ≤ sp ∧ sp ≤ 40)) → hOK (rdL t len d i sp wn r).2.2.2 (rdL t len d i sp wn r).2.2.1 ∧ ((rdL t len d i sp wn r).2.1 = 0 ∨ (8 ≤ (rdL t len d i sp wn r).2.1 ∧ (rdL t len d i sp wn r).2.1 ≤ 40)) ∧ (rdL t len d i sp wn r).2.2.2 44 = nI 0
  | 0, _, _, _, _, h1, h2, _, h4 => ⟨h1, h4, h2⟩
  | d + 1, i, sp, wn, r, h1, h2, h3, h4 => by
    unfold rdL
    split
    · split
      · next e =>
        split
        · obtain ⟨k1, k2, k3, k4⟩ := it_ok e h1 h2 h3 h4
          exact rdL_ok t len d _ _ _ _ k1 k2 k3 k4
        · exact ⟨h1, h4, h2⟩
      · exact ⟨h1, h4, h2⟩
    · exact ⟨h1, h4, h2⟩
theorem rdZ_ok : hOK rdZ 0 := ⟨fun i hi => absurd hi (Nat.not_lt_zero i), ⟨2, by omega, by omega, rfl⟩, ⟨6, by omega, by omega, rfl⟩, ⟨2, by omega, by omega, rfl⟩, ⟨9, by omega, by decide⟩, ⟨0, by omega, rfl⟩⟩
theorem rdT_ok (len : Nat) (text : Nat → Nat) : hOK (rdT len text).2.2.2 (rdT len text).2.2.1 ∧ ((rdT len text).2.1 = 0 ∨ (8 ≤ (rdT len text).2.1 ∧ (rdT len text).2.1 ≤ 40)) ∧ (rdT len text).2.2.2 44 = nI 0 := rdL_ok _ _ _ _ _ _ _ rdZ_ok rfl (by omega) (Or.inl rfl)
theorem lt0_cg {len : Nat} {a b : Nat → Nat} (h : ∀ j, j < len → a j = b j) : lt0 len a = lt0 len b := by
  funext p
  unfold lt0
  split
  · next e => exact h p e
  · rfl
theorem rdT_cg {len : Nat} {a b : Nat → Nat} (h : ∀ j, j < len → a j = b j) : rdT len a = rdT len b := by unfold rdT; rw [lt0_cg h]
