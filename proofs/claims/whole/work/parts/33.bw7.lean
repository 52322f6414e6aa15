-- BondedWires: its calls (2)
def cbB (h : Nat → Int32) (S n k : Nat) : Bool := decide (bt (h 44) k = 0) && !barB h S n k (h 44)
theorem cb_f1 {h : Nat → Int32} {S n k s : Nat} (e : h 44 = nI s) (hs : s < 256) (hk : k < 8) (h1 : s.testBit k = true) : cbB h S n k = false := by
  unfold cbB
  rw [e, bt_bi hs hk, h1]
  rfl
theorem cb_v {h : Nat → Int32} {S n k s : Nat} (e : h 44 = nI s) (hs : s < 256) (hk : k < 8) (h1 : s.testBit k = false) : cbB h S n k = !barB h S n k (h 44) := by
  unfold cbB
  rw [e, bt_bi hs hk, h1]
  rfl
theorem rdy_t {h : Nat → Int32} {S n k : Nat} (h1 : cbB h S n k = true) : rdyS h S n (k + 1) = rdyS h S n k ||| nI 1 <<< (nI k &&& 31) := by
  unfold cbB at h1
  rw [Bool.and_eq_true, decide_eq_true_eq, Bool.not_eq_true'] at h1
  show rdyS h S n k ||| (if bt (h 44) k = 0 then if barB h S n k (h 44) = true then nI 0 else nI 1 <<< (nI k &&& 31) else nI 0) = _
  rw [if_pos h1.1, if_neg (by rw [h1.2]; decide)]
theorem rdy_f {h : Nat → Int32} {S n k : Nat} (h1 : cbB h S n k = false) : rdyS h S n (k + 1) = rdyS h S n k := by
  show rdyS h S n k ||| (if bt (h 44) k = 0 then if barB h S n k (h 44) = true then nI 0 else nI 1 <<< (nI k &&& 31) else nI 0) = _
  unfold cbB at h1
  by_cases h2 : bt (h 44) k = 0
  · rw [if_pos h2]
    rw [decide_eq_true h2, Bool.true_and, Bool.not_eq_false'] at h1
    rw [if_pos h1, or0]
  · rw [if_neg h2, or0]
set_option maxRecDepth 20000 in
/-- canBeBonded -/
theorem cb_canBeBonded {l : Launch} {D : va_G} {cy : Nat → ClassId} {z : Nat → Nat} {q : Nat → Nat} (hI : wI 49 q) {tl dsp dwi dat bsp bwi pnx phd vkn : Nat} {dff lbl lsh lpk : Int32} {lett : Nat → Nat} {num lim now : Nat → Int32} {prw plr hgr : Nat → Nat → Int32} {bk bd wio wys trl : Nat → Int32} {clr : Nat → Int64} {tld tie fst las saw : Nat → Int32} {k : Nat} (hk : k < bwi) {h : Nat → Int32} (hO : hOK h bwi) (hP : vPl plr h bsp bwi) (hH : vHg hgr h bsp bwi) (hA : agr now h bwi) (hB : vkn = 0 ∨ (vkn = 1 ∧ vBk bk bd h bsp bwi)) (hs : 8 ≤ bsp) (hs2 : bsp ≤ 40) (hw : bwi ≤ 8) : Ct l yX8_canBeBonded cX8_canBeBonded 2 (some .boolean) 5 129 D cy z 49 q [.ref (q 0), .int (nI k)] (bwC cy q tl dsp dwi dat bsp bwi pnx phd vkn dff lbl lsh lpk lett num lim now prw plr hgr bk bd wio wys trl clr tld tie fst las saw) (PX (fun x g => x = bi (cbB h bsp bwi k) ∧ ∃ b8 b9 v9, g = (bwC cy q tl dsp dwi dat bsp bwi pnx phd v9 dff lbl lsh lpk lett num lim now prw plr hgr b8 b9 wio wys trl clr tld tie fst las saw) ∧ (v9 = 0 ∨ (v9 = 1 ∧ vBk b8 b9 h bsp bwi)))) := by
  refine Ct.of (own := RX8) (by decide) rfl hI (Nat.le_of_ble_eq_true rfl) ?_
  intro p e s m args below meth c C hr
  refine aw_lv (lv' := [(0, .ref (q 0)), (1, .int (nI k))]) (fun x hx => hx) ?_
  obtain ⟨s9, hs9, e44⟩ := hO.2.2.2.2.2
  have p9 := pw8 hw
  refine aw_aload_n C dX8_canBeBonded_0 (i := 0) rfl rfl ?_
  refine aw_get (k := 0) C dX8_canBeBonded_1 fl_X8_26 (by decide) rfl rfl ?_
  refine aw_iload_n C dX8_canBeBonded_4 (i := 1) rfl rfl ?_
  refine aw_V1i (k := 3) C dX8_canBeBonded_5 cv_X8_155 (by decide) rfl rfl rfl (cb_isBonded hI) ⟨Nat.le_of_ble_eq_true rfl, Nat.le_of_ble_eq_true rfl⟩ (Nat.le_of_ble_eq_true rfl) ?_
  rw [hA 44 (by omega), e44, bd_bi (by omega) (by omega)]
  refine aw_if_ne_b (tgt := 34) C dX8_canBeBonded_8 (by decide) (fun h8 => ?_) (fun h8 => ?_)
  · refine aw_iconst C dX8_canBeBonded_34 ki_0 ?_
    refine aw_zret C hr dX8_canBeBonded_35 (by decide) ?_
    exact ⟨_, rfl, bi_f (cb_f1 e44 (by omega) (by omega) h8), _, _, _, rfl, hB⟩
  · refine aw_aload_n C dX8_canBeBonded_11 (i := 0) rfl rfl ?_
    refine aw_get (k := 0) C dX8_canBeBonded_12 fl_X8_42 (by decide) rfl rfl ?_
    refine aw_iload_n C dX8_canBeBonded_15 (i := 1) rfl rfl ?_
    refine aw_V1x (k := 5) C dX8_canBeBonded_16 cv_X8_183 (by decide) rfl rfl rfl (cb_blockersOf hI (by omega) hO hP hH hA hB hs hs2 hw) ⟨Nat.le_of_ble_eq_true rfl, Nat.le_of_ble_eq_true rfl⟩ (Nat.le_of_ble_eq_true rfl) (fun x g hp9 => ?_)
    obtain ⟨rfl, b8, b9, rfl, m9⟩ := hp9
    refine aw_aload_n C dX8_canBeBonded_19 (i := 0) rfl rfl ?_
    refine aw_get (k := 0) C dX8_canBeBonded_20 fl_X8_26 (by decide) rfl rfl ?_
    refine aw_V0i (k := 3) C dX8_canBeBonded_23 cv_X8_189 (by decide) rfl rfl rfl (cb_bonded hI) ⟨Nat.le_of_ble_eq_true rfl, Nat.le_of_ble_eq_true rfl⟩ (Nat.le_of_ble_eq_true rfl) ?_
    rw [hA 44 (by omega), e44]
    refine aw_iand C dX8_canBeBonded_26 ?_
    refine aw_if_ne (tgt := 34) C dX8_canBeBonded_27 (by decide) (fun h27 => ?_) (fun h27 => ?_)
    · refine aw_iconst C dX8_canBeBonded_34 ki_0 ?_
      refine aw_zret C hr dX8_canBeBonded_35 (by decide) ?_
      have c9 := cb_v (S := bsp) (n := bwi) e44 (show s9 < 256 by omega) (show k < 8 by omega) h8
      have t9 : barB h bsp bwi k (h 44) = true := by
        cases hv : barB h bsp bwi k (h 44) with
        | true => rfl
        | false => rw [e44] at hv; exact absurd ((bar_tb hw hs9).mpr hv) h27
      exact ⟨_, rfl, bi_f (by rw [c9, t9]; rfl), _, _, _, rfl, Or.inr ⟨rfl, m9⟩⟩
    · refine aw_iconst C dX8_canBeBonded_30 ki_1 ?_
      refine aw_goto (tgt := 35) C dX8_canBeBonded_31 (by decide) ?_
      refine aw_zret C hr dX8_canBeBonded_35 (by decide) ?_
      have c9 := cb_v (S := bsp) (n := bwi) e44 (show s9 < 256 by omega) (show k < 8 by omega) h8
      exact ⟨_, rfl, bi_t (by rw [c9, e44, (bar_tb hw hs9).mp h27]; rfl), _, _, _, rfl, Or.inr ⟨rfl, m9⟩⟩
set_option maxRecDepth 20000 in
/-- ready, its loop -/
theorem cb_ready_l {l : Launch} {D : va_G} {cy : Nat → ClassId} {z : Nat → Nat} {q : Nat → Nat} {p : Program} {e : Env} {s : State} {m : MethodId} {args : Array Value} {below : List Frame} {meth : Method} {c : Code} (hI : wI 49 q) (C : Cx p s m args meth c cX8_ready 3 RX8 D cy z 49 q) (hr : meth.sig.returnType = (some .int)) {tl dsp dwi dat bsp bwi pnx phd : Nat} {dff lbl lsh lpk : Int32} {lett : Nat → Nat} {num lim now : Nat → Int32} {prw plr hgr : Nat → Nat → Int32} {wio wys trl : Nat → Int32} {clr : Nat → Int64} {tld tie fst las saw : Nat → Int32} {h : Nat → Int32} (hO : hOK h bwi) (hP : vPl plr h bsp bwi) (hH : vHg hgr h bsp bwi) (hA : agr now h bwi) (hs : 8 ≤ bsp) (hs2 : bsp ≤ 40) (hw : bwi ≤ 8) : ∀ (d : Nat) (k : Nat) (vkn : Nat) (bk : Nat → Int32) (bd : Nat → Int32), bwi - k < d → (k ≤ bwi) → (vkn = 0 ∨ (vkn = 1 ∧ vBk bk bd h bsp bwi)) → AW p l e { frames := 6, cells := 0, slots := 0, locals := 150 } s m args below meth c D 49 q 3 (MQ below (Qg D 49 q (PX (fun x g => x = opReady bsp bwi h ∧ ∃ b8 b9 v9, g = (bwC cy q tl dsp dwi dat bsp bwi pnx phd v9 dff lbl lsh lpk lett num lim now prw plr hgr b8 b9 wio wys trl clr tld tie fst las saw) ∧ (v9 = 0 ∨ (v9 = 1 ∧ vBk b8 b9 h bsp bwi)))) (wA 49 q s.heap.size)) args s 0 0 (wA 49 q s.heap.size)) (bwC cy q tl dsp dwi dat bsp bwi pnx phd vkn dff lbl lsh lpk lett num lim now prw plr hgr bk bd wio wys trl clr tld tie fst las saw) [(0, .ref (q 0)), (1, .int (rdyS h bsp bwi k)), (2, .int (nI k))] 4 [] := by
  intro d
  induction d with
  | zero => intro k vkn bk bd hd; exact absurd hd (Nat.not_lt_zero _)
  | succ d ih =>
    intro k vkn bk bd hd iv0 iv1
    refine aw_iload_n C dX8_ready_4 (i := 2) rfl rfl ?_
    refine aw_aload_n C dX8_ready_5 (i := 0) rfl rfl ?_
    refine aw_get (k := 0) C dX8_ready_6 fl_X8_26 (by decide) rfl rfl ?_
    refine aw_get (k := 3) C dX8_ready_9 fl_X8_102 (by decide) rfl rfl ?_
    refine aw_icmp_ge_n (tgt := 35) C dX8_ready_12 (by decide) (by omega) (by omega) (fun h12 => ?_) (fun h12 => ?_)
    · refine aw_iload_n C dX8_ready_35 (i := 1) rfl rfl ?_
      refine aw_iret C hr dX8_ready_36 ?_
      exact ⟨_, rfl, by rw [show k = bwi by omega]; rfl, _, _, _, rfl, iv1⟩
    · refine aw_aload_n C dX8_ready_15 (i := 0) rfl rfl ?_
      refine aw_iload_n C dX8_ready_16 (i := 2) rfl rfl ?_
      refine aw_V1x (k := 0) C dX8_ready_17 cv_X8_186 (by decide) rfl rfl rfl (cb_canBeBonded hI (by omega) hO hP hH hA iv1 hs hs2 hw) ⟨Nat.le_of_ble_eq_true rfl, Nat.le_of_ble_eq_true rfl⟩ (Nat.le_of_ble_eq_true rfl) (fun x g hp9 => ?_)
      obtain ⟨rfl, b8, b9, v9, rfl, m9⟩ := hp9
      refine aw_if_eq_b (tgt := 29) C dX8_ready_20 (by decide) (fun h20 => ?_) (fun h20 => ?_)
      · refine aw_iinc_n (lv' := [(0, _), (1, _), (2, _)]) C dX8_ready_29 rfl ki_1 (Nat.le_of_ble_eq_true rfl) rfl ?_
        refine aw_goto (tgt := 4) C dX8_ready_32 (by decide) ?_
        have k9 := ih (k + 1) _ _ _ (by omega) (by omega) m9
        rw [rdy_f h20] at k9
        exact k9
      · refine aw_iload_n C dX8_ready_23 (i := 1) rfl rfl ?_
        refine aw_iconst C dX8_ready_24 ki_1 ?_
        refine aw_iload_n C dX8_ready_25 (i := 2) rfl rfl ?_
        refine aw_ishl C dX8_ready_26 ?_
        refine aw_ior C dX8_ready_27 ?_
        refine aw_istore_n (lv' := [(0, _), (1, _), (2, _)]) C dX8_ready_28 (i := 1) rfl (Nat.le_of_ble_eq_true rfl) rfl ?_
        refine aw_iinc_n (lv' := [(0, _), (1, _), (2, _)]) C dX8_ready_29 rfl ki_1 (Nat.le_of_ble_eq_true rfl) rfl ?_
        refine aw_goto (tgt := 4) C dX8_ready_32 (by decide) ?_
        have k9 := ih (k + 1) _ _ _ (by omega) (by omega) m9
        rw [rdy_t h20] at k9
        exact k9
set_option maxRecDepth 20000 in
/-- ready -/
theorem cb_ready {l : Launch} {D : va_G} {cy : Nat → ClassId} {z : Nat → Nat} {q : Nat → Nat} (hI : wI 49 q) {len span wires chg : Nat} {text : Nat → Nat} {h was eyes : Nat → Int32} {dsp dwi dat pnx vkn : Nat} {dff lbl lsh lpk : Int32} {lett : Nat → Nat} {num lim now : Nat → Int32} {prw plr hgr : Nat → Nat → Int32} {bk bd wio wys trl : Nat → Int32} {clr : Nat → Int64} {tld tie fst las saw : Nat → Int32} (S9 : okS len span wires chg text h was eyes) (Q9 : bwQ len span wires chg text h was eyes pnx vkn lett now prw plr hgr bk bd tld tie fst las saw) : Ct l yX8_ready cX8_ready 3 (some .int) 6 150 D cy z 49 q [.ref (q 0)] (bwC cy q len dsp dwi dat span wires pnx chg vkn dff lbl lsh lpk lett num lim now prw plr hgr bk bd wio wys trl clr tld tie fst las saw) (PB cy q (opReady span wires h, (len, span, wires, chg, text, h, was, eyes))) := by
  refine Ct.of (own := RX8) (by decide) rfl hI (Nat.le_of_ble_eq_true rfl) ?_
  intro p e s m args below meth c C hr
  refine aw_lv (lv' := [(0, .ref (q 0))]) (fun x hx => hx) ?_
  have S8 := S9
  obtain ⟨hl, hb, hs, hs2, hw, hc, hO, hW, hK⟩ := S8
  have Q8 := Q9
  obtain ⟨hlb, hlt, hA, hP, hH, hB, hn, hR, hE⟩ := Q8
  refine aw_iconst C dX8_ready_0 ki_0 ?_
  refine aw_istore_n (lv' := [(0, _), (1, _)]) C dX8_ready_1 (i := 1) rfl (Nat.le_of_ble_eq_true rfl) rfl ?_
  refine aw_iconst C dX8_ready_2 ki_0 ?_
  refine aw_istore_n (lv' := [(0, _), (1, _), (2, _)]) C dX8_ready_3 (i := 2) rfl (Nat.le_of_ble_eq_true rfl) rfl ?_
  exact aw_post (fun r g hp9 => by obtain ⟨x, rfl, rfl, b8, b9, v9, rfl, m9⟩ := hp9; exact PB.mk rfl S9 ⟨hlb, hlt, hA, hP, hH, m9, hn, hR, hE⟩) (cb_ready_l hI C hr hO hP hH hA hs hs2 hw (wires + 1) 0 _ _ _ (by omega) (by omega) hB)
set_option maxRecDepth 20000 in
/-- bond -/
theorem cb_bond {l : Launch} {D : va_G} {cy : Nat → ClassId} {z : Nat → Nat} {q : Nat → Nat} (hI : wI 49 q) {len span wires chg : Nat} {text : Nat → Nat} {h was eyes : Nat → Int32} {dsp dwi dat pnx vkn : Nat} {dff lbl lsh lpk : Int32} {lett : Nat → Nat} {num lim now : Nat → Int32} {prw plr hgr : Nat → Nat → Int32} {bk bd wio wys trl : Nat → Int32} {clr : Nat → Int64} {tld tie fst las saw : Nat → Int32} (S9 : okS len span wires chg text h was eyes) (Q9 : bwQ len span wires chg text h was eyes pnx vkn lett now prw plr hgr bk bd tld tie fst las saw) {i : Int32} : Ct l yX8_bond cX8_bond 2 (some .int) 6 150 D cy z 49 q [.ref (q 0), .int i] (bwC cy q len dsp dwi dat span wires pnx chg vkn dff lbl lsh lpk lett num lim now prw plr hgr bk bd wio wys trl clr tld tie fst las saw) (PB cy q (opBond len span wires chg text h was eyes i)) := by
  refine Ct.of (own := RX8) (by decide) rfl hI (Nat.le_of_ble_eq_true rfl) ?_
  intro p e s m args below meth c C hr
  refine aw_lv (lv' := [(0, .ref (q 0)), (1, .int i)]) (fun x hx => hx) ?_
  have S8 := S9
  obtain ⟨hl, hb, hs, hs2, hw, hc, hO, hW, hK⟩ := S8
  have Q8 := Q9
  obtain ⟨hlb, hlt, hA, hP, hH, hB, hn, hR, hE⟩ := Q8
  obtain ⟨s9, hs9, e44⟩ := hO.2.2.2.2.2
  have p9 := pw8 hw
  refine aw_aload_n C dX8_bond_0 (i := 0) rfl rfl ?_
  refine aw_iload_n C dX8_bond_1 (i := 1) rfl rfl ?_
  refine aw_V1i (k := 0) C dX8_bond_2 cv_X8_105 (by decide) rfl rfl rfl (cb_isWire hI hw) ⟨Nat.le_of_ble_eq_true rfl, Nat.le_of_ble_eq_true rfl⟩ (Nat.le_of_ble_eq_true rfl) ?_
  refine aw_if_ne_b (tgt := 10) C dX8_bond_5 (by decide) (fun h5 => ?_) (fun h5 => ?_)
  · obtain ⟨a9, ha9, rfl⟩ := wr_of hw h5
    refine aw_aload_n C dX8_bond_10 (i := 0) rfl rfl ?_
    refine aw_iload_n C dX8_bond_11 (i := 1) rfl rfl ?_
    refine aw_V1x (k := 0) C dX8_bond_12 cv_X8_186 (by decide) rfl rfl rfl (cb_canBeBonded hI (by omega) hO hP hH hA hB hs hs2 hw) ⟨Nat.le_of_ble_eq_true rfl, Nat.le_of_ble_eq_true rfl⟩ (Nat.le_of_ble_eq_true rfl) (fun x g hp9 => ?_)
    obtain ⟨rfl, b8, b9, v9, rfl, m9⟩ := hp9
    refine aw_if_ne_b (tgt := 21) C dX8_bond_15 (by decide) (fun h15 => ?_) (fun h15 => ?_)
    · refine aw_aload_n C dX8_bond_21 (i := 0) rfl rfl ?_
      refine aw_get (k := 0) C dX8_bond_22 fl_X8_33 (by decide) rfl rfl ?_
      refine aw_aload_n C dX8_bond_25 (i := 0) rfl rfl ?_
      refine aw_get (k := 0) C dX8_bond_26 fl_X8_26 (by decide) rfl rfl ?_
      refine aw_V1v (k := 4) C dX8_bond_29 cv_X8_120 (by decide) rfl rfl rfl (cb_keep hI hn hc) ⟨Nat.le_of_ble_eq_true rfl, Nat.le_of_ble_eq_true rfl⟩ (Nat.le_of_ble_eq_true rfl) ?_
      refine aw_aload_n C dX8_bond_32 (i := 0) rfl rfl ?_
      refine aw_get (k := 0) C dX8_bond_33 fl_X8_26 (by decide) rfl rfl ?_
      refine aw_aload_n C dX8_bond_36 (i := 0) rfl rfl ?_
      refine aw_get (k := 0) C dX8_bond_37 fl_X8_26 (by decide) rfl rfl ?_
      refine aw_V0i (k := 3) C dX8_bond_40 cv_X8_189 (by decide) rfl rfl rfl (cb_bonded hI) ⟨Nat.le_of_ble_eq_true rfl, Nat.le_of_ble_eq_true rfl⟩ (Nat.le_of_ble_eq_true rfl) ?_
      rw [hA 44 (by omega), e44]
      refine aw_iconst C dX8_bond_43 ki_1 ?_
      refine aw_iload_n C dX8_bond_44 (i := 1) rfl rfl ?_
      refine aw_ishl C dX8_bond_45 ?_
      refine aw_ior C dX8_bond_46 ?_
      rw [shl1 a9 (by omega), or_nI]
      have t9 := or_lt8 hs9 ha9
      refine aw_V1v (k := 3) C dX8_bond_47 cv_X8_192 (by decide) rfl rfl rfl (cb_tellBonded hI) ⟨Nat.le_of_ble_eq_true rfl, Nat.le_of_ble_eq_true rfl⟩ (Nat.le_of_ble_eq_true rfl) ?_
      refine aw_aload_n C dX8_bond_50 (i := 0) rfl rfl ?_
      refine aw_get (k := 0) C dX8_bond_51 fl_X8_26 (by decide) rfl rfl ?_
      refine aw_V0i (k := 3) C dX8_bond_54 cv_X8_189 (by decide) rfl rfl rfl (cb_bonded hI) ⟨Nat.le_of_ble_eq_true rfl, Nat.le_of_ble_eq_true rfl⟩ (Nat.le_of_ble_eq_true rfl) ?_
      rw [upd_us]
      refine aw_S1i C dX8_bond_57 cs_X8_195 (cb_bitCount hI) ⟨Nat.le_of_ble_eq_true rfl, Nat.le_of_ble_eq_true rfl⟩ (Nat.le_of_ble_eq_true rfl) ?_
      refine aw_iret C hr dX8_bond_60 ?_
      have z9 : s9.testBit a9 = false ∧ barB h span wires a9 (h 44) = false := by
        cases hv : s9.testBit a9 with
        | false => rw [cb_v e44 (by omega) (by omega) hv, Bool.not_eq_true'] at h15; exact ⟨rfl, h15⟩
        | true => rw [cb_f1 e44 (by omega) (by omega) hv] at h15; cases h15
      rw [(bc_tb _ (by omega)).1, hdU_nt hc]
      refine PB.mk (h := upd h 44 (nI (s9 ||| 2 ^ a9))) ?_ ⟨hl, hb, hs, hs2, hw, ntC_le hc, bnd_ok hO hw t9, nt_ok hw hc hO hW, hK⟩ ⟨hlb, hlt, agr_upd hA, bnd_vPl hw hP, bnd_vHg hw hH, m9.imp id (fun a9 => ⟨a9.1, bnd_vBk hw a9.2⟩), nxU_lt, rg_keep hw hc hn hA hR, hE⟩
      unfold opBond
      rw [if_pos h5, nI_clamp (by omega), if_neg (by rw [e44, bt_bi (by omega) (by omega), z9.1]; decide), if_neg (by rw [z9.2]; decide), e44, shl1 a9 (by omega), or_nI, (bc_tb _ (by omega)).2]
    · refine aw_bipush C dX8_bond_18 kb_m2 ?_
      refine aw_iret C hr dX8_bond_20 ?_
      refine PB.mk ?_ S9 ⟨hlb, hlt, hA, hP, hH, m9, hn, hR, hE⟩
      unfold opBond
      rw [if_pos h5, nI_clamp (by omega)]
      by_cases g9 : bt (h 44) a9 = nI 1
      · rw [if_pos g9]
      · rw [if_neg g9]
        have z9 : s9.testBit a9 = false := by
          cases hv : s9.testBit a9 with
          | false => rfl
          | true => exact absurd (by rw [e44, bt_bi (by omega) (by omega), hv]; rfl) g9
        rw [cb_v e44 (by omega) (by omega) z9, Bool.not_eq_false'] at h15
        rw [if_pos h15]
  · refine aw_iconst C dX8_bond_8 ki_m1 ?_
    refine aw_iret C hr dX8_bond_9 ?_
    exact PB.mk (by unfold opBond; rw [if_neg (by rw [h5]; decide)]) S9 Q9
set_option maxRecDepth 20000 in
/-- take -/
theorem cb_take {l : Launch} {D : va_G} {cy : Nat → ClassId} {z : Nat → Nat} {q : Nat → Nat} (hI : wI 49 q) {len span wires chg : Nat} {text : Nat → Nat} {h was eyes : Nat → Int32} {dsp dwi dat pnx vkn : Nat} {dff lbl lsh lpk : Int32} {lett : Nat → Nat} {num lim now : Nat → Int32} {prw plr hgr : Nat → Nat → Int32} {bk bd wio wys trl : Nat → Int32} {clr : Nat → Int64} {tld tie fst las saw : Nat → Int32} (S9 : okS len span wires chg text h was eyes) (Q9 : bwQ len span wires chg text h was eyes pnx vkn lett now prw plr hgr bk bd tld tie fst las saw) {i : Int32} : Ct l yX8_take cX8_take 2 (some .int) 2 53 D cy z 49 q [.ref (q 0), .int i] (bwC cy q len dsp dwi dat span wires pnx chg vkn dff lbl lsh lpk lett num lim now prw plr hgr bk bd wio wys trl clr tld tie fst las saw) (PB cy q (opTake len span wires chg text h was eyes i)) := by
  refine Ct.of (own := RX8) (by decide) rfl hI (Nat.le_of_ble_eq_true rfl) ?_
  intro p e s m args below meth c C hr
  refine aw_lv (lv' := [(0, .ref (q 0)), (1, .int i)]) (fun x hx => hx) ?_
  have S8 := S9
  obtain ⟨hl, hb, hs, hs2, hw, hc, hO, hW, hK⟩ := S8
  have Q8 := Q9
  obtain ⟨hlb, hlt, hA, hP, hH, hB, hn, hR, hE⟩ := Q8
  obtain ⟨s9, hs9, e44⟩ := hO.2.2.2.2.2
  have p9 := pw8 hw
  refine aw_aload_n C dX8_take_0 (i := 0) rfl rfl ?_
  refine aw_iload_n C dX8_take_1 (i := 1) rfl rfl ?_
  refine aw_V1i (k := 0) C dX8_take_2 cv_X8_105 (by decide) rfl rfl rfl (cb_isWire hI hw) ⟨Nat.le_of_ble_eq_true rfl, Nat.le_of_ble_eq_true rfl⟩ (Nat.le_of_ble_eq_true rfl) ?_
  refine aw_if_ne_b (tgt := 10) C dX8_take_5 (by decide) (fun h5 => ?_) (fun h5 => ?_)
  · obtain ⟨a9, ha9, rfl⟩ := wr_of hw h5
    refine aw_aload_n C dX8_take_10 (i := 0) rfl rfl ?_
    refine aw_get (k := 0) C dX8_take_11 fl_X8_26 (by decide) rfl rfl ?_
    refine aw_iload_n C dX8_take_14 (i := 1) rfl rfl ?_
    refine aw_V1i (k := 3) C dX8_take_15 cv_X8_155 (by decide) rfl rfl rfl (cb_isBonded hI) ⟨Nat.le_of_ble_eq_true rfl, Nat.le_of_ble_eq_true rfl⟩ (Nat.le_of_ble_eq_true rfl) ?_
    rw [hA 44 (by omega), e44, bd_bi (by omega) (by omega)]
    refine aw_if_ne_b (tgt := 24) C dX8_take_18 (by decide) (fun h18 => ?_) (fun h18 => ?_)
    · have r9 := rm_tb s9 (by omega) a9 (by omega) h18
      have r8 := Nat.sub_le s9 (2 ^ a9)
      refine aw_aload_n C dX8_take_24 (i := 0) rfl rfl ?_
      refine aw_get (k := 0) C dX8_take_25 fl_X8_33 (by decide) rfl rfl ?_
      refine aw_aload_n C dX8_take_28 (i := 0) rfl rfl ?_
      refine aw_get (k := 0) C dX8_take_29 fl_X8_26 (by decide) rfl rfl ?_
      refine aw_V1v (k := 4) C dX8_take_32 cv_X8_120 (by decide) rfl rfl rfl (cb_keep hI hn hc) ⟨Nat.le_of_ble_eq_true rfl, Nat.le_of_ble_eq_true rfl⟩ (Nat.le_of_ble_eq_true rfl) ?_
      refine aw_aload_n C dX8_take_35 (i := 0) rfl rfl ?_
      refine aw_get (k := 0) C dX8_take_36 fl_X8_26 (by decide) rfl rfl ?_
      refine aw_aload_n C dX8_take_39 (i := 0) rfl rfl ?_
      refine aw_get (k := 0) C dX8_take_40 fl_X8_26 (by decide) rfl rfl ?_
      refine aw_V0i (k := 3) C dX8_take_43 cv_X8_189 (by decide) rfl rfl rfl (cb_bonded hI) ⟨Nat.le_of_ble_eq_true rfl, Nat.le_of_ble_eq_true rfl⟩ (Nat.le_of_ble_eq_true rfl) ?_
      rw [hA 44 (by omega), e44]
      refine aw_iconst C dX8_take_46 ki_1 ?_
      refine aw_iload_n C dX8_take_47 (i := 1) rfl rfl ?_
      refine aw_ishl C dX8_take_48 ?_
      refine aw_iconst C dX8_take_49 ki_m1 ?_
      refine aw_ixor C dX8_take_50 ?_
      refine aw_iand C dX8_take_51 ?_
      rw [r9.2.1]
      refine aw_V1v (k := 3) C dX8_take_52 cv_X8_192 (by decide) rfl rfl rfl (cb_tellBonded hI) ⟨Nat.le_of_ble_eq_true rfl, Nat.le_of_ble_eq_true rfl⟩ (Nat.le_of_ble_eq_true rfl) ?_
      refine aw_aload_n C dX8_take_55 (i := 0) rfl rfl ?_
      refine aw_get (k := 0) C dX8_take_56 fl_X8_26 (by decide) rfl rfl ?_
      refine aw_V0i (k := 3) C dX8_take_59 cv_X8_189 (by decide) rfl rfl rfl (cb_bonded hI) ⟨Nat.le_of_ble_eq_true rfl, Nat.le_of_ble_eq_true rfl⟩ (Nat.le_of_ble_eq_true rfl) ?_
      rw [upd_us]
      refine aw_S1i C dX8_take_62 cs_X8_195 (cb_bitCount hI) ⟨Nat.le_of_ble_eq_true rfl, Nat.le_of_ble_eq_true rfl⟩ (Nat.le_of_ble_eq_true rfl) ?_
      refine aw_iret C hr dX8_take_65 ?_
      rw [(bc_tb _ (by omega)).1, hdU_nt hc]
      refine PB.mk (h := upd h 44 (nI (s9 - 2 ^ a9))) ?_ ⟨hl, hb, hs, hs2, hw, ntC_le hc, bnd_ok hO hw (by omega), nt_ok hw hc hO hW, hK⟩ ⟨hlb, hlt, agr_upd hA, bnd_vPl hw hP, bnd_vHg hw hH, hB.imp id (fun a9 => ⟨a9.1, bnd_vBk hw a9.2⟩), nxU_lt, rg_keep hw hc hn hA hR, hE⟩
      unfold opTake
      rw [if_pos h5, nI_clamp (by omega), if_neg (by rw [e44, bt_bi (by omega) (by omega), h18]; decide), e44, r9.1, (bc_tb _ (by omega)).2]
    · refine aw_bipush C dX8_take_21 kb_m2 ?_
      refine aw_iret C hr dX8_take_23 ?_
      exact PB.mk (by unfold opTake; rw [if_pos h5, nI_clamp (by omega), if_pos (by rw [e44, bt_bi (by omega) (by omega), h18]; rfl)]) S9 Q9
  · refine aw_iconst C dX8_take_8 ki_m1 ?_
    refine aw_iret C hr dX8_take_9 ?_
    exact PB.mk (by unfold opTake; rw [if_neg (by rw [h5]; decide)]) S9 Q9
set_option maxRecDepth 20000 in
/-- place -/
theorem cb_place {l : Launch} {D : va_G} {cy : Nat → ClassId} {z : Nat → Nat} {q : Nat → Nat} (hI : wI 49 q) {len span wires chg : Nat} {text : Nat → Nat} {h was eyes : Nat → Int32} {dsp dwi dat pnx vkn : Nat} {dff lbl lsh lpk : Int32} {lett : Nat → Nat} {num lim now : Nat → Int32} {prw plr hgr : Nat → Nat → Int32} {bk bd wio wys trl : Nat → Int32} {clr : Nat → Int64} {tld tie fst las saw : Nat → Int32} (S9 : okS len span wires chg text h was eyes) (Q9 : bwQ len span wires chg text h was eyes pnx vkn lett now prw plr hgr bk bd tld tie fst las saw) {i y : Int32} : Ct l yX8_place cX8_place 3 (some .int) 1 22 D cy z 49 q [.ref (q 0), .int i, .int y] (bwC cy q len dsp dwi dat span wires pnx chg vkn dff lbl lsh lpk lett num lim now prw plr hgr bk bd wio wys trl clr tld tie fst las saw) (PB cy q (opPlace span wires h i y, (len, span, wires, chg, text, h, was, eyes))) := by
  refine Ct.of (own := RX8) (by decide) rfl hI (Nat.le_of_ble_eq_true rfl) ?_
  intro p e s m args below meth c C hr
  refine aw_lv (lv' := [(0, .ref (q 0)), (1, .int i), (2, .int y)]) (fun x hx => hx) ?_
  have S8 := S9
  obtain ⟨hl, hb, hs, hs2, hw, hc, hO, hW, hK⟩ := S8
  have Q8 := Q9
  obtain ⟨hlb, hlt, hA, hP, hH, hB, hn, hR, hE⟩ := Q8
  refine aw_aload_n C dX8_place_0 (i := 0) rfl rfl ?_
  refine aw_iload_n C dX8_place_1 (i := 1) rfl rfl ?_
  refine aw_V1i (k := 0) C dX8_place_2 cv_X8_105 (by decide) rfl rfl rfl (cb_isWire hI hw) ⟨Nat.le_of_ble_eq_true rfl, Nat.le_of_ble_eq_true rfl⟩ (Nat.le_of_ble_eq_true rfl) ?_
  refine aw_if_eq_b (tgt := 31) C dX8_place_5 (by decide) (fun h5 => ?_) (fun h5 => ?_)
  · refine aw_iconst C dX8_place_31 ki_m1 ?_
    refine aw_iret C hr dX8_place_32 ?_
    exact PB.mk (by unfold opPlace; rw [if_neg (by rw [h5]; decide)]) S9 Q9
  · refine aw_aload_n C dX8_place_8 (i := 0) rfl rfl ?_
    refine aw_iload_n C dX8_place_9 (i := 2) rfl rfl ?_
    refine aw_V1i (k := 0) C dX8_place_10 cv_X8_167 (by decide) rfl rfl rfl (cb_isRow hI hs2) ⟨Nat.le_of_ble_eq_true rfl, Nat.le_of_ble_eq_true rfl⟩ (Nat.le_of_ble_eq_true rfl) ?_
    refine aw_if_eq_b (tgt := 31) C dX8_place_13 (by decide) (fun h13 => ?_) (fun h13 => ?_)
    · refine aw_iconst C dX8_place_31 ki_m1 ?_
      refine aw_iret C hr dX8_place_32 ?_
      exact PB.mk (by unfold opPlace; rw [if_pos h5, if_neg (by rw [h13]; decide)]) S9 Q9
    · obtain ⟨a9, ha9, rfl⟩ := wr_of hw h5
      obtain ⟨y9, hy9, rfl⟩ := in_of (by omega) h13
      refine aw_aload_n C dX8_place_16 (i := 0) rfl rfl ?_
      refine aw_get (k := 0) C dX8_place_17 fl_X8_42 (by decide) rfl rfl ?_
      refine aw_iload_n C dX8_place_20 (i := 1) rfl rfl ?_
      refine aw_iload_n C dX8_place_21 (i := 2) rfl rfl ?_
      refine aw_V2i (k := 5) C dX8_place_22 cv_X8_170 (by decide) rfl rfl rfl (cb_placeOf hI (by omega) (by omega)) ⟨Nat.le_of_ble_eq_true rfl, Nat.le_of_ble_eq_true rfl⟩ (Nat.le_of_ble_eq_true rfl) ?_
      rw [hP a9 ha9 y9 hy9]
      refine aw_ldc C dX8_place_25 kc_X8_148 ?_
      refine aw_iadd C dX8_place_27 ?_
      refine aw_goto (tgt := 32) C dX8_place_28 (by decide) ?_
      refine aw_iret C hr dX8_place_32 ?_
      exact PB.mk (by unfold opPlace; rw [if_pos h5, if_pos h13, nI_clamp (by omega), nI_clamp (by omega)]) S9 Q9
set_option maxRecDepth 20000 in
/-- height -/
theorem cb_height {l : Launch} {D : va_G} {cy : Nat → ClassId} {z : Nat → Nat} {q : Nat → Nat} (hI : wI 49 q) {len span wires chg : Nat} {text : Nat → Nat} {h was eyes : Nat → Int32} {dsp dwi dat pnx vkn : Nat} {dff lbl lsh lpk : Int32} {lett : Nat → Nat} {num lim now : Nat → Int32} {prw plr hgr : Nat → Nat → Int32} {bk bd wio wys trl : Nat → Int32} {clr : Nat → Int64} {tld tie fst las saw : Nat → Int32} (S9 : okS len span wires chg text h was eyes) (Q9 : bwQ len span wires chg text h was eyes pnx vkn lett now prw plr hgr bk bd tld tie fst las saw) {i y : Int32} : Ct l yX8_height cX8_height 3 (some .int) 1 22 D cy z 49 q [.ref (q 0), .int i, .int y] (bwC cy q len dsp dwi dat span wires pnx chg vkn dff lbl lsh lpk lett num lim now prw plr hgr bk bd wio wys trl clr tld tie fst las saw) (PB cy q (opHeight span wires h i y, (len, span, wires, chg, text, h, was, eyes))) := by
  refine Ct.of (own := RX8) (by decide) rfl hI (Nat.le_of_ble_eq_true rfl) ?_
  intro p e s m args below meth c C hr
  refine aw_lv (lv' := [(0, .ref (q 0)), (1, .int i), (2, .int y)]) (fun x hx => hx) ?_
  have S8 := S9
  obtain ⟨hl, hb, hs, hs2, hw, hc, hO, hW, hK⟩ := S8
  have Q8 := Q9
  obtain ⟨hlb, hlt, hA, hP, hH, hB, hn, hR, hE⟩ := Q8
  refine aw_aload_n C dX8_height_0 (i := 0) rfl rfl ?_
  refine aw_iload_n C dX8_height_1 (i := 1) rfl rfl ?_
  refine aw_V1i (k := 0) C dX8_height_2 cv_X8_105 (by decide) rfl rfl rfl (cb_isWire hI hw) ⟨Nat.le_of_ble_eq_true rfl, Nat.le_of_ble_eq_true rfl⟩ (Nat.le_of_ble_eq_true rfl) ?_
  refine aw_if_eq_b (tgt := 28) C dX8_height_5 (by decide) (fun h5 => ?_) (fun h5 => ?_)
  · refine aw_iconst C dX8_height_28 ki_m1 ?_
    refine aw_iret C hr dX8_height_29 ?_
    exact PB.mk (by unfold opHeight; rw [if_neg (by rw [h5]; decide)]) S9 Q9
  · refine aw_aload_n C dX8_height_8 (i := 0) rfl rfl ?_
    refine aw_iload_n C dX8_height_9 (i := 2) rfl rfl ?_
    refine aw_V1i (k := 0) C dX8_height_10 cv_X8_167 (by decide) rfl rfl rfl (cb_isRow hI hs2) ⟨Nat.le_of_ble_eq_true rfl, Nat.le_of_ble_eq_true rfl⟩ (Nat.le_of_ble_eq_true rfl) ?_
    refine aw_if_eq_b (tgt := 28) C dX8_height_13 (by decide) (fun h13 => ?_) (fun h13 => ?_)
    · refine aw_iconst C dX8_height_28 ki_m1 ?_
      refine aw_iret C hr dX8_height_29 ?_
      exact PB.mk (by unfold opHeight; rw [if_pos h5, if_neg (by rw [h13]; decide)]) S9 Q9
    · obtain ⟨a9, ha9, rfl⟩ := wr_of hw h5
      obtain ⟨y9, hy9, rfl⟩ := in_of (by omega) h13
      refine aw_aload_n C dX8_height_16 (i := 0) rfl rfl ?_
      refine aw_get (k := 0) C dX8_height_17 fl_X8_42 (by decide) rfl rfl ?_
      refine aw_iload_n C dX8_height_20 (i := 1) rfl rfl ?_
      refine aw_iload_n C dX8_height_21 (i := 2) rfl rfl ?_
      refine aw_V2i (k := 5) C dX8_height_22 cv_X8_164 (by decide) rfl rfl rfl (cb_heightOf hI (by omega) (by omega)) ⟨Nat.le_of_ble_eq_true rfl, Nat.le_of_ble_eq_true rfl⟩ (Nat.le_of_ble_eq_true rfl) ?_
      rw [hH a9 ha9 y9 hy9]
      refine aw_goto (tgt := 29) C dX8_height_25 (by decide) ?_
      refine aw_iret C hr dX8_height_29 ?_
      exact PB.mk (by unfold opHeight; rw [if_pos h5, if_pos h13, nI_clamp (by omega), nI_clamp (by omega)]) S9 Q9
theorem bl_bt {h : Nat → Int32} {S n i k : Nat} (hn : n ≤ 8) (hk : k < n) (hik : i ≠ k) : bt (blA h S i n) k = bi (way h S i k) := by
  have hp := pw8 hn
  have hl := mkS_lt (pr8 h S i) n
  rw [bl_mk n hn, bt_bi (by omega) (by omega), mkS_tb _ n k hk]
  unfold pr8
  rw [decide_eq_true hik, Bool.true_and]
set_option maxRecDepth 20000 in
/-- pair -/
theorem cb_pair {l : Launch} {D : va_G} {cy : Nat → ClassId} {z : Nat → Nat} {q : Nat → Nat} (hI : wI 49 q) {len span wires chg : Nat} {text : Nat → Nat} {h was eyes : Nat → Int32} {dsp dwi dat pnx vkn : Nat} {dff lbl lsh lpk : Int32} {lett : Nat → Nat} {num lim now : Nat → Int32} {prw plr hgr : Nat → Nat → Int32} {bk bd wio wys trl : Nat → Int32} {clr : Nat → Int64} {tld tie fst las saw : Nat → Int32} (S9 : okS len span wires chg text h was eyes) (Q9 : bwQ len span wires chg text h was eyes pnx vkn lett now prw plr hgr bk bd tld tie fst las saw) {i k what : Int32} : Ct l yX8_pair cX8_pair 4 (some .int) 5 129 D cy z 49 q [.ref (q 0), .int i, .int k, .int what] (bwC cy q len dsp dwi dat span wires pnx chg vkn dff lbl lsh lpk lett num lim now prw plr hgr bk bd wio wys trl clr tld tie fst las saw) (PB cy q (opPair span wires h i k what, (len, span, wires, chg, text, h, was, eyes))) := by
  refine Ct.of (own := RX8) (by decide) rfl hI (Nat.le_of_ble_eq_true rfl) ?_
  intro p e s m args below meth c C hr
  refine aw_lv (lv' := [(0, .ref (q 0)), (1, .int i), (2, .int k), (3, .int what)]) (fun x hx => hx) ?_
  have S8 := S9
  obtain ⟨hl, hb, hs, hs2, hw, hc, hO, hW, hK⟩ := S8
  have Q8 := Q9
  obtain ⟨hlb, hlt, hA, hP, hH, hB, hn, hR, hE⟩ := Q8
  refine aw_aload_n C dX8_pair_0 (i := 0) rfl rfl ?_
  refine aw_iload_n C dX8_pair_1 (i := 1) rfl rfl ?_
  refine aw_V1i (k := 0) C dX8_pair_2 cv_X8_105 (by decide) rfl rfl rfl (cb_isWire hI hw) ⟨Nat.le_of_ble_eq_true rfl, Nat.le_of_ble_eq_true rfl⟩ (Nat.le_of_ble_eq_true rfl) ?_
  refine aw_if_eq_b (tgt := 21) C dX8_pair_5 (by decide) (fun h5 => ?_) (fun h5 => ?_)
  · refine aw_iconst C dX8_pair_21 ki_m1 ?_
    refine aw_iret C hr dX8_pair_22 ?_
    exact PB.mk (by unfold opPair; rw [if_neg (by rw [h5]; decide)]) S9 Q9
  · refine aw_aload_n C dX8_pair_8 (i := 0) rfl rfl ?_
    refine aw_iload_n C dX8_pair_9 (i := 2) rfl rfl ?_
    refine aw_V1i (k := 0) C dX8_pair_10 cv_X8_105 (by decide) rfl rfl rfl (cb_isWire hI hw) ⟨Nat.le_of_ble_eq_true rfl, Nat.le_of_ble_eq_true rfl⟩ (Nat.le_of_ble_eq_true rfl) ?_
    refine aw_if_eq_b (tgt := 21) C dX8_pair_13 (by decide) (fun h13 => ?_) (fun h13 => ?_)
    · refine aw_iconst C dX8_pair_21 ki_m1 ?_
      refine aw_iret C hr dX8_pair_22 ?_
      exact PB.mk (by unfold opPair; rw [if_pos h5, if_neg (by rw [h13]; decide)]) S9 Q9
    · obtain ⟨a9, ha9, rfl⟩ := wr_of hw h5
      obtain ⟨b9, hb9, rfl⟩ := wr_of hw h13
      refine aw_iload_n C dX8_pair_16 (i := 1) rfl rfl ?_
      refine aw_iload_n C dX8_pair_17 (i := 2) rfl rfl ?_
      refine aw_icmp_ne_n (tgt := 23) C dX8_pair_18 (by decide) (by omega) (by omega) (fun h18 => ?_) (fun h18 => ?_)
      · refine aw_iload_n C dX8_pair_23 (i := 3) rfl rfl ?_
        by_cases hsw : 0 ≤ what.toInt ∧ what.toInt ≤ 3
        · rcases (show what.toInt = 0 ∨ what.toInt = 1 ∨ what.toInt = 2 ∨ what.toInt = 3 by omega) with hsw | hsw | hsw | hsw
          · obtain rfl : what = nI 0 := Int32.toInt_inj.mp (by rw [hsw]; rfl)
            refine aw_tin (tgt := 56) (off := 32) (v := 0) C dX8_pair_24 hsw (by decide) (by decide) rfl (by decide) ?_
            refine aw_aload_n C dX8_pair_56 (i := 0) rfl rfl ?_
            refine aw_get (k := 0) C dX8_pair_57 fl_X8_42 (by decide) rfl rfl ?_
            refine aw_iload_n C dX8_pair_60 (i := 1) rfl rfl ?_
            refine aw_iload_n C dX8_pair_61 (i := 2) rfl rfl ?_
            refine aw_V2i (k := 5) C dX8_pair_62 cv_X8_173 (by decide) rfl rfl rfl (cb_firstNear hI ha9 hb9 hO hP hH hA hs hs2 hw) ⟨Nat.le_of_ble_eq_true rfl, Nat.le_of_ble_eq_true rfl⟩ (Nat.le_of_ble_eq_true rfl) ?_
            refine aw_iret C hr dX8_pair_65 ?_
            exact PB.mk (by unfold opPair; rw [if_pos h5, if_pos h13, if_neg (fun e9 => h18 ((nI_eq (by omega) (by omega)).mp e9)), if_pos (by decide), if_pos rfl, nI_clamp (by omega), nI_clamp (by omega)]) S9 Q9
          · obtain rfl : what = nI 1 := Int32.toInt_inj.mp (by rw [hsw]; rfl)
            refine aw_tin (tgt := 66) (off := 42) (v := 1) C dX8_pair_24 hsw (by decide) (by decide) rfl (by decide) ?_
            refine aw_aload_n C dX8_pair_66 (i := 0) rfl rfl ?_
            refine aw_get (k := 0) C dX8_pair_67 fl_X8_42 (by decide) rfl rfl ?_
            refine aw_iload_n C dX8_pair_70 (i := 1) rfl rfl ?_
            refine aw_iload_n C dX8_pair_71 (i := 2) rfl rfl ?_
            refine aw_V2i (k := 5) C dX8_pair_72 cv_X8_176 (by decide) rfl rfl rfl (cb_nearRows hI ha9 hb9 hO hP hH hA hs hs2 hw) ⟨Nat.le_of_ble_eq_true rfl, Nat.le_of_ble_eq_true rfl⟩ (Nat.le_of_ble_eq_true rfl) ?_
            refine aw_iret C hr dX8_pair_75 ?_
            exact PB.mk (by unfold opPair; rw [if_pos h5, if_pos h13, if_neg (fun e9 => h18 ((nI_eq (by omega) (by omega)).mp e9)), if_pos (by decide), if_neg (by decide), if_pos rfl, nI_clamp (by omega), nI_clamp (by omega)]) S9 Q9
          · obtain rfl : what = nI 2 := Int32.toInt_inj.mp (by rw [hsw]; rfl)
            refine aw_tin (tgt := 76) (off := 52) (v := 2) C dX8_pair_24 hsw (by decide) (by decide) rfl (by decide) ?_
            refine aw_aload_n C dX8_pair_76 (i := 0) rfl rfl ?_
            refine aw_get (k := 0) C dX8_pair_77 fl_X8_42 (by decide) rfl rfl ?_
            refine aw_iload_n C dX8_pair_80 (i := 1) rfl rfl ?_
            refine aw_iload_n C dX8_pair_81 (i := 2) rfl rfl ?_
            refine aw_V2i (k := 5) C dX8_pair_82 cv_X8_179 (by decide) rfl rfl rfl (cb_cross hI ha9 hb9 hO hP hH hs hs2 hw) ⟨Nat.le_of_ble_eq_true rfl, Nat.le_of_ble_eq_true rfl⟩ (Nat.le_of_ble_eq_true rfl) ?_
            refine aw_if_eq_b (tgt := 92) C dX8_pair_85 (by decide) (fun h85 => ?_) (fun h85 => ?_)
            · refine aw_iconst C dX8_pair_92 ki_0 ?_
              refine aw_iret C hr dX8_pair_93 ?_
              exact PB.mk (by unfold opPair; rw [if_pos h5, if_pos h13, if_neg (fun e9 => h18 ((nI_eq (by omega) (by omega)).mp e9)), if_pos (by decide), if_neg (by decide), if_neg (by decide), if_pos rfl, nI_clamp (by omega), nI_clamp (by omega)]; rw [← bi_f h85]) S9 Q9
            · refine aw_iconst C dX8_pair_88 ki_1 ?_
              refine aw_goto (tgt := 93) C dX8_pair_89 (by decide) ?_
              refine aw_iret C hr dX8_pair_93 ?_
              exact PB.mk (by unfold opPair; rw [if_pos h5, if_pos h13, if_neg (fun e9 => h18 ((nI_eq (by omega) (by omega)).mp e9)), if_pos (by decide), if_neg (by decide), if_neg (by decide), if_pos rfl, nI_clamp (by omega), nI_clamp (by omega)]; rw [← bi_t h85]) S9 Q9
          · obtain rfl : what = nI 3 := Int32.toInt_inj.mp (by rw [hsw]; rfl)
            refine aw_tin (tgt := 94) (off := 70) (v := 3) C dX8_pair_24 hsw (by decide) (by decide) rfl (by decide) ?_
            refine aw_aload_n C dX8_pair_94 (i := 0) rfl rfl ?_
            refine aw_get (k := 0) C dX8_pair_95 fl_X8_42 (by decide) rfl rfl ?_
            refine aw_iload_n C dX8_pair_98 (i := 1) rfl rfl ?_
            refine aw_V1x (k := 5) C dX8_pair_99 cv_X8_183 (by decide) rfl rfl rfl (cb_blockersOf hI (by omega) hO hP hH hA hB hs hs2 hw) ⟨Nat.le_of_ble_eq_true rfl, Nat.le_of_ble_eq_true rfl⟩ (Nat.le_of_ble_eq_true rfl) (fun x g hp9 => ?_)
            obtain ⟨rfl, b8, b9, rfl, m9⟩ := hp9
            refine aw_iload_n C dX8_pair_102 (i := 2) rfl rfl ?_
            refine aw_ishr C dX8_pair_103 ?_
            refine aw_iconst C dX8_pair_104 ki_1 ?_
            refine aw_iand C dX8_pair_105 ?_
            refine aw_iret C hr dX8_pair_106 ?_
            exact PB.mk (by unfold opPair; rw [if_pos h5, if_pos h13, if_neg (fun e9 => h18 ((nI_eq (by omega) (by omega)).mp e9)), if_pos (by decide), if_neg (by decide), if_neg (by decide), if_neg (by decide), nI_clamp (by omega), nI_clamp (by omega)]; rw [← bl_bt hw hb9 h18]; rfl) S9 ⟨hlb, hlt, hA, hP, hH, Or.inr ⟨rfl, m9⟩, hn, hR, hE⟩
        · refine aw_tout (tgt := 107) C dX8_pair_24 (by omega) (by decide) ?_
          refine aw_iconst C dX8_pair_107 ki_m1 ?_
          refine aw_iret C hr dX8_pair_108 ?_
          exact PB.mk (by unfold opPair; rw [if_pos h5, if_pos h13, if_neg (fun e9 => h18 ((nI_eq (by omega) (by omega)).mp e9)), if_neg (fun a9 => by have b9 := inB_iff.mp a9; rw [Int32.le_iff_toInt_le, Int32.le_iff_toInt_le] at b9; exact hsw b9)]) S9 Q9
      · refine aw_iconst C dX8_pair_21 ki_m1 ?_
        refine aw_iret C hr dX8_pair_22 ?_
        exact PB.mk (by unfold opPair; rw [if_pos h5, if_pos h13, if_pos (by rw [h18])]) S9 Q9
set_option maxRecDepth 20000 in
/-- wire -/
theorem cb_wire {l : Launch} {D : va_G} {cy : Nat → ClassId} {z : Nat → Nat} {q : Nat → Nat} (hI : wI 49 q) {len span wires chg : Nat} {text : Nat → Nat} {h was eyes : Nat → Int32} {dsp dwi dat pnx vkn : Nat} {dff lbl lsh lpk : Int32} {lett : Nat → Nat} {num lim now : Nat → Int32} {prw plr hgr : Nat → Nat → Int32} {bk bd wio wys trl : Nat → Int32} {clr : Nat → Int64} {tld tie fst las saw : Nat → Int32} (S9 : okS len span wires chg text h was eyes) (Q9 : bwQ len span wires chg text h was eyes pnx vkn lett now prw plr hgr bk bd tld tie fst las saw) {i what : Int32} : Ct l yX8_wire cX8_wire 3 (some .int) 2 57 D cy z 49 q [.ref (q 0), .int i, .int what] (bwC cy q len dsp dwi dat span wires pnx chg vkn dff lbl lsh lpk lett num lim now prw plr hgr bk bd wio wys trl clr tld tie fst las saw) (PB cy q (opWire span wires h i what, (len, span, wires, chg, text, h, was, eyes))) := by
  refine Ct.of (own := RX8) (by decide) rfl hI (Nat.le_of_ble_eq_true rfl) ?_
  intro p e s m args below meth c C hr
  refine aw_lv (lv' := [(0, .ref (q 0)), (1, .int i), (2, .int what)]) (fun x hx => hx) ?_
  have S8 := S9
  obtain ⟨hl, hb, hs, hs2, hw, hc, hO, hW, hK⟩ := S8
  have Q8 := Q9
  obtain ⟨hlb, hlt, hA, hP, hH, hB, hn, hR, hE⟩ := Q8
  obtain ⟨s9, hs9, e44⟩ := hO.2.2.2.2.2
  have p9 := pw8 hw
  refine aw_aload_n C dX8_wire_0 (i := 0) rfl rfl ?_
  refine aw_iload_n C dX8_wire_1 (i := 1) rfl rfl ?_
  refine aw_V1i (k := 0) C dX8_wire_2 cv_X8_105 (by decide) rfl rfl rfl (cb_isWire hI hw) ⟨Nat.le_of_ble_eq_true rfl, Nat.le_of_ble_eq_true rfl⟩ (Nat.le_of_ble_eq_true rfl) ?_
  refine aw_if_ne_b (tgt := 10) C dX8_wire_5 (by decide) (fun h5 => ?_) (fun h5 => ?_)
  · obtain ⟨a9, ha9, rfl⟩ := wr_of hw h5
    refine aw_iload_n C dX8_wire_10 (i := 2) rfl rfl ?_
    by_cases hsw : 0 ≤ what.toInt ∧ what.toInt ≤ 8
    · rcases (show what.toInt = 0 ∨ what.toInt = 1 ∨ what.toInt = 2 ∨ what.toInt = 3 ∨ what.toInt = 4 ∨ what.toInt = 5 ∨ what.toInt = 6 ∨ what.toInt = 7 ∨ what.toInt = 8 by omega) with hsw | hsw | hsw | hsw | hsw | hsw | hsw | hsw | hsw
      · obtain rfl : what = nI 0 := Int32.toInt_inj.mp (by rw [hsw]; rfl)
        refine aw_tin (tgt := 60) (off := 49) (v := 0) C dX8_wire_11 hsw (by decide) (by decide) rfl (by decide) ?_
        refine aw_aload_n C dX8_wire_60 (i := 0) rfl rfl ?_
        refine aw_get (k := 0) C dX8_wire_61 fl_X8_26 (by decide) rfl rfl ?_
        refine aw_iload_n C dX8_wire_64 (i := 1) rfl rfl ?_
        refine aw_iload_n C dX8_wire_65 (i := 2) rfl rfl ?_
        refine aw_V2i (k := 3) C dX8_wire_66 cv_X8_116 (by decide) rfl rfl rfl (cb_numberOf hI (by omega)) ⟨Nat.le_of_ble_eq_true rfl, Nat.le_of_ble_eq_true rfl⟩ (Nat.le_of_ble_eq_true rfl) ?_
        rw [agr_w hA ha9 (by omega)]
        refine aw_iret C hr dX8_wire_69 ?_
        exact PB.mk (by unfold opWire; rw [if_pos h5, if_pos (by decide), if_neg (by decide), if_neg (by decide), if_neg (by decide), if_neg (by decide), nI_clamp (by omega), nI_clamp (by omega)]) S9 Q9
      · obtain rfl : what = nI 1 := Int32.toInt_inj.mp (by rw [hsw]; rfl)
        refine aw_tin (tgt := 60) (off := 49) (v := 1) C dX8_wire_11 hsw (by decide) (by decide) rfl (by decide) ?_
        refine aw_aload_n C dX8_wire_60 (i := 0) rfl rfl ?_
        refine aw_get (k := 0) C dX8_wire_61 fl_X8_26 (by decide) rfl rfl ?_
        refine aw_iload_n C dX8_wire_64 (i := 1) rfl rfl ?_
        refine aw_iload_n C dX8_wire_65 (i := 2) rfl rfl ?_
        refine aw_V2i (k := 3) C dX8_wire_66 cv_X8_116 (by decide) rfl rfl rfl (cb_numberOf hI (by omega)) ⟨Nat.le_of_ble_eq_true rfl, Nat.le_of_ble_eq_true rfl⟩ (Nat.le_of_ble_eq_true rfl) ?_
        rw [agr_w hA ha9 (by omega)]
        refine aw_iret C hr dX8_wire_69 ?_
        exact PB.mk (by unfold opWire; rw [if_pos h5, if_pos (by decide), if_neg (by decide), if_neg (by decide), if_neg (by decide), if_neg (by decide), nI_clamp (by omega), nI_clamp (by omega)]) S9 Q9
      · obtain rfl : what = nI 2 := Int32.toInt_inj.mp (by rw [hsw]; rfl)
        refine aw_tin (tgt := 60) (off := 49) (v := 2) C dX8_wire_11 hsw (by decide) (by decide) rfl (by decide) ?_
        refine aw_aload_n C dX8_wire_60 (i := 0) rfl rfl ?_
        refine aw_get (k := 0) C dX8_wire_61 fl_X8_26 (by decide) rfl rfl ?_
        refine aw_iload_n C dX8_wire_64 (i := 1) rfl rfl ?_
        refine aw_iload_n C dX8_wire_65 (i := 2) rfl rfl ?_
        refine aw_V2i (k := 3) C dX8_wire_66 cv_X8_116 (by decide) rfl rfl rfl (cb_numberOf hI (by omega)) ⟨Nat.le_of_ble_eq_true rfl, Nat.le_of_ble_eq_true rfl⟩ (Nat.le_of_ble_eq_true rfl) ?_
        rw [agr_w hA ha9 (by omega)]
        refine aw_iret C hr dX8_wire_69 ?_
        exact PB.mk (by unfold opWire; rw [if_pos h5, if_pos (by decide), if_neg (by decide), if_neg (by decide), if_neg (by decide), if_neg (by decide), nI_clamp (by omega), nI_clamp (by omega)]) S9 Q9
      · obtain rfl : what = nI 3 := Int32.toInt_inj.mp (by rw [hsw]; rfl)
        refine aw_tin (tgt := 60) (off := 49) (v := 3) C dX8_wire_11 hsw (by decide) (by decide) rfl (by decide) ?_
        refine aw_aload_n C dX8_wire_60 (i := 0) rfl rfl ?_
        refine aw_get (k := 0) C dX8_wire_61 fl_X8_26 (by decide) rfl rfl ?_
        refine aw_iload_n C dX8_wire_64 (i := 1) rfl rfl ?_
        refine aw_iload_n C dX8_wire_65 (i := 2) rfl rfl ?_
        refine aw_V2i (k := 3) C dX8_wire_66 cv_X8_116 (by decide) rfl rfl rfl (cb_numberOf hI (by omega)) ⟨Nat.le_of_ble_eq_true rfl, Nat.le_of_ble_eq_true rfl⟩ (Nat.le_of_ble_eq_true rfl) ?_
        rw [agr_w hA ha9 (by omega)]
        refine aw_iret C hr dX8_wire_69 ?_
        exact PB.mk (by unfold opWire; rw [if_pos h5, if_pos (by decide), if_neg (by decide), if_neg (by decide), if_neg (by decide), if_neg (by decide), nI_clamp (by omega), nI_clamp (by omega)]) S9 Q9
      · obtain rfl : what = nI 4 := Int32.toInt_inj.mp (by rw [hsw]; rfl)
        refine aw_tin (tgt := 60) (off := 49) (v := 4) C dX8_wire_11 hsw (by decide) (by decide) rfl (by decide) ?_
        refine aw_aload_n C dX8_wire_60 (i := 0) rfl rfl ?_
        refine aw_get (k := 0) C dX8_wire_61 fl_X8_26 (by decide) rfl rfl ?_
        refine aw_iload_n C dX8_wire_64 (i := 1) rfl rfl ?_
        refine aw_iload_n C dX8_wire_65 (i := 2) rfl rfl ?_
        refine aw_V2i (k := 3) C dX8_wire_66 cv_X8_116 (by decide) rfl rfl rfl (cb_numberOf hI (by omega)) ⟨Nat.le_of_ble_eq_true rfl, Nat.le_of_ble_eq_true rfl⟩ (Nat.le_of_ble_eq_true rfl) ?_
        rw [agr_w hA ha9 (by omega)]
        refine aw_iret C hr dX8_wire_69 ?_
        exact PB.mk (by unfold opWire; rw [if_pos h5, if_pos (by decide), if_neg (by decide), if_neg (by decide), if_neg (by decide), if_neg (by decide), nI_clamp (by omega), nI_clamp (by omega)]) S9 Q9
      · obtain rfl : what = nI 5 := Int32.toInt_inj.mp (by rw [hsw]; rfl)
        refine aw_tin (tgt := 70) (off := 59) (v := 5) C dX8_wire_11 hsw (by decide) (by decide) rfl (by decide) ?_
        refine aw_aload_n C dX8_wire_70 (i := 0) rfl rfl ?_
        refine aw_get (k := 0) C dX8_wire_71 fl_X8_26 (by decide) rfl rfl ?_
        refine aw_iload_n C dX8_wire_74 (i := 1) rfl rfl ?_
        refine aw_V1i (k := 3) C dX8_wire_75 cv_X8_155 (by decide) rfl rfl rfl (cb_isBonded hI) ⟨Nat.le_of_ble_eq_true rfl, Nat.le_of_ble_eq_true rfl⟩ (Nat.le_of_ble_eq_true rfl) ?_
        rw [hA 44 (by omega), e44, bd_bi (by omega) (by omega)]
        refine aw_if_eq_b (tgt := 85) C dX8_wire_78 (by decide) (fun h78 => ?_) (fun h78 => ?_)
        · refine aw_iconst C dX8_wire_85 ki_0 ?_
          refine aw_iret C hr dX8_wire_86 ?_
          exact PB.mk (by unfold opWire; rw [if_pos h5, if_pos (by decide), if_pos rfl, nI_clamp (by omega)]; rw [e44, bt_bi (by omega) (by omega), ← bi_f h78]) S9 Q9
        · refine aw_iconst C dX8_wire_81 ki_1 ?_
          refine aw_goto (tgt := 86) C dX8_wire_82 (by decide) ?_
          refine aw_iret C hr dX8_wire_86 ?_
          exact PB.mk (by unfold opWire; rw [if_pos h5, if_pos (by decide), if_pos rfl, nI_clamp (by omega)]; rw [e44, bt_bi (by omega) (by omega), ← bi_t h78]) S9 Q9
      · obtain rfl : what = nI 6 := Int32.toInt_inj.mp (by rw [hsw]; rfl)
        refine aw_tin (tgt := 87) (off := 76) (v := 6) C dX8_wire_11 hsw (by decide) (by decide) rfl (by decide) ?_
        refine aw_aload_n C dX8_wire_87 (i := 0) rfl rfl ?_
        refine aw_get (k := 0) C dX8_wire_88 fl_X8_42 (by decide) rfl rfl ?_
        refine aw_iload_n C dX8_wire_91 (i := 1) rfl rfl ?_
        refine aw_V1i (k := 5) C dX8_wire_92 cv_X8_158 (by decide) rfl rfl rfl (cb_longOf hI ha9 hO hP hH hs hs2 hw) ⟨Nat.le_of_ble_eq_true rfl, Nat.le_of_ble_eq_true rfl⟩ (Nat.le_of_ble_eq_true rfl) ?_
        refine aw_iret C hr dX8_wire_95 ?_
        exact PB.mk (by unfold opWire; rw [if_pos h5, if_pos (by decide), if_neg (by decide), if_pos rfl, nI_clamp (by omega)]) S9 Q9
      · obtain rfl : what = nI 7 := Int32.toInt_inj.mp (by rw [hsw]; rfl)
        refine aw_tin (tgt := 96) (off := 85) (v := 7) C dX8_wire_11 hsw (by decide) (by decide) rfl (by decide) ?_
        refine aw_aload_n C dX8_wire_96 (i := 0) rfl rfl ?_
        refine aw_get (k := 0) C dX8_wire_97 fl_X8_42 (by decide) rfl rfl ?_
        refine aw_iload_n C dX8_wire_100 (i := 1) rfl rfl ?_
        refine aw_aload_n C dX8_wire_101 (i := 0) rfl rfl ?_
        refine aw_get (k := 0) C dX8_wire_102 fl_X8_42 (by decide) rfl rfl ?_
        refine aw_iload_n C dX8_wire_105 (i := 1) rfl rfl ?_
        refine aw_V1i (k := 5) C dX8_wire_106 cv_X8_161 (by decide) rfl rfl rfl (cb_topRow hI ha9 hO hP hH hs hs2 hw) ⟨Nat.le_of_ble_eq_true rfl, Nat.le_of_ble_eq_true rfl⟩ (Nat.le_of_ble_eq_true rfl) ?_
        have t9 := topR_le h span a9 span
        refine aw_V2i (k := 5) C dX8_wire_109 cv_X8_164 (by decide) rfl rfl rfl (cb_heightOf hI (by omega) (by omega)) ⟨Nat.le_of_ble_eq_true rfl, Nat.le_of_ble_eq_true rfl⟩ (Nat.le_of_ble_eq_true rfl) ?_
        rw [hH a9 ha9 _ t9]
        refine aw_iret C hr dX8_wire_112 ?_
        exact PB.mk (by unfold opWire; rw [if_pos h5, if_pos (by decide), if_neg (by decide), if_neg (by decide), if_pos rfl, nI_clamp (by omega)]) S9 Q9
      · obtain rfl : what = nI 8 := Int32.toInt_inj.mp (by rw [hsw]; rfl)
        refine aw_tin (tgt := 113) (off := 102) (v := 8) C dX8_wire_11 hsw (by decide) (by decide) rfl (by decide) ?_
        refine aw_aload_n C dX8_wire_113 (i := 0) rfl rfl ?_
        refine aw_get (k := 0) C dX8_wire_114 fl_X8_42 (by decide) rfl rfl ?_
        refine aw_iload_n C dX8_wire_117 (i := 1) rfl rfl ?_
        refine aw_V1i (k := 5) C dX8_wire_118 cv_X8_161 (by decide) rfl rfl rfl (cb_topRow hI ha9 hO hP hH hs hs2 hw) ⟨Nat.le_of_ble_eq_true rfl, Nat.le_of_ble_eq_true rfl⟩ (Nat.le_of_ble_eq_true rfl) ?_
        have t9 := topR_le h span a9 span
        refine aw_iret C hr dX8_wire_121 ?_
        exact PB.mk (by unfold opWire; rw [if_pos h5, if_pos (by decide), if_neg (by decide), if_neg (by decide), if_neg (by decide), if_pos rfl, nI_clamp (by omega)]) S9 Q9
    · refine aw_tout (tgt := 122) C dX8_wire_11 (by omega) (by decide) ?_
      refine aw_iconst C dX8_wire_122 ki_m1 ?_
      refine aw_iret C hr dX8_wire_123 ?_
      exact PB.mk (by unfold opWire; rw [if_pos h5, if_neg (fun a9 => by have b9 := inB_iff.mp a9; rw [Int32.le_iff_toInt_le, Int32.le_iff_toInt_le] at b9; exact hsw b9)]) S9 Q9
  · refine aw_iconst C dX8_wire_8 ki_m1 ?_
    refine aw_iret C hr dX8_wire_9 ?_
    exact PB.mk (by unfold opWire; rw [if_neg (by rw [h5]; decide)]) S9 Q9
