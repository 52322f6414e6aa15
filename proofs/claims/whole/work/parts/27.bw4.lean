-- BondedWires: pairs in the way; the sights; the sequence
set_option maxRecDepth 20000 in
/-- blockedPairs, its loop -/
theorem cb_blockedPairs_l {l : Launch} {D : va_G} {cy : Nat → ClassId} {z : Nat → Nat} {q : Nat → Nat} {p : Program} {e : Env} {s : State} {m : MethodId} {args : Array Value} {below : List Frame} {meth : Method} {c : Code} (hI : wI 49 q) (C : Cx p s m args meth c cX7_blockedPairs 3 RX7 D cy z 49 q) (hr : meth.sig.returnType = (some .int)) {tl dsp dwi dat bsp bwi pnx phd : Nat} {dff lbl lsh lpk : Int32} {lett : Nat → Nat} {num lim now : Nat → Int32} {prw plr hgr : Nat → Nat → Int32} {wio wys trl : Nat → Int32} {clr : Nat → Int64} {tld tie fst las saw : Nat → Int32} {h : Nat → Int32} (hO : hOK h bwi) (hP : vPl plr h bsp bwi) (hH : vHg hgr h bsp bwi) (hA : agr now h bwi) (hs : 8 ≤ bsp) (hs2 : bsp ≤ 40) (hw : bwi ≤ 8) : ∀ (d : Nat) (k : Nat) (vkn : Nat) (bk : Nat → Int32) (bd : Nat → Int32), bwi - k < d → (k ≤ bwi) → (vkn = 0 ∨ (vkn = 1 ∧ vBk bk bd h bsp bwi)) → AW p l e { frames := 5, cells := 0, slots := 0, locals := 129 } s m args below meth c D 49 q 3 (MQ below (Qg D 49 q (PX (fun x g => x = nI (prS (pr8 h bsp) bwi bwi) ∧ ∃ b8 b9 v9, g = (bwC cy q tl dsp dwi dat bsp bwi pnx phd v9 dff lbl lsh lpk lett num lim now prw plr hgr b8 b9 wio wys trl clr tld tie fst las saw) ∧ (v9 = 0 ∨ (v9 = 1 ∧ vBk b8 b9 h bsp bwi)))) (wA 49 q s.heap.size)) args s 0 0 (wA 49 q s.heap.size)) (bwC cy q tl dsp dwi dat bsp bwi pnx phd vkn dff lbl lsh lpk lett num lim now prw plr hgr bk bd wio wys trl clr tld tie fst las saw) [(0, .ref (q 5)), (1, .int (accI (nI 0) (fun i => bcI (blA h bsp i bwi)) k)), (2, .int (nI k))] 4 [] := by
  intro d
  induction d with
  | zero => intro k vkn bk bd hd; exact absurd hd (Nat.not_lt_zero _)
  | succ d ih =>
    intro k vkn bk bd hd iv0 iv1
    refine aw_iload_n C dX7_blockedPairs_4 (i := 2) rfl rfl ?_
    refine aw_aload_n C dX7_blockedPairs_5 (i := 0) rfl rfl ?_
    refine aw_get (k := 5) C dX7_blockedPairs_6 fl_X7_26 (by decide) rfl rfl ?_
    refine aw_get (k := 3) C dX7_blockedPairs_9 fl_X7_30 (by decide) rfl rfl ?_
    refine aw_icmp_ge_n (tgt := 32) C dX7_blockedPairs_12 (by decide) (by omega) (by omega) (fun h12 => ?_) (fun h12 => ?_)
    · refine aw_iload_n C dX7_blockedPairs_32 (i := 1) rfl rfl ?_
      refine aw_iret C hr dX7_blockedPairs_33 ?_
      exact ⟨_, rfl, by rw [show k = bwi by omega]; exact bp_sum hw bwi (Nat.le_refl _), _, _, _, rfl, iv1⟩
    · refine aw_iload_n C dX7_blockedPairs_15 (i := 1) rfl rfl ?_
      refine aw_aload_n C dX7_blockedPairs_16 (i := 0) rfl rfl ?_
      refine aw_iload_n C dX7_blockedPairs_17 (i := 2) rfl rfl ?_
      refine aw_V1x (k := 5) C dX7_blockedPairs_18 cv_X7_97 (by decide) rfl rfl rfl (cb_blockersOf hI (by omega) hO hP hH hA iv1 hs hs2 hw) ⟨Nat.le_of_ble_eq_true rfl, Nat.le_of_ble_eq_true rfl⟩ (Nat.le_of_ble_eq_true rfl) (fun x g hp9 => ?_)
      obtain ⟨rfl, b8, b9, rfl, hb9⟩ := hp9
      refine aw_S1i C dX7_blockedPairs_21 cs_X7_100 (cb_bitCount hI) ⟨Nat.le_of_ble_eq_true rfl, Nat.le_of_ble_eq_true rfl⟩ (Nat.le_of_ble_eq_true rfl) ?_
      refine aw_iadd C dX7_blockedPairs_24 ?_
      refine aw_istore_n (lv' := [(0, _), (1, _), (2, _)]) C dX7_blockedPairs_25 (i := 1) rfl (Nat.le_of_ble_eq_true rfl) rfl ?_
      refine aw_iinc_n (lv' := [(0, _), (1, _), (2, _)]) C dX7_blockedPairs_26 rfl ki_1 (Nat.le_of_ble_eq_true rfl) rfl ?_
      refine aw_goto (tgt := 4) C dX7_blockedPairs_29 (by decide) ?_
      exact ih (k + 1) _ _ _ (by omega) (by omega) (Or.inr ⟨rfl, hb9⟩)
set_option maxRecDepth 20000 in
/-- blockedPairs -/
theorem cb_blockedPairs {l : Launch} {D : va_G} {cy : Nat → ClassId} {z : Nat → Nat} {q : Nat → Nat} (hI : wI 49 q) {tl dsp dwi dat bsp bwi pnx phd vkn : Nat} {dff lbl lsh lpk : Int32} {lett : Nat → Nat} {num lim now : Nat → Int32} {prw plr hgr : Nat → Nat → Int32} {bk bd wio wys trl : Nat → Int32} {clr : Nat → Int64} {tld tie fst las saw : Nat → Int32} {h : Nat → Int32} (hO : hOK h bwi) (hP : vPl plr h bsp bwi) (hH : vHg hgr h bsp bwi) (hA : agr now h bwi) (hB : vkn = 0 ∨ (vkn = 1 ∧ vBk bk bd h bsp bwi)) (hs : 8 ≤ bsp) (hs2 : bsp ≤ 40) (hw : bwi ≤ 8) : Ct l yX7_blockedPairs cX7_blockedPairs 3 (some .int) 5 129 D cy z 49 q [.ref (q 5)] (bwC cy q tl dsp dwi dat bsp bwi pnx phd vkn dff lbl lsh lpk lett num lim now prw plr hgr bk bd wio wys trl clr tld tie fst las saw) (PX (fun x g => x = nI (prS (pr8 h bsp) bwi bwi) ∧ ∃ b8 b9 v9, g = (bwC cy q tl dsp dwi dat bsp bwi pnx phd v9 dff lbl lsh lpk lett num lim now prw plr hgr b8 b9 wio wys trl clr tld tie fst las saw) ∧ (v9 = 0 ∨ (v9 = 1 ∧ vBk b8 b9 h bsp bwi)))) := by
  refine Ct.of (own := RX7) (by decide) rfl hI (Nat.le_of_ble_eq_true rfl) ?_
  intro p e s m args below meth c C hr
  refine aw_lv (lv' := [(0, .ref (q 5))]) (fun x hx => hx) ?_
  refine aw_iconst C dX7_blockedPairs_0 ki_0 ?_
  refine aw_istore_n (lv' := [(0, _), (1, _)]) C dX7_blockedPairs_1 (i := 1) rfl (Nat.le_of_ble_eq_true rfl) rfl ?_
  refine aw_iconst C dX7_blockedPairs_2 ki_0 ?_
  refine aw_istore_n (lv' := [(0, _), (1, _), (2, _)]) C dX7_blockedPairs_3 (i := 2) rfl (Nat.le_of_ble_eq_true rfl) rfl ?_
  exact cb_blockedPairs_l hI C hr hO hP hH hA hs hs2 hw (bwi + 1) 0 _ _ _ (by omega) (by omega) hB
set_option maxRecDepth 20000 in
/-- clear, its loop -/
theorem cb_sclear_l {l : Launch} {D : va_G} {cy : Nat → ClassId} {z : Nat → Nat} {q : Nat → Nat} {p : Program} {e : Env} {s : State} {m : MethodId} {args : Array Value} {below : List Frame} {meth : Method} {c : Code} (hI : wI 49 q) (C : Cx p s m args meth c cX5_clear 2 RX5 D cy z 49 q) (hr : meth.sig.returnType = none) {tl dsp dwi dat bsp bwi pnx phd vkn : Nat} {dff lbl lsh lpk : Int32} {lett : Nat → Nat} {num lim now : Nat → Int32} {prw plr hgr : Nat → Nat → Int32} {bk bd wio wys trl : Nat → Int32} {clr : Nat → Int64} {tld tie fst las saw : Nat → Int32} : ∀ (d : Nat) (k : Nat), 2 - k < d → (k ≤ 2) → AW p l e { frames := 0, cells := 0, slots := 0, locals := 0 } s m args below meth c D 49 q 2 (MQ below (Qg D 49 q (PV (bwC cy q tl dsp dwi dat bsp bwi pnx phd vkn dff lbl lsh lpk lett num lim now prw plr hgr bk bd wio wys trl clr (cpG (fun _ => nI 0) tld 2) tie fst las saw)) (wA 49 q s.heap.size)) args s 0 0 (wA 49 q s.heap.size)) (bwC cy q tl dsp dwi dat bsp bwi pnx phd vkn dff lbl lsh lpk lett num lim now prw plr hgr bk bd wio wys trl clr (cpG (fun _ => nI 0) tld k) tie fst las saw) [(0, .ref (q 8)), (1, .int (nI k))] 2 [] := by
  intro d
  induction d with
  | zero => intro k hd; exact absurd hd (Nat.not_lt_zero _)
  | succ d ih =>
    intro k hd iv0
    refine aw_iload_n C dX5_clear_2 (i := 1) rfl rfl ?_
    refine aw_iconst C dX5_clear_3 ki_2 ?_
    refine aw_icmp_ge_n (tgt := 20) C dX5_clear_4 (by decide) (by omega) (by omega) (fun h4 => ?_) (fun h4 => ?_)
    · refine aw_vret C hr dX5_clear_20 ?_
      obtain rfl : k = 2 := by omega
      exact ⟨rfl, rfl⟩
    · refine aw_aload_n C dX5_clear_7 (i := 0) rfl rfl ?_
      refine aw_get (k := 8) C dX5_clear_8 fl_X5_9 (by decide) rfl rfl ?_
      refine aw_iload_n C dX5_clear_11 (i := 1) rfl rfl ?_
      refine aw_iconst C dX5_clear_12 ki_0 ?_
      refine aw_zast (k := 44) C dX5_clear_13 (by decide) (rfl) (rfl) (by omega) (by decide) (rfl) (bw_a_tld) ?_
      refine aw_iinc_n (lv' := [(0, _), (1, _)]) C dX5_clear_14 rfl ki_1 (Nat.le_of_ble_eq_true rfl) rfl ?_
      refine aw_goto (tgt := 2) C dX5_clear_17 (by decide) ?_
      rw [cpG_s (fun _ => nI 0) tld k]
      exact ih (k + 1) (by omega) (by omega)
set_option maxRecDepth 20000 in
/-- clear -/
theorem cb_sclear {l : Launch} {D : va_G} {cy : Nat → ClassId} {z : Nat → Nat} {q : Nat → Nat} (hI : wI 49 q) {tl dsp dwi dat bsp bwi pnx phd vkn : Nat} {dff lbl lsh lpk : Int32} {lett : Nat → Nat} {num lim now : Nat → Int32} {prw plr hgr : Nat → Nat → Int32} {bk bd wio wys trl : Nat → Int32} {clr : Nat → Int64} {tld tie fst las saw : Nat → Int32} : Ct l yX5_clear cX5_clear 2 none 0 0 D cy z 49 q [.ref (q 8)] (bwC cy q tl dsp dwi dat bsp bwi pnx phd vkn dff lbl lsh lpk lett num lim now prw plr hgr bk bd wio wys trl clr tld tie fst las saw) (PV (bwC cy q tl dsp dwi dat bsp bwi pnx phd vkn dff lbl lsh lpk lett num lim now prw plr hgr bk bd wio wys trl clr (cpG (fun _ => nI 0) tld 2) tie fst las saw)) := by
  refine Ct.of (own := RX5) (by decide) rfl hI (Nat.le_of_ble_eq_true rfl) ?_
  intro p e s m args below meth c C hr
  refine aw_lv (lv' := [(0, .ref (q 8))]) (fun x hx => hx) ?_
  refine aw_iconst C dX5_clear_0 ki_0 ?_
  refine aw_istore_n (lv' := [(0, _), (1, _)]) C dX5_clear_1 (i := 1) rfl (Nat.le_of_ble_eq_true rfl) rfl ?_
  refine aw_fq (f' := (bwC cy q tl dsp dwi dat bsp bwi pnx phd vkn dff lbl lsh lpk lett num lim now prw plr hgr bk bd wio wys trl clr (cpG (fun _ => nI 0) tld 0) tie fst las saw)) (by rw [cpG_0]) ?_
  exact cb_sclear_l hI C hr 3 0 (by omega) (by omega)
set_option maxRecDepth 20000 in
/-- tell -/
theorem cb_tell {l : Launch} {D : va_G} {cy : Nat → ClassId} {z : Nat → Nat} {q : Nat → Nat} (hI : wI 49 q) {tl dsp dwi dat bsp bwi pnx phd vkn : Nat} {dff lbl lsh lpk : Int32} {lett : Nat → Nat} {num lim now : Nat → Int32} {prw plr hgr : Nat → Nat → Int32} {bk bd wio wys trl : Nat → Int32} {clr : Nat → Int64} {tld tie fst las saw : Nat → Int32} {u : Nat} {t a b x : Int32} (hu : u < 2) : Ct l yX5_tell cX5_tell 6 none 0 0 D cy z 49 q [.ref (q 8), .int (nI u), .int t, .int a, .int b, .int x] (bwC cy q tl dsp dwi dat bsp bwi pnx phd vkn dff lbl lsh lpk lett num lim now prw plr hgr bk bd wio wys trl clr tld tie fst las saw) (PV (bwC cy q tl dsp dwi dat bsp bwi pnx phd vkn dff lbl lsh lpk lett num lim now prw plr hgr bk bd wio wys trl clr (upd tld u (nI 1)) (upd tie u t) (upd fst u a) (upd las u b) (upd saw u x))) := by
  refine Ct.of (own := RX5) (by decide) rfl hI (Nat.le_of_ble_eq_true rfl) ?_
  intro p e s m args below meth c C hr
  refine aw_lv (lv' := [(0, .ref (q 8)), (1, .int (nI u)), (2, .int t), (3, .int a), (4, .int b), (5, .int x)]) (fun x hx => hx) ?_
  refine aw_aload_n C dX5_tell_0 (i := 0) rfl rfl ?_
  refine aw_get (k := 8) C dX5_tell_1 fl_X5_9 (by decide) rfl rfl ?_
  refine aw_iload_n C dX5_tell_4 (i := 1) rfl rfl ?_
  refine aw_iconst C dX5_tell_5 ki_1 ?_
  refine aw_zast (k := 44) C dX5_tell_6 (by decide) (rfl) (rfl) (by omega) (by decide) (rfl) (bw_a_tld) ?_
  refine aw_aload_n C dX5_tell_7 (i := 0) rfl rfl ?_
  refine aw_get (k := 8) C dX5_tell_8 fl_X5_15 (by decide) rfl rfl ?_
  refine aw_iload_n C dX5_tell_11 (i := 1) rfl rfl ?_
  refine aw_iload_n C dX5_tell_12 (i := 2) rfl rfl ?_
  refine aw_iast (k := 45) C dX5_tell_13 (by decide) (rfl) (rfl) (by omega) (by decide) (bw_a_tie) ?_
  refine aw_aload_n C dX5_tell_14 (i := 0) rfl rfl ?_
  refine aw_get (k := 8) C dX5_tell_15 fl_X5_19 (by decide) rfl rfl ?_
  refine aw_iload_n C dX5_tell_18 (i := 1) rfl rfl ?_
  refine aw_iload_n C dX5_tell_19 (i := 3) rfl rfl ?_
  refine aw_iast (k := 46) C dX5_tell_20 (by decide) (rfl) (rfl) (by omega) (by decide) (bw_a_fst) ?_
  refine aw_aload_n C dX5_tell_21 (i := 0) rfl rfl ?_
  refine aw_get (k := 8) C dX5_tell_22 fl_X5_22 (by decide) rfl rfl ?_
  refine aw_iload_n C dX5_tell_25 (i := 1) rfl rfl ?_
  refine aw_iload C dX5_tell_26 rfl ?_
  refine aw_iast (k := 47) C dX5_tell_28 (by decide) (rfl) (rfl) (by omega) (by decide) (bw_a_las) ?_
  refine aw_aload_n C dX5_tell_29 (i := 0) rfl rfl ?_
  refine aw_get (k := 8) C dX5_tell_30 fl_X5_25 (by decide) rfl rfl ?_
  refine aw_iload_n C dX5_tell_33 (i := 1) rfl rfl ?_
  refine aw_iload C dX5_tell_34 rfl ?_
  refine aw_iast (k := 48) C dX5_tell_36 (by decide) (rfl) (rfl) (by omega) (by decide) (bw_a_saw) ?_
  refine aw_vret C hr dX5_tell_37 ?_
  exact ⟨rfl, rfl⟩
set_option maxRecDepth 20000 in
/-- howMany, its loop -/
theorem cb_showMany_l {l : Launch} {D : va_G} {cy : Nat → ClassId} {z : Nat → Nat} {q : Nat → Nat} {p : Program} {e : Env} {s : State} {m : MethodId} {args : Array Value} {below : List Frame} {meth : Method} {c : Code} (hI : wI 49 q) (C : Cx p s m args meth c cX5_howMany 3 RX5 D cy z 49 q) (hr : meth.sig.returnType = (some .int)) {tl dsp dwi dat bsp bwi pnx phd vkn : Nat} {dff lbl lsh lpk : Int32} {lett : Nat → Nat} {num lim now : Nat → Int32} {prw plr hgr : Nat → Nat → Int32} {bk bd wio wys trl : Nat → Int32} {clr : Nat → Int64} {tld tie fst las saw : Nat → Int32} : ∀ (d : Nat) (k : Nat), 2 - k < d → (k ≤ 2) → AW p l e { frames := 0, cells := 0, slots := 0, locals := 0 } s m args below meth c D 49 q 3 (MQ below (Qg D 49 q (PI (nI (cntB (fun e => decide (¬ tld e = 0)) 2)) (bwC cy q tl dsp dwi dat bsp bwi pnx phd vkn dff lbl lsh lpk lett num lim now prw plr hgr bk bd wio wys trl clr tld tie fst las saw)) (wA 49 q s.heap.size)) args s 0 0 (wA 49 q s.heap.size)) (bwC cy q tl dsp dwi dat bsp bwi pnx phd vkn dff lbl lsh lpk lett num lim now prw plr hgr bk bd wio wys trl clr tld tie fst las saw) [(0, .ref (q 8)), (1, .int (nI (cntB (fun e => decide (¬ tld e = 0)) k))), (2, .int (nI k))] 4 [] := by
  intro d
  induction d with
  | zero => intro k hd; exact absurd hd (Nat.not_lt_zero _)
  | succ d ih =>
    intro k hd iv0
    refine aw_iload_n C dX5_howMany_4 (i := 2) rfl rfl ?_
    refine aw_iconst C dX5_howMany_5 ki_2 ?_
    refine aw_icmp_ge_n (tgt := 27) C dX5_howMany_6 (by decide) (by omega) (by omega) (fun h6 => ?_) (fun h6 => ?_)
    · refine aw_iload_n C dX5_howMany_27 (i := 1) rfl rfl ?_
      refine aw_iret C hr dX5_howMany_28 ?_
      exact PI.mk (by rw [show k = 2 by omega]) rfl
    · refine aw_aload_n C dX5_howMany_9 (i := 0) rfl rfl ?_
      refine aw_get (k := 8) C dX5_howMany_10 fl_X5_9 (by decide) rfl rfl ?_
      refine aw_iload_n C dX5_howMany_13 (i := 2) rfl rfl ?_
      refine aw_zald (k := 44) C dX5_howMany_14 (by decide) (rfl) (rfl) (by omega) (by decide) (rfl) ?_
      refine aw_if_eq (tgt := 21) C dX5_howMany_15 (by decide) (fun h15 => ?_) (fun h15 => ?_)
      · refine aw_iinc_n (lv' := [(0, _), (1, _), (2, _)]) C dX5_howMany_21 rfl ki_1 (Nat.le_of_ble_eq_true rfl) rfl ?_
        refine aw_goto (tgt := 4) C dX5_howMany_24 (by decide) ?_
        have e9 := cntB_n (p := (fun e => decide (¬ tld e = 0))) (n := k) (by simp [h15])
        have k9 := ih (k + 1) (by omega) (by omega)
        rw [e9] at k9
        exact k9
      · refine aw_iinc_n (lv' := [(0, _), (1, _), (2, _)]) C dX5_howMany_18 rfl ki_1 (Nat.le_of_ble_eq_true rfl) rfl ?_
        refine aw_iinc_n (lv' := [(0, _), (1, _), (2, _)]) C dX5_howMany_21 rfl ki_1 (Nat.le_of_ble_eq_true rfl) rfl ?_
        refine aw_goto (tgt := 4) C dX5_howMany_24 (by decide) ?_
        have e9 := cntB_t (p := (fun e => decide (¬ tld e = 0))) (n := k) (by simp [h15])
        have k9 := ih (k + 1) (by omega) (by omega)
        rw [e9] at k9
        exact k9
set_option maxRecDepth 20000 in
/-- howMany -/
theorem cb_showMany {l : Launch} {D : va_G} {cy : Nat → ClassId} {z : Nat → Nat} {q : Nat → Nat} (hI : wI 49 q) {tl dsp dwi dat bsp bwi pnx phd vkn : Nat} {dff lbl lsh lpk : Int32} {lett : Nat → Nat} {num lim now : Nat → Int32} {prw plr hgr : Nat → Nat → Int32} {bk bd wio wys trl : Nat → Int32} {clr : Nat → Int64} {tld tie fst las saw : Nat → Int32} : Ct l yX5_howMany cX5_howMany 3 (some .int) 0 0 D cy z 49 q [.ref (q 8)] (bwC cy q tl dsp dwi dat bsp bwi pnx phd vkn dff lbl lsh lpk lett num lim now prw plr hgr bk bd wio wys trl clr tld tie fst las saw) (PI (nI (cntB (fun e => decide (¬ tld e = 0)) 2)) (bwC cy q tl dsp dwi dat bsp bwi pnx phd vkn dff lbl lsh lpk lett num lim now prw plr hgr bk bd wio wys trl clr tld tie fst las saw)) := by
  refine Ct.of (own := RX5) (by decide) rfl hI (Nat.le_of_ble_eq_true rfl) ?_
  intro p e s m args below meth c C hr
  refine aw_lv (lv' := [(0, .ref (q 8))]) (fun x hx => hx) ?_
  refine aw_iconst C dX5_howMany_0 ki_0 ?_
  refine aw_istore_n (lv' := [(0, _), (1, _)]) C dX5_howMany_1 (i := 1) rfl (Nat.le_of_ble_eq_true rfl) rfl ?_
  refine aw_iconst C dX5_howMany_2 ki_0 ?_
  refine aw_istore_n (lv' := [(0, _), (1, _), (2, _)]) C dX5_howMany_3 (i := 2) rfl (Nat.le_of_ble_eq_true rfl) rfl ?_
  exact cb_showMany_l hI C hr 3 0 (by omega) (by omega)
set_option maxRecDepth 20000 in
/-- seen, its loop -/
theorem cb_seen_l {l : Launch} {D : va_G} {cy : Nat → ClassId} {z : Nat → Nat} {q : Nat → Nat} {p : Program} {e : Env} {s : State} {m : MethodId} {args : Array Value} {below : List Frame} {meth : Method} {c : Code} (hI : wI 49 q) (C : Cx p s m args meth c cX5_seen 10 RX5 D cy z 49 q) (hr : meth.sig.returnType = (some .int)) {tl dsp dwi dat bsp bwi pnx phd vkn : Nat} {dff lbl lsh lpk : Int32} {lett : Nat → Nat} {num lim now : Nat → Int32} {prw plr hgr : Nat → Nat → Int32} {bk bd wio wys trl : Nat → Int32} {clr : Nat → Int64} {tld tie fst las saw : Nat → Int32} {t a b x : Int32} {h : Nat → Int32} (hO : hOK h bwi) (hA : agr now h bwi) (hx : -9 ≤ x.toInt ∧ x.toInt ≤ 9) (ha : sml a) (hb : sml b) (hw : bwi ≤ 8) : ∀ (d : Nat) (i : Nat), bwi - i < d → (i ≤ bwi) → AW p l e { frames := 1, cells := 0, slots := 0, locals := 22 } s m args below meth c D 49 q 10 (MQ below (Qg D 49 q (PI (snI h bwi t a b x) (bwC cy q tl dsp dwi dat bsp bwi pnx phd vkn dff lbl lsh lpk lett num lim now prw plr hgr bk bd wio wys trl clr tld tie fst las saw)) (wA 49 q s.heap.size)) args s 0 0 (wA 49 q s.heap.size)) (bwC cy q tl dsp dwi dat bsp bwi pnx phd vkn dff lbl lsh lpk lett num lim now prw plr hgr bk bd wio wys trl clr tld tie fst las saw) [(0, .ref (q 8)), (1, .int t), (2, .int a), (3, .int b), (4, .int x), (5, .int (snA h t a b x i)), (6, .int (snH h t a b x i)), (7, .int (nI i))] 9 [] := by
  intro d
  induction d with
  | zero => intro i hd; exact absurd hd (Nat.not_lt_zero _)
  | succ d ih =>
    intro i hd iv0
    refine aw_iload C dX5_seen_9 rfl ?_
    refine aw_aload_n C dX5_seen_11 (i := 0) rfl rfl ?_
    refine aw_get (k := 8) C dX5_seen_12 fl_X5_28 (by decide) rfl rfl ?_
    refine aw_get (k := 3) C dX5_seen_15 fl_X5_32 (by decide) rfl rfl ?_
    refine aw_icmp_ge_n (tgt := 112) C dX5_seen_18 (by decide) (by omega) (by omega) (fun h18 => ?_) (fun h18 => ?_)
    · refine aw_iload C dX5_seen_112 rfl ?_
      refine aw_iload C dX5_seen_114 rfl ?_
      refine aw_iconst C dX5_seen_116 ki_m1 ?_
      refine aw_ixor C dX5_seen_117 ?_
      refine aw_iand C dX5_seen_118 ?_
      refine aw_iret C hr dX5_seen_119 ?_
      exact PI.mk (by rw [show i = bwi by omega]; rfl) rfl
    · refine aw_aload_n C dX5_seen_21 (i := 0) rfl rfl ?_
      refine aw_get (k := 8) C dX5_seen_22 fl_X5_28 (by decide) rfl rfl ?_
      refine aw_iload C dX5_seen_25 rfl ?_
      refine aw_iconst C dX5_seen_27 ki_0 ?_
      refine aw_V2i (k := 3) C dX5_seen_28 cv_X5_38 (by decide) rfl rfl rfl (cb_numberOf hI (by omega)) ⟨Nat.le_of_ble_eq_true rfl, Nat.le_of_ble_eq_true rfl⟩ (Nat.le_of_ble_eq_true rfl) ?_
      rw [agr_w hA (by omega) (by omega), show h (5 * i + 0) = h (5 * i) from rfl]
      refine aw_iload C dX5_seen_31 rfl ?_
      refine aw_iadd C dX5_seen_33 ?_
      refine aw_istore (lv' := [(0, _), (1, _), (2, _), (3, _), (4, _), (5, _), (6, _), (7, _), (8, _)]) C dX5_seen_34 (Nat.le_of_ble_eq_true rfl) rfl ?_
      refine aw_aload_n C dX5_seen_36 (i := 0) rfl rfl ?_
      refine aw_get (k := 8) C dX5_seen_37 fl_X5_28 (by decide) rfl rfl ?_
      refine aw_iload C dX5_seen_40 rfl ?_
      refine aw_iconst C dX5_seen_42 ki_1 ?_
      refine aw_V2i (k := 3) C dX5_seen_43 cv_X5_38 (by decide) rfl rfl rfl (cb_numberOf hI (by omega)) ⟨Nat.le_of_ble_eq_true rfl, Nat.le_of_ble_eq_true rfl⟩ (Nat.le_of_ble_eq_true rfl) ?_
      rw [agr_w hA (by omega) (by omega)]
      refine aw_istore (lv' := [(0, _), (1, _), (2, _), (3, _), (4, _), (5, _), (6, _), (7, _), (8, _), (9, _)]) C dX5_seen_46 (Nat.le_of_ble_eq_true rfl) rfl ?_
      have hX9 : sml (h (5 * i) + x) := by obtain ⟨⟨t9, ht9, e9⟩, -⟩ := hO.1 i (by omega); rw [e9]; exact sml_ad (by omega) (by omega)
      refine aw_iload C dX5_seen_48 rfl ?_
      refine aw_iload_n C dX5_seen_50 (i := 2) rfl rfl ?_
      refine aw_icmp_lt (tgt := 77) C dX5_seen_51 (by decide) (fun h51 => ?_) (fun h51 => ?_)
      · refine aw_iload C dX5_seen_77 rfl ?_
        refine aw_iload_n C dX5_seen_79 (i := 2) rfl rfl ?_
        refine aw_icmp_lt (tgt := 106) C dX5_seen_80 (by decide) (fun h80 => ?_) (fun h80 => absurd h51 h80)
        refine aw_iinc_n (lv' := [(0, _), (1, _), (2, _), (3, _), (4, _), (5, _), (6, _), (7, _), (8, _), (9, _)]) C dX5_seen_106 rfl ki_1 (Nat.le_of_ble_eq_true rfl) rfl ?_
        refine aw_goto (tgt := 9) C dX5_seen_109 (by decide) ?_
        refine aw_take 8 (lv' := [(0, _), (1, _), (2, _), (3, _), (4, _), (5, _), (6, _), (7, _)]) rfl ?_
        have hin : ¬ inB (h (5 * i) + x - a) (nI 0) (b - a) = true := by rw [inB_sh hX9 ha hb]; simp only [Bool.and_eq_true, Bool.or_eq_true, decide_eq_true_eq, Int32.le_iff_toInt_le, Int32.lt_iff_toInt_lt] at h51 ⊢; omega
        have k9 := ih (i + 1) (by omega) (by omega)
        rw [snA_s, if_neg hin, snH_s, if_neg hin] at k9
        exact k9
      · refine aw_iload C dX5_seen_54 rfl ?_
        refine aw_iload_n C dX5_seen_56 (i := 3) rfl rfl ?_
        refine aw_icmp_gt (tgt := 77) C dX5_seen_57 (by decide) (fun h57 => ?_) (fun h57 => ?_)
        · refine aw_iload C dX5_seen_77 rfl ?_
          refine aw_iload_n C dX5_seen_79 (i := 2) rfl rfl ?_
          refine aw_icmp_lt (tgt := 106) C dX5_seen_80 (by decide) (fun h80 => absurd h80 h51) (fun h80 => ?_)
          refine aw_iload C dX5_seen_83 rfl ?_
          refine aw_iload_n C dX5_seen_85 (i := 3) rfl rfl ?_
          refine aw_icmp_gt (tgt := 106) C dX5_seen_86 (by decide) (fun h86 => ?_) (fun h86 => absurd h57 h86)
          refine aw_iinc_n (lv' := [(0, _), (1, _), (2, _), (3, _), (4, _), (5, _), (6, _), (7, _), (8, _), (9, _)]) C dX5_seen_106 rfl ki_1 (Nat.le_of_ble_eq_true rfl) rfl ?_
          refine aw_goto (tgt := 9) C dX5_seen_109 (by decide) ?_
          refine aw_take 8 (lv' := [(0, _), (1, _), (2, _), (3, _), (4, _), (5, _), (6, _), (7, _)]) rfl ?_
          have hin : ¬ inB (h (5 * i) + x - a) (nI 0) (b - a) = true := by rw [inB_sh hX9 ha hb]; simp only [Bool.and_eq_true, Bool.or_eq_true, decide_eq_true_eq, Int32.le_iff_toInt_le, Int32.lt_iff_toInt_lt] at h51 h57 ⊢; omega
          have k9 := ih (i + 1) (by omega) (by omega)
          rw [snA_s, if_neg hin, snH_s, if_neg hin] at k9
          exact k9
        · refine aw_iload C dX5_seen_60 rfl ?_
          refine aw_iload_n C dX5_seen_62 (i := 1) rfl rfl ?_
          refine aw_icmp_ne (tgt := 77) C dX5_seen_63 (by decide) (fun h63 => ?_) (fun h63 => ?_)
          · refine aw_iload C dX5_seen_77 rfl ?_
            refine aw_iload_n C dX5_seen_79 (i := 2) rfl rfl ?_
            refine aw_icmp_lt (tgt := 106) C dX5_seen_80 (by decide) (fun h80 => absurd h80 h51) (fun h80 => ?_)
            refine aw_iload C dX5_seen_83 rfl ?_
            refine aw_iload_n C dX5_seen_85 (i := 3) rfl rfl ?_
            refine aw_icmp_gt (tgt := 106) C dX5_seen_86 (by decide) (fun h86 => absurd h86 h57) (fun h86 => ?_)
            refine aw_iload C dX5_seen_89 rfl ?_
            refine aw_iload_n C dX5_seen_91 (i := 1) rfl rfl ?_
            refine aw_icmp_le (tgt := 106) C dX5_seen_92 (by decide) (fun h92 => ?_) (fun h92 => ?_)
            · refine aw_iinc_n (lv' := [(0, _), (1, _), (2, _), (3, _), (4, _), (5, _), (6, _), (7, _), (8, _), (9, _)]) C dX5_seen_106 rfl ki_1 (Nat.le_of_ble_eq_true rfl) rfl ?_
              refine aw_goto (tgt := 9) C dX5_seen_109 (by decide) ?_
              refine aw_take 8 (lv' := [(0, _), (1, _), (2, _), (3, _), (4, _), (5, _), (6, _), (7, _)]) rfl ?_
              have hin : inB (h (5 * i) + x - a) (nI 0) (b - a) = true := by rw [inB_sh hX9 ha hb, decide_eq_true (i_le h51), decide_eq_true (i_le h57)]; rfl
              have k9 := ih (i + 1) (by omega) (by omega)
              rw [snA_s, if_pos hin, if_neg h63, or0, snH_s, if_pos hin, if_neg (i_nlt h92), or0] at k9
              exact k9
            · refine aw_iload C dX5_seen_95 rfl ?_
              refine aw_iconst C dX5_seen_97 ki_1 ?_
              refine aw_iload C dX5_seen_98 rfl ?_
              refine aw_iload_n C dX5_seen_100 (i := 2) rfl rfl ?_
              refine aw_isub C dX5_seen_101 ?_
              refine aw_ishl C dX5_seen_102 ?_
              refine aw_ior C dX5_seen_103 ?_
              refine aw_istore (lv' := [(0, _), (1, _), (2, _), (3, _), (4, _), (5, _), (6, _), (7, _), (8, _), (9, _)]) C dX5_seen_104 (Nat.le_of_ble_eq_true rfl) rfl ?_
              refine aw_iinc_n (lv' := [(0, _), (1, _), (2, _), (3, _), (4, _), (5, _), (6, _), (7, _), (8, _), (9, _)]) C dX5_seen_106 rfl ki_1 (Nat.le_of_ble_eq_true rfl) rfl ?_
              refine aw_goto (tgt := 9) C dX5_seen_109 (by decide) ?_
              refine aw_take 8 (lv' := [(0, _), (1, _), (2, _), (3, _), (4, _), (5, _), (6, _), (7, _)]) rfl ?_
              have hin : inB (h (5 * i) + x - a) (nI 0) (b - a) = true := by rw [inB_sh hX9 ha hb, decide_eq_true (i_le h51), decide_eq_true (i_le h57)]; rfl
              have k9 := ih (i + 1) (by omega) (by omega)
              rw [snA_s, if_pos hin, if_neg h63, or0, snH_s, if_pos hin, if_pos (i_lt h92)] at k9
              exact k9
          · refine aw_iload C dX5_seen_66 rfl ?_
            refine aw_iconst C dX5_seen_68 ki_1 ?_
            refine aw_iload C dX5_seen_69 rfl ?_
            refine aw_iload_n C dX5_seen_71 (i := 2) rfl rfl ?_
            refine aw_isub C dX5_seen_72 ?_
            refine aw_ishl C dX5_seen_73 ?_
            refine aw_ior C dX5_seen_74 ?_
            refine aw_istore (lv' := [(0, _), (1, _), (2, _), (3, _), (4, _), (5, _), (6, _), (7, _), (8, _), (9, _)]) C dX5_seen_75 (Nat.le_of_ble_eq_true rfl) rfl ?_
            refine aw_iload C dX5_seen_77 rfl ?_
            refine aw_iload_n C dX5_seen_79 (i := 2) rfl rfl ?_
            refine aw_icmp_lt (tgt := 106) C dX5_seen_80 (by decide) (fun h80 => absurd h80 h51) (fun h80 => ?_)
            refine aw_iload C dX5_seen_83 rfl ?_
            refine aw_iload_n C dX5_seen_85 (i := 3) rfl rfl ?_
            refine aw_icmp_gt (tgt := 106) C dX5_seen_86 (by decide) (fun h86 => absurd h86 h57) (fun h86 => ?_)
            refine aw_iload C dX5_seen_89 rfl ?_
            refine aw_iload_n C dX5_seen_91 (i := 1) rfl rfl ?_
            refine aw_icmp_le (tgt := 106) C dX5_seen_92 (by decide) (fun h92 => ?_) (fun h92 => ?_)
            · refine aw_iinc_n (lv' := [(0, _), (1, _), (2, _), (3, _), (4, _), (5, _), (6, _), (7, _), (8, _), (9, _)]) C dX5_seen_106 rfl ki_1 (Nat.le_of_ble_eq_true rfl) rfl ?_
              refine aw_goto (tgt := 9) C dX5_seen_109 (by decide) ?_
              refine aw_take 8 (lv' := [(0, _), (1, _), (2, _), (3, _), (4, _), (5, _), (6, _), (7, _)]) rfl ?_
              have hin : inB (h (5 * i) + x - a) (nI 0) (b - a) = true := by rw [inB_sh hX9 ha hb, decide_eq_true (i_le h51), decide_eq_true (i_le h57)]; rfl
              have k9 := ih (i + 1) (by omega) (by omega)
              rw [snA_s, if_pos hin, if_pos h63, snH_s, if_pos hin, if_neg (i_nlt h92), or0] at k9
              exact k9
            · refine aw_iload C dX5_seen_95 rfl ?_
              refine aw_iconst C dX5_seen_97 ki_1 ?_
              refine aw_iload C dX5_seen_98 rfl ?_
              refine aw_iload_n C dX5_seen_100 (i := 2) rfl rfl ?_
              refine aw_isub C dX5_seen_101 ?_
              refine aw_ishl C dX5_seen_102 ?_
              refine aw_ior C dX5_seen_103 ?_
              refine aw_istore (lv' := [(0, _), (1, _), (2, _), (3, _), (4, _), (5, _), (6, _), (7, _), (8, _), (9, _)]) C dX5_seen_104 (Nat.le_of_ble_eq_true rfl) rfl ?_
              refine aw_iinc_n (lv' := [(0, _), (1, _), (2, _), (3, _), (4, _), (5, _), (6, _), (7, _), (8, _), (9, _)]) C dX5_seen_106 rfl ki_1 (Nat.le_of_ble_eq_true rfl) rfl ?_
              refine aw_goto (tgt := 9) C dX5_seen_109 (by decide) ?_
              refine aw_take 8 (lv' := [(0, _), (1, _), (2, _), (3, _), (4, _), (5, _), (6, _), (7, _)]) rfl ?_
              have hin : inB (h (5 * i) + x - a) (nI 0) (b - a) = true := by rw [inB_sh hX9 ha hb, decide_eq_true (i_le h51), decide_eq_true (i_le h57)]; rfl
              have k9 := ih (i + 1) (by omega) (by omega)
              rw [snA_s, if_pos hin, if_pos h63, snH_s, if_pos hin, if_pos (i_lt h92)] at k9
              exact k9
set_option maxRecDepth 20000 in
/-- seen -/
theorem cb_seen {l : Launch} {D : va_G} {cy : Nat → ClassId} {z : Nat → Nat} {q : Nat → Nat} (hI : wI 49 q) {tl dsp dwi dat bsp bwi pnx phd vkn : Nat} {dff lbl lsh lpk : Int32} {lett : Nat → Nat} {num lim now : Nat → Int32} {prw plr hgr : Nat → Nat → Int32} {bk bd wio wys trl : Nat → Int32} {clr : Nat → Int64} {tld tie fst las saw : Nat → Int32} {t a b x : Int32} {h : Nat → Int32} (hO : hOK h bwi) (hA : agr now h bwi) (hx : -9 ≤ x.toInt ∧ x.toInt ≤ 9) (ha : sml a) (hb : sml b) (hw : bwi ≤ 8) : Ct l yX5_seen cX5_seen 10 (some .int) 1 22 D cy z 49 q [.ref (q 8), .int t, .int a, .int b, .int x] (bwC cy q tl dsp dwi dat bsp bwi pnx phd vkn dff lbl lsh lpk lett num lim now prw plr hgr bk bd wio wys trl clr tld tie fst las saw) (PI (snI h bwi t a b x) (bwC cy q tl dsp dwi dat bsp bwi pnx phd vkn dff lbl lsh lpk lett num lim now prw plr hgr bk bd wio wys trl clr tld tie fst las saw)) := by
  refine Ct.of (own := RX5) (by decide) rfl hI (Nat.le_of_ble_eq_true rfl) ?_
  intro p e s m args below meth c C hr
  refine aw_lv (lv' := [(0, .ref (q 8)), (1, .int t), (2, .int a), (3, .int b), (4, .int x)]) (fun x hx => hx) ?_
  refine aw_iconst C dX5_seen_0 ki_0 ?_
  refine aw_istore (lv' := [(0, _), (1, _), (2, _), (3, _), (4, _), (5, _)]) C dX5_seen_1 (Nat.le_of_ble_eq_true rfl) rfl ?_
  refine aw_iconst C dX5_seen_3 ki_0 ?_
  refine aw_istore (lv' := [(0, _), (1, _), (2, _), (3, _), (4, _), (5, _), (6, _)]) C dX5_seen_4 (Nat.le_of_ble_eq_true rfl) rfl ?_
  refine aw_iconst C dX5_seen_6 ki_0 ?_
  refine aw_istore (lv' := [(0, _), (1, _), (2, _), (3, _), (4, _), (5, _), (6, _), (7, _)]) C dX5_seen_7 (Nat.le_of_ble_eq_true rfl) rfl ?_
  exact cb_seen_l hI C hr hO hA hx ha hb hw (bwi + 1) 0 (by omega) (by omega)
def eyR (tld tie fst las saw eyes : Nat → Int32) : Prop := ∀ e, e < 2 → tld e = eyes (5 * e) ∧ tie e = eyes (5 * e + 1) ∧ fst e = eyes (5 * e + 2) ∧ las e = eyes (5 * e + 3) ∧ saw e = eyes (5 * e + 4)
def eyK (eyes : Nat → Int32) : Prop := ∀ e, e < 2 → (eyes (5 * e) = nI 0 ∨ eyes (5 * e) = nI 1) ∧ (eyes (5 * e) = nI 1 → sgB (eyes (5 * e + 1)) (eyes (5 * e + 2)) (eyes (5 * e + 3)) = true)
theorem sg_sml {t a b : Int32} (h : sgB t a b = true) : sml a ∧ sml b := by
  unfold sgB at h
  simp only [Bool.and_eq_true, inB_iff, decide_eq_true_eq, Int32.le_iff_toInt_le] at h
  obtain ⟨-, ⟨a1, a2⟩, ⟨b1, b2⟩, -⟩ := h
  have e0 : (nI 0).toInt = 0 := rfl
  have e6 : (nI 60).toInt = 60 := rfl
  rw [e0] at a1
  rw [e6] at a2 b2
  unfold sml
  omega
theorem exT_f {p : Nat → Bool} {b : Bool} {k n : Nat} (h : exT p b k = false) (hk : k ≤ n) : exT p b n = false := by
  obtain ⟨d, rfl⟩ : ∃ d, n = k + d := ⟨n - k, by omega⟩
  clear hk
  induction d with
  | zero => exact h
  | succ d ih =>
    show (exT p b (k + d) && p (k + d)) = false
    rw [ih]
    rfl
set_option maxRecDepth 20000 in
/-- isExplainedBy, its loop -/
theorem cb_isExplainedBy_l {l : Launch} {D : va_G} {cy : Nat → ClassId} {z : Nat → Nat} {q : Nat → Nat} {p : Program} {e : Env} {s : State} {m : MethodId} {args : Array Value} {below : List Frame} {meth : Method} {c : Code} (hI : wI 49 q) (C : Cx p s m args meth c cX5_isExplainedBy 3 RX5 D cy z 49 q) (hr : meth.sig.returnType = (some .boolean)) {tl dsp dwi dat bsp bwi pnx phd vkn : Nat} {dff lbl lsh lpk : Int32} {lett : Nat → Nat} {num lim now : Nat → Int32} {prw plr hgr : Nat → Nat → Int32} {bk bd wio wys trl : Nat → Int32} {clr : Nat → Int64} {tld tie fst las saw : Nat → Int32} {x : Int32} {h : Nat → Int32} (hO : hOK h bwi) (hA : agr now h bwi) {eyes : Nat → Int32} (hE : eyR tld tie fst las saw eyes) (hK : eyK eyes) (hx : -9 ≤ x.toInt ∧ x.toInt ≤ 9) (hw : bwi ≤ 8) : ∀ (d : Nat) (k : Nat), 2 - k < d → (k ≤ 2) → (exT (eyO h bwi eyes x) true k = true) → AW p l e { frames := 2, cells := 0, slots := 0, locals := 51 } s m args below meth c D 49 q 3 (MQ below (Qg D 49 q (PI (bi (exT (eyO h bwi eyes x) true 2)) (bwC cy q tl dsp dwi dat bsp bwi pnx phd vkn dff lbl lsh lpk lett num lim now prw plr hgr bk bd wio wys trl clr tld tie fst las saw)) (wA 49 q s.heap.size)) args s 0 0 (wA 49 q s.heap.size)) (bwC cy q tl dsp dwi dat bsp bwi pnx phd vkn dff lbl lsh lpk lett num lim now prw plr hgr bk bd wio wys trl clr tld tie fst las saw) [(0, .ref (q 8)), (1, .int x), (2, .int (nI k))] 2 [] := by
  intro d
  induction d with
  | zero => intro k hd; exact absurd hd (Nat.not_lt_zero _)
  | succ d ih =>
    intro k hd iv0 iv1
    refine aw_iload_n C dX5_isExplainedBy_2 (i := 2) rfl rfl ?_
    refine aw_iconst C dX5_isExplainedBy_3 ki_2 ?_
    refine aw_icmp_ge_n (tgt := 56) C dX5_isExplainedBy_4 (by decide) (by omega) (by omega) (fun h4 => ?_) (fun h4 => ?_)
    · refine aw_iconst C dX5_isExplainedBy_56 ki_1 ?_
      refine aw_zret C hr dX5_isExplainedBy_57 (by decide) ?_
      obtain rfl : k = 2 := by omega
      exact PI.mk (bi_t iv1) rfl
    · refine aw_aload_n C dX5_isExplainedBy_7 (i := 0) rfl rfl ?_
      refine aw_get (k := 8) C dX5_isExplainedBy_8 fl_X5_9 (by decide) rfl rfl ?_
      refine aw_iload_n C dX5_isExplainedBy_11 (i := 2) rfl rfl ?_
      refine aw_zald (k := 44) C dX5_isExplainedBy_12 (by decide) (rfl) (rfl) (by omega) (by decide) ((hE k (by omega)).1) ?_
      refine aw_if_eq (tgt := 50) C dX5_isExplainedBy_13 (by decide) (fun h13 => ?_) (fun h13 => ?_)
      · refine aw_iinc_n (lv' := [(0, _), (1, _), (2, _)]) C dX5_isExplainedBy_50 rfl ki_1 (Nat.le_of_ble_eq_true rfl) rfl ?_
        refine aw_goto (tgt := 2) C dX5_isExplainedBy_53 (by decide) ?_
        have o9 : eyO h bwi eyes x k = true := by unfold eyO; simp [h13]
        exact ih (k + 1) (by omega) (by omega) (by unfold exT; rw [iv1, o9]; rfl)
      · have t9 : eyes (5 * k) = nI 1 := (hK k (by omega)).1.resolve_left (fun e9 => h13 (by rw [e9]; rfl))
        have s9 := sg_sml ((hK k (by omega)).2 t9)
        refine aw_aload_n C dX5_isExplainedBy_16 (i := 0) rfl rfl ?_
        refine aw_aload_n C dX5_isExplainedBy_17 (i := 0) rfl rfl ?_
        refine aw_get (k := 8) C dX5_isExplainedBy_18 fl_X5_15 (by decide) rfl rfl ?_
        refine aw_iload_n C dX5_isExplainedBy_21 (i := 2) rfl rfl ?_
        refine aw_iald (k := 45) C dX5_isExplainedBy_22 (by decide) (rfl) (rfl) (by omega) (by decide) ((hE k (by omega)).2.1) ?_
        refine aw_aload_n C dX5_isExplainedBy_23 (i := 0) rfl rfl ?_
        refine aw_get (k := 8) C dX5_isExplainedBy_24 fl_X5_19 (by decide) rfl rfl ?_
        refine aw_iload_n C dX5_isExplainedBy_27 (i := 2) rfl rfl ?_
        refine aw_iald (k := 46) C dX5_isExplainedBy_28 (by decide) (rfl) (rfl) (by omega) (by decide) ((hE k (by omega)).2.2.1) ?_
        refine aw_aload_n C dX5_isExplainedBy_29 (i := 0) rfl rfl ?_
        refine aw_get (k := 8) C dX5_isExplainedBy_30 fl_X5_22 (by decide) rfl rfl ?_
        refine aw_iload_n C dX5_isExplainedBy_33 (i := 2) rfl rfl ?_
        refine aw_iald (k := 47) C dX5_isExplainedBy_34 (by decide) (rfl) (rfl) (by omega) (by decide) ((hE k (by omega)).2.2.2.1) ?_
        refine aw_iload_n C dX5_isExplainedBy_35 (i := 1) rfl rfl ?_
        refine aw_V4i (k := 8) C dX5_isExplainedBy_36 cv_X5_47 (by decide) rfl rfl rfl (cb_seen hI hO hA hx s9.1 s9.2 hw) ⟨Nat.le_of_ble_eq_true rfl, Nat.le_of_ble_eq_true rfl⟩ (Nat.le_of_ble_eq_true rfl) ?_
        refine aw_aload_n C dX5_isExplainedBy_39 (i := 0) rfl rfl ?_
        refine aw_get (k := 8) C dX5_isExplainedBy_40 fl_X5_25 (by decide) rfl rfl ?_
        refine aw_iload_n C dX5_isExplainedBy_43 (i := 2) rfl rfl ?_
        refine aw_iald (k := 48) C dX5_isExplainedBy_44 (by decide) (rfl) (rfl) (by omega) (by decide) ((hE k (by omega)).2.2.2.2) ?_
        refine aw_icmp_eq (tgt := 50) C dX5_isExplainedBy_45 (by decide) (fun h45 => ?_) (fun h45 => ?_)
        · refine aw_iinc_n (lv' := [(0, _), (1, _), (2, _)]) C dX5_isExplainedBy_50 rfl ki_1 (Nat.le_of_ble_eq_true rfl) rfl ?_
          refine aw_goto (tgt := 2) C dX5_isExplainedBy_53 (by decide) ?_
          have o9 : eyO h bwi eyes x k = true := by unfold eyO; simp [h45]
          exact ih (k + 1) (by omega) (by omega) (by unfold exT; rw [iv1, o9]; rfl)
        · refine aw_iconst C dX5_isExplainedBy_48 ki_0 ?_
          refine aw_zret C hr dX5_isExplainedBy_49 (by decide) ?_
          have o9 : eyO h bwi eyes x k = false := by unfold eyO; simp [h13, h45]
          have x9 : exT (eyO h bwi eyes x) true (k + 1) = false := by unfold exT; rw [o9]; exact Bool.and_false _
          exact PI.mk (bi_f (exT_f x9 (by omega))) rfl
set_option maxRecDepth 20000 in
/-- isExplainedBy -/
theorem cb_isExplainedBy {l : Launch} {D : va_G} {cy : Nat → ClassId} {z : Nat → Nat} {q : Nat → Nat} (hI : wI 49 q) {tl dsp dwi dat bsp bwi pnx phd vkn : Nat} {dff lbl lsh lpk : Int32} {lett : Nat → Nat} {num lim now : Nat → Int32} {prw plr hgr : Nat → Nat → Int32} {bk bd wio wys trl : Nat → Int32} {clr : Nat → Int64} {tld tie fst las saw : Nat → Int32} {x : Int32} {h : Nat → Int32} (hO : hOK h bwi) (hA : agr now h bwi) {eyes : Nat → Int32} (hE : eyR tld tie fst las saw eyes) (hK : eyK eyes) (hx : -9 ≤ x.toInt ∧ x.toInt ≤ 9) (hw : bwi ≤ 8) : Ct l yX5_isExplainedBy cX5_isExplainedBy 3 (some .boolean) 2 51 D cy z 49 q [.ref (q 8), .int x] (bwC cy q tl dsp dwi dat bsp bwi pnx phd vkn dff lbl lsh lpk lett num lim now prw plr hgr bk bd wio wys trl clr tld tie fst las saw) (PI (bi (exT (eyO h bwi eyes x) true 2)) (bwC cy q tl dsp dwi dat bsp bwi pnx phd vkn dff lbl lsh lpk lett num lim now prw plr hgr bk bd wio wys trl clr tld tie fst las saw)) := by
  refine Ct.of (own := RX5) (by decide) rfl hI (Nat.le_of_ble_eq_true rfl) ?_
  intro p e s m args below meth c C hr
  refine aw_lv (lv' := [(0, .ref (q 8)), (1, .int x)]) (fun x hx => hx) ?_
  refine aw_iconst C dX5_isExplainedBy_0 ki_0 ?_
  refine aw_istore_n (lv' := [(0, _), (1, _), (2, _)]) C dX5_isExplainedBy_1 (i := 2) rfl (Nat.le_of_ble_eq_true rfl) rfl ?_
  exact cb_isExplainedBy_l hI C hr hO hA hE hK hx hw 3 0 (by omega) (by omega) rfl
def exU (h : Nat → Int32) (n : Nat) (eyes : Nat → Int32) (u : Nat) : Bool := exT (eyO h n eyes (nI u - nI 9)) true 2
theorem sh_ti {u : Nat} (h : u ≤ 100) : (nI u - nI 9).toInt = (u : Int) - 9 := pk_sub_toInt (by omega) (by omega)
theorem sh_lt {u : Nat} (h : u ≤ 100) : nI 9 < nI u - nI 9 ↔ 18 < u := by
  rw [Int32.lt_iff_toInt_lt, sh_ti h]
  have : (nI 9).toInt = 9 := rfl
  omega
set_option maxRecDepth 20000 in
/-- shiftsThatExplain, its loop -/
theorem cb_shifts_l {l : Launch} {D : va_G} {cy : Nat → ClassId} {z : Nat → Nat} {q : Nat → Nat} {p : Program} {e : Env} {s : State} {m : MethodId} {args : Array Value} {below : List Frame} {meth : Method} {c : Code} (hI : wI 49 q) (C : Cx p s m args meth c cX5_shiftsThatExplain 3 RX5 D cy z 49 q) (hr : meth.sig.returnType = (some .int)) {tl dsp dwi dat bsp bwi pnx phd vkn : Nat} {dff lbl lsh lpk : Int32} {lett : Nat → Nat} {num lim now : Nat → Int32} {prw plr hgr : Nat → Nat → Int32} {bk bd wio wys trl : Nat → Int32} {clr : Nat → Int64} {tld tie fst las saw : Nat → Int32} {h : Nat → Int32} (hO : hOK h bwi) (hA : agr now h bwi) {eyes : Nat → Int32} (hE : eyR tld tie fst las saw eyes) (hK : eyK eyes) (hw : bwi ≤ 8) : ∀ (d : Nat) (u : Nat), 19 - u < d → (u ≤ 19) → AW p l e { frames := 3, cells := 0, slots := 0, locals := 73 } s m args below meth c D 49 q 3 (MQ below (Qg D 49 q (PI (nI (cntB (exU h bwi eyes) 19)) (bwC cy q tl dsp dwi dat bsp bwi pnx phd vkn dff lbl lsh lpk lett num lim now prw plr hgr bk bd wio wys trl clr tld tie fst las saw)) (wA 49 q s.heap.size)) args s 0 0 (wA 49 q s.heap.size)) (bwC cy q tl dsp dwi dat bsp bwi pnx phd vkn dff lbl lsh lpk lett num lim now prw plr hgr bk bd wio wys trl clr tld tie fst las saw) [(0, .ref (q 8)), (1, .int (nI (cntB (exU h bwi eyes) u))), (2, .int (nI u - nI 9))] 5 [] := by
  intro d
  induction d with
  | zero => intro u hd; exact absurd hd (Nat.not_lt_zero _)
  | succ d ih =>
    intro u hd iv0
    refine aw_iload_n C dX5_shiftsThatExplain_5 (i := 2) rfl rfl ?_
    refine aw_bipush C dX5_shiftsThatExplain_6 kb_9 ?_
    refine aw_icmp_gt (tgt := 28) C dX5_shiftsThatExplain_8 (by decide) (fun h8 => ?_) (fun h8 => ?_)
    · refine aw_iload_n C dX5_shiftsThatExplain_28 (i := 1) rfl rfl ?_
      refine aw_iret C hr dX5_shiftsThatExplain_29 ?_
      have hu9 := (sh_lt (by omega)).mp h8
      exact PI.mk (by rw [show u = 19 by omega]) rfl
    · have hu9 : ¬ 18 < u := fun e9 => h8 ((sh_lt (by omega)).mpr e9)
      refine aw_aload_n C dX5_shiftsThatExplain_11 (i := 0) rfl rfl ?_
      refine aw_iload_n C dX5_shiftsThatExplain_12 (i := 2) rfl rfl ?_
      refine aw_V1i (k := 8) C dX5_shiftsThatExplain_13 cv_X5_42 (by decide) rfl rfl rfl (cb_isExplainedBy hI hO hA hE hK (by rw [sh_ti (by omega)]; omega) hw) ⟨Nat.le_of_ble_eq_true rfl, Nat.le_of_ble_eq_true rfl⟩ (Nat.le_of_ble_eq_true rfl) ?_
      refine aw_if_eq_b (tgt := 22) C dX5_shiftsThatExplain_16 (by decide) (fun h16 => ?_) (fun h16 => ?_)
      · refine aw_iinc (lv' := [(0, _), (1, _), (2, _)]) C dX5_shiftsThatExplain_22 rfl ki_1 (Nat.le_of_ble_eq_true rfl) rfl ?_
        refine aw_goto (tgt := 5) C dX5_shiftsThatExplain_25 (by decide) ?_
        have e9 := cntB_n (p := (exU h bwi eyes)) (n := u) h16
        have k9 := ih (u + 1) (by omega) (by omega)
        rw [e9, ← rg2] at k9
        exact k9
      · refine aw_iinc_n (lv' := [(0, _), (1, _), (2, _)]) C dX5_shiftsThatExplain_19 rfl ki_1 (Nat.le_of_ble_eq_true rfl) rfl ?_
        refine aw_iinc (lv' := [(0, _), (1, _), (2, _)]) C dX5_shiftsThatExplain_22 rfl ki_1 (Nat.le_of_ble_eq_true rfl) rfl ?_
        refine aw_goto (tgt := 5) C dX5_shiftsThatExplain_25 (by decide) ?_
        have e9 := cntB_t (p := (exU h bwi eyes)) (n := u) h16
        have k9 := ih (u + 1) (by omega) (by omega)
        rw [e9, ← rg2] at k9
        exact k9
set_option maxRecDepth 20000 in
/-- shiftsThatExplain -/
theorem cb_shifts {l : Launch} {D : va_G} {cy : Nat → ClassId} {z : Nat → Nat} {q : Nat → Nat} (hI : wI 49 q) {tl dsp dwi dat bsp bwi pnx phd vkn : Nat} {dff lbl lsh lpk : Int32} {lett : Nat → Nat} {num lim now : Nat → Int32} {prw plr hgr : Nat → Nat → Int32} {bk bd wio wys trl : Nat → Int32} {clr : Nat → Int64} {tld tie fst las saw : Nat → Int32} {h : Nat → Int32} (hO : hOK h bwi) (hA : agr now h bwi) {eyes : Nat → Int32} (hE : eyR tld tie fst las saw eyes) (hK : eyK eyes) (hw : bwi ≤ 8) : Ct l yX5_shiftsThatExplain cX5_shiftsThatExplain 3 (some .int) 3 73 D cy z 49 q [.ref (q 8)] (bwC cy q tl dsp dwi dat bsp bwi pnx phd vkn dff lbl lsh lpk lett num lim now prw plr hgr bk bd wio wys trl clr tld tie fst las saw) (PI (nI (cntB (exU h bwi eyes) 19)) (bwC cy q tl dsp dwi dat bsp bwi pnx phd vkn dff lbl lsh lpk lett num lim now prw plr hgr bk bd wio wys trl clr tld tie fst las saw)) := by
  refine Ct.of (own := RX5) (by decide) rfl hI (Nat.le_of_ble_eq_true rfl) ?_
  intro p e s m args below meth c C hr
  refine aw_lv (lv' := [(0, .ref (q 8))]) (fun x hx => hx) ?_
  refine aw_iconst C dX5_shiftsThatExplain_0 ki_0 ?_
  refine aw_istore_n (lv' := [(0, _), (1, _)]) C dX5_shiftsThatExplain_1 (i := 1) rfl (Nat.le_of_ble_eq_true rfl) rfl ?_
  refine aw_bipush C dX5_shiftsThatExplain_2 kb_m9 ?_
  refine aw_istore_n (lv' := [(0, _), (1, _), (2, _)]) C dX5_shiftsThatExplain_4 (i := 2) rfl (Nat.le_of_ble_eq_true rfl) rfl ?_
  refine aw_lq (lv' := [(0, .ref (q 8)), (1, .int (nI (cntB (exU h bwi eyes) 0))), (2, .int (nI 0 - nI 9))]) rfl ?_
  exact cb_shifts_l hI C hr hO hA hE hK hw 20 0 (by omega) (by omega)
theorem exC_s {h : Nat → Int32} {n : Nat} {eyes : Nat → Int32} {u : Nat} : exC h n eyes (u + 1) = stN (isP h n eyes u) (stN (isM h n eyes u) (exC h n eyes u)) := rfl
theorem exR_s {h : Nat → Int32} {n : Nat} {eyes : Nat → Int32} {u : Nat} : exR h n eyes (u + 1) = stR (isP h n eyes u) (stN (isM h n eyes u) (exC h n eyes u)) (stR (isM h n eyes u) (exC h n eyes u) (exR h n eyes u) ((-1) * nI u)) (nI 1 * nI u) := rfl
theorem stN_ge (b : Bool) (n : Nat) : n ≤ stN b n := by unfold stN; split <;> omega
theorem stN_z {b : Bool} {n : Nat} (h : stN b n = 0) : b = false ∧ n = 0 := by
  unfold stN at h
  cases b
  · exact ⟨rfl, h⟩
  · simp at h
theorem exR_0 {h : Nat → Int32} {n : Nat} {eyes : Nat → Int32} : ∀ u, exC h n eyes u = 0 → exR h n eyes u = -4
  | 0, _ => rfl
  | u + 1, e => by
    rw [exC_s] at e
    obtain ⟨e1, e2⟩ := stN_z e
    obtain ⟨e3, e4⟩ := stN_z e2
    rw [exR_s, e1, e3, exR_0 u e4]
    rfl
theorem exR_k {h : Nat → Int32} {n : Nat} {eyes : Nat → Int32} {u : Nat} (hc : 0 < exC h n eyes u) : ∀ d, 0 < exC h n eyes (u + d) ∧ exR h n eyes (u + d) = exR h n eyes u
  | 0 => ⟨hc, rfl⟩
  | d + 1 => by
    obtain ⟨h1, h2⟩ := exR_k hc d
    have h3 := stN_ge (isM h n eyes (u + d)) (exC h n eyes (u + d))
    have h4 := stN_ge (isP h n eyes (u + d)) (stN (isM h n eyes (u + d)) (exC h n eyes (u + d)))
    refine ⟨by show 0 < exC h n eyes (u + d + 1); rw [exC_s]; omega, ?_⟩
    show exR h n eyes (u + d + 1) = _
    rw [exR_s]
    have e : ∀ (b : Bool) (k : Nat) (r x : Int32), 0 < k → stR b k r x = r := fun b k r x hk => by
      unfold stR
      cases b
      · rfl
      · rw [if_pos rfl, if_neg (by omega)]
    rw [e _ _ _ _ (by omega), e _ _ _ _ h1, h2]
theorem exR_m {h : Nat → Int32} {n : Nat} {eyes : Nat → Int32} {u : Nat} (hu : u < 10) (h0 : exC h n eyes u = 0) (hm : isM h n eyes u = true) : exR h n eyes 10 = (-1) * nI u + 100000 := by
  have c1 : 0 < exC h n eyes (u + 1) := by
    have h4 := stN_ge (isP h n eyes u) (stN (isM h n eyes u) (exC h n eyes u))
    rw [exC_s]
    rw [hm] at h4 ⊢
    unfold stN at h4 ⊢
    simp at h4 ⊢
    split <;> omega
  have := (exR_k c1 (10 - (u + 1))).2
  rw [show u + 1 + (10 - (u + 1)) = 10 by omega] at this
  rw [this, exR_s, hm, h0]
  unfold stR stN
  simp
theorem exR_p {h : Nat → Int32} {n : Nat} {eyes : Nat → Int32} {u : Nat} (hu : u < 10) (h0 : exC h n eyes u = 0) (hm : isM h n eyes u = false) (hp : isP h n eyes u = true) : exR h n eyes 10 = nI 1 * nI u + 100000 := by
  have c1 : 0 < exC h n eyes (u + 1) := by
    rw [exC_s, hp]
    unfold stN
    simp
  have := (exR_k c1 (10 - (u + 1))).2
  rw [show u + 1 + (10 - (u + 1)) = 10 by omega] at this
  rw [this, exR_s, hm, hp, h0]
  unfold stR stN
  simp
theorem m1_n (u : Nat) : (0 : Int32) - nI u = (-1) * nI u := by rw [Int32.zero_sub, Int32.neg_mul, Int32.one_mul]
theorem o1_n (u : Nat) : nI 1 * nI u = nI u := by rw [pk_mul, Nat.one_mul]
theorem m1_ti {u : Nat} (h : u ≤ 9) : -9 ≤ ((-1 : Int32) * nI u).toInt ∧ ((-1 : Int32) * nI u).toInt ≤ 9 := by
  rw [← m1_n, show (0 : Int32) = nI 0 from nI_0.symm, pk_sub_toInt (by omega) (by omega)]
  omega
set_option maxRecDepth 20000 in
/-- nearestShift, its loop -/
theorem cb_nearest_l {l : Launch} {D : va_G} {cy : Nat → ClassId} {z : Nat → Nat} {q : Nat → Nat} {p : Program} {e : Env} {s : State} {m : MethodId} {args : Array Value} {below : List Frame} {meth : Method} {c : Code} (hI : wI 49 q) (C : Cx p s m args meth c cX5_nearestShift 2 RX5 D cy z 49 q) (hr : meth.sig.returnType = (some .int)) {tl dsp dwi dat bsp bwi pnx phd vkn : Nat} {dff lbl lsh lpk : Int32} {lett : Nat → Nat} {num lim now : Nat → Int32} {prw plr hgr : Nat → Nat → Int32} {bk bd wio wys trl : Nat → Int32} {clr : Nat → Int64} {tld tie fst las saw : Nat → Int32} {h : Nat → Int32} (hO : hOK h bwi) (hA : agr now h bwi) {eyes : Nat → Int32} (hE : eyR tld tie fst las saw eyes) (hK : eyK eyes) (hw : bwi ≤ 8) : ∀ (d : Nat) (u : Nat), 10 - u < d → (u ≤ 10) → (exC h bwi eyes u = 0) → AW p l e { frames := 3, cells := 0, slots := 0, locals := 73 } s m args below meth c D 49 q 2 (MQ below (Qg D 49 q (PI (exR h bwi eyes 10) (bwC cy q tl dsp dwi dat bsp bwi pnx phd vkn dff lbl lsh lpk lett num lim now prw plr hgr bk bd wio wys trl clr tld tie fst las saw)) (wA 49 q s.heap.size)) args s 0 0 (wA 49 q s.heap.size)) (bwC cy q tl dsp dwi dat bsp bwi pnx phd vkn dff lbl lsh lpk lett num lim now prw plr hgr bk bd wio wys trl clr tld tie fst las saw) [(0, .ref (q 8)), (1, .int (nI u))] 2 [] := by
  intro d
  induction d with
  | zero => intro u hd; exact absurd hd (Nat.not_lt_zero _)
  | succ d ih =>
    intro u hd iv0 iv1
    refine aw_iload_n C dX5_nearestShift_2 (i := 1) rfl rfl ?_
    refine aw_bipush C dX5_nearestShift_3 kb_9 ?_
    refine aw_icmp_gt_n (tgt := 41) C dX5_nearestShift_5 (by decide) (by omega) (by omega) (fun h5 => ?_) (fun h5 => ?_)
    · refine aw_bipush C dX5_nearestShift_41 kb_m4 ?_
      refine aw_iret C hr dX5_nearestShift_43 ?_
      obtain rfl : u = 10 := by omega
      exact PI.mk (exR_0 10 iv1).symm rfl
    · refine aw_aload_n C dX5_nearestShift_8 (i := 0) rfl rfl ?_
      refine aw_iload_n C dX5_nearestShift_9 (i := 1) rfl rfl ?_
      refine aw_ineg C dX5_nearestShift_10 ?_
      rw [m1_n]
      refine aw_V1i (k := 8) C dX5_nearestShift_11 cv_X5_42 (by decide) rfl rfl rfl (cb_isExplainedBy hI hO hA hE hK (by exact m1_ti (by omega)) hw) ⟨Nat.le_of_ble_eq_true rfl, Nat.le_of_ble_eq_true rfl⟩ (Nat.le_of_ble_eq_true rfl) ?_
      refine aw_if_eq_b (tgt := 22) C dX5_nearestShift_14 (by decide) (fun h14 => ?_) (fun h14 => ?_)
      · refine aw_aload_n C dX5_nearestShift_22 (i := 0) rfl rfl ?_
        refine aw_iload_n C dX5_nearestShift_23 (i := 1) rfl rfl ?_
        refine aw_V1i (k := 8) C dX5_nearestShift_24 cv_X5_42 (by decide) rfl rfl rfl (cb_isExplainedBy hI hO hA hE hK (by rw [nI_toInt (by omega)]; omega) hw) ⟨Nat.le_of_ble_eq_true rfl, Nat.le_of_ble_eq_true rfl⟩ (Nat.le_of_ble_eq_true rfl) ?_
        refine aw_if_eq_b (tgt := 35) C dX5_nearestShift_27 (by decide) (fun h27 => ?_) (fun h27 => ?_)
        · refine aw_iinc_n (lv' := [(0, _), (1, _)]) C dX5_nearestShift_35 rfl ki_1 (Nat.le_of_ble_eq_true rfl) rfl ?_
          refine aw_goto (tgt := 2) C dX5_nearestShift_38 (by decide) ?_
          have c9 : isP h bwi eyes u = false := by
            unfold isP
            rw [o1_n]
            by_cases hz : 0 < u
            · rw [decide_eq_true hz]; exact h27
            · rw [decide_eq_false hz]; rfl
          exact ih (u + 1) (by omega) (by omega) (by rw [exC_s, iv1, c9, show isM h bwi eyes u = false from h14]; rfl)
        · refine aw_ldc C dX5_nearestShift_30 kc_X5_46 ?_
          refine aw_iload_n C dX5_nearestShift_32 (i := 1) rfl rfl ?_
          refine aw_iadd C dX5_nearestShift_33 ?_
          refine aw_iret C hr dX5_nearestShift_34 ?_
          have z9 : 0 < u := by
            rcases Nat.eq_zero_or_pos u with hz | hz
            · subst hz
              rw [show ((-1 : Int32) * nI 0) = nI 0 from by decide] at h14
              rw [h14] at h27
              cases h27
            · exact hz
          have p9 : isP h bwi eyes u = true := by unfold isP; rw [o1_n, decide_eq_true z9]; exact h27
          exact PI.mk (by rw [exR_p (by omega) iv1 h14 p9, o1_n]; exact Int32.add_comm _ _) rfl
      · refine aw_ldc C dX5_nearestShift_17 kc_X5_46 ?_
        refine aw_iload_n C dX5_nearestShift_19 (i := 1) rfl rfl ?_
        refine aw_isub C dX5_nearestShift_20 ?_
        refine aw_iret C hr dX5_nearestShift_21 ?_
        exact PI.mk (by rw [exR_m (by omega) iv1 h14, ← m1_n]; simp only [Int32.sub_eq_add_neg, Int32.zero_add]; exact Int32.add_comm _ _) rfl
set_option maxRecDepth 20000 in
/-- nearestShift -/
theorem cb_nearest {l : Launch} {D : va_G} {cy : Nat → ClassId} {z : Nat → Nat} {q : Nat → Nat} (hI : wI 49 q) {tl dsp dwi dat bsp bwi pnx phd vkn : Nat} {dff lbl lsh lpk : Int32} {lett : Nat → Nat} {num lim now : Nat → Int32} {prw plr hgr : Nat → Nat → Int32} {bk bd wio wys trl : Nat → Int32} {clr : Nat → Int64} {tld tie fst las saw : Nat → Int32} {h : Nat → Int32} (hO : hOK h bwi) (hA : agr now h bwi) {eyes : Nat → Int32} (hE : eyR tld tie fst las saw eyes) (hK : eyK eyes) (hw : bwi ≤ 8) : Ct l yX5_nearestShift cX5_nearestShift 2 (some .int) 3 73 D cy z 49 q [.ref (q 8)] (bwC cy q tl dsp dwi dat bsp bwi pnx phd vkn dff lbl lsh lpk lett num lim now prw plr hgr bk bd wio wys trl clr tld tie fst las saw) (PI (exR h bwi eyes 10) (bwC cy q tl dsp dwi dat bsp bwi pnx phd vkn dff lbl lsh lpk lett num lim now prw plr hgr bk bd wio wys trl clr tld tie fst las saw)) := by
  refine Ct.of (own := RX5) (by decide) rfl hI (Nat.le_of_ble_eq_true rfl) ?_
  intro p e s m args below meth c C hr
  refine aw_lv (lv' := [(0, .ref (q 8))]) (fun x hx => hx) ?_
  refine aw_iconst C dX5_nearestShift_0 ki_0 ?_
  refine aw_istore_n (lv' := [(0, _), (1, _)]) C dX5_nearestShift_1 (i := 1) rfl (Nat.le_of_ble_eq_true rfl) rfl ?_
  exact cb_nearest_l hI C hr hO hA hE hK hw 11 0 (by omega) (by omega) rfl
theorem exC_U {h : Nat → Int32} {n : Nat} {eyes : Nat → Int32} : exC h n eyes 10 = cntB (exU h n eyes) 19 := by
  have hm : ∀ u, u ≤ 9 → isM h n eyes u = exU h n eyes (9 - u) := fun u hu => by
    unfold isM exU
    rw [← m1_n]
    have e : (0 : Int32) - nI u = nI (9 - u) - nI 9 := by
      rw [← pk_sub hu, show (0 : Int32) = nI 9 - nI 9 from by decide]
      simp only [Int32.sub_eq_add_neg]
      ac_rfl
    rw [e]
  have hp : ∀ u, 0 < u → u ≤ 9 → isP h n eyes u = exU h n eyes (9 + u) := fun u h0 hu => by
    unfold isP exU
    rw [o1_n, decide_eq_true h0]
    have e : nI u = nI (9 + u) - nI 9 := by
      rw [pk_sub (by omega)]
      congr 1
      omega
    rw [← e]
  have hp0 : isP h n eyes 0 = false := by
    unfold isP
    rfl
  have st : ∀ (b : Bool) (k : Nat), stN b k = k + (if b then 1 else 0) := fun b k => by
    unfold stN
    cases b <;> simp
  simp only [exC, st, hp0, hm 0 (by omega), hm 1 (by omega), hm 2 (by omega), hm 3 (by omega), hm 4 (by omega), hm 5 (by omega), hm 6 (by omega), hm 7 (by omega), hm 8 (by omega), hm 9 (by omega), hp 1 (by omega) (by omega), hp 2 (by omega) (by omega), hp 3 (by omega) (by omega), hp 4 (by omega) (by omega), hp 5 (by omega) (by omega), hp 6 (by omega) (by omega), hp 7 (by omega) (by omega), hp 8 (by omega) (by omega), hp 9 (by omega) (by omega), cntB]
  simp only [Nat.reduceAdd, Nat.reduceSub, Bool.false_eq_true, if_false, Nat.add_zero, Nat.zero_add]
  omega
def loI (b : Nat → Int32) (n : Nat) (x : Int32) : Int32 := match fstB (foP b x) n with
  | some k => nI k
  | none => -1
theorem fstB_no {p : Nat → Bool} : ∀ {n : Nat}, fstB p n = none → ∀ j, j < n → p j = false
  | 0, _, j, hj => absurd hj (Nat.not_lt_zero j)
  | n + 1, h, j, hj => by
    unfold fstB at h
    cases hq : fstB p n with
    | some y => rw [hq] at h; cases h
    | none =>
      rw [hq] at h
      rcases Nat.lt_or_ge j n with g | g
      · exact fstB_no hq j g
      · obtain rfl : j = n := by omega
        cases hv : p j with
        | false => rfl
        | true => simp [hv] at h
theorem lo_s {b : Nat → Int32} {n : Nat} {x : Int32} (hn : n ≤ 8) (h : 0 ≤ loI b n x) : ∃ k, k < n ∧ foP b x k = true ∧ loI b n x = nI k ∧ foI b n x = nI k := by
  unfold loI foI at *
  cases hf : fstB (foP b x) n with
  | some k => exact ⟨k, (fstB_s hf).1, (fstB_s hf).2, rfl, rfl⟩
  | none => rw [hf] at h; exact absurd h (by decide)
theorem lo_n {b : Nat → Int32} {n : Nat} {x : Int32} (hn : n ≤ 8) (h : ¬ 0 ≤ loI b n x) : foI b n x = -4 := by
  unfold loI foI at *
  cases hf : fstB (foP b x) n with
  | some k =>
    rw [hf] at h
    exact absurd (nI_pos' (by have := (fstB_s hf).1; omega)) h
  | none => rfl
theorem lf_st {b : Nat → Int32} {n j : Nat} (h : foI b n (lfI b n j) = -4) : ∀ d, lfI b n (j + d) = lfI b n j
  | 0 => rfl
  | d + 1 => by
    show lfI b n (j + d + 1) = _
    rw [lfI_s, lf_st h d, h, if_neg (by decide), nI_0, Int32.sub_zero]
set_option maxRecDepth 20000 in
/-- lowestFree, its loop -/
theorem cb_lowestFree_l {l : Launch} {D : va_G} {cy : Nat → ClassId} {z : Nat → Nat} {q : Nat → Nat} {p : Program} {e : Env} {s : State} {m : MethodId} {args : Array Value} {below : List Frame} {meth : Method} {c : Code} (hI : wI 49 q) (C : Cx p s m args meth c cX4_lowestFree 4 RX4 D cy z 49 q) (hr : meth.sig.returnType = (some .int)) {tl dsp dwi dat bsp bwi pnx phd vkn : Nat} {dff lbl lsh lpk : Int32} {lett : Nat → Nat} {num lim now : Nat → Int32} {prw plr hgr : Nat → Nat → Int32} {bk bd wio wys trl : Nat → Int32} {clr : Nat → Int64} {tld tie fst las saw : Nat → Int32} {sx : Nat} (hsx : sx < 256) {b : Nat → Int32} (hb : ∀ j, j < bwi → bd j = b j) (hw : bwi ≤ 8) : ∀ (d : Nat) (k : Nat), bwi - k < d → (k ≤ bwi) → (∀ j, j < k → foP b (nI sx) j = false) → AW p l e { frames := 0, cells := 0, slots := 0, locals := 0 } s m args below meth c D 49 q 4 (MQ below (Qg D 49 q (PI (loI b bwi (nI sx)) (bwC cy q tl dsp dwi dat bsp bwi pnx phd vkn dff lbl lsh lpk lett num lim now prw plr hgr bk bd wio wys trl clr tld tie fst las saw)) (wA 49 q s.heap.size)) args s 0 0 (wA 49 q s.heap.size)) (bwC cy q tl dsp dwi dat bsp bwi pnx phd vkn dff lbl lsh lpk lett num lim now prw plr hgr bk bd wio wys trl clr tld tie fst las saw) [(0, .ref (q 6)), (1, .int (nI sx)), (2, .ref (q 39)), (3, .int (nI k))] 2 [] := by
  intro d
  induction d with
  | zero => intro k hd; exact absurd hd (Nat.not_lt_zero _)
  | succ d ih =>
    intro k hd iv0 iv1
    refine aw_iload_n C dX4_lowestFree_2 (i := 3) rfl rfl ?_
    refine aw_aload_n C dX4_lowestFree_3 (i := 0) rfl rfl ?_
    refine aw_get (k := 6) C dX4_lowestFree_4 fl_X4_18 (by decide) rfl rfl ?_
    refine aw_get (k := 3) C dX4_lowestFree_7 fl_X4_32 (by decide) rfl rfl ?_
    refine aw_icmp_ge_n (tgt := 37) C dX4_lowestFree_10 (by decide) (by omega) (by omega) (fun h10 => ?_) (fun h10 => ?_)
    · refine aw_iconst C dX4_lowestFree_37 ki_m1 ?_
      refine aw_iret C hr dX4_lowestFree_38 ?_
      exact PI.mk (by unfold loI; rw [fstB_none (fun j hj => iv1 j (by omega))]) rfl
    · refine aw_iload_n C dX4_lowestFree_13 (i := 1) rfl rfl ?_
      refine aw_iconst C dX4_lowestFree_14 ki_1 ?_
      refine aw_iload_n C dX4_lowestFree_15 (i := 3) rfl rfl ?_
      refine aw_ishl C dX4_lowestFree_16 ?_
      refine aw_iand C dX4_lowestFree_17 ?_
      refine aw_if_eq (tgt := 31) C dX4_lowestFree_18 (by decide) (fun h18 => ?_) (fun h18 => ?_)
      · refine aw_iinc_n (lv' := [(0, _), (1, _), (2, _), (3, _)]) C dX4_lowestFree_31 rfl ki_1 (Nat.le_of_ble_eq_true rfl) rfl ?_
        refine aw_goto (tgt := 2) C dX4_lowestFree_34 (by decide) ?_
        exact ih (k + 1) (by omega) (by omega) (fun j hj => by rcases Nat.lt_or_ge j k with g | g; exact iv1 j g; rw [show j = k by omega]; unfold foP; have t9 := ((bt_tb sx hsx k (by omega)).2.2).mp h18; rw [decide_eq_false (fun e9 => by rw [((bt_tb sx hsx k (by omega)).1).mp e9] at t9; cases t9)]; rfl)
      · refine aw_aload_n C dX4_lowestFree_21 (i := 2) rfl rfl ?_
        refine aw_iload_n C dX4_lowestFree_22 (i := 3) rfl rfl ?_
        refine aw_iald (k := 39) C dX4_lowestFree_23 (by decide) (rfl) (rfl) (by omega) (by decide) (hb k (by omega)) ?_
        refine aw_iload_n C dX4_lowestFree_24 (i := 1) rfl rfl ?_
        refine aw_iand C dX4_lowestFree_25 ?_
        refine aw_if_ne (tgt := 31) C dX4_lowestFree_26 (by decide) (fun h26 => ?_) (fun h26 => ?_)
        · refine aw_iinc_n (lv' := [(0, _), (1, _), (2, _), (3, _)]) C dX4_lowestFree_31 rfl ki_1 (Nat.le_of_ble_eq_true rfl) rfl ?_
          refine aw_goto (tgt := 2) C dX4_lowestFree_34 (by decide) ?_
          exact ih (k + 1) (by omega) (by omega) (fun j hj => by rcases Nat.lt_or_ge j k with g | g; exact iv1 j g; rw [show j = k by omega]; unfold foP; simp [h26])
        · refine aw_iload_n C dX4_lowestFree_29 (i := 3) rfl rfl ?_
          refine aw_iret C hr dX4_lowestFree_30 ?_
          have t9 : bt (nI sx) k = nI 1 := by
            cases hv : sx.testBit k with
            | true => exact ((bt_tb sx hsx k (by omega)).1).mpr hv
            | false => exact absurd (((bt_tb sx hsx k (by omega)).2.2).mpr hv) h18
          exact PI.mk (by unfold loI; rw [fstB_at (k := k) (by omega) iv1 (by unfold foP; simp [t9, h26])]) rfl
set_option maxRecDepth 20000 in
/-- lowestFree -/
theorem cb_lowestFree {l : Launch} {D : va_G} {cy : Nat → ClassId} {z : Nat → Nat} {q : Nat → Nat} (hI : wI 49 q) {tl dsp dwi dat bsp bwi pnx phd vkn : Nat} {dff lbl lsh lpk : Int32} {lett : Nat → Nat} {num lim now : Nat → Int32} {prw plr hgr : Nat → Nat → Int32} {bk bd wio wys trl : Nat → Int32} {clr : Nat → Int64} {tld tie fst las saw : Nat → Int32} {sx : Nat} (hsx : sx < 256) {b : Nat → Int32} (hb : ∀ j, j < bwi → bd j = b j) (hw : bwi ≤ 8) : Ct l yX4_lowestFree cX4_lowestFree 4 (some .int) 0 0 D cy z 49 q [.ref (q 6), .int (nI sx), .ref (q 39)] (bwC cy q tl dsp dwi dat bsp bwi pnx phd vkn dff lbl lsh lpk lett num lim now prw plr hgr bk bd wio wys trl clr tld tie fst las saw) (PI (loI b bwi (nI sx)) (bwC cy q tl dsp dwi dat bsp bwi pnx phd vkn dff lbl lsh lpk lett num lim now prw plr hgr bk bd wio wys trl clr tld tie fst las saw)) := by
  refine Ct.of (own := RX4) (by decide) rfl hI (Nat.le_of_ble_eq_true rfl) ?_
  intro p e s m args below meth c C hr
  refine aw_lv (lv' := [(0, .ref (q 6)), (1, .int (nI sx)), (2, .ref (q 39))]) (fun x hx => hx) ?_
  refine aw_iconst C dX4_lowestFree_0 ki_0 ?_
  refine aw_istore_n (lv' := [(0, _), (1, _), (2, _), (3, _)]) C dX4_lowestFree_1 (i := 3) rfl (Nat.le_of_ble_eq_true rfl) rfl ?_
  exact cb_lowestFree_l hI C hr hsx hb hw (bwi + 1) 0 (by omega) (by omega) (fun j hj => absurd hj (Nat.not_lt_zero j))
theorem vBk_br {bk bd h : Nat → Int32} {S n : Nat} (hb : vBk bk bd h S n) (hn : n ≤ 8) : ∀ j, j < n → bd j = brs h S n j := fun j hj => by
  rw [(hb j (by omega)).2, if_pos hj]
  unfold brs
  rw [br_bd]
set_option maxRecDepth 20000 in
/-- arrange, its loop -/
theorem cb_arrange_l {l : Launch} {D : va_G} {cy : Nat → ClassId} {z : Nat → Nat} {q : Nat → Nat} {p : Program} {e : Env} {s : State} {m : MethodId} {args : Array Value} {below : List Frame} {meth : Method} {c : Code} (hI : wI 49 q) (C : Cx p s m args meth c cX4_arrange 5 RX4 D cy z 49 q) (hr : meth.sig.returnType = (some .int)) {tl dsp dwi dat bsp bwi pnx phd : Nat} {dff lbl lsh lpk : Int32} {lett : Nat → Nat} {num lim now : Nat → Int32} {prw plr hgr : Nat → Nat → Int32} {bk bd wys trl : Nat → Int32} {clr : Nat → Int64} {tld tie fst las saw : Nat → Int32} {h : Nat → Int32} (hb9 : vBk bk bd h bsp bwi) (hs : 8 ≤ bsp) (hs2 : bsp ≤ 40) (hw : bwi ≤ 8) : ∀ (d : Nat) (j : Nat) (sx : Nat) (wio : Nat → Int32), bwi - j < d → (j ≤ bwi) → (sx < 256) → (lfI (brs h bsp bwi) bwi j = nI sx) → (pcN sx + j = bwi) → (∀ t, t < j → wio t = foI (brs h bsp bwi) bwi (lfI (brs h bsp bwi) bwi t)) → AW p l e { frames := 5, cells := 0, slots := 0, locals := 128 } s m args below meth c D 49 q 5 (MQ below (Qg D 49 q (PX (fun x g => x = opStuck bsp bwi h ∧ ∃ b8 b9 v9 w9, g = (bwC cy q tl dsp dwi dat bsp bwi pnx phd v9 dff lbl lsh lpk lett num lim now prw plr hgr b8 b9 w9 wys trl clr tld tie fst las saw) ∧ (v9 = 0 ∨ (v9 = 1 ∧ vBk b8 b9 h bsp bwi)) ∧ (opStuck bsp bwi h = 0 → ∀ t, t < bwi → w9 t = foI (brs h bsp bwi) bwi (lfI (brs h bsp bwi) bwi t)))) (wA 49 q s.heap.size)) args s 0 0 (wA 49 q s.heap.size)) (bwC cy q tl dsp dwi dat bsp bwi pnx phd 1 dff lbl lsh lpk lett num lim now prw plr hgr bk bd wio wys trl clr tld tie fst las saw) [(0, .ref (q 6)), (1, .ref (q 39)), (2, .int (nI sx)), (3, .int (nI j))] 22 [] := by
  intro d
  induction d with
  | zero => intro j sx wio hd; exact absurd hd (Nat.not_lt_zero _)
  | succ d ih =>
    intro j sx wio hd iv0 iv1 iv2 iv3 iv4
    refine aw_iload_n C dX4_arrange_22 (i := 3) rfl rfl ?_
    refine aw_aload_n C dX4_arrange_23 (i := 0) rfl rfl ?_
    refine aw_get (k := 6) C dX4_arrange_24 fl_X4_18 (by decide) rfl rfl ?_
    refine aw_get (k := 3) C dX4_arrange_27 fl_X4_32 (by decide) rfl rfl ?_
    refine aw_icmp_ge_n (tgt := 71) C dX4_arrange_30 (by decide) (by omega) (by omega) (fun h30 => ?_) (fun h30 => ?_)
    · refine aw_iload_n C dX4_arrange_71 (i := 2) rfl rfl ?_
      refine aw_iret C hr dX4_arrange_72 ?_
      obtain rfl : j = bwi := by omega
      exact ⟨_, rfl, iv2.symm, _, _, _, _, rfl, Or.inr ⟨rfl, hb9⟩, fun _ => iv4⟩
    · refine aw_aload_n C dX4_arrange_33 (i := 0) rfl rfl ?_
      refine aw_iload_n C dX4_arrange_34 (i := 2) rfl rfl ?_
      refine aw_aload_n C dX4_arrange_35 (i := 1) rfl rfl ?_
      refine aw_V2i (k := 6) C dX4_arrange_36 cv_X4_38 (by decide) rfl rfl rfl (cb_lowestFree hI (by omega) (vBk_br hb9 hw) hw) ⟨Nat.le_of_ble_eq_true rfl, Nat.le_of_ble_eq_true rfl⟩ (Nat.le_of_ble_eq_true rfl) ?_
      refine aw_istore (lv' := [(0, _), (1, _), (2, _), (3, _), (4, _)]) C dX4_arrange_39 (Nat.le_of_ble_eq_true rfl) rfl ?_
      refine aw_iload C dX4_arrange_41 rfl ?_
      refine aw_if_ge (tgt := 48) C dX4_arrange_43 (by decide) (fun h43 => ?_) (fun h43 => ?_)
      · obtain ⟨k9, hk9, p9, e9, f9⟩ := lo_s hw h43
        rw [e9]
        have t9 : sx.testBit k9 = true := by
          unfold foP at p9
          rw [Bool.and_eq_true, decide_eq_true_eq] at p9
          exact ((bt_tb sx iv1 k9 (by omega)).1).mp p9.1
        have r9 := rm_tb sx iv1 k9 (by omega) t9
        refine aw_aload_n C dX4_arrange_48 (i := 0) rfl rfl ?_
        refine aw_get (k := 6) C dX4_arrange_49 fl_X4_9 (by decide) rfl rfl ?_
        refine aw_iload_n C dX4_arrange_52 (i := 3) rfl rfl ?_
        refine aw_iload C dX4_arrange_53 rfl ?_
        refine aw_iast (k := 40) C dX4_arrange_55 (by decide) (rfl) (rfl) (by omega) (by decide) (bw_a_wio) ?_
        refine aw_iload_n C dX4_arrange_56 (i := 2) rfl rfl ?_
        refine aw_iconst C dX4_arrange_57 ki_1 ?_
        refine aw_iload C dX4_arrange_58 rfl ?_
        refine aw_ishl C dX4_arrange_60 ?_
        refine aw_iconst C dX4_arrange_61 ki_m1 ?_
        refine aw_ixor C dX4_arrange_62 ?_
        refine aw_iand C dX4_arrange_63 ?_
        rw [r9.2.1]
        refine aw_istore_n (lv' := [(0, _), (1, _), (2, _), (3, _), (4, _)]) C dX4_arrange_64 (i := 2) rfl (Nat.le_of_ble_eq_true rfl) rfl ?_
        refine aw_iinc_n (lv' := [(0, _), (1, _), (2, _), (3, _), (4, _)]) C dX4_arrange_65 rfl ki_1 (Nat.le_of_ble_eq_true rfl) rfl ?_
        refine aw_goto (tgt := 22) C dX4_arrange_68 (by decide) ?_
        refine aw_take 4 (lv' := [(0, _), (1, _), (2, _), (3, _)]) rfl ?_
        refine ih (j + 1) _ _ (by omega) (by omega) (by have := Nat.sub_le sx (2 ^ k9); omega) ?_ (by omega) (fun t ht => ?_)
        · rw [lfI_s, iv2, f9, if_pos (nI_pos' (by omega)), r9.1]
        · rcases Nat.lt_or_ge t j with g9 | g9
          · rw [upd_un (by omega)]
            exact iv4 t g9
          · obtain rfl : t = j := by omega
            rw [upd_us, iv2, f9]
      · refine aw_iload_n C dX4_arrange_46 (i := 2) rfl rfl ?_
        refine aw_iret C hr dX4_arrange_47 ?_
        have s9 : opStuck bsp bwi h = nI sx := by
          have z9 := lf_st (b := (brs h bsp bwi)) (n := bwi) (j := j) (by rw [iv2]; exact lo_n hw h43) (bwi - j)
          rw [show j + (bwi - j) = bwi by omega, iv2] at z9
          exact z9
        have n9 : sx ≠ 0 := fun e9 => by rw [e9, pc_0] at iv3; omega
        exact ⟨_, rfl, s9.symm, _, _, _, _, rfl, Or.inr ⟨rfl, hb9⟩, fun h9 => absurd ((nI_eq (by omega) (by omega)).mp ((s9.symm.trans h9).trans nI_0.symm)) n9⟩
set_option maxRecDepth 20000 in
/-- arrange -/
theorem cb_arrange {l : Launch} {D : va_G} {cy : Nat → ClassId} {z : Nat → Nat} {q : Nat → Nat} (hI : wI 49 q) {tl dsp dwi dat bsp bwi pnx phd vkn : Nat} {dff lbl lsh lpk : Int32} {lett : Nat → Nat} {num lim now : Nat → Int32} {prw plr hgr : Nat → Nat → Int32} {bk bd wio wys trl : Nat → Int32} {clr : Nat → Int64} {tld tie fst las saw : Nat → Int32} {h : Nat → Int32} (hO : hOK h bwi) (hP : vPl plr h bsp bwi) (hH : vHg hgr h bsp bwi) (hA : agr now h bwi) (hB : vkn = 0 ∨ (vkn = 1 ∧ vBk bk bd h bsp bwi)) (hs : 8 ≤ bsp) (hs2 : bsp ≤ 40) (hw : bwi ≤ 8) : Ct l yX4_arrange cX4_arrange 5 (some .int) 5 128 D cy z 49 q [.ref (q 6)] (bwC cy q tl dsp dwi dat bsp bwi pnx phd vkn dff lbl lsh lpk lett num lim now prw plr hgr bk bd wio wys trl clr tld tie fst las saw) (PX (fun x g => x = opStuck bsp bwi h ∧ ∃ b8 b9 v9 w9, g = (bwC cy q tl dsp dwi dat bsp bwi pnx phd v9 dff lbl lsh lpk lett num lim now prw plr hgr b8 b9 w9 wys trl clr tld tie fst las saw) ∧ (v9 = 0 ∨ (v9 = 1 ∧ vBk b8 b9 h bsp bwi)) ∧ (opStuck bsp bwi h = 0 → ∀ t, t < bwi → w9 t = foI (brs h bsp bwi) bwi (lfI (brs h bsp bwi) bwi t)))) := by
  refine Ct.of (own := RX4) (by decide) rfl hI (Nat.le_of_ble_eq_true rfl) ?_
  intro p e s m args below meth c C hr
  refine aw_lv (lv' := [(0, .ref (q 6))]) (fun x hx => hx) ?_
  refine aw_aload_n C dX4_arrange_0 (i := 0) rfl rfl ?_
  refine aw_get (k := 6) C dX4_arrange_1 fl_X4_22 (by decide) rfl rfl ?_
  refine aw_V0r (k := 5) C dX4_arrange_4 cv_X4_26 (by decide) rfl rfl rfl (cb_blockedByEach hI hO hP hH hA hB hs hs2 hw) ⟨Nat.le_of_ble_eq_true rfl, Nat.le_of_ble_eq_true rfl⟩ (Nat.le_of_ble_eq_true rfl) (fun g hp9 => ?_)
  obtain ⟨b8, b9, rfl, hb9⟩ := hp9
  refine aw_astore_n (lv' := [(0, _), (1, _)]) C dX4_arrange_7 (i := 1) rfl (Nat.le_of_ble_eq_true rfl) rfl ?_
  refine aw_iconst C dX4_arrange_8 ki_1 ?_
  refine aw_aload_n C dX4_arrange_9 (i := 0) rfl rfl ?_
  refine aw_get (k := 6) C dX4_arrange_10 fl_X4_18 (by decide) rfl rfl ?_
  refine aw_get (k := 3) C dX4_arrange_13 fl_X4_32 (by decide) rfl rfl ?_
  refine aw_ishl C dX4_arrange_16 ?_
  refine aw_iconst C dX4_arrange_17 ki_1 ?_
  refine aw_isub C dX4_arrange_18 ?_
  rw [all_eq hw]
  refine aw_istore_n (lv' := [(0, _), (1, _), (2, _)]) C dX4_arrange_19 (i := 2) rfl (Nat.le_of_ble_eq_true rfl) rfl ?_
  refine aw_iconst C dX4_arrange_20 ki_0 ?_
  refine aw_istore_n (lv' := [(0, _), (1, _), (2, _), (3, _)]) C dX4_arrange_21 (i := 3) rfl (Nat.le_of_ble_eq_true rfl) rfl ?_
  have hpw := pw8 hw
  exact cb_arrange_l hI C hr hb9 hs hs2 hw (bwi + 1) 0 _ _ (by omega) (by omega) (by omega) (all_eq hw) (by rw [pc_all bwi hw]; rfl) (fun t ht => absurd ht (Nat.not_lt_zero t))
set_option maxRecDepth 20000 in
/-- wireAt -/
theorem cb_wireAt {l : Launch} {D : va_G} {cy : Nat → ClassId} {z : Nat → Nat} {q : Nat → Nat} (hI : wI 49 q) {tl dsp dwi dat bsp bwi pnx phd vkn : Nat} {dff lbl lsh lpk : Int32} {lett : Nat → Nat} {num lim now : Nat → Int32} {prw plr hgr : Nat → Nat → Int32} {bk bd wio wys trl : Nat → Int32} {clr : Nat → Int64} {tld tie fst las saw : Nat → Int32} {k : Nat} (hk : k < 8) : Ct l yX4_wireAt cX4_wireAt 2 (some .int) 0 0 D cy z 49 q [.ref (q 6), .int (nI k)] (bwC cy q tl dsp dwi dat bsp bwi pnx phd vkn dff lbl lsh lpk lett num lim now prw plr hgr bk bd wio wys trl clr tld tie fst las saw) (PI (wio k) (bwC cy q tl dsp dwi dat bsp bwi pnx phd vkn dff lbl lsh lpk lett num lim now prw plr hgr bk bd wio wys trl clr tld tie fst las saw)) := by
  refine Ct.of (own := RX4) (by decide) rfl hI (Nat.le_of_ble_eq_true rfl) ?_
  intro p e s m args below meth c C hr
  refine aw_lv (lv' := [(0, .ref (q 6)), (1, .int (nI k))]) (fun x hx => hx) ?_
  refine aw_aload_n C dX4_wireAt_0 (i := 0) rfl rfl ?_
  refine aw_get (k := 6) C dX4_wireAt_1 fl_X4_9 (by decide) rfl rfl ?_
  refine aw_iload_n C dX4_wireAt_4 (i := 1) rfl rfl ?_
  refine aw_iald (k := 40) C dX4_wireAt_5 (by decide) (rfl) (rfl) (by omega) (by decide) (rfl) ?_
  refine aw_iret C hr dX4_wireAt_6 ?_
  exact PI.mk rfl rfl
def wsK (b : Nat → Int32) (f0 : Nat) (w : Nat → Int32) : Nat → Int32
  | 0 => nI 0
  | k + 1 => if f0.testBit k = true then if b k &&& (nI f0 ^^^ (-1)) = 0 then wsK b f0 w k + w (f0 - 2 ^ k) else wsK b f0 w k else wsK b f0 w k
theorem wsK_s {b : Nat → Int32} {f0 : Nat} {w : Nat → Int32} {k : Nat} : wsK b f0 w (k + 1) = if f0.testBit k = true then if b k &&& (nI f0 ^^^ (-1)) = 0 then wsK b f0 w k + w (f0 - 2 ^ k) else wsK b f0 w k else wsK b f0 w k := rfl
def plV (b : Nat → Int32) (n : Nat) (w : Nat → Int32) : Nat → (Nat → Int32)
  | 0 => upd w 0 (nI 1)
  | m + 1 => upd (plV b n w m) (m + 1) (wsK b (m + 1) (plV b n w m) n)
theorem wsK_cg {b c : Nat → Int32} {f0 : Nat} {w : Nat → Int32} : ∀ {n : Nat}, (∀ k, k < n → b k = c k) → wsK b f0 w n = wsK c f0 w n
  | 0, _ => rfl
  | n + 1, h => by rw [wsK_s, wsK_s, wsK_cg (fun k hk => h k (by omega)), h n (by omega)]
set_option maxRecDepth 20000 in
/-- waysOf, its loop -/
theorem cb_waysOf_l {l : Launch} {D : va_G} {cy : Nat → ClassId} {z : Nat → Nat} {q : Nat → Nat} {p : Program} {e : Env} {s : State} {m : MethodId} {args : Array Value} {below : List Frame} {meth : Method} {c : Code} (hI : wI 49 q) (C : Cx p s m args meth c cX4_waysOf 5 RX4 D cy z 49 q) (hr : meth.sig.returnType = (some .int)) {tl dsp dwi dat bsp bwi pnx phd vkn : Nat} {dff lbl lsh lpk : Int32} {lett : Nat → Nat} {num lim now : Nat → Int32} {prw plr hgr : Nat → Nat → Int32} {bk bd wio wys trl : Nat → Int32} {clr : Nat → Int64} {tld tie fst las saw : Nat → Int32} {f0 : Nat} (hf0 : f0 < 256) {b : Nat → Int32} (hb : ∀ j, j < bwi → bd j = b j) (hw : bwi ≤ 8) : ∀ (d : Nat) (k : Nat), bwi - k < d → (k ≤ bwi) → AW p l e { frames := 0, cells := 0, slots := 0, locals := 0 } s m args below meth c D 49 q 5 (MQ below (Qg D 49 q (PI (wsK b f0 wys bwi) (bwC cy q tl dsp dwi dat bsp bwi pnx phd vkn dff lbl lsh lpk lett num lim now prw plr hgr bk bd wio wys trl clr tld tie fst las saw)) (wA 49 q s.heap.size)) args s 0 0 (wA 49 q s.heap.size)) (bwC cy q tl dsp dwi dat bsp bwi pnx phd vkn dff lbl lsh lpk lett num lim now prw plr hgr bk bd wio wys trl clr tld tie fst las saw) [(0, .ref (q 6)), (1, .int (nI f0)), (2, .ref (q 39)), (3, .int (wsK b f0 wys k)), (4, .int (nI k))] 5 [] := by
  intro d
  induction d with
  | zero => intro k hd; exact absurd hd (Nat.not_lt_zero _)
  | succ d ih =>
    intro k hd iv0
    refine aw_iload C dX4_waysOf_5 rfl ?_
    refine aw_aload_n C dX4_waysOf_7 (i := 0) rfl rfl ?_
    refine aw_get (k := 6) C dX4_waysOf_8 fl_X4_18 (by decide) rfl rfl ?_
    refine aw_get (k := 3) C dX4_waysOf_11 fl_X4_32 (by decide) rfl rfl ?_
    refine aw_icmp_ge_n (tgt := 59) C dX4_waysOf_14 (by decide) (by omega) (by omega) (fun h14 => ?_) (fun h14 => ?_)
    · refine aw_iload_n C dX4_waysOf_59 (i := 3) rfl rfl ?_
      refine aw_iret C hr dX4_waysOf_60 ?_
      exact PI.mk (by rw [show k = bwi by omega]) rfl
    · refine aw_iload_n C dX4_waysOf_17 (i := 1) rfl rfl ?_
      refine aw_iconst C dX4_waysOf_18 ki_1 ?_
      refine aw_iload C dX4_waysOf_19 rfl ?_
      refine aw_ishl C dX4_waysOf_21 ?_
      refine aw_iand C dX4_waysOf_22 ?_
      refine aw_if_eq (tgt := 53) C dX4_waysOf_23 (by decide) (fun h23 => ?_) (fun h23 => ?_)
      · refine aw_iinc_n (lv' := [(0, _), (1, _), (2, _), (3, _), (4, _)]) C dX4_waysOf_53 rfl ki_1 (Nat.le_of_ble_eq_true rfl) rfl ?_
        refine aw_goto (tgt := 5) C dX4_waysOf_56 (by decide) ?_
        have k9 := ih (k + 1) (by omega) (by omega)
        rw [wsK_s, if_neg (by rw [((bt_tb f0 hf0 k (by omega)).2.2).mp h23]; decide)] at k9
        exact k9
      · have t9 : f0.testBit k = true := by
          cases hv : f0.testBit k with
          | true => rfl
          | false => exact absurd (((bt_tb f0 hf0 k (by omega)).2.2).mpr hv) h23
        have r9 := rm_tb f0 hf0 k (by omega) t9
        refine aw_aload_n C dX4_waysOf_26 (i := 2) rfl rfl ?_
        refine aw_iload C dX4_waysOf_27 rfl ?_
        refine aw_iald (k := 39) C dX4_waysOf_29 (by decide) (rfl) (rfl) (by omega) (by decide) (hb k (by omega)) ?_
        refine aw_iload_n C dX4_waysOf_30 (i := 1) rfl rfl ?_
        refine aw_iconst C dX4_waysOf_31 ki_m1 ?_
        refine aw_ixor C dX4_waysOf_32 ?_
        refine aw_iand C dX4_waysOf_33 ?_
        refine aw_if_ne (tgt := 53) C dX4_waysOf_34 (by decide) (fun h34 => ?_) (fun h34 => ?_)
        · refine aw_iinc_n (lv' := [(0, _), (1, _), (2, _), (3, _), (4, _)]) C dX4_waysOf_53 rfl ki_1 (Nat.le_of_ble_eq_true rfl) rfl ?_
          refine aw_goto (tgt := 5) C dX4_waysOf_56 (by decide) ?_
          have k9 := ih (k + 1) (by omega) (by omega)
          rw [wsK_s, if_pos t9, if_neg h34] at k9
          exact k9
        · refine aw_iload_n C dX4_waysOf_37 (i := 3) rfl rfl ?_
          refine aw_aload_n C dX4_waysOf_38 (i := 0) rfl rfl ?_
          refine aw_get (k := 6) C dX4_waysOf_39 fl_X4_15 (by decide) rfl rfl ?_
          refine aw_iload_n C dX4_waysOf_42 (i := 1) rfl rfl ?_
          refine aw_iconst C dX4_waysOf_43 ki_1 ?_
          refine aw_iload C dX4_waysOf_44 rfl ?_
          refine aw_ishl C dX4_waysOf_46 ?_
          refine aw_iconst C dX4_waysOf_47 ki_m1 ?_
          refine aw_ixor C dX4_waysOf_48 ?_
          refine aw_iand C dX4_waysOf_49 ?_
          refine aw_iald (k := 41) C dX4_waysOf_50 (by decide) (rfl) (r9.2.1) (by have := Nat.sub_le f0 (2 ^ k); omega) (by decide) (rfl) ?_
          refine aw_iadd C dX4_waysOf_51 ?_
          refine aw_istore_n (lv' := [(0, _), (1, _), (2, _), (3, _), (4, _)]) C dX4_waysOf_52 (i := 3) rfl (Nat.le_of_ble_eq_true rfl) rfl ?_
          refine aw_iinc_n (lv' := [(0, _), (1, _), (2, _), (3, _), (4, _)]) C dX4_waysOf_53 rfl ki_1 (Nat.le_of_ble_eq_true rfl) rfl ?_
          refine aw_goto (tgt := 5) C dX4_waysOf_56 (by decide) ?_
          have k9 := ih (k + 1) (by omega) (by omega)
          rw [wsK_s, if_pos t9, if_pos h34] at k9
          exact k9
set_option maxRecDepth 20000 in
/-- waysOf -/
theorem cb_waysOf {l : Launch} {D : va_G} {cy : Nat → ClassId} {z : Nat → Nat} {q : Nat → Nat} (hI : wI 49 q) {tl dsp dwi dat bsp bwi pnx phd vkn : Nat} {dff lbl lsh lpk : Int32} {lett : Nat → Nat} {num lim now : Nat → Int32} {prw plr hgr : Nat → Nat → Int32} {bk bd wio wys trl : Nat → Int32} {clr : Nat → Int64} {tld tie fst las saw : Nat → Int32} {f0 : Nat} (hf0 : f0 < 256) {b : Nat → Int32} (hb : ∀ j, j < bwi → bd j = b j) (hw : bwi ≤ 8) : Ct l yX4_waysOf cX4_waysOf 5 (some .int) 0 0 D cy z 49 q [.ref (q 6), .int (nI f0), .ref (q 39)] (bwC cy q tl dsp dwi dat bsp bwi pnx phd vkn dff lbl lsh lpk lett num lim now prw plr hgr bk bd wio wys trl clr tld tie fst las saw) (PI (wsK b f0 wys bwi) (bwC cy q tl dsp dwi dat bsp bwi pnx phd vkn dff lbl lsh lpk lett num lim now prw plr hgr bk bd wio wys trl clr tld tie fst las saw)) := by
  refine Ct.of (own := RX4) (by decide) rfl hI (Nat.le_of_ble_eq_true rfl) ?_
  intro p e s m args below meth c C hr
  refine aw_lv (lv' := [(0, .ref (q 6)), (1, .int (nI f0)), (2, .ref (q 39))]) (fun x hx => hx) ?_
  refine aw_iconst C dX4_waysOf_0 ki_0 ?_
  refine aw_istore_n (lv' := [(0, _), (1, _), (2, _), (3, _)]) C dX4_waysOf_1 (i := 3) rfl (Nat.le_of_ble_eq_true rfl) rfl ?_
  refine aw_iconst C dX4_waysOf_2 ki_0 ?_
  refine aw_istore (lv' := [(0, _), (1, _), (2, _), (3, _), (4, _)]) C dX4_waysOf_3 (Nat.le_of_ble_eq_true rfl) rfl ?_
  exact cb_waysOf_l hI C hr hf0 hb hw (bwi + 1) 0 (by omega) (by omega)
set_option maxRecDepth 20000 in
/-- howMany, its loop -/
theorem cb_howMany_l {l : Launch} {D : va_G} {cy : Nat → ClassId} {z : Nat → Nat} {q : Nat → Nat} {p : Program} {e : Env} {s : State} {m : MethodId} {args : Array Value} {below : List Frame} {meth : Method} {c : Code} (hI : wI 49 q) (C : Cx p s m args meth c cX4_howMany 4 RX4 D cy z 49 q) (hr : meth.sig.returnType = (some .int)) {tl dsp dwi dat bsp bwi pnx phd : Nat} {dff lbl lsh lpk : Int32} {lett : Nat → Nat} {num lim now : Nat → Int32} {prw plr hgr : Nat → Nat → Int32} {bk bd wio wys trl : Nat → Int32} {clr : Nat → Int64} {tld tie fst las saw : Nat → Int32} {h : Nat → Int32} (hb9 : vBk bk bd h bsp bwi) (hs : 8 ≤ bsp) (hs2 : bsp ≤ 40) (hw : bwi ≤ 8) : ∀ (d : Nat) (m0 : Nat), 2 ^ bwi - m0 < d → (m0 < 2 ^ bwi) → AW p l e { frames := 5, cells := 0, slots := 0, locals := 128 } s m args below meth c D 49 q 4 (MQ below (Qg D 49 q (PX (fun x g => x = plV (brs h bsp bwi) bwi wys (2 ^ bwi - 1) (2 ^ bwi - 1) ∧ ∃ b8 b9 v9 w9, g = (bwC cy q tl dsp dwi dat bsp bwi pnx phd v9 dff lbl lsh lpk lett num lim now prw plr hgr b8 b9 wio w9 trl clr tld tie fst las saw) ∧ (v9 = 0 ∨ (v9 = 1 ∧ vBk b8 b9 h bsp bwi)))) (wA 49 q s.heap.size)) args s 0 0 (wA 49 q s.heap.size)) (bwC cy q tl dsp dwi dat bsp bwi pnx phd 1 dff lbl lsh lpk lett num lim now prw plr hgr bk bd wio (plV (brs h bsp bwi) bwi wys m0) trl clr tld tie fst las saw) [(0, .ref (q 6)), (1, .ref (q 39)), (2, .int (nI (2 ^ bwi - 1))), (3, .int (nI (m0 + 1)))] 29 [] := by
  intro d
  induction d with
  | zero => intro m0 hd; exact absurd hd (Nat.not_lt_zero _)
  | succ d ih =>
    intro m0 hd iv0
    have hpw := pw8 hw
    refine aw_iload_n C dX4_howMany_29 (i := 3) rfl rfl ?_
    refine aw_iload_n C dX4_howMany_30 (i := 2) rfl rfl ?_
    refine aw_icmp_gt_n (tgt := 52) C dX4_howMany_31 (by decide) (by omega) (by omega) (fun h31 => ?_) (fun h31 => ?_)
    · refine aw_aload_n C dX4_howMany_52 (i := 0) rfl rfl ?_
      refine aw_get (k := 6) C dX4_howMany_53 fl_X4_15 (by decide) rfl rfl ?_
      refine aw_iload_n C dX4_howMany_56 (i := 2) rfl rfl ?_
      refine aw_iald (k := 41) C dX4_howMany_57 (by decide) (rfl) (rfl) (by omega) (by decide) (rfl) ?_
      refine aw_iret C hr dX4_howMany_58 ?_
      obtain rfl : m0 = 2 ^ bwi - 1 := by omega
      exact ⟨_, rfl, rfl, _, _, _, _, rfl, Or.inr ⟨rfl, hb9⟩⟩
    · refine aw_aload_n C dX4_howMany_34 (i := 0) rfl rfl ?_
      refine aw_get (k := 6) C dX4_howMany_35 fl_X4_15 (by decide) rfl rfl ?_
      refine aw_iload_n C dX4_howMany_38 (i := 3) rfl rfl ?_
      refine aw_aload_n C dX4_howMany_39 (i := 0) rfl rfl ?_
      refine aw_iload_n C dX4_howMany_40 (i := 3) rfl rfl ?_
      refine aw_aload_n C dX4_howMany_41 (i := 1) rfl rfl ?_
      refine aw_V2i (k := 6) C dX4_howMany_42 cv_X4_42 (by decide) rfl rfl rfl (cb_waysOf hI (b := (brs h bsp bwi)) (by omega) (vBk_br hb9 hw) hw) ⟨Nat.le_of_ble_eq_true rfl, Nat.le_of_ble_eq_true rfl⟩ (Nat.le_of_ble_eq_true rfl) ?_
      refine aw_iast (k := 41) C dX4_howMany_45 (by decide) (rfl) (rfl) (by omega) (by decide) (bw_a_wys) ?_
      refine aw_iinc_n (lv' := [(0, _), (1, _), (2, _), (3, _)]) C dX4_howMany_46 rfl ki_1 (Nat.le_of_ble_eq_true rfl) rfl ?_
      refine aw_goto (tgt := 29) C dX4_howMany_49 (by decide) ?_
      exact ih (m0 + 1) (by omega) (by omega)
set_option maxRecDepth 20000 in
/-- howMany -/
theorem cb_howMany {l : Launch} {D : va_G} {cy : Nat → ClassId} {z : Nat → Nat} {q : Nat → Nat} (hI : wI 49 q) {tl dsp dwi dat bsp bwi pnx phd vkn : Nat} {dff lbl lsh lpk : Int32} {lett : Nat → Nat} {num lim now : Nat → Int32} {prw plr hgr : Nat → Nat → Int32} {bk bd wio wys trl : Nat → Int32} {clr : Nat → Int64} {tld tie fst las saw : Nat → Int32} {h : Nat → Int32} (hO : hOK h bwi) (hP : vPl plr h bsp bwi) (hH : vHg hgr h bsp bwi) (hA : agr now h bwi) (hB : vkn = 0 ∨ (vkn = 1 ∧ vBk bk bd h bsp bwi)) (hs : 8 ≤ bsp) (hs2 : bsp ≤ 40) (hw : bwi ≤ 8) : Ct l yX4_howMany cX4_howMany 4 (some .int) 5 128 D cy z 49 q [.ref (q 6)] (bwC cy q tl dsp dwi dat bsp bwi pnx phd vkn dff lbl lsh lpk lett num lim now prw plr hgr bk bd wio wys trl clr tld tie fst las saw) (PX (fun x g => x = plV (brs h bsp bwi) bwi wys (2 ^ bwi - 1) (2 ^ bwi - 1) ∧ ∃ b8 b9 v9 w9, g = (bwC cy q tl dsp dwi dat bsp bwi pnx phd v9 dff lbl lsh lpk lett num lim now prw plr hgr b8 b9 wio w9 trl clr tld tie fst las saw) ∧ (v9 = 0 ∨ (v9 = 1 ∧ vBk b8 b9 h bsp bwi)))) := by
  refine Ct.of (own := RX4) (by decide) rfl hI (Nat.le_of_ble_eq_true rfl) ?_
  intro p e s m args below meth c C hr
  refine aw_lv (lv' := [(0, .ref (q 6))]) (fun x hx => hx) ?_
  refine aw_aload_n C dX4_howMany_0 (i := 0) rfl rfl ?_
  refine aw_get (k := 6) C dX4_howMany_1 fl_X4_22 (by decide) rfl rfl ?_
  refine aw_V0r (k := 5) C dX4_howMany_4 cv_X4_26 (by decide) rfl rfl rfl (cb_blockedByEach hI hO hP hH hA hB hs hs2 hw) ⟨Nat.le_of_ble_eq_true rfl, Nat.le_of_ble_eq_true rfl⟩ (Nat.le_of_ble_eq_true rfl) (fun g hp9 => ?_)
  obtain ⟨b8, b9, rfl, hb9⟩ := hp9
  refine aw_astore_n (lv' := [(0, _), (1, _)]) C dX4_howMany_7 (i := 1) rfl (Nat.le_of_ble_eq_true rfl) rfl ?_
  refine aw_iconst C dX4_howMany_8 ki_1 ?_
  refine aw_aload_n C dX4_howMany_9 (i := 0) rfl rfl ?_
  refine aw_get (k := 6) C dX4_howMany_10 fl_X4_18 (by decide) rfl rfl ?_
  refine aw_get (k := 3) C dX4_howMany_13 fl_X4_32 (by decide) rfl rfl ?_
  refine aw_ishl C dX4_howMany_16 ?_
  refine aw_iconst C dX4_howMany_17 ki_1 ?_
  refine aw_isub C dX4_howMany_18 ?_
  rw [all_eq hw]
  refine aw_istore_n (lv' := [(0, _), (1, _), (2, _)]) C dX4_howMany_19 (i := 2) rfl (Nat.le_of_ble_eq_true rfl) rfl ?_
  refine aw_aload_n C dX4_howMany_20 (i := 0) rfl rfl ?_
  refine aw_get (k := 6) C dX4_howMany_21 fl_X4_15 (by decide) rfl rfl ?_
  refine aw_iconst C dX4_howMany_24 ki_0 ?_
  refine aw_iconst C dX4_howMany_25 ki_1 ?_
  refine aw_iast (k := 41) C dX4_howMany_26 (by decide) (rfl) (rfl) (by omega) (by decide) (bw_a_wys) ?_
  refine aw_iconst C dX4_howMany_27 ki_1 ?_
  refine aw_istore_n (lv' := [(0, _), (1, _), (2, _), (3, _)]) C dX4_howMany_28 (i := 3) rfl (Nat.le_of_ble_eq_true rfl) rfl ?_
  have hpw := pw8 hw
  exact cb_howMany_l hI C hr hb9 hs hs2 hw (2 ^ bwi + 1) 0 (by omega) (by omega)
