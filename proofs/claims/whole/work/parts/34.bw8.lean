-- BondedWires: its calls (3)
set_option maxRecDepth 20000 in
/-- stuck -/
theorem cb_stuck {l : Launch} {D : va_G} {cy : Nat → ClassId} {z : Nat → Nat} {q : Nat → Nat} (hI : wI 49 q) {len span wires chg : Nat} {text : Nat → Nat} {h was eyes : Nat → Int32} {dsp dwi dat pnx vkn : Nat} {dff lbl lsh lpk : Int32} {lett : Nat → Nat} {num lim now : Nat → Int32} {prw plr hgr : Nat → Nat → Int32} {bk bd wio wys trl : Nat → Int32} {clr : Nat → Int64} {tld tie fst las saw : Nat → Int32} (S9 : okS len span wires chg text h was eyes) (Q9 : bwQ len span wires chg text h was eyes pnx vkn lett now prw plr hgr bk bd tld tie fst las saw) : Ct l yX8_stuck cX8_stuck 1 (some .int) 6 152 D cy z 49 q [.ref (q 0)] (bwC cy q len dsp dwi dat span wires pnx chg vkn dff lbl lsh lpk lett num lim now prw plr hgr bk bd wio wys trl clr tld tie fst las saw) (PB cy q (opStuck span wires h, (len, span, wires, chg, text, h, was, eyes))) := by
  refine Ct.of (own := RX8) (by decide) rfl hI (Nat.le_of_ble_eq_true rfl) ?_
  intro p e s m args below meth c C hr
  refine aw_lv (lv' := [(0, .ref (q 0))]) (fun x hx => hx) ?_
  have S8 := S9
  obtain ⟨hl, hb, hs, hs2, hw, hc, hO, hW, hK⟩ := S8
  have Q8 := Q9
  obtain ⟨hlb, hlt, hA, hP, hH, hB, hn, hR, hE⟩ := Q8
  refine aw_aload_n C dX8_stuck_0 (i := 0) rfl rfl ?_
  refine aw_get (k := 0) C dX8_stuck_1 fl_X8_51 (by decide) rfl rfl ?_
  refine aw_V0x (k := 6) C dX8_stuck_4 cv_X8_200 (by decide) rfl rfl rfl (cb_arrange hI hO hP hH hA hB hs hs2 hw) ⟨Nat.le_of_ble_eq_true rfl, Nat.le_of_ble_eq_true rfl⟩ (Nat.le_of_ble_eq_true rfl) (fun x g hp9 => ?_)
  obtain ⟨rfl, b8, b9, v9, w9, rfl, m9, o9⟩ := hp9
  refine aw_iret C hr dX8_stuck_7 ?_
  exact PB.mk rfl S9 ⟨hlb, hlt, hA, hP, hH, m9, hn, hR, hE⟩
set_option maxRecDepth 20000 in
/-- orders -/
theorem cb_orders {l : Launch} {D : va_G} {cy : Nat → ClassId} {z : Nat → Nat} {q : Nat → Nat} (hI : wI 49 q) {len span wires chg : Nat} {text : Nat → Nat} {h was eyes : Nat → Int32} {dsp dwi dat pnx vkn : Nat} {dff lbl lsh lpk : Int32} {lett : Nat → Nat} {num lim now : Nat → Int32} {prw plr hgr : Nat → Nat → Int32} {bk bd wio wys trl : Nat → Int32} {clr : Nat → Int64} {tld tie fst las saw : Nat → Int32} (S9 : okS len span wires chg text h was eyes) (Q9 : bwQ len span wires chg text h was eyes pnx vkn lett now prw plr hgr bk bd tld tie fst las saw) {w : Nat → Int32} : Ct l yX8_orders cX8_orders 1 (some .int) 6 151 D cy z 49 q [.ref (q 0)] (bwC cy q len dsp dwi dat span wires pnx chg vkn dff lbl lsh lpk lett num lim now prw plr hgr bk bd wio wys trl clr tld tie fst las saw) (PB cy q (opOrders span wires h w, (len, span, wires, chg, text, h, was, eyes))) := by
  refine Ct.of (own := RX8) (by decide) rfl hI (Nat.le_of_ble_eq_true rfl) ?_
  intro p e s m args below meth c C hr
  refine aw_lv (lv' := [(0, .ref (q 0))]) (fun x hx => hx) ?_
  have S8 := S9
  obtain ⟨hl, hb, hs, hs2, hw, hc, hO, hW, hK⟩ := S8
  have Q8 := Q9
  obtain ⟨hlb, hlt, hA, hP, hH, hB, hn, hR, hE⟩ := Q8
  refine aw_aload_n C dX8_orders_0 (i := 0) rfl rfl ?_
  refine aw_get (k := 0) C dX8_orders_1 fl_X8_51 (by decide) rfl rfl ?_
  refine aw_V0x (k := 6) C dX8_orders_4 cv_X8_206 (by decide) rfl rfl rfl (cb_howMany hI hO hP hH hA hB hs hs2 hw) ⟨Nat.le_of_ble_eq_true rfl, Nat.le_of_ble_eq_true rfl⟩ (Nat.le_of_ble_eq_true rfl) (fun x g hp9 => ?_)
  obtain ⟨rfl, b8, b9, v9, w9, rfl, m9⟩ := hp9
  refine aw_iret C hr dX8_orders_7 ?_
  exact PB.mk (by rw [ord_eq (w2 := wys) hw]) S9 ⟨hlb, hlt, hA, hP, hH, m9, hn, hR, hE⟩
set_option maxRecDepth 20000 in
/-- order -/
theorem cb_order {l : Launch} {D : va_G} {cy : Nat → ClassId} {z : Nat → Nat} {q : Nat → Nat} (hI : wI 49 q) {len span wires chg : Nat} {text : Nat → Nat} {h was eyes : Nat → Int32} {dsp dwi dat pnx vkn : Nat} {dff lbl lsh lpk : Int32} {lett : Nat → Nat} {num lim now : Nat → Int32} {prw plr hgr : Nat → Nat → Int32} {bk bd wio wys trl : Nat → Int32} {clr : Nat → Int64} {tld tie fst las saw : Nat → Int32} (S9 : okS len span wires chg text h was eyes) (Q9 : bwQ len span wires chg text h was eyes pnx vkn lett now prw plr hgr bk bd tld tie fst las saw) {k : Int32} : Ct l yX8_order cX8_order 2 (some .int) 6 152 D cy z 49 q [.ref (q 0), .int k] (bwC cy q len dsp dwi dat span wires pnx chg vkn dff lbl lsh lpk lett num lim now prw plr hgr bk bd wio wys trl clr tld tie fst las saw) (PB cy q (opOrder span wires h k, (len, span, wires, chg, text, h, was, eyes))) := by
  refine Ct.of (own := RX8) (by decide) rfl hI (Nat.le_of_ble_eq_true rfl) ?_
  intro p e s m args below meth c C hr
  refine aw_lv (lv' := [(0, .ref (q 0)), (1, .int k)]) (fun x hx => hx) ?_
  have S8 := S9
  obtain ⟨hl, hb, hs, hs2, hw, hc, hO, hW, hK⟩ := S8
  have Q8 := Q9
  obtain ⟨hlb, hlt, hA, hP, hH, hB, hn, hR, hE⟩ := Q8
  refine aw_iload_n C dX8_order_0 (i := 1) rfl rfl ?_
  refine aw_if_lt (tgt := 10) C dX8_order_1 (by decide) (fun h1 => ?_) (fun h1 => ?_)
  · refine aw_iconst C dX8_order_10 ki_m1 ?_
    refine aw_iret C hr dX8_order_11 ?_
    exact PB.mk (by unfold opOrder; rw [if_neg (fun a9 => by have b9 := inB_iff.mp a9; exact i_nle h1 (by rw [← nI_0]; exact b9.1))]) S9 Q9
  · refine aw_iload_n C dX8_order_4 (i := 1) rfl rfl ?_
    refine aw_bipush C dX8_order_5 kb_8 ?_
    refine aw_icmp_lt (tgt := 12) C dX8_order_7 (by decide) (fun h7 => ?_) (fun h7 => ?_)
    · have n9 : inB k (nI 0) (nI 7) = true := by
        have d9 := Int32.lt_iff_toInt_lt.mp h7
        have d8 : (nI 8).toInt = 8 := rfl
        refine inB_t (by rw [nI_0]; exact i_le h1) (Int32.le_iff_toInt_le.mpr ?_)
        rw [show (nI 7).toInt = 7 from rfl]
        omega
      obtain ⟨k9, -, k8, rfl⟩ := in_n (by omega) (by omega) n9
      refine aw_aload_n C dX8_order_12 (i := 0) rfl rfl ?_
      refine aw_get (k := 0) C dX8_order_13 fl_X8_51 (by decide) rfl rfl ?_
      refine aw_V0x (k := 6) C dX8_order_16 cv_X8_200 (by decide) rfl rfl rfl (cb_arrange hI hO hP hH hA hB hs hs2 hw) ⟨Nat.le_of_ble_eq_true rfl, Nat.le_of_ble_eq_true rfl⟩ (Nat.le_of_ble_eq_true rfl) (fun x g hp9 => ?_)
      obtain ⟨rfl, b8, b9, v9, w9, rfl, m9, o9⟩ := hp9
      refine aw_if_eq (tgt := 25) C dX8_order_19 (by decide) (fun h19 => ?_) (fun h19 => ?_)
      · refine aw_iload_n C dX8_order_25 (i := 1) rfl rfl ?_
        refine aw_aload_n C dX8_order_26 (i := 0) rfl rfl ?_
        refine aw_get (k := 0) C dX8_order_27 fl_X8_26 (by decide) rfl rfl ?_
        refine aw_get (k := 3) C dX8_order_30 fl_X8_102 (by decide) rfl rfl ?_
        refine aw_icmp_ge_n (tgt := 47) C dX8_order_33 (by decide) (by omega) (by omega) (fun h33 => ?_) (fun h33 => ?_)
        · refine aw_bipush C dX8_order_47 kb_m4 ?_
          refine aw_iret C hr dX8_order_49 ?_
          exact PB.mk (by unfold opOrder; rw [if_pos n9, if_pos h19, if_neg (nI_nlt h33 (by omega))]) S9 ⟨hlb, hlt, hA, hP, hH, m9, hn, hR, hE⟩
        · refine aw_aload_n C dX8_order_36 (i := 0) rfl rfl ?_
          refine aw_get (k := 0) C dX8_order_37 fl_X8_51 (by decide) rfl rfl ?_
          refine aw_iload_n C dX8_order_40 (i := 1) rfl rfl ?_
          refine aw_V1i (k := 6) C dX8_order_41 cv_X8_203 (by decide) rfl rfl rfl (cb_wireAt hI (by omega)) ⟨Nat.le_of_ble_eq_true rfl, Nat.le_of_ble_eq_true rfl⟩ (Nat.le_of_ble_eq_true rfl) ?_
          refine aw_goto (tgt := 49) C dX8_order_44 (by decide) ?_
          refine aw_iret C hr dX8_order_49 ?_
          exact PB.mk (by unfold opOrder; rw [if_pos n9, if_pos h19, if_pos (nI_lt h33 (by omega)), nI_clamp (by omega), o9 h19 k9 h33]) S9 ⟨hlb, hlt, hA, hP, hH, m9, hn, hR, hE⟩
      · refine aw_bipush C dX8_order_22 kb_m2 ?_
        refine aw_iret C hr dX8_order_24 ?_
        exact PB.mk (by unfold opOrder; rw [if_pos n9, if_neg h19]) S9 ⟨hlb, hlt, hA, hP, hH, m9, hn, hR, hE⟩
    · refine aw_iconst C dX8_order_10 ki_m1 ?_
      refine aw_iret C hr dX8_order_11 ?_
      exact PB.mk (by unfold opOrder; rw [if_neg (fun a9 => by have b9 := inB_iff.mp a9; have c9 := Int32.le_iff_toInt_le.mp b9.2; have d9 := Int32.le_iff_toInt_le.mp (i_le h7); exact absurd (Int.le_trans d9 c9) (by decide))]) S9 Q9
set_option maxRecDepth 20000 in
/-- loop -/
theorem cb_loop {l : Launch} {D : va_G} {cy : Nat → ClassId} {z : Nat → Nat} {q : Nat → Nat} (hI : wI 49 q) {len span wires chg : Nat} {text : Nat → Nat} {h was eyes : Nat → Int32} {dsp dwi dat pnx vkn : Nat} {dff lbl lsh lpk : Int32} {lett : Nat → Nat} {num lim now : Nat → Int32} {prw plr hgr : Nat → Nat → Int32} {bk bd wio wys trl : Nat → Int32} {clr : Nat → Int64} {tld tie fst las saw : Nat → Int32} (S9 : okS len span wires chg text h was eyes) (Q9 : bwQ len span wires chg text h was eyes pnx vkn lett now prw plr hgr bk bd tld tie fst las saw) {i : Int32} : Ct l yX8_loop cX8_loop 2 (some .int) 6 158 D cy z 49 q [.ref (q 0), .int i] (bwC cy q len dsp dwi dat span wires pnx chg vkn dff lbl lsh lpk lett num lim now prw plr hgr bk bd wio wys trl clr tld tie fst las saw) (PB cy q (opLoop span wires h i, (len, span, wires, chg, text, h, was, eyes))) := by
  refine Ct.of (own := RX8) (by decide) rfl hI (Nat.le_of_ble_eq_true rfl) ?_
  intro p e s m args below meth c C hr
  refine aw_lv (lv' := [(0, .ref (q 0)), (1, .int i)]) (fun x hx => hx) ?_
  have S8 := S9
  obtain ⟨hl, hb, hs, hs2, hw, hc, hO, hW, hK⟩ := S8
  have Q8 := Q9
  obtain ⟨hlb, hlt, hA, hP, hH, hB, hn, hR, hE⟩ := Q8
  refine aw_aload_n C dX8_loop_0 (i := 0) rfl rfl ?_
  refine aw_iload_n C dX8_loop_1 (i := 1) rfl rfl ?_
  refine aw_V1i (k := 0) C dX8_loop_2 cv_X8_105 (by decide) rfl rfl rfl (cb_isWire hI hw) ⟨Nat.le_of_ble_eq_true rfl, Nat.le_of_ble_eq_true rfl⟩ (Nat.le_of_ble_eq_true rfl) ?_
  refine aw_if_ne_b (tgt := 10) C dX8_loop_5 (by decide) (fun h5 => ?_) (fun h5 => ?_)
  · obtain ⟨a9, ha9, rfl⟩ := wr_of hw h5
    refine aw_aload_n C dX8_loop_10 (i := 0) rfl rfl ?_
    refine aw_get (k := 0) C dX8_loop_11 fl_X8_58 (by decide) rfl rfl ?_
    refine aw_iload_n C dX8_loop_14 (i := 1) rfl rfl ?_
    refine aw_V1x (k := 7) C dX8_loop_15 cv_X8_209 (by decide) rfl rfl rfl (cb_find hI ha9 hO hP hH hA hB hs hs2 hw) ⟨Nat.le_of_ble_eq_true rfl, Nat.le_of_ble_eq_true rfl⟩ (Nat.le_of_ble_eq_true rfl) (fun x g hp9 => ?_)
    obtain ⟨b8, b9, l9, s9, p9, r9, c9, rfl, m9, hp9⟩ := hp9
    refine aw_if_eq (tgt := 42) C dX8_loop_18 (by decide) (fun h18 => ?_) (fun h18 => ?_)
    · rcases hp9 with ⟨rfl, lp9⟩ | ⟨rfl, -⟩
      rotate_left
      · exact absurd h18 (by decide)
      refine aw_bipush C dX8_loop_42 kb_m4 ?_
      refine aw_iret C hr dX8_loop_44 ?_
      exact PB.mk (by unfold opLoop; rw [if_pos h5, nI_clamp (by omega)]; unfold lpI; rw [lp9]) S9 ⟨hlb, hlt, hA, hP, hH, Or.inr ⟨rfl, m9⟩, hn, hR, hE⟩
    · rcases hp9 with ⟨rfl, -⟩ | ⟨rfl, t9, v9, t1, v1, v2, rfl, rfl, lp9⟩
      · exact absurd rfl h18
      refine aw_bipush C dX8_loop_21 kb_100 ?_
      refine aw_aload_n C dX8_loop_23 (i := 0) rfl rfl ?_
      refine aw_get (k := 0) C dX8_loop_24 fl_X8_58 (by decide) rfl rfl ?_
      refine aw_get (k := 7) C dX8_loop_27 fl_X8_212 (by decide) rfl rfl ?_
      refine aw_imul C dX8_loop_30 ?_
      refine aw_aload_n C dX8_loop_31 (i := 0) rfl rfl ?_
      refine aw_get (k := 0) C dX8_loop_32 fl_X8_58 (by decide) rfl rfl ?_
      refine aw_get (k := 7) C dX8_loop_35 fl_X8_215 (by decide) rfl rfl ?_
      refine aw_iadd C dX8_loop_38 ?_
      refine aw_goto (tgt := 44) C dX8_loop_39 (by decide) ?_
      refine aw_iret C hr dX8_loop_44 ?_
      exact PB.mk (by unfold opLoop; rw [if_pos h5, nI_clamp (by omega)]; unfold lpI; rw [lp9]) S9 ⟨hlb, hlt, hA, hP, hH, Or.inr ⟨rfl, m9⟩, hn, hR, hE⟩
  · refine aw_iconst C dX8_loop_8 ki_m1 ?_
    refine aw_iret C hr dX8_loop_9 ?_
    exact PB.mk (by unfold opLoop; rw [if_neg (by rw [h5]; decide)]) S9 Q9
theorem md_d {t v : Nat} (ht : t ≤ 2) (hv : v ≤ 40) : (nI 100 * nI t + nI v) / nI 100 = nI t ∧ nI 100 * nI t + nI v - nI t * nI 100 = nI v := by
  rw [pk_mul, nI_add, pk_div (by omega) (by omega) (by omega), pk_mul, pk_sub (by omega)]
  exact ⟨congrArg nI (by omega), congrArg nI (by omega)⟩
theorem md_e {t v t0 p0 : Nat} (ht : t ≤ 2) (hv : v ≤ 40) (ht0 : t0 ≤ 2) (hp0 : p0 ≤ 40) : nI 100 * nI t + nI v = nI 100 * nI t0 + nI p0 ↔ nI t = nI t0 ∧ nI v = nI p0 := by
  rw [pk_mul, nI_add, pk_mul, nI_add, nI_eq (by omega) (by omega), nI_eq (by omega) (by omega), nI_eq (by omega) (by omega)]
  omega
theorem md_p {t v : Nat} (ht : t ≤ 2) (hv : v ≤ 40) : ¬ nI 100 * nI t + nI v < 0 := by
  rw [pk_mul, nI_add]
  exact nI_pos (by omega)
set_option maxRecDepth 20000 in
/-- mend -/
theorem cb_mend {l : Launch} {D : va_G} {cy : Nat → ClassId} {z : Nat → Nat} {q : Nat → Nat} (hI : wI 49 q) {len span wires chg : Nat} {text : Nat → Nat} {h was eyes : Nat → Int32} {dsp dwi dat pnx vkn : Nat} {dff lbl lsh lpk : Int32} {lett : Nat → Nat} {num lim now : Nat → Int32} {prw plr hgr : Nat → Nat → Int32} {bk bd wio wys trl : Nat → Int32} {clr : Nat → Int64} {tld tie fst las saw : Nat → Int32} (S9 : okS len span wires chg text h was eyes) (Q9 : bwQ len span wires chg text h was eyes pnx vkn lett now prw plr hgr bk bd tld tie fst las saw) {i : Int32} : Ct l yX8_mend cX8_mend 3 (some .int) 6 158 D cy z 49 q [.ref (q 0), .int i] (bwC cy q len dsp dwi dat span wires pnx chg vkn dff lbl lsh lpk lett num lim now prw plr hgr bk bd wio wys trl clr tld tie fst las saw) (PB cy q (opMend len span wires chg text h was eyes i)) := by
  refine Ct.of (own := RX8) (by decide) rfl hI (Nat.le_of_ble_eq_true rfl) ?_
  intro p e s m args below meth c C hr
  refine aw_lv (lv' := [(0, .ref (q 0)), (1, .int i)]) (fun x hx => hx) ?_
  have S8 := S9
  obtain ⟨hl, hb, hs, hs2, hw, hc, hO, hW, hK⟩ := S8
  have Q8 := Q9
  obtain ⟨hlb, hlt, hA, hP, hH, hB, hn, hR, hE⟩ := Q8
  refine aw_aload_n C dX8_mend_0 (i := 0) rfl rfl ?_
  refine aw_iload_n C dX8_mend_1 (i := 1) rfl rfl ?_
  refine aw_V1i (k := 0) C dX8_mend_2 cv_X8_105 (by decide) rfl rfl rfl (cb_isWire hI hw) ⟨Nat.le_of_ble_eq_true rfl, Nat.le_of_ble_eq_true rfl⟩ (Nat.le_of_ble_eq_true rfl) ?_
  refine aw_if_ne_b (tgt := 10) C dX8_mend_5 (by decide) (fun h5 => ?_) (fun h5 => ?_)
  · obtain ⟨a9, ha9, rfl⟩ := wr_of hw h5
    obtain ⟨-, -, -, ⟨t0, ht, e3⟩, ⟨p0, hp0, hp1, e4⟩⟩ := hO.1 a9 ha9
    refine aw_aload_n C dX8_mend_10 (i := 0) rfl rfl ?_
    refine aw_get (k := 0) C dX8_mend_11 fl_X8_58 (by decide) rfl rfl ?_
    refine aw_iload_n C dX8_mend_14 (i := 1) rfl rfl ?_
    refine aw_V1x (k := 7) C dX8_mend_15 cv_X8_209 (by decide) rfl rfl rfl (cb_find hI ha9 hO hP hH hA hB hs hs2 hw) ⟨Nat.le_of_ble_eq_true rfl, Nat.le_of_ble_eq_true rfl⟩ (Nat.le_of_ble_eq_true rfl) (fun x g hp9 => ?_)
    obtain ⟨b8, b9, l9, s9, p9, r9, c9, rfl, m9, hp9⟩ := hp9
    refine aw_if_ne (tgt := 24) C dX8_mend_18 (by decide) (fun h18 => ?_) (fun h18 => ?_)
    · rcases hp9 with ⟨rfl, -⟩ | ⟨rfl, t9, v9, t1, v1, v2, rfl, rfl, lp9⟩
      · exact absurd rfl h18
      refine aw_aload_n C dX8_mend_24 (i := 0) rfl rfl ?_
      refine aw_get (k := 0) C dX8_mend_25 fl_X8_26 (by decide) rfl rfl ?_
      refine aw_iload_n C dX8_mend_28 (i := 1) rfl rfl ?_
      refine aw_iconst C dX8_mend_29 ki_4 ?_
      refine aw_V2i (k := 3) C dX8_mend_30 cv_X8_116 (by decide) rfl rfl rfl (cb_numberOf hI (by omega)) ⟨Nat.le_of_ble_eq_true rfl, Nat.le_of_ble_eq_true rfl⟩ (Nat.le_of_ble_eq_true rfl) ?_
      rw [agr_w hA ha9 (by omega), e4]
      refine aw_istore_n (lv' := [(0, _), (1, _), (2, _)]) C dX8_mend_33 (i := 2) rfl (Nat.le_of_ble_eq_true rfl) rfl ?_
      refine aw_aload_n C dX8_mend_34 (i := 0) rfl rfl ?_
      refine aw_get (k := 0) C dX8_mend_35 fl_X8_58 (by decide) rfl rfl ?_
      refine aw_get (k := 7) C dX8_mend_38 fl_X8_212 (by decide) rfl rfl ?_
      refine aw_aload_n C dX8_mend_41 (i := 0) rfl rfl ?_
      refine aw_get (k := 0) C dX8_mend_42 fl_X8_26 (by decide) rfl rfl ?_
      refine aw_iload_n C dX8_mend_45 (i := 1) rfl rfl ?_
      refine aw_iconst C dX8_mend_46 ki_3 ?_
      refine aw_V2i (k := 3) C dX8_mend_47 cv_X8_116 (by decide) rfl rfl rfl (cb_numberOf hI (by omega)) ⟨Nat.le_of_ble_eq_true rfl, Nat.le_of_ble_eq_true rfl⟩ (Nat.le_of_ble_eq_true rfl) ?_
      rw [agr_w hA ha9 (by omega), e3]
      refine aw_icmp_ne (tgt := 67) C dX8_mend_50 (by decide) (fun h50 => ?_) (fun h50 => ?_)
      · refine aw_aload_n C dX8_mend_67 (i := 0) rfl rfl ?_
        refine aw_get (k := 0) C dX8_mend_68 fl_X8_33 (by decide) rfl rfl ?_
        refine aw_aload_n C dX8_mend_71 (i := 0) rfl rfl ?_
        refine aw_get (k := 0) C dX8_mend_72 fl_X8_26 (by decide) rfl rfl ?_
        refine aw_V1v (k := 4) C dX8_mend_75 cv_X8_120 (by decide) rfl rfl rfl (cb_keep hI hn hc) ⟨Nat.le_of_ble_eq_true rfl, Nat.le_of_ble_eq_true rfl⟩ (Nat.le_of_ble_eq_true rfl) ?_
        refine aw_aload_n C dX8_mend_78 (i := 0) rfl rfl ?_
        refine aw_get (k := 0) C dX8_mend_79 fl_X8_26 (by decide) rfl rfl ?_
        refine aw_iload_n C dX8_mend_82 (i := 1) rfl rfl ?_
        refine aw_iconst C dX8_mend_83 ki_3 ?_
        refine aw_aload_n C dX8_mend_84 (i := 0) rfl rfl ?_
        refine aw_get (k := 0) C dX8_mend_85 fl_X8_58 (by decide) rfl rfl ?_
        refine aw_get (k := 7) C dX8_mend_88 fl_X8_212 (by decide) rfl rfl ?_
        refine aw_V3v (k := 3) C dX8_mend_91 cv_X8_123 (by decide) rfl rfl rfl (cb_tellNumber hI (by omega)) ⟨Nat.le_of_ble_eq_true rfl, Nat.le_of_ble_eq_true rfl⟩ (Nat.le_of_ble_eq_true rfl) ?_
        skip
        refine aw_aload_n C dX8_mend_94 (i := 0) rfl rfl ?_
        refine aw_get (k := 0) C dX8_mend_95 fl_X8_26 (by decide) rfl rfl ?_
        refine aw_iload_n C dX8_mend_98 (i := 1) rfl rfl ?_
        refine aw_iconst C dX8_mend_99 ki_4 ?_
        refine aw_aload_n C dX8_mend_100 (i := 0) rfl rfl ?_
        refine aw_get (k := 0) C dX8_mend_101 fl_X8_58 (by decide) rfl rfl ?_
        refine aw_get (k := 7) C dX8_mend_104 fl_X8_215 (by decide) rfl rfl ?_
        refine aw_V3v (k := 3) C dX8_mend_107 cv_X8_123 (by decide) rfl rfl rfl (cb_tellNumber hI (by omega)) ⟨Nat.le_of_ble_eq_true rfl, Nat.le_of_ble_eq_true rfl⟩ (Nat.le_of_ble_eq_true rfl) ?_
        have g9 : agr (upd (upd now (a9 * 5 + 3) (nI t9)) (a9 * 5 + 4) (nI v9)) (hqs h a9 (nI t9) (nI v9)) wires := by
          unfold hqs
          rw [Nat.mul_comm a9 5]
          exact agr_upd (agr_upd hA)
        refine aw_aload_n C dX8_mend_110 (i := 0) rfl rfl ?_
        refine aw_get (k := 0) C dX8_mend_111 fl_X8_42 (by decide) rfl rfl ?_
        refine aw_V0y (k := 5) C dX8_mend_114 cv_X8_127 (by decide) rfl rfl rfl (cb_refresh hI g9 hs hs2 hw) ⟨Nat.le_of_ble_eq_true rfl, Nat.le_of_ble_eq_true rfl⟩ (Nat.le_of_ble_eq_true rfl) (fun g hp9 => ?_)
        obtain ⟨p9, h9, rfl, y1, y2⟩ := hp9
        rw [hdU_nt hc]
        refine aw_aload_n C dX8_mend_117 (i := 0) rfl rfl ?_
        refine aw_get (k := 0) C dX8_mend_118 fl_X8_58 (by decide) rfl rfl ?_
        refine aw_get (k := 7) C dX8_mend_121 fl_X8_215 (by decide) rfl rfl ?_
        refine aw_iload_n C dX8_mend_124 (i := 2) rfl rfl ?_
        refine aw_isub C dX8_mend_125 ?_
        refine aw_abs C dX8_mend_126 ca_X8_218 (Nat.le_of_ble_eq_true rfl) (Nat.le_of_ble_eq_true rfl) (Nat.le_of_ble_eq_true rfl) ?_
        rw [abs_dst (sml_n (by omega)) (sml_n (by omega))]
        refine aw_iret C hr dX8_mend_129 ?_
        have i9 : lpI h span wires a9 = nI 100 * nI t9 + nI v9 := by unfold lpI; rw [lp9]
        refine PB.mk (h := hqs h a9 (nI t9) (nI v9)) ?_ ⟨hl, hb, hs, hs2, hw, ntC_le hc, hq_ok hO ha9 hw t1 v1 v2, nt_ok hw hc hO hW, hK⟩ ⟨hlb, hlt, g9, y1, y2, Or.inl rfl, nxU_lt, rg_keep hw hc hn hA hR, hE⟩
        unfold opMend
        rw [if_pos h5, nI_clamp (by omega), i9, e3, e4, if_neg (md_p t1 v2), if_neg (fun e8 => by have e9 := (md_e t1 v2 ht hp1).mp e8; exact h50 e9.1), (md_d t1 v2).1, (md_d t1 v2).2, (md_d ht hp1).1, (md_d ht hp1).2]
      · refine aw_aload_n C dX8_mend_53 (i := 0) rfl rfl ?_
        refine aw_get (k := 0) C dX8_mend_54 fl_X8_58 (by decide) rfl rfl ?_
        refine aw_get (k := 7) C dX8_mend_57 fl_X8_215 (by decide) rfl rfl ?_
        refine aw_iload_n C dX8_mend_60 (i := 2) rfl rfl ?_
        refine aw_icmp_ne (tgt := 67) C dX8_mend_61 (by decide) (fun h61 => ?_) (fun h61 => ?_)
        · refine aw_aload_n C dX8_mend_67 (i := 0) rfl rfl ?_
          refine aw_get (k := 0) C dX8_mend_68 fl_X8_33 (by decide) rfl rfl ?_
          refine aw_aload_n C dX8_mend_71 (i := 0) rfl rfl ?_
          refine aw_get (k := 0) C dX8_mend_72 fl_X8_26 (by decide) rfl rfl ?_
          refine aw_V1v (k := 4) C dX8_mend_75 cv_X8_120 (by decide) rfl rfl rfl (cb_keep hI hn hc) ⟨Nat.le_of_ble_eq_true rfl, Nat.le_of_ble_eq_true rfl⟩ (Nat.le_of_ble_eq_true rfl) ?_
          refine aw_aload_n C dX8_mend_78 (i := 0) rfl rfl ?_
          refine aw_get (k := 0) C dX8_mend_79 fl_X8_26 (by decide) rfl rfl ?_
          refine aw_iload_n C dX8_mend_82 (i := 1) rfl rfl ?_
          refine aw_iconst C dX8_mend_83 ki_3 ?_
          refine aw_aload_n C dX8_mend_84 (i := 0) rfl rfl ?_
          refine aw_get (k := 0) C dX8_mend_85 fl_X8_58 (by decide) rfl rfl ?_
          refine aw_get (k := 7) C dX8_mend_88 fl_X8_212 (by decide) rfl rfl ?_
          refine aw_V3v (k := 3) C dX8_mend_91 cv_X8_123 (by decide) rfl rfl rfl (cb_tellNumber hI (by omega)) ⟨Nat.le_of_ble_eq_true rfl, Nat.le_of_ble_eq_true rfl⟩ (Nat.le_of_ble_eq_true rfl) ?_
          skip
          refine aw_aload_n C dX8_mend_94 (i := 0) rfl rfl ?_
          refine aw_get (k := 0) C dX8_mend_95 fl_X8_26 (by decide) rfl rfl ?_
          refine aw_iload_n C dX8_mend_98 (i := 1) rfl rfl ?_
          refine aw_iconst C dX8_mend_99 ki_4 ?_
          refine aw_aload_n C dX8_mend_100 (i := 0) rfl rfl ?_
          refine aw_get (k := 0) C dX8_mend_101 fl_X8_58 (by decide) rfl rfl ?_
          refine aw_get (k := 7) C dX8_mend_104 fl_X8_215 (by decide) rfl rfl ?_
          refine aw_V3v (k := 3) C dX8_mend_107 cv_X8_123 (by decide) rfl rfl rfl (cb_tellNumber hI (by omega)) ⟨Nat.le_of_ble_eq_true rfl, Nat.le_of_ble_eq_true rfl⟩ (Nat.le_of_ble_eq_true rfl) ?_
          have g9 : agr (upd (upd now (a9 * 5 + 3) (nI t9)) (a9 * 5 + 4) (nI v9)) (hqs h a9 (nI t9) (nI v9)) wires := by
            unfold hqs
            rw [Nat.mul_comm a9 5]
            exact agr_upd (agr_upd hA)
          refine aw_aload_n C dX8_mend_110 (i := 0) rfl rfl ?_
          refine aw_get (k := 0) C dX8_mend_111 fl_X8_42 (by decide) rfl rfl ?_
          refine aw_V0y (k := 5) C dX8_mend_114 cv_X8_127 (by decide) rfl rfl rfl (cb_refresh hI g9 hs hs2 hw) ⟨Nat.le_of_ble_eq_true rfl, Nat.le_of_ble_eq_true rfl⟩ (Nat.le_of_ble_eq_true rfl) (fun g hp9 => ?_)
          obtain ⟨p9, h9, rfl, y1, y2⟩ := hp9
          rw [hdU_nt hc]
          refine aw_aload_n C dX8_mend_117 (i := 0) rfl rfl ?_
          refine aw_get (k := 0) C dX8_mend_118 fl_X8_58 (by decide) rfl rfl ?_
          refine aw_get (k := 7) C dX8_mend_121 fl_X8_215 (by decide) rfl rfl ?_
          refine aw_iload_n C dX8_mend_124 (i := 2) rfl rfl ?_
          refine aw_isub C dX8_mend_125 ?_
          refine aw_abs C dX8_mend_126 ca_X8_218 (Nat.le_of_ble_eq_true rfl) (Nat.le_of_ble_eq_true rfl) (Nat.le_of_ble_eq_true rfl) ?_
          rw [abs_dst (sml_n (by omega)) (sml_n (by omega))]
          refine aw_iret C hr dX8_mend_129 ?_
          have i9 : lpI h span wires a9 = nI 100 * nI t9 + nI v9 := by unfold lpI; rw [lp9]
          refine PB.mk (h := hqs h a9 (nI t9) (nI v9)) ?_ ⟨hl, hb, hs, hs2, hw, ntC_le hc, hq_ok hO ha9 hw t1 v1 v2, nt_ok hw hc hO hW, hK⟩ ⟨hlb, hlt, g9, y1, y2, Or.inl rfl, nxU_lt, rg_keep hw hc hn hA hR, hE⟩
          unfold opMend
          rw [if_pos h5, nI_clamp (by omega), i9, e3, e4, if_neg (md_p t1 v2), if_neg (fun e8 => by have e9 := (md_e t1 v2 ht hp1).mp e8; exact h61 e9.2), (md_d t1 v2).1, (md_d t1 v2).2, (md_d ht hp1).1, (md_d ht hp1).2]
        · refine aw_bipush C dX8_mend_64 kb_m2 ?_
          refine aw_iret C hr dX8_mend_66 ?_
          have i9 : lpI h span wires a9 = nI 100 * nI t9 + nI v9 := by unfold lpI; rw [lp9]
          refine PB.mk ?_ S9 ⟨hlb, hlt, hA, hP, hH, Or.inr ⟨rfl, m9⟩, hn, hR, hE⟩
          unfold opMend
          rw [if_pos h5, nI_clamp (by omega), i9, e3, e4, if_neg (md_p t1 v2), if_pos ((md_e t1 v2 ht hp1).mpr ⟨h50, h61⟩)]
    · rcases hp9 with ⟨rfl, lp9⟩ | ⟨rfl, -⟩
      rotate_left
      · exact absurd h18 (by decide)
      refine aw_bipush C dX8_mend_21 kb_m4 ?_
      refine aw_iret C hr dX8_mend_23 ?_
      exact PB.mk (by unfold opMend; rw [if_pos h5, nI_clamp (by omega), if_pos (by unfold lpI; rw [lp9]; decide)]) S9 ⟨hlb, hlt, hA, hP, hH, Or.inr ⟨rfl, m9⟩, hn, hR, hE⟩
  · refine aw_iconst C dX8_mend_8 ki_m1 ?_
    refine aw_iret C hr dX8_mend_9 ?_
    exact PB.mk (by unfold opMend; rw [if_neg (by rw [h5]; decide)]) S9 Q9
set_option maxRecDepth 20000 in
/-- sees -/
theorem cb_sees {l : Launch} {D : va_G} {cy : Nat → ClassId} {z : Nat → Nat} {q : Nat → Nat} (hI : wI 49 q) {len span wires chg : Nat} {text : Nat → Nat} {h was eyes : Nat → Int32} {dsp dwi dat pnx vkn : Nat} {dff lbl lsh lpk : Int32} {lett : Nat → Nat} {num lim now : Nat → Int32} {prw plr hgr : Nat → Nat → Int32} {bk bd wio wys trl : Nat → Int32} {clr : Nat → Int64} {tld tie fst las saw : Nat → Int32} (S9 : okS len span wires chg text h was eyes) (Q9 : bwQ len span wires chg text h was eyes pnx vkn lett now prw plr hgr bk bd tld tie fst las saw) {t a b : Int32} : Ct l yX8_sees cX8_sees 4 (some .int) 2 51 D cy z 49 q [.ref (q 0), .int t, .int a, .int b] (bwC cy q len dsp dwi dat span wires pnx chg vkn dff lbl lsh lpk lett num lim now prw plr hgr bk bd wio wys trl clr tld tie fst las saw) (PB cy q (opSees wires h t a b, (len, span, wires, chg, text, h, was, eyes))) := by
  refine Ct.of (own := RX8) (by decide) rfl hI (Nat.le_of_ble_eq_true rfl) ?_
  intro p e s m args below meth c C hr
  refine aw_lv (lv' := [(0, .ref (q 0)), (1, .int t), (2, .int a), (3, .int b)]) (fun x hx => hx) ?_
  have S8 := S9
  obtain ⟨hl, hb, hs, hs2, hw, hc, hO, hW, hK⟩ := S8
  have Q8 := Q9
  obtain ⟨hlb, hlt, hA, hP, hH, hB, hn, hR, hE⟩ := Q8
  refine aw_iload_n C dX8_sees_0 (i := 1) rfl rfl ?_
  refine aw_iload_n C dX8_sees_1 (i := 2) rfl rfl ?_
  refine aw_iload_n C dX8_sees_2 (i := 3) rfl rfl ?_
  refine aw_S3i C dX8_sees_3 cs_X8_223 (cb_isLook hI) ⟨Nat.le_of_ble_eq_true rfl, Nat.le_of_ble_eq_true rfl⟩ (Nat.le_of_ble_eq_true rfl) ?_
  refine aw_if_eq_b (tgt := 29) C dX8_sees_6 (by decide) (fun h6 => ?_) (fun h6 => ?_)
  · refine aw_iconst C dX8_sees_29 ki_m1 ?_
    refine aw_iret C hr dX8_sees_30 ?_
    exact PB.mk (by unfold opSees; rw [if_neg (by rw [h6]; decide)]) S9 Q9
  · have x9 : -9 ≤ (h 43).toInt ∧ (h 43).toInt ≤ 9 := by
      obtain ⟨t, ht, e⟩ := hO.2.2.2.2.1
      rw [e, sh_ti (by omega)]
      omega
    refine aw_aload_n C dX8_sees_9 (i := 0) rfl rfl ?_
    refine aw_get (k := 0) C dX8_sees_10 fl_X8_65 (by decide) rfl rfl ?_
    refine aw_iload_n C dX8_sees_13 (i := 1) rfl rfl ?_
    refine aw_iload_n C dX8_sees_14 (i := 2) rfl rfl ?_
    refine aw_iload_n C dX8_sees_15 (i := 3) rfl rfl ?_
    refine aw_aload_n C dX8_sees_16 (i := 0) rfl rfl ?_
    refine aw_get (k := 0) C dX8_sees_17 fl_X8_26 (by decide) rfl rfl ?_
    refine aw_V0i (k := 3) C dX8_sees_20 cv_X8_141 (by decide) rfl rfl rfl (cb_shiftNow hI) ⟨Nat.le_of_ble_eq_true rfl, Nat.le_of_ble_eq_true rfl⟩ (Nat.le_of_ble_eq_true rfl) ?_
    rw [hA 43 (by omega)]
    refine aw_V4i (k := 8) C dX8_sees_23 cv_X8_227 (by decide) rfl rfl rfl (cb_seen hI hO hA x9 (sg_sml h6).1 (sg_sml h6).2 hw) ⟨Nat.le_of_ble_eq_true rfl, Nat.le_of_ble_eq_true rfl⟩ (Nat.le_of_ble_eq_true rfl) ?_
    refine aw_goto (tgt := 30) C dX8_sees_26 (by decide) ?_
    refine aw_iret C hr dX8_sees_30 ?_
    exact PB.mk (by unfold opSees; rw [if_pos h6]) S9 Q9
theorem ey_p {t a b : Int32} (h : sgB t a b = true) : ∃ m, 1 ≤ m ∧ m ≤ 1048576 ∧ nI 1 <<< ((b - a + nI 1) &&& 31) = nI m := by
  unfold sgB at h
  simp only [Bool.and_eq_true, decide_eq_true_eq] at h
  obtain ⟨-, ha, hb, hd⟩ := h
  obtain ⟨a9, -, a2, rfl⟩ := in_n (by omega) (by omega) ha
  obtain ⟨b9, b1, b2, rfl⟩ := in_n (by omega) (by omega) hb
  rw [pk_sub b1] at hd ⊢
  have hd2 := (nI_ltI (by omega) (by omega)).mp hd
  rw [nI_add, shl1 _ (by omega)]
  refine ⟨2 ^ (b9 - a9 + 1), Nat.one_le_two_pow, ?_, rfl⟩
  exact Nat.pow_le_pow_right (n := 2) (by omega) (show b9 - a9 + 1 ≤ 20 by omega)
theorem ey_t {x : Int32} {m : Nat} (h1 : 1 ≤ m) (h2 : m ≤ 1048576) (h3 : ¬ x < 0) (h4 : x < nI m) : inB x (nI 0) (nI m - nI 1) = true := by
  rw [pk_sub h1]
  rw [Int32.lt_iff_toInt_lt, nI_toInt (by omega)] at h4
  refine inB_t (by rw [nI_0]; exact i_le h3) (Int32.le_iff_toInt_le.mpr ?_)
  rw [nI_toInt (by omega)]
  omega
theorem ey_f {x : Int32} {m : Nat} (h1 : 1 ≤ m) (h2 : m ≤ 1048576) (h : x < 0 ∨ ¬ x < nI m) : inB x (nI 0) (nI m - nI 1) = false := by
  rw [pk_sub h1]
  rcases h with h | h
  · exact inB_f1 (by rw [nI_0]; exact h)
  · have h4 := i_le h
    rw [Int32.le_iff_toInt_le, nI_toInt (by omega)] at h4
    refine inB_f2 (Int32.lt_iff_toInt_lt.mpr ?_)
    rw [nI_toInt (by omega)]
    omega
set_option maxRecDepth 20000 in
/-- eye -/
theorem cb_eye {l : Launch} {D : va_G} {cy : Nat → ClassId} {z : Nat → Nat} {q : Nat → Nat} (hI : wI 49 q) {len span wires chg : Nat} {text : Nat → Nat} {h was eyes : Nat → Int32} {dsp dwi dat pnx vkn : Nat} {dff lbl lsh lpk : Int32} {lett : Nat → Nat} {num lim now : Nat → Int32} {prw plr hgr : Nat → Nat → Int32} {bk bd wio wys trl : Nat → Int32} {clr : Nat → Int64} {tld tie fst las saw : Nat → Int32} (S9 : okS len span wires chg text h was eyes) (Q9 : bwQ len span wires chg text h was eyes pnx vkn lett now prw plr hgr bk bd tld tie fst las saw) {ex t a b x : Int32} : Ct l yX8_eye cX8_eye 6 (some .int) 1 25 D cy z 49 q [.ref (q 0), .int ex, .int t, .int a, .int b, .int x] (bwC cy q len dsp dwi dat span wires pnx chg vkn dff lbl lsh lpk lett num lim now prw plr hgr bk bd wio wys trl clr tld tie fst las saw) (PB cy q (opEye len span wires chg text h was eyes ex t a b x)) := by
  refine Ct.of (own := RX8) (by decide) rfl hI (Nat.le_of_ble_eq_true rfl) ?_
  intro p e s m args below meth c C hr
  refine aw_lv (lv' := [(0, .ref (q 0)), (1, .int ex), (2, .int t), (3, .int a), (4, .int b), (5, .int x)]) (fun x hx => hx) ?_
  have S8 := S9
  obtain ⟨hl, hb, hs, hs2, hw, hc, hO, hW, hK⟩ := S8
  have Q8 := Q9
  obtain ⟨hlb, hlt, hA, hP, hH, hB, hn, hR, hE⟩ := Q8
  refine aw_iload_n C dX8_eye_0 (i := 1) rfl rfl ?_
  refine aw_if_lt (tgt := 19) C dX8_eye_1 (by decide) (fun h1 => ?_) (fun h1 => ?_)
  · refine aw_iconst C dX8_eye_19 ki_m1 ?_
    refine aw_iret C hr dX8_eye_20 ?_
    exact PB.mk (by unfold opEye; rw [if_neg (fun a9 => i_nle h1 (by rw [← nI_0]; exact (inB_iff.mp a9).1))]) S9 Q9
  · refine aw_iload_n C dX8_eye_4 (i := 1) rfl rfl ?_
    refine aw_iconst C dX8_eye_5 ki_2 ?_
    refine aw_icmp_ge (tgt := 19) C dX8_eye_6 (by decide) (fun h6 => ?_) (fun h6 => ?_)
    · refine aw_iconst C dX8_eye_19 ki_m1 ?_
      refine aw_iret C hr dX8_eye_20 ?_
      exact PB.mk (by unfold opEye; rw [if_neg (fun a9 => by have c9 := Int32.le_iff_toInt_le.mp (inB_iff.mp a9).2; have d9 := Int32.le_iff_toInt_le.mp h6; exact absurd (Int.le_trans d9 c9) (by decide))]) S9 Q9
    · have n9 : inB ex (nI 0) (nI 1) = true := by
        have d9 := Int32.lt_iff_toInt_lt.mp (i_lt h6)
        have d8 : (nI 2).toInt = 2 := rfl
        refine inB_t (by rw [nI_0]; exact i_le h1) (Int32.le_iff_toInt_le.mpr ?_)
        rw [show (nI 1).toInt = 1 from rfl]
        omega
      obtain ⟨e9, -, e8, rfl⟩ := in_n (by omega) (by omega) n9
      refine aw_iload_n C dX8_eye_9 (i := 2) rfl rfl ?_
      refine aw_iload_n C dX8_eye_10 (i := 3) rfl rfl ?_
      refine aw_iload C dX8_eye_11 rfl ?_
      refine aw_S3i C dX8_eye_13 cs_X8_223 (cb_isLook hI) ⟨Nat.le_of_ble_eq_true rfl, Nat.le_of_ble_eq_true rfl⟩ (Nat.le_of_ble_eq_true rfl) ?_
      refine aw_if_ne_b (tgt := 21) C dX8_eye_16 (by decide) (fun h16 => ?_) (fun h16 => ?_)
      · refine aw_iload C dX8_eye_21 rfl ?_
        refine aw_if_lt (tgt := 39) C dX8_eye_23 (by decide) (fun h23 => ?_) (fun h23 => ?_)
        · refine aw_iconst C dX8_eye_39 ki_m1 ?_
          refine aw_iret C hr dX8_eye_40 ?_
          obtain ⟨m9, q1, q2, q3⟩ := ey_p h16
          exact PB.mk (by unfold opEye; rw [if_pos n9, if_pos h16, q3, if_neg (by rw [ey_f q1 q2 (Or.inl h23)]; decide)]) S9 Q9
        · refine aw_iload C dX8_eye_26 rfl ?_
          refine aw_iconst C dX8_eye_28 ki_1 ?_
          refine aw_iload C dX8_eye_29 rfl ?_
          refine aw_iload_n C dX8_eye_31 (i := 3) rfl rfl ?_
          refine aw_isub C dX8_eye_32 ?_
          refine aw_iconst C dX8_eye_33 ki_1 ?_
          refine aw_iadd C dX8_eye_34 ?_
          refine aw_ishl C dX8_eye_35 ?_
          refine aw_icmp_lt (tgt := 41) C dX8_eye_36 (by decide) (fun h36 => ?_) (fun h36 => ?_)
          · refine aw_aload_n C dX8_eye_41 (i := 0) rfl rfl ?_
            refine aw_get (k := 0) C dX8_eye_42 fl_X8_65 (by decide) rfl rfl ?_
            refine aw_iload_n C dX8_eye_45 (i := 1) rfl rfl ?_
            refine aw_iload_n C dX8_eye_46 (i := 2) rfl rfl ?_
            refine aw_iload_n C dX8_eye_47 (i := 3) rfl rfl ?_
            refine aw_iload C dX8_eye_48 rfl ?_
            refine aw_iload C dX8_eye_50 rfl ?_
            refine aw_V5v (k := 8) C dX8_eye_52 cv_X8_231 (by decide) rfl rfl rfl (cb_tell hI (by omega)) ⟨Nat.le_of_ble_eq_true rfl, Nat.le_of_ble_eq_true rfl⟩ (Nat.le_of_ble_eq_true rfl) ?_
            refine aw_aload_n C dX8_eye_55 (i := 0) rfl rfl ?_
            refine aw_get (k := 0) C dX8_eye_56 fl_X8_65 (by decide) rfl rfl ?_
            refine aw_V0i (k := 8) C dX8_eye_59 cv_X8_235 (by decide) rfl rfl rfl (cb_showMany hI) ⟨Nat.le_of_ble_eq_true rfl, Nat.le_of_ble_eq_true rfl⟩ (Nat.le_of_ble_eq_true rfl) ?_
            refine aw_iret C hr dX8_eye_62 ?_
            obtain ⟨m9, q1, q2, q3⟩ := ey_p h16
            rw [q3] at h36
            refine PB.mk (eyes := eyU eyes e9 t a b x) ?_ ⟨hl, hb, hs, hs2, hw, hc, hO, hW, eyU_K hK h16⟩ ⟨hlb, hlt, hA, hP, hH, hB, hn, hR, eyU_R hE⟩
            unfold opEye
            rw [if_pos n9, if_pos h16, q3, if_pos (ey_t q1 q2 h23 h36), nI_clamp (by omega), ey_cnt (eyU_R hE) (eyU_K hK h16)]
          · refine aw_iconst C dX8_eye_39 ki_m1 ?_
            refine aw_iret C hr dX8_eye_40 ?_
            obtain ⟨m9, q1, q2, q3⟩ := ey_p h16
            rw [q3] at h36
            exact PB.mk (by unfold opEye; rw [if_pos n9, if_pos h16, q3, if_neg (by rw [ey_f q1 q2 (Or.inr h36)]; decide)]) S9 Q9
      · refine aw_iconst C dX8_eye_19 ki_m1 ?_
        refine aw_iret C hr dX8_eye_20 ?_
        exact PB.mk (by unfold opEye; rw [if_pos n9, if_neg (by rw [h16]; decide)]) S9 Q9
set_option maxRecDepth 20000 in
/-- forget -/
theorem cb_forget {l : Launch} {D : va_G} {cy : Nat → ClassId} {z : Nat → Nat} {q : Nat → Nat} (hI : wI 49 q) {len span wires chg : Nat} {text : Nat → Nat} {h was eyes : Nat → Int32} {dsp dwi dat pnx vkn : Nat} {dff lbl lsh lpk : Int32} {lett : Nat → Nat} {num lim now : Nat → Int32} {prw plr hgr : Nat → Nat → Int32} {bk bd wio wys trl : Nat → Int32} {clr : Nat → Int64} {tld tie fst las saw : Nat → Int32} (S9 : okS len span wires chg text h was eyes) (Q9 : bwQ len span wires chg text h was eyes pnx vkn lett now prw plr hgr bk bd tld tie fst las saw) : Ct l yX8_forget cX8_forget 2 (some .int) 1 22 D cy z 49 q [.ref (q 0)] (bwC cy q len dsp dwi dat span wires pnx chg vkn dff lbl lsh lpk lett num lim now prw plr hgr bk bd wio wys trl clr tld tie fst las saw) (PB cy q (opForget len span wires chg text h was eyes)) := by
  refine Ct.of (own := RX8) (by decide) rfl hI (Nat.le_of_ble_eq_true rfl) ?_
  intro p e s m args below meth c C hr
  refine aw_lv (lv' := [(0, .ref (q 0))]) (fun x hx => hx) ?_
  have S8 := S9
  obtain ⟨hl, hb, hs, hs2, hw, hc, hO, hW, hK⟩ := S8
  have Q8 := Q9
  obtain ⟨hlb, hlt, hA, hP, hH, hB, hn, hR, hE⟩ := Q8
  refine aw_aload_n C dX8_forget_0 (i := 0) rfl rfl ?_
  refine aw_get (k := 0) C dX8_forget_1 fl_X8_65 (by decide) rfl rfl ?_
  refine aw_V0i (k := 8) C dX8_forget_4 cv_X8_235 (by decide) rfl rfl rfl (cb_showMany hI) ⟨Nat.le_of_ble_eq_true rfl, Nat.le_of_ble_eq_true rfl⟩ (Nat.le_of_ble_eq_true rfl) ?_
  rw [ey_cnt hE hK]
  refine aw_istore_n (lv' := [(0, _), (1, _)]) C dX8_forget_7 (i := 1) rfl (Nat.le_of_ble_eq_true rfl) rfl ?_
  refine aw_aload_n C dX8_forget_8 (i := 0) rfl rfl ?_
  refine aw_get (k := 0) C dX8_forget_9 fl_X8_65 (by decide) rfl rfl ?_
  refine aw_V0v (k := 8) C dX8_forget_12 cv_X8_236 (by decide) rfl rfl rfl (cb_sclear hI) ⟨Nat.le_of_ble_eq_true rfl, Nat.le_of_ble_eq_true rfl⟩ (Nat.le_of_ble_eq_true rfl) ?_
  refine aw_iload_n C dX8_forget_15 (i := 1) rfl rfl ?_
  refine aw_iret C hr dX8_forget_16 ?_
  exact PB.mk (eyes := eyF eyes) rfl ⟨hl, hb, hs, hs2, hw, hc, hO, hW, eyF_K⟩ ⟨hlb, hlt, hA, hP, hH, hB, hn, hR, eyF_R hE⟩
set_option maxRecDepth 20000 in
/-- explains -/
theorem cb_explains {l : Launch} {D : va_G} {cy : Nat → ClassId} {z : Nat → Nat} {q : Nat → Nat} (hI : wI 49 q) {len span wires chg : Nat} {text : Nat → Nat} {h was eyes : Nat → Int32} {dsp dwi dat pnx vkn : Nat} {dff lbl lsh lpk : Int32} {lett : Nat → Nat} {num lim now : Nat → Int32} {prw plr hgr : Nat → Nat → Int32} {bk bd wio wys trl : Nat → Int32} {clr : Nat → Int64} {tld tie fst las saw : Nat → Int32} (S9 : okS len span wires chg text h was eyes) (Q9 : bwQ len span wires chg text h was eyes pnx vkn lett now prw plr hgr bk bd tld tie fst las saw) {what : Int32} : Ct l yX8_explains cX8_explains 2 (some .int) 4 95 D cy z 49 q [.ref (q 0), .int what] (bwC cy q len dsp dwi dat span wires pnx chg vkn dff lbl lsh lpk lett num lim now prw plr hgr bk bd wio wys trl clr tld tie fst las saw) (PB cy q (opExplains wires h eyes what, (len, span, wires, chg, text, h, was, eyes))) := by
  refine Ct.of (own := RX8) (by decide) rfl hI (Nat.le_of_ble_eq_true rfl) ?_
  intro p e s m args below meth c C hr
  refine aw_lv (lv' := [(0, .ref (q 0)), (1, .int what)]) (fun x hx => hx) ?_
  have S8 := S9
  obtain ⟨hl, hb, hs, hs2, hw, hc, hO, hW, hK⟩ := S8
  have Q8 := Q9
  obtain ⟨hlb, hlt, hA, hP, hH, hB, hn, hR, hE⟩ := Q8
  refine aw_iload_n C dX8_explains_0 (i := 1) rfl rfl ?_
  by_cases hsw0 : what = 0
  · refine aw_lsw (tgt := 28) (off := 27) C dX8_explains_1 (by decide) (by rw [hsw0]; rfl) (by decide) ?_
    refine aw_aload_n C dX8_explains_28 (i := 0) rfl rfl ?_
    refine aw_get (k := 0) C dX8_explains_29 fl_X8_65 (by decide) rfl rfl ?_
    refine aw_V0i (k := 8) C dX8_explains_32 cv_X8_237 (by decide) rfl rfl rfl (cb_shifts hI hO hA hE hK hw) ⟨Nat.le_of_ble_eq_true rfl, Nat.le_of_ble_eq_true rfl⟩ (Nat.le_of_ble_eq_true rfl) ?_
    refine aw_iret C hr dX8_explains_35 ?_
    subst hsw0
    exact PB.mk (by unfold opExplains; rw [if_pos (by decide), if_pos rfl, exC_U]) S9 Q9
  by_cases hsw1 : what = 1
  · refine aw_lsw (tgt := 36) (off := 35) C dX8_explains_1 (by decide) (by rw [hsw1]; rfl) (by decide) ?_
    refine aw_aload_n C dX8_explains_36 (i := 0) rfl rfl ?_
    refine aw_get (k := 0) C dX8_explains_37 fl_X8_65 (by decide) rfl rfl ?_
    refine aw_V0i (k := 8) C dX8_explains_40 cv_X8_240 (by decide) rfl rfl rfl (cb_nearest hI hO hA hE hK hw) ⟨Nat.le_of_ble_eq_true rfl, Nat.le_of_ble_eq_true rfl⟩ (Nat.le_of_ble_eq_true rfl) ?_
    refine aw_iret C hr dX8_explains_43 ?_
    subst hsw1
    exact PB.mk (by unfold opExplains; rw [if_pos (by decide), if_neg (by decide)]) S9 Q9
  refine aw_lsw (tgt := 44) (off := 43) C dX8_explains_1 (by decide) (by rw [show (#[(0, 27), (1, 35)] : Array (Int × Int)).toList = [(0, 27), (1, 35)] from rfl, lv_osw (k := nI 0) (a := 0) (fun e9 => hsw0 e9) (by decide), lv_osw (k := nI 1) (a := 1) (fun e9 => hsw1 e9) (by decide)]; rfl) (by decide) ?_
  refine aw_iconst C dX8_explains_44 ki_m1 ?_
  refine aw_iret C hr dX8_explains_45 ?_
  exact PB.mk (by unfold opExplains; rw [if_neg (fun a9 => by obtain ⟨k9, k0, k1, rfl⟩ := in_n (by omega) (by omega) a9; rcases (show k9 = 0 ∨ k9 = 1 by omega) with rfl | rfl; exact hsw0 rfl; exact hsw1 rfl)]) S9 Q9
set_option maxRecDepth 20000 in
/-- count -/
theorem cb_count {l : Launch} {D : va_G} {cy : Nat → ClassId} {z : Nat → Nat} {q : Nat → Nat} (hI : wI 49 q) {len span wires chg : Nat} {text : Nat → Nat} {h was eyes : Nat → Int32} {dsp dwi dat pnx vkn : Nat} {dff lbl lsh lpk : Int32} {lett : Nat → Nat} {num lim now : Nat → Int32} {prw plr hgr : Nat → Nat → Int32} {bk bd wio wys trl : Nat → Int32} {clr : Nat → Int64} {tld tie fst las saw : Nat → Int32} (S9 : okS len span wires chg text h was eyes) (Q9 : bwQ len span wires chg text h was eyes pnx vkn lett now prw plr hgr bk bd tld tie fst las saw) {what : Int32} : Ct l yX8_count cX8_count 2 (some .int) 6 151 D cy z 49 q [.ref (q 0), .int what] (bwC cy q len dsp dwi dat span wires pnx chg vkn dff lbl lsh lpk lett num lim now prw plr hgr bk bd wio wys trl clr tld tie fst las saw) (PB cy q (opCount len span wires chg h what, (len, span, wires, chg, text, h, was, eyes))) := by
  refine Ct.of (own := RX8) (by decide) rfl hI (Nat.le_of_ble_eq_true rfl) ?_
  intro p e s m args below meth c C hr
  refine aw_lv (lv' := [(0, .ref (q 0)), (1, .int what)]) (fun x hx => hx) ?_
  have S8 := S9
  obtain ⟨hl, hb, hs, hs2, hw, hc, hO, hW, hK⟩ := S8
  have Q8 := Q9
  obtain ⟨hlb, hlt, hA, hP, hH, hB, hn, hR, hE⟩ := Q8
  obtain ⟨s9, hs9, e44⟩ := hO.2.2.2.2.2
  have p9 := pw8 hw
  refine aw_iload_n C dX8_count_0 (i := 1) rfl rfl ?_
  by_cases hsw : 0 ≤ what.toInt ∧ what.toInt ≤ 12
  · rcases (show what.toInt = 0 ∨ what.toInt = 1 ∨ what.toInt = 2 ∨ what.toInt = 3 ∨ what.toInt = 4 ∨ what.toInt = 5 ∨ what.toInt = 6 ∨ what.toInt = 7 ∨ what.toInt = 8 ∨ what.toInt = 9 ∨ what.toInt = 10 ∨ what.toInt = 11 ∨ what.toInt = 12 by omega) with hsw | hsw | hsw | hsw | hsw | hsw | hsw | hsw | hsw | hsw | hsw | hsw | hsw
    · obtain rfl : what = nI 0 := Int32.toInt_inj.mp (by rw [hsw]; rfl)
      refine aw_tin (tgt := 68) (off := 67) (v := 0) C dX8_count_1 hsw (by decide) (by decide) rfl (by decide) ?_
      refine aw_aload_n C dX8_count_68 (i := 0) rfl rfl ?_
      refine aw_get (k := 0) C dX8_count_69 fl_X8_26 (by decide) rfl rfl ?_
      refine aw_get (k := 3) C dX8_count_72 fl_X8_102 (by decide) rfl rfl ?_
      refine aw_iret C hr dX8_count_75 ?_
      exact PB.mk (by unfold opCount; rw [if_pos rfl]) S9 Q9
    · obtain rfl : what = nI 1 := Int32.toInt_inj.mp (by rw [hsw]; rfl)
      refine aw_tin (tgt := 76) (off := 75) (v := 1) C dX8_count_1 hsw (by decide) (by decide) rfl (by decide) ?_
      refine aw_aload_n C dX8_count_76 (i := 0) rfl rfl ?_
      refine aw_get (k := 0) C dX8_count_77 fl_X8_26 (by decide) rfl rfl ?_
      refine aw_get (k := 3) C dX8_count_80 fl_X8_243 (by decide) rfl rfl ?_
      refine aw_iret C hr dX8_count_83 ?_
      exact PB.mk (by unfold opCount; rw [if_neg (by decide), if_pos rfl]) S9 Q9
    · obtain rfl : what = nI 2 := Int32.toInt_inj.mp (by rw [hsw]; rfl)
      refine aw_tin (tgt := 84) (off := 83) (v := 2) C dX8_count_1 hsw (by decide) (by decide) rfl (by decide) ?_
      refine aw_aload_n C dX8_count_84 (i := 0) rfl rfl ?_
      refine aw_get (k := 0) C dX8_count_85 fl_X8_26 (by decide) rfl rfl ?_
      refine aw_iconst C dX8_count_88 ki_0 ?_
      refine aw_V1i (k := 3) C dX8_count_89 cv_X8_133 (by decide) rfl rfl rfl (cb_limitOf hI (by omega)) ⟨Nat.le_of_ble_eq_true rfl, Nat.le_of_ble_eq_true rfl⟩ (Nat.le_of_ble_eq_true rfl) ?_
      rw [hA 40 (by omega)]
      refine aw_iret C hr dX8_count_92 ?_
      exact PB.mk (by unfold opCount; rw [if_neg (by decide), if_neg (by decide), if_pos rfl]) S9 Q9
    · obtain rfl : what = nI 3 := Int32.toInt_inj.mp (by rw [hsw]; rfl)
      refine aw_tin (tgt := 93) (off := 92) (v := 3) C dX8_count_1 hsw (by decide) (by decide) rfl (by decide) ?_
      refine aw_aload_n C dX8_count_93 (i := 0) rfl rfl ?_
      refine aw_get (k := 0) C dX8_count_94 fl_X8_26 (by decide) rfl rfl ?_
      refine aw_iconst C dX8_count_97 ki_1 ?_
      refine aw_V1i (k := 3) C dX8_count_98 cv_X8_133 (by decide) rfl rfl rfl (cb_limitOf hI (by omega)) ⟨Nat.le_of_ble_eq_true rfl, Nat.le_of_ble_eq_true rfl⟩ (Nat.le_of_ble_eq_true rfl) ?_
      rw [hA 41 (by omega)]
      refine aw_iret C hr dX8_count_101 ?_
      exact PB.mk (by unfold opCount; rw [if_neg (by decide), if_neg (by decide), if_neg (by decide), if_pos rfl]) S9 Q9
    · obtain rfl : what = nI 4 := Int32.toInt_inj.mp (by rw [hsw]; rfl)
      refine aw_tin (tgt := 102) (off := 101) (v := 4) C dX8_count_1 hsw (by decide) (by decide) rfl (by decide) ?_
      refine aw_aload_n C dX8_count_102 (i := 0) rfl rfl ?_
      refine aw_get (k := 0) C dX8_count_103 fl_X8_26 (by decide) rfl rfl ?_
      refine aw_iconst C dX8_count_106 ki_2 ?_
      refine aw_V1i (k := 3) C dX8_count_107 cv_X8_133 (by decide) rfl rfl rfl (cb_limitOf hI (by omega)) ⟨Nat.le_of_ble_eq_true rfl, Nat.le_of_ble_eq_true rfl⟩ (Nat.le_of_ble_eq_true rfl) ?_
      rw [hA 42 (by omega)]
      refine aw_iret C hr dX8_count_110 ?_
      exact PB.mk (by unfold opCount; rw [if_neg (by decide), if_neg (by decide), if_neg (by decide), if_neg (by decide), if_pos rfl]) S9 Q9
    · obtain rfl : what = nI 5 := Int32.toInt_inj.mp (by rw [hsw]; rfl)
      refine aw_tin (tgt := 111) (off := 110) (v := 5) C dX8_count_1 hsw (by decide) (by decide) rfl (by decide) ?_
      refine aw_aload_n C dX8_count_111 (i := 0) rfl rfl ?_
      refine aw_get (k := 0) C dX8_count_112 fl_X8_26 (by decide) rfl rfl ?_
      refine aw_V0i (k := 3) C dX8_count_115 cv_X8_189 (by decide) rfl rfl rfl (cb_bonded hI) ⟨Nat.le_of_ble_eq_true rfl, Nat.le_of_ble_eq_true rfl⟩ (Nat.le_of_ble_eq_true rfl) ?_
      rw [hA 44 (by omega), e44]
      refine aw_S1i C dX8_count_118 cs_X8_195 (cb_bitCount hI) ⟨Nat.le_of_ble_eq_true rfl, Nat.le_of_ble_eq_true rfl⟩ (Nat.le_of_ble_eq_true rfl) ?_
      rw [(bc_tb _ (by omega)).1]
      refine aw_iret C hr dX8_count_121 ?_
      exact PB.mk (by unfold opCount; rw [if_neg (by decide), if_neg (by decide), if_neg (by decide), if_neg (by decide), if_neg (by decide), if_pos rfl]; rw [e44, (bc_tb _ (by omega)).2]) S9 Q9
    · obtain rfl : what = nI 6 := Int32.toInt_inj.mp (by rw [hsw]; rfl)
      refine aw_tin (tgt := 122) (off := 121) (v := 6) C dX8_count_1 hsw (by decide) (by decide) rfl (by decide) ?_
      refine aw_aload_n C dX8_count_122 (i := 0) rfl rfl ?_
      refine aw_get (k := 0) C dX8_count_123 fl_X8_42 (by decide) rfl rfl ?_
      refine aw_V0i (k := 5) C dX8_count_126 cv_X8_246 (by decide) rfl rfl rfl (cb_nearPairs hI hO hP hH hA hs hs2 hw) ⟨Nat.le_of_ble_eq_true rfl, Nat.le_of_ble_eq_true rfl⟩ (Nat.le_of_ble_eq_true rfl) ?_
      refine aw_iret C hr dX8_count_129 ?_
      exact PB.mk (by unfold opCount; rw [if_neg (by decide), if_neg (by decide), if_neg (by decide), if_neg (by decide), if_neg (by decide), if_neg (by decide), if_pos rfl]) S9 Q9
    · obtain rfl : what = nI 7 := Int32.toInt_inj.mp (by rw [hsw]; rfl)
      refine aw_tin (tgt := 130) (off := 129) (v := 7) C dX8_count_1 hsw (by decide) (by decide) rfl (by decide) ?_
      refine aw_aload_n C dX8_count_130 (i := 0) rfl rfl ?_
      refine aw_get (k := 0) C dX8_count_131 fl_X8_42 (by decide) rfl rfl ?_
      refine aw_V0i (k := 5) C dX8_count_134 cv_X8_249 (by decide) rfl rfl rfl (cb_crossPairs hI hO hP hH hs hs2 hw) ⟨Nat.le_of_ble_eq_true rfl, Nat.le_of_ble_eq_true rfl⟩ (Nat.le_of_ble_eq_true rfl) ?_
      refine aw_iret C hr dX8_count_137 ?_
      exact PB.mk (by unfold opCount; rw [if_neg (by decide), if_neg (by decide), if_neg (by decide), if_neg (by decide), if_neg (by decide), if_neg (by decide), if_neg (by decide), if_pos rfl]) S9 Q9
    · obtain rfl : what = nI 8 := Int32.toInt_inj.mp (by rw [hsw]; rfl)
      refine aw_tin (tgt := 138) (off := 137) (v := 8) C dX8_count_1 hsw (by decide) (by decide) rfl (by decide) ?_
      refine aw_aload_n C dX8_count_138 (i := 0) rfl rfl ?_
      refine aw_get (k := 0) C dX8_count_139 fl_X8_42 (by decide) rfl rfl ?_
      refine aw_V0x (k := 5) C dX8_count_142 cv_X8_252 (by decide) rfl rfl rfl (cb_blockedPairs hI hO hP hH hA hB hs hs2 hw) ⟨Nat.le_of_ble_eq_true rfl, Nat.le_of_ble_eq_true rfl⟩ (Nat.le_of_ble_eq_true rfl) (fun x g hp9 => ?_)
      obtain ⟨rfl, b8, b9, v9, rfl, m9⟩ := hp9
      refine aw_iret C hr dX8_count_145 ?_
      exact PB.mk (by unfold opCount; rw [if_neg (by decide), if_neg (by decide), if_neg (by decide), if_neg (by decide), if_neg (by decide), if_neg (by decide), if_neg (by decide), if_neg (by decide), if_pos rfl]) S9 ⟨hlb, hlt, hA, hP, hH, m9, hn, hR, hE⟩
    · obtain rfl : what = nI 9 := Int32.toInt_inj.mp (by rw [hsw]; rfl)
      refine aw_tin (tgt := 146) (off := 145) (v := 9) C dX8_count_1 hsw (by decide) (by decide) rfl (by decide) ?_
      refine aw_aload_n C dX8_count_146 (i := 0) rfl rfl ?_
      refine aw_get (k := 0) C dX8_count_147 fl_X8_33 (by decide) rfl rfl ?_
      refine aw_get (k := 4) C dX8_count_150 fl_X8_149 (by decide) rfl rfl ?_
      refine aw_iret C hr dX8_count_153 ?_
      exact PB.mk (by unfold opCount; rw [if_neg (by decide), if_neg (by decide), if_neg (by decide), if_neg (by decide), if_neg (by decide), if_neg (by decide), if_neg (by decide), if_neg (by decide), if_neg (by decide), if_pos rfl]) S9 Q9
    · obtain rfl : what = nI 10 := Int32.toInt_inj.mp (by rw [hsw]; rfl)
      refine aw_tin (tgt := 154) (off := 153) (v := 10) C dX8_count_1 hsw (by decide) (by decide) rfl (by decide) ?_
      refine aw_aload_n C dX8_count_154 (i := 0) rfl rfl ?_
      refine aw_get (k := 0) C dX8_count_155 fl_X8_10 (by decide) rfl rfl ?_
      refine aw_get (k := 1) C dX8_count_158 fl_X8_92 (by decide) rfl rfl ?_
      refine aw_iret C hr dX8_count_161 ?_
      exact PB.mk (by unfold opCount; rw [if_neg (by decide), if_neg (by decide), if_neg (by decide), if_neg (by decide), if_neg (by decide), if_neg (by decide), if_neg (by decide), if_neg (by decide), if_neg (by decide), if_neg (by decide), if_pos rfl]) S9 Q9
    · obtain rfl : what = nI 11 := Int32.toInt_inj.mp (by rw [hsw]; rfl)
      refine aw_tin (tgt := 162) (off := 161) (v := 11) C dX8_count_1 hsw (by decide) (by decide) rfl (by decide) ?_
      refine aw_aload_n C dX8_count_162 (i := 0) rfl rfl ?_
      refine aw_get (k := 0) C dX8_count_163 fl_X8_26 (by decide) rfl rfl ?_
      refine aw_V0i (k := 3) C dX8_count_166 cv_X8_141 (by decide) rfl rfl rfl (cb_shiftNow hI) ⟨Nat.le_of_ble_eq_true rfl, Nat.le_of_ble_eq_true rfl⟩ (Nat.le_of_ble_eq_true rfl) ?_
      rw [hA 43 (by omega)]
      refine aw_ldc C dX8_count_169 kc_X8_148 ?_
      refine aw_iadd C dX8_count_171 ?_
      refine aw_iret C hr dX8_count_172 ?_
      exact PB.mk (by unfold opCount; rw [if_neg (by decide), if_neg (by decide), if_neg (by decide), if_neg (by decide), if_neg (by decide), if_neg (by decide), if_neg (by decide), if_neg (by decide), if_neg (by decide), if_neg (by decide), if_neg (by decide), if_pos rfl]) S9 Q9
    · obtain rfl : what = nI 12 := Int32.toInt_inj.mp (by rw [hsw]; rfl)
      refine aw_tin (tgt := 173) (off := 172) (v := 12) C dX8_count_1 hsw (by decide) (by decide) rfl (by decide) ?_
      refine aw_aload_n C dX8_count_173 (i := 0) rfl rfl ?_
      refine aw_get (k := 0) C dX8_count_174 fl_X8_42 (by decide) rfl rfl ?_
      refine aw_V0i (k := 5) C dX8_count_177 cv_X8_255 (by decide) rfl rfl rfl (cb_longOfAll hI hO hP hH hs hs2 hw) ⟨Nat.le_of_ble_eq_true rfl, Nat.le_of_ble_eq_true rfl⟩ (Nat.le_of_ble_eq_true rfl) ?_
      refine aw_iret C hr dX8_count_180 ?_
      exact PB.mk (by unfold opCount; rw [if_neg (by decide), if_neg (by decide), if_neg (by decide), if_neg (by decide), if_neg (by decide), if_neg (by decide), if_neg (by decide), if_neg (by decide), if_neg (by decide), if_neg (by decide), if_neg (by decide), if_neg (by decide), if_pos rfl]) S9 Q9
  · refine aw_tout (tgt := 181) C dX8_count_1 (by omega) (by decide) ?_
    refine aw_iconst C dX8_count_181 ki_m1 ?_
    refine aw_iret C hr dX8_count_182 ?_
    refine PB.mk ?_ S9 Q9
    unfold opCount
    rw [if_neg (fun e9 => hsw (by rw [e9]; decide)), if_neg (fun e9 => hsw (by rw [e9]; decide)), if_neg (fun e9 => hsw (by rw [e9]; decide)), if_neg (fun e9 => hsw (by rw [e9]; decide)), if_neg (fun e9 => hsw (by rw [e9]; decide)), if_neg (fun e9 => hsw (by rw [e9]; decide)), if_neg (fun e9 => hsw (by rw [e9]; decide)), if_neg (fun e9 => hsw (by rw [e9]; decide)), if_neg (fun e9 => hsw (by rw [e9]; decide)), if_neg (fun e9 => hsw (by rw [e9]; decide)), if_neg (fun e9 => hsw (by rw [e9]; decide)), if_neg (fun e9 => hsw (by rw [e9]; decide)), if_neg (fun e9 => hsw (by rw [e9]; decide))]
