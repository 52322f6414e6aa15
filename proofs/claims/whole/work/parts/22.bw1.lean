-- BondedWires: bench, text, past; Integer.compare, bitCount
def cmpI (x y : Int32) : Int32 := if x < y then -1 else if x = y then nI 0 else nI 1
def ushr (x y : Int32) : Int32 := (x.toUInt32 >>> (y.toUInt32 &&& Int32.toUInt32 31)).toInt32
def bcI (x : Int32) : Int32 :=
  let a := x - (ushr x (nI 1) &&& 1431655765)
  let b := (a &&& 858993459) + (ushr a (nI 2) &&& 858993459)
  let d := (b + ushr b (nI 4)) &&& 252645135
  let e := d + ushr d (nI 8)
  (e + ushr e (nI 16)) &&& nI 63
set_option maxRecDepth 20000 in
/-- compare_7cf53 -/
theorem cb_compare {l : Launch} {D : va_G} {cy : Nat → ClassId} {z : Nat → Nat} {q : Nat → Nat} {N : Nat} (hI : wI N q) {f : wS} {x y : Int32} : Ct l yJ6_compare_7cf53 cJ6_compare_7cf53 2 (some .int) 0 0 D cy z N q [.int x, .int y] f (PI (cmpI x y) f) := by
  refine Ct.of (own := RJ6) (by decide) rfl hI (Nat.le_of_ble_eq_true rfl) ?_
  intro p e s m args below meth c C hr
  refine aw_lv (lv' := [(0, .int x), (1, .int y)]) (fun x hx => hx) ?_
  refine aw_iload_n C dJ6_compare_7cf53_0 (i := 0) rfl rfl ?_
  refine aw_iload_n C dJ6_compare_7cf53_1 (i := 1) rfl rfl ?_
  refine aw_icmp_ge (tgt := 9) C dJ6_compare_7cf53_2 (by decide) (fun h2 => ?_) (fun h2 => ?_)
  · refine aw_iload_n C dJ6_compare_7cf53_9 (i := 0) rfl rfl ?_
    refine aw_iload_n C dJ6_compare_7cf53_10 (i := 1) rfl rfl ?_
    refine aw_icmp_ne (tgt := 18) C dJ6_compare_7cf53_11 (by decide) (fun h11 => ?_) (fun h11 => ?_)
    · refine aw_iconst C dJ6_compare_7cf53_18 ki_1 ?_
      refine aw_iret C hr dJ6_compare_7cf53_19 ?_
      exact PI.mk (by unfold cmpI; rw [if_neg (i_nlt h2), if_neg h11]) rfl
    · refine aw_iconst C dJ6_compare_7cf53_14 ki_0 ?_
      refine aw_goto (tgt := 19) C dJ6_compare_7cf53_15 (by decide) ?_
      refine aw_iret C hr dJ6_compare_7cf53_19 ?_
      exact PI.mk (by unfold cmpI; rw [if_neg (i_nlt h2), if_pos h11]) rfl
  · refine aw_iconst C dJ6_compare_7cf53_5 ki_m1 ?_
    refine aw_goto (tgt := 19) C dJ6_compare_7cf53_6 (by decide) ?_
    refine aw_iret C hr dJ6_compare_7cf53_19 ?_
    exact PI.mk (by unfold cmpI; rw [if_pos (i_lt h2)]) rfl
set_option maxRecDepth 20000 in
/-- bitCount_0f7a4 -/
theorem cb_bitCount {l : Launch} {D : va_G} {cy : Nat → ClassId} {z : Nat → Nat} {q : Nat → Nat} {N : Nat} (hI : wI N q) {f : wS} {x : Int32} : Ct l yJ6_bitCount_0f7a4 cJ6_bitCount_0f7a4 1 (some .int) 0 0 D cy z N q [.int x] f (PI (bcI x) f) := by
  refine Ct.of (own := RJ6) (by decide) rfl hI (Nat.le_of_ble_eq_true rfl) ?_
  intro p e s m args below meth c C hr
  refine aw_lv (lv' := [(0, .int x)]) (fun x hx => hx) ?_
  refine aw_iload_n C dJ6_bitCount_0f7a4_0 (i := 0) rfl rfl ?_
  refine aw_iload_n C dJ6_bitCount_0f7a4_1 (i := 0) rfl rfl ?_
  refine aw_iconst C dJ6_bitCount_0f7a4_2 ki_1 ?_
  refine aw_iushr C dJ6_bitCount_0f7a4_3 rfl ?_
  refine aw_ldcw C dJ6_bitCount_0f7a4_4 kc_J6_265 ?_
  refine aw_iand C dJ6_bitCount_0f7a4_7 ?_
  refine aw_isub C dJ6_bitCount_0f7a4_8 ?_
  refine aw_istore_n (lv' := [(0, _)]) C dJ6_bitCount_0f7a4_9 (i := 0) rfl (Nat.le_of_ble_eq_true rfl) rfl ?_
  refine aw_iload_n C dJ6_bitCount_0f7a4_10 (i := 0) rfl rfl ?_
  refine aw_ldcw C dJ6_bitCount_0f7a4_11 kc_J6_266 ?_
  refine aw_iand C dJ6_bitCount_0f7a4_14 ?_
  refine aw_iload_n C dJ6_bitCount_0f7a4_15 (i := 0) rfl rfl ?_
  refine aw_iconst C dJ6_bitCount_0f7a4_16 ki_2 ?_
  refine aw_iushr C dJ6_bitCount_0f7a4_17 rfl ?_
  refine aw_ldcw C dJ6_bitCount_0f7a4_18 kc_J6_266 ?_
  refine aw_iand C dJ6_bitCount_0f7a4_21 ?_
  refine aw_iadd C dJ6_bitCount_0f7a4_22 ?_
  refine aw_istore_n (lv' := [(0, _)]) C dJ6_bitCount_0f7a4_23 (i := 0) rfl (Nat.le_of_ble_eq_true rfl) rfl ?_
  refine aw_iload_n C dJ6_bitCount_0f7a4_24 (i := 0) rfl rfl ?_
  refine aw_iload_n C dJ6_bitCount_0f7a4_25 (i := 0) rfl rfl ?_
  refine aw_iconst C dJ6_bitCount_0f7a4_26 ki_4 ?_
  refine aw_iushr C dJ6_bitCount_0f7a4_27 rfl ?_
  refine aw_iadd C dJ6_bitCount_0f7a4_28 ?_
  refine aw_ldcw C dJ6_bitCount_0f7a4_29 kc_J6_267 ?_
  refine aw_iand C dJ6_bitCount_0f7a4_32 ?_
  refine aw_istore_n (lv' := [(0, _)]) C dJ6_bitCount_0f7a4_33 (i := 0) rfl (Nat.le_of_ble_eq_true rfl) rfl ?_
  refine aw_iload_n C dJ6_bitCount_0f7a4_34 (i := 0) rfl rfl ?_
  refine aw_iload_n C dJ6_bitCount_0f7a4_35 (i := 0) rfl rfl ?_
  refine aw_bipush C dJ6_bitCount_0f7a4_36 kb_8 ?_
  refine aw_iushr C dJ6_bitCount_0f7a4_38 rfl ?_
  refine aw_iadd C dJ6_bitCount_0f7a4_39 ?_
  refine aw_istore_n (lv' := [(0, _)]) C dJ6_bitCount_0f7a4_40 (i := 0) rfl (Nat.le_of_ble_eq_true rfl) rfl ?_
  refine aw_iload_n C dJ6_bitCount_0f7a4_41 (i := 0) rfl rfl ?_
  refine aw_iload_n C dJ6_bitCount_0f7a4_42 (i := 0) rfl rfl ?_
  refine aw_bipush C dJ6_bitCount_0f7a4_43 kb_16 ?_
  refine aw_iushr C dJ6_bitCount_0f7a4_45 rfl ?_
  refine aw_iadd C dJ6_bitCount_0f7a4_46 ?_
  refine aw_istore_n (lv' := [(0, _)]) C dJ6_bitCount_0f7a4_47 (i := 0) rfl (Nat.le_of_ble_eq_true rfl) rfl ?_
  refine aw_iload_n C dJ6_bitCount_0f7a4_48 (i := 0) rfl rfl ?_
  refine aw_bipush C dJ6_bitCount_0f7a4_49 kb_63 ?_
  refine aw_iand C dJ6_bitCount_0f7a4_51 ?_
  refine aw_iret C hr dJ6_bitCount_0f7a4_52 ?_
  exact PI.mk rfl rfl
set_option maxRecDepth 20000 in
/-- numberOf -/
theorem cb_numberOf {l : Launch} {D : va_G} {cy : Nat → ClassId} {z : Nat → Nat} {q : Nat → Nat} (hI : wI 49 q) {tl dsp dwi dat bsp bwi pnx phd vkn : Nat} {dff lbl lsh lpk : Int32} {lett : Nat → Nat} {num lim now : Nat → Int32} {prw plr hgr : Nat → Nat → Int32} {bk bd wio wys trl : Nat → Int32} {clr : Nat → Int64} {tld tie fst las saw : Nat → Int32} {a b : Nat} (h9 : a * 5 + b < 45) : Ct l yX0_numberOf cX0_numberOf 3 (some .int) 0 0 D cy z 49 q [.ref (q 3), .int (nI a), .int (nI b)] (bwC cy q tl dsp dwi dat bsp bwi pnx phd vkn dff lbl lsh lpk lett num lim now prw plr hgr bk bd wio wys trl clr tld tie fst las saw) (PI (now (a * 5 + b)) (bwC cy q tl dsp dwi dat bsp bwi pnx phd vkn dff lbl lsh lpk lett num lim now prw plr hgr bk bd wio wys trl clr tld tie fst las saw)) := by
  refine Ct.of (own := RX0) (by decide) rfl hI (Nat.le_of_ble_eq_true rfl) ?_
  intro p e s m args below meth c C hr
  refine aw_lv (lv' := [(0, .ref (q 3)), (1, .int (nI a)), (2, .int (nI b))]) (fun x hx => hx) ?_
  refine aw_aload_n C dX0_numberOf_0 (i := 0) rfl rfl ?_
  refine aw_get (k := 3) C dX0_numberOf_1 fl_X0_11 (by decide) rfl rfl ?_
  refine aw_iload_n C dX0_numberOf_4 (i := 1) rfl rfl ?_
  refine aw_iconst C dX0_numberOf_5 ki_5 ?_
  refine aw_imul_n C dX0_numberOf_6 ?_
  refine aw_iload_n C dX0_numberOf_7 (i := 2) rfl rfl ?_
  refine aw_iadd_n C dX0_numberOf_8 ?_
  refine aw_iald (k := 12) C dX0_numberOf_9 (by decide) (rfl) (rfl) (by omega) (by decide) (rfl) ?_
  refine aw_iret C hr dX0_numberOf_10 ?_
  exact PI.mk rfl rfl
set_option maxRecDepth 20000 in
/-- tellNumber -/
theorem cb_tellNumber {l : Launch} {D : va_G} {cy : Nat → ClassId} {z : Nat → Nat} {q : Nat → Nat} (hI : wI 49 q) {tl dsp dwi dat bsp bwi pnx phd vkn : Nat} {dff lbl lsh lpk : Int32} {lett : Nat → Nat} {num lim now : Nat → Int32} {prw plr hgr : Nat → Nat → Int32} {bk bd wio wys trl : Nat → Int32} {clr : Nat → Int64} {tld tie fst las saw : Nat → Int32} {a b : Nat} {v : Int32} (h9 : a * 5 + b < 45) : Ct l yX0_tellNumber cX0_tellNumber 4 none 0 0 D cy z 49 q [.ref (q 3), .int (nI a), .int (nI b), .int v] (bwC cy q tl dsp dwi dat bsp bwi pnx phd vkn dff lbl lsh lpk lett num lim now prw plr hgr bk bd wio wys trl clr tld tie fst las saw) (PV (bwC cy q tl dsp dwi dat bsp bwi pnx phd vkn dff lbl lsh lpk lett num lim (upd now (a * 5 + b) v) prw plr hgr bk bd wio wys trl clr tld tie fst las saw)) := by
  refine Ct.of (own := RX0) (by decide) rfl hI (Nat.le_of_ble_eq_true rfl) ?_
  intro p e s m args below meth c C hr
  refine aw_lv (lv' := [(0, .ref (q 3)), (1, .int (nI a)), (2, .int (nI b)), (3, .int v)]) (fun x hx => hx) ?_
  refine aw_aload_n C dX0_tellNumber_0 (i := 0) rfl rfl ?_
  refine aw_get (k := 3) C dX0_tellNumber_1 fl_X0_11 (by decide) rfl rfl ?_
  refine aw_iload_n C dX0_tellNumber_4 (i := 1) rfl rfl ?_
  refine aw_iconst C dX0_tellNumber_5 ki_5 ?_
  refine aw_imul_n C dX0_tellNumber_6 ?_
  refine aw_iload_n C dX0_tellNumber_7 (i := 2) rfl rfl ?_
  refine aw_iadd_n C dX0_tellNumber_8 ?_
  refine aw_iload_n C dX0_tellNumber_9 (i := 3) rfl rfl ?_
  refine aw_iast (k := 12) C dX0_tellNumber_10 (by decide) (rfl) (rfl) (by omega) (by decide) (bw_a_now) ?_
  refine aw_vret C hr dX0_tellNumber_11 ?_
  exact ⟨rfl, rfl⟩
set_option maxRecDepth 20000 in
/-- limitOf -/
theorem cb_limitOf {l : Launch} {D : va_G} {cy : Nat → ClassId} {z : Nat → Nat} {q : Nat → Nat} (hI : wI 49 q) {tl dsp dwi dat bsp bwi pnx phd vkn : Nat} {dff lbl lsh lpk : Int32} {lett : Nat → Nat} {num lim now : Nat → Int32} {prw plr hgr : Nat → Nat → Int32} {bk bd wio wys trl : Nat → Int32} {clr : Nat → Int64} {tld tie fst las saw : Nat → Int32} {a : Nat} (h9 : a < 5) : Ct l yX0_limitOf cX0_limitOf 2 (some .int) 0 0 D cy z 49 q [.ref (q 3), .int (nI a)] (bwC cy q tl dsp dwi dat bsp bwi pnx phd vkn dff lbl lsh lpk lett num lim now prw plr hgr bk bd wio wys trl clr tld tie fst las saw) (PI (now (40 + a)) (bwC cy q tl dsp dwi dat bsp bwi pnx phd vkn dff lbl lsh lpk lett num lim now prw plr hgr bk bd wio wys trl clr tld tie fst las saw)) := by
  refine Ct.of (own := RX0) (by decide) rfl hI (Nat.le_of_ble_eq_true rfl) ?_
  intro p e s m args below meth c C hr
  refine aw_lv (lv' := [(0, .ref (q 3)), (1, .int (nI a))]) (fun x hx => hx) ?_
  refine aw_aload_n C dX0_limitOf_0 (i := 0) rfl rfl ?_
  refine aw_get (k := 3) C dX0_limitOf_1 fl_X0_11 (by decide) rfl rfl ?_
  refine aw_bipush C dX0_limitOf_4 kb_40 ?_
  refine aw_iload_n C dX0_limitOf_6 (i := 1) rfl rfl ?_
  refine aw_iadd_n C dX0_limitOf_7 ?_
  refine aw_iald (k := 12) C dX0_limitOf_8 (by decide) (rfl) (rfl) (by omega) (by decide) (rfl) ?_
  refine aw_iret C hr dX0_limitOf_9 ?_
  exact PI.mk rfl rfl
set_option maxRecDepth 20000 in
/-- tellLimit -/
theorem cb_tellLimit {l : Launch} {D : va_G} {cy : Nat → ClassId} {z : Nat → Nat} {q : Nat → Nat} (hI : wI 49 q) {tl dsp dwi dat bsp bwi pnx phd vkn : Nat} {dff lbl lsh lpk : Int32} {lett : Nat → Nat} {num lim now : Nat → Int32} {prw plr hgr : Nat → Nat → Int32} {bk bd wio wys trl : Nat → Int32} {clr : Nat → Int64} {tld tie fst las saw : Nat → Int32} {a : Nat} {v : Int32} (h9 : a < 5) : Ct l yX0_tellLimit cX0_tellLimit 3 none 0 0 D cy z 49 q [.ref (q 3), .int (nI a), .int v] (bwC cy q tl dsp dwi dat bsp bwi pnx phd vkn dff lbl lsh lpk lett num lim now prw plr hgr bk bd wio wys trl clr tld tie fst las saw) (PV (bwC cy q tl dsp dwi dat bsp bwi pnx phd vkn dff lbl lsh lpk lett num lim (upd now (40 + a) v) prw plr hgr bk bd wio wys trl clr tld tie fst las saw)) := by
  refine Ct.of (own := RX0) (by decide) rfl hI (Nat.le_of_ble_eq_true rfl) ?_
  intro p e s m args below meth c C hr
  refine aw_lv (lv' := [(0, .ref (q 3)), (1, .int (nI a)), (2, .int v)]) (fun x hx => hx) ?_
  refine aw_aload_n C dX0_tellLimit_0 (i := 0) rfl rfl ?_
  refine aw_get (k := 3) C dX0_tellLimit_1 fl_X0_11 (by decide) rfl rfl ?_
  refine aw_bipush C dX0_tellLimit_4 kb_40 ?_
  refine aw_iload_n C dX0_tellLimit_6 (i := 1) rfl rfl ?_
  refine aw_iadd_n C dX0_tellLimit_7 ?_
  refine aw_iload_n C dX0_tellLimit_8 (i := 2) rfl rfl ?_
  refine aw_iast (k := 12) C dX0_tellLimit_9 (by decide) (rfl) (rfl) (by omega) (by decide) (bw_a_now) ?_
  refine aw_vret C hr dX0_tellLimit_10 ?_
  exact ⟨rfl, rfl⟩
set_option maxRecDepth 20000 in
/-- shiftNow -/
theorem cb_shiftNow {l : Launch} {D : va_G} {cy : Nat → ClassId} {z : Nat → Nat} {q : Nat → Nat} (hI : wI 49 q) {tl dsp dwi dat bsp bwi pnx phd vkn : Nat} {dff lbl lsh lpk : Int32} {lett : Nat → Nat} {num lim now : Nat → Int32} {prw plr hgr : Nat → Nat → Int32} {bk bd wio wys trl : Nat → Int32} {clr : Nat → Int64} {tld tie fst las saw : Nat → Int32} : Ct l yX0_shiftNow cX0_shiftNow 1 (some .int) 0 0 D cy z 49 q [.ref (q 3)] (bwC cy q tl dsp dwi dat bsp bwi pnx phd vkn dff lbl lsh lpk lett num lim now prw plr hgr bk bd wio wys trl clr tld tie fst las saw) (PI (now 43) (bwC cy q tl dsp dwi dat bsp bwi pnx phd vkn dff lbl lsh lpk lett num lim now prw plr hgr bk bd wio wys trl clr tld tie fst las saw)) := by
  refine Ct.of (own := RX0) (by decide) rfl hI (Nat.le_of_ble_eq_true rfl) ?_
  intro p e s m args below meth c C hr
  refine aw_lv (lv' := [(0, .ref (q 3))]) (fun x hx => hx) ?_
  refine aw_aload_n C dX0_shiftNow_0 (i := 0) rfl rfl ?_
  refine aw_get (k := 3) C dX0_shiftNow_1 fl_X0_11 (by decide) rfl rfl ?_
  refine aw_bipush C dX0_shiftNow_4 kb_43 ?_
  refine aw_iald (k := 12) C dX0_shiftNow_6 (by decide) (rfl) (rfl) (by omega) (by decide) (rfl) ?_
  refine aw_iret C hr dX0_shiftNow_7 ?_
  exact PI.mk rfl rfl
set_option maxRecDepth 20000 in
/-- bonded -/
theorem cb_bonded {l : Launch} {D : va_G} {cy : Nat → ClassId} {z : Nat → Nat} {q : Nat → Nat} (hI : wI 49 q) {tl dsp dwi dat bsp bwi pnx phd vkn : Nat} {dff lbl lsh lpk : Int32} {lett : Nat → Nat} {num lim now : Nat → Int32} {prw plr hgr : Nat → Nat → Int32} {bk bd wio wys trl : Nat → Int32} {clr : Nat → Int64} {tld tie fst las saw : Nat → Int32} : Ct l yX0_bonded cX0_bonded 1 (some .int) 0 0 D cy z 49 q [.ref (q 3)] (bwC cy q tl dsp dwi dat bsp bwi pnx phd vkn dff lbl lsh lpk lett num lim now prw plr hgr bk bd wio wys trl clr tld tie fst las saw) (PI (now 44) (bwC cy q tl dsp dwi dat bsp bwi pnx phd vkn dff lbl lsh lpk lett num lim now prw plr hgr bk bd wio wys trl clr tld tie fst las saw)) := by
  refine Ct.of (own := RX0) (by decide) rfl hI (Nat.le_of_ble_eq_true rfl) ?_
  intro p e s m args below meth c C hr
  refine aw_lv (lv' := [(0, .ref (q 3))]) (fun x hx => hx) ?_
  refine aw_aload_n C dX0_bonded_0 (i := 0) rfl rfl ?_
  refine aw_get (k := 3) C dX0_bonded_1 fl_X0_11 (by decide) rfl rfl ?_
  refine aw_bipush C dX0_bonded_4 kb_44 ?_
  refine aw_iald (k := 12) C dX0_bonded_6 (by decide) (rfl) (rfl) (by omega) (by decide) (rfl) ?_
  refine aw_iret C hr dX0_bonded_7 ?_
  exact PI.mk rfl rfl
set_option maxRecDepth 20000 in
/-- tellShift -/
theorem cb_tellShift {l : Launch} {D : va_G} {cy : Nat → ClassId} {z : Nat → Nat} {q : Nat → Nat} (hI : wI 49 q) {tl dsp dwi dat bsp bwi pnx phd vkn : Nat} {dff lbl lsh lpk : Int32} {lett : Nat → Nat} {num lim now : Nat → Int32} {prw plr hgr : Nat → Nat → Int32} {bk bd wio wys trl : Nat → Int32} {clr : Nat → Int64} {tld tie fst las saw : Nat → Int32} {v : Int32} : Ct l yX0_tellShift cX0_tellShift 2 none 0 0 D cy z 49 q [.ref (q 3), .int v] (bwC cy q tl dsp dwi dat bsp bwi pnx phd vkn dff lbl lsh lpk lett num lim now prw plr hgr bk bd wio wys trl clr tld tie fst las saw) (PV (bwC cy q tl dsp dwi dat bsp bwi pnx phd vkn dff lbl lsh lpk lett num lim (upd now 43 v) prw plr hgr bk bd wio wys trl clr tld tie fst las saw)) := by
  refine Ct.of (own := RX0) (by decide) rfl hI (Nat.le_of_ble_eq_true rfl) ?_
  intro p e s m args below meth c C hr
  refine aw_lv (lv' := [(0, .ref (q 3)), (1, .int v)]) (fun x hx => hx) ?_
  refine aw_aload_n C dX0_tellShift_0 (i := 0) rfl rfl ?_
  refine aw_get (k := 3) C dX0_tellShift_1 fl_X0_11 (by decide) rfl rfl ?_
  refine aw_bipush C dX0_tellShift_4 kb_43 ?_
  refine aw_iload_n C dX0_tellShift_6 (i := 1) rfl rfl ?_
  refine aw_iast (k := 12) C dX0_tellShift_7 (by decide) (rfl) (rfl) (by omega) (by decide) (bw_a_now) ?_
  refine aw_vret C hr dX0_tellShift_8 ?_
  exact ⟨rfl, rfl⟩
set_option maxRecDepth 20000 in
/-- tellBonded -/
theorem cb_tellBonded {l : Launch} {D : va_G} {cy : Nat → ClassId} {z : Nat → Nat} {q : Nat → Nat} (hI : wI 49 q) {tl dsp dwi dat bsp bwi pnx phd vkn : Nat} {dff lbl lsh lpk : Int32} {lett : Nat → Nat} {num lim now : Nat → Int32} {prw plr hgr : Nat → Nat → Int32} {bk bd wio wys trl : Nat → Int32} {clr : Nat → Int64} {tld tie fst las saw : Nat → Int32} {v : Int32} : Ct l yX0_tellBonded cX0_tellBonded 2 none 0 0 D cy z 49 q [.ref (q 3), .int v] (bwC cy q tl dsp dwi dat bsp bwi pnx phd vkn dff lbl lsh lpk lett num lim now prw plr hgr bk bd wio wys trl clr tld tie fst las saw) (PV (bwC cy q tl dsp dwi dat bsp bwi pnx phd vkn dff lbl lsh lpk lett num lim (upd now 44 v) prw plr hgr bk bd wio wys trl clr tld tie fst las saw)) := by
  refine Ct.of (own := RX0) (by decide) rfl hI (Nat.le_of_ble_eq_true rfl) ?_
  intro p e s m args below meth c C hr
  refine aw_lv (lv' := [(0, .ref (q 3)), (1, .int v)]) (fun x hx => hx) ?_
  refine aw_aload_n C dX0_tellBonded_0 (i := 0) rfl rfl ?_
  refine aw_get (k := 3) C dX0_tellBonded_1 fl_X0_11 (by decide) rfl rfl ?_
  refine aw_bipush C dX0_tellBonded_4 kb_44 ?_
  refine aw_iload_n C dX0_tellBonded_6 (i := 1) rfl rfl ?_
  refine aw_iast (k := 12) C dX0_tellBonded_7 (by decide) (rfl) (rfl) (by omega) (by decide) (bw_a_now) ?_
  refine aw_vret C hr dX0_tellBonded_8 ?_
  exact ⟨rfl, rfl⟩
def bdB (x i : Int32) : Bool := decide (¬ x &&& nI 1 <<< (i &&& 31) = 0)
set_option maxRecDepth 20000 in
/-- isBonded -/
theorem cb_isBonded {l : Launch} {D : va_G} {cy : Nat → ClassId} {z : Nat → Nat} {q : Nat → Nat} (hI : wI 49 q) {tl dsp dwi dat bsp bwi pnx phd vkn : Nat} {dff lbl lsh lpk : Int32} {lett : Nat → Nat} {num lim now : Nat → Int32} {prw plr hgr : Nat → Nat → Int32} {bk bd wio wys trl : Nat → Int32} {clr : Nat → Int64} {tld tie fst las saw : Nat → Int32} {i : Int32} : Ct l yX0_isBonded cX0_isBonded 2 (some .boolean) 1 20 D cy z 49 q [.ref (q 3), .int i] (bwC cy q tl dsp dwi dat bsp bwi pnx phd vkn dff lbl lsh lpk lett num lim now prw plr hgr bk bd wio wys trl clr tld tie fst las saw) (PI (bi (bdB (now 44) i)) (bwC cy q tl dsp dwi dat bsp bwi pnx phd vkn dff lbl lsh lpk lett num lim now prw plr hgr bk bd wio wys trl clr tld tie fst las saw)) := by
  refine Ct.of (own := RX0) (by decide) rfl hI (Nat.le_of_ble_eq_true rfl) ?_
  intro p e s m args below meth c C hr
  refine aw_lv (lv' := [(0, .ref (q 3)), (1, .int i)]) (fun x hx => hx) ?_
  refine aw_aload_n C dX0_isBonded_0 (i := 0) rfl rfl ?_
  refine aw_V0i (k := 3) C dX0_isBonded_1 cv_X0_38 (by decide) rfl rfl rfl (cb_bonded hI) ⟨Nat.le_of_ble_eq_true rfl, Nat.le_of_ble_eq_true rfl⟩ (Nat.le_of_ble_eq_true rfl) ?_
  refine aw_iconst C dX0_isBonded_4 ki_1 ?_
  refine aw_iload_n C dX0_isBonded_5 (i := 1) rfl rfl ?_
  refine aw_ishl C dX0_isBonded_6 ?_
  refine aw_iand C dX0_isBonded_7 ?_
  refine aw_if_eq (tgt := 15) C dX0_isBonded_8 (by decide) (fun h8 => ?_) (fun h8 => ?_)
  · refine aw_iconst C dX0_isBonded_15 ki_0 ?_
    refine aw_zret C hr dX0_isBonded_16 (by decide) ?_
    exact PI.mk (bi_f (by unfold bdB; simp [h8])) rfl
  · refine aw_iconst C dX0_isBonded_11 ki_1 ?_
    refine aw_goto (tgt := 16) C dX0_isBonded_12 (by decide) ?_
    refine aw_zret C hr dX0_isBonded_16 (by decide) ?_
    exact PI.mk (bi_t (by unfold bdB; simp [h8])) rfl
def lyN (num lim now : Nat → Int32) : Nat → Int32 := upd (upd (va_cpy lim (va_cpy num now 0 0 40) 0 40 3) 43 (nI 0)) 44 (nI 0)
set_option maxRecDepth 20000 in
/-- layFrom -/
theorem cb_layFrom {l : Launch} {D : va_G} {cy : Nat → ClassId} {z : Nat → Nat} {q : Nat → Nat} (hI : wI 49 q) {tl dsp dwi dat bsp bwi pnx phd vkn : Nat} {dff lbl lsh lpk : Int32} {lett : Nat → Nat} {num lim now : Nat → Int32} {prw plr hgr : Nat → Nat → Int32} {bk bd wio wys trl : Nat → Int32} {clr : Nat → Int64} {tld tie fst las saw : Nat → Int32} : Ct l yX0_layFrom cX0_layFrom 2 none 1 32 D cy z 49 q [.ref (q 3), .ref (q 2)] (bwC cy q tl dsp dwi dat bsp bwi pnx phd vkn dff lbl lsh lpk lett num lim now prw plr hgr bk bd wio wys trl clr tld tie fst las saw) (PV (bwC cy q tl dsp dwi dat dsp dwi pnx phd vkn dff lbl lsh lpk lett num lim (lyN num lim now) prw plr hgr bk bd wio wys trl clr tld tie fst las saw)) := by
  refine Ct.of (own := RX0) (by decide) rfl hI (Nat.le_of_ble_eq_true rfl) ?_
  intro p e s m args below meth c C hr
  refine aw_lv (lv' := [(0, .ref (q 3)), (1, .ref (q 2))]) (fun x hx => hx) ?_
  refine aw_aload_n C dX0_layFrom_0 (i := 0) rfl rfl ?_
  refine aw_aload_n C dX0_layFrom_1 (i := 1) rfl rfl ?_
  refine aw_get (k := 2) C dX0_layFrom_2 fl_X0_15 (by decide) rfl rfl ?_
  refine aw_put (k := 3) C dX0_layFrom_5 fp_X0_21 (by decide) rfl rfl rfl (Nat.le_of_ble_eq_true rfl) bw_p_bsp ?_
  refine aw_aload_n C dX0_layFrom_8 (i := 0) rfl rfl ?_
  refine aw_aload_n C dX0_layFrom_9 (i := 1) rfl rfl ?_
  refine aw_get (k := 2) C dX0_layFrom_10 fl_X0_22 (by decide) rfl rfl ?_
  refine aw_put (k := 3) C dX0_layFrom_13 fp_X0_25 (by decide) rfl rfl rfl (Nat.le_of_ble_eq_true rfl) bw_p_bwi ?_
  refine aw_aload_n C dX0_layFrom_16 (i := 1) rfl rfl ?_
  refine aw_get (k := 2) C dX0_layFrom_17 fl_X0_26 (by decide) rfl rfl ?_
  refine aw_iconst C dX0_layFrom_20 ki_0 ?_
  refine aw_aload_n C dX0_layFrom_21 (i := 0) rfl rfl ?_
  refine aw_get (k := 3) C dX0_layFrom_22 fl_X0_11 (by decide) rfl rfl ?_
  refine aw_iconst C dX0_layFrom_25 ki_0 ?_
  refine aw_bipush C dX0_layFrom_26 kb_40 ?_
  refine aw_copy (k0 := 10) (k1 := 12) C dX0_layFrom_28 ccy_X0_29 (by decide) (rfl) (by decide) (rfl) (by decide) (by decide) (by decide) (by decide) (Nat.le_of_ble_eq_true rfl) (Nat.le_of_ble_eq_true rfl) (Nat.le_of_ble_eq_true rfl) (bw_a_now) ?_
  refine aw_aload_n C dX0_layFrom_31 (i := 1) rfl rfl ?_
  refine aw_get (k := 2) C dX0_layFrom_32 fl_X0_35 (by decide) rfl rfl ?_
  refine aw_iconst C dX0_layFrom_35 ki_0 ?_
  refine aw_aload_n C dX0_layFrom_36 (i := 0) rfl rfl ?_
  refine aw_get (k := 3) C dX0_layFrom_37 fl_X0_11 (by decide) rfl rfl ?_
  refine aw_bipush C dX0_layFrom_40 kb_40 ?_
  refine aw_iconst C dX0_layFrom_42 ki_3 ?_
  refine aw_copy (k0 := 11) (k1 := 12) C dX0_layFrom_43 ccy_X0_29 (by decide) (rfl) (by decide) (rfl) (by decide) (by decide) (by decide) (by decide) (Nat.le_of_ble_eq_true rfl) (Nat.le_of_ble_eq_true rfl) (Nat.le_of_ble_eq_true rfl) (bw_a_now) ?_
  refine aw_aload_n C dX0_layFrom_46 (i := 0) rfl rfl ?_
  refine aw_get (k := 3) C dX0_layFrom_47 fl_X0_11 (by decide) rfl rfl ?_
  refine aw_bipush C dX0_layFrom_50 kb_43 ?_
  refine aw_iconst C dX0_layFrom_52 ki_0 ?_
  refine aw_iast (k := 12) C dX0_layFrom_53 (by decide) (rfl) (rfl) (by omega) (by decide) (bw_a_now) ?_
  refine aw_aload_n C dX0_layFrom_54 (i := 0) rfl rfl ?_
  refine aw_get (k := 3) C dX0_layFrom_55 fl_X0_11 (by decide) rfl rfl ?_
  refine aw_bipush C dX0_layFrom_58 kb_44 ?_
  refine aw_iconst C dX0_layFrom_60 ki_0 ?_
  refine aw_iast (k := 12) C dX0_layFrom_61 (by decide) (rfl) (rfl) (by omega) (by decide) (bw_a_now) ?_
  refine aw_vret C hr dX0_layFrom_62 ?_
  exact ⟨rfl, rfl⟩
set_option maxRecDepth 20000 in
/-- append -/
theorem cb_append {l : Launch} {D : va_G} {cy : Nat → ClassId} {z : Nat → Nat} {q : Nat → Nat} (hI : wI 49 q) {tl dsp dwi dat bsp bwi pnx phd vkn : Nat} {dff lbl lsh lpk : Int32} {lett : Nat → Nat} {num lim now : Nat → Int32} {prw plr hgr : Nat → Nat → Int32} {bk bd wio wys trl : Nat → Int32} {clr : Nat → Int64} {tld tie fst las saw : Nat → Int32} {x : Nat} (hx : x < 65536) (hl : tl ≤ 200) : Ct l yX6_append cX6_append 2 (some .boolean) 0 0 D cy z 49 q [.ref (q 1), .int (nI x)] (bwC cy q tl dsp dwi dat bsp bwi pnx phd vkn dff lbl lsh lpk lett num lim now prw plr hgr bk bd wio wys trl clr tld tie fst las saw) (PI (bi (decide (tl < 200))) (if tl < 200 then (bwC cy q (tl + 1) dsp dwi dat bsp bwi pnx phd vkn dff lbl lsh lpk (va_up lett tl x) num lim now prw plr hgr bk bd wio wys trl clr tld tie fst las saw) else (bwC cy q tl dsp dwi dat bsp bwi pnx phd vkn dff lbl lsh lpk lett num lim now prw plr hgr bk bd wio wys trl clr tld tie fst las saw))) := by
  refine Ct.of (own := RX6) (by decide) rfl hI (Nat.le_of_ble_eq_true rfl) ?_
  intro p e s m args below meth c C hr
  refine aw_lv (lv' := [(0, .ref (q 1)), (1, .int (nI x))]) (fun x hx => hx) ?_
  refine aw_aload_n C dX6_append_0 (i := 0) rfl rfl ?_
  refine aw_get (k := 1) C dX6_append_1 fl_X6_15 (by decide) rfl rfl ?_
  refine aw_sipush C dX6_append_4 ks_200 ?_
  refine aw_icmp_lt_n (tgt := 12) C dX6_append_7 (by decide) (by omega) (by omega) (fun h7 => ?_) (fun h7 => ?_)
  · refine aw_aload_n C dX6_append_12 (i := 0) rfl rfl ?_
    refine aw_get (k := 1) C dX6_append_13 fl_X6_9 (by decide) rfl rfl ?_
    refine aw_aload_n C dX6_append_16 (i := 0) rfl rfl ?_
    refine aw_get (k := 1) C dX6_append_17 fl_X6_15 (by decide) rfl rfl ?_
    refine aw_iload_n C dX6_append_20 (i := 1) rfl rfl ?_
    refine aw_cast (k := 9) C dX6_append_21 (by decide) (rfl) (rfl) (by omega) (by decide) (by unfold vp_nar; rw [(pk_charN hx).1]) (bw_a_lett) ?_
    refine aw_aload_n C dX6_append_22 (i := 0) rfl rfl ?_
    refine aw_dup C dX6_append_23 rfl ?_
    refine aw_get (k := 1) C dX6_append_24 fl_X6_15 (by decide) rfl rfl ?_
    refine aw_iconst C dX6_append_27 ki_1 ?_
    refine aw_iadd_n C dX6_append_28 ?_
    refine aw_put (k := 1) C dX6_append_29 fp_X6_15 (by decide) rfl rfl rfl (Nat.le_of_ble_eq_true rfl) bw_p_tl ?_
    refine aw_iconst C dX6_append_32 ki_1 ?_
    refine aw_zret C hr dX6_append_33 (by decide) ?_
    exact PI.mk (bi_t (by simp [h7])) (if_pos h7).symm
  · refine aw_iconst C dX6_append_10 ki_0 ?_
    refine aw_zret C hr dX6_append_11 (by decide) ?_
    exact PI.mk (bi_f (by simp; omega)) (if_neg (Nat.not_lt.mpr h7)).symm
set_option maxRecDepth 20000 in
/-- clear -/
theorem cb_tclear {l : Launch} {D : va_G} {cy : Nat → ClassId} {z : Nat → Nat} {q : Nat → Nat} (hI : wI 49 q) {tl dsp dwi dat bsp bwi pnx phd vkn : Nat} {dff lbl lsh lpk : Int32} {lett : Nat → Nat} {num lim now : Nat → Int32} {prw plr hgr : Nat → Nat → Int32} {bk bd wio wys trl : Nat → Int32} {clr : Nat → Int64} {tld tie fst las saw : Nat → Int32} : Ct l yX6_clear cX6_clear 1 none 0 0 D cy z 49 q [.ref (q 1)] (bwC cy q tl dsp dwi dat bsp bwi pnx phd vkn dff lbl lsh lpk lett num lim now prw plr hgr bk bd wio wys trl clr tld tie fst las saw) (PV (bwC cy q 0 dsp dwi dat bsp bwi pnx phd vkn dff lbl lsh lpk lett num lim now prw plr hgr bk bd wio wys trl clr tld tie fst las saw)) := by
  refine Ct.of (own := RX6) (by decide) rfl hI (Nat.le_of_ble_eq_true rfl) ?_
  intro p e s m args below meth c C hr
  refine aw_lv (lv' := [(0, .ref (q 1))]) (fun x hx => hx) ?_
  refine aw_aload_n C dX6_clear_0 (i := 0) rfl rfl ?_
  refine aw_iconst C dX6_clear_1 ki_0 ?_
  refine aw_put (k := 1) C dX6_clear_2 fp_X6_15 (by decide) rfl rfl rfl (Nat.le_of_ble_eq_true rfl) bw_p_tl ?_
  refine aw_vret C hr dX6_clear_5 ?_
  exact ⟨rfl, rfl⟩
set_option maxRecDepth 20000 in
/-- letterAt -/
theorem cb_letterAt {l : Launch} {D : va_G} {cy : Nat → ClassId} {z : Nat → Nat} {q : Nat → Nat} (hI : wI 49 q) {tl dsp dwi dat bsp bwi pnx phd vkn : Nat} {dff lbl lsh lpk : Int32} {lett : Nat → Nat} {num lim now : Nat → Int32} {prw plr hgr : Nat → Nat → Int32} {bk bd wio wys trl : Nat → Int32} {clr : Nat → Int64} {tld tie fst las saw : Nat → Int32} {p0 : Nat} (hp : p0 ≤ 1000) (hl : tl ≤ 200) (hb : ∀ j, lett j ≤ 1000) : Ct l yX6_letterAt cX6_letterAt 2 (some .char) 0 0 D cy z 49 q [.ref (q 1), .int (nI p0)] (bwC cy q tl dsp dwi dat bsp bwi pnx phd vkn dff lbl lsh lpk lett num lim now prw plr hgr bk bd wio wys trl clr tld tie fst las saw) (PI (nI (lt0 tl lett p0)) (bwC cy q tl dsp dwi dat bsp bwi pnx phd vkn dff lbl lsh lpk lett num lim now prw plr hgr bk bd wio wys trl clr tld tie fst las saw)) := by
  refine Ct.of (own := RX6) (by decide) rfl hI (Nat.le_of_ble_eq_true rfl) ?_
  intro p e s m args below meth c C hr
  refine aw_lv (lv' := [(0, .ref (q 1)), (1, .int (nI p0))]) (fun x hx => hx) ?_
  refine aw_iload_n C dX6_letterAt_0 (i := 1) rfl rfl ?_
  refine aw_if_lt_n (tgt := 21) C dX6_letterAt_1 (by decide) (by omega) ?_
  refine aw_iload_n C dX6_letterAt_4 (i := 1) rfl rfl ?_
  refine aw_aload_n C dX6_letterAt_5 (i := 0) rfl rfl ?_
  refine aw_get (k := 1) C dX6_letterAt_6 fl_X6_15 (by decide) rfl rfl ?_
  refine aw_icmp_ge_n (tgt := 21) C dX6_letterAt_9 (by decide) (by omega) (by omega) (fun h9 => ?_) (fun h9 => ?_)
  · refine aw_iconst C dX6_letterAt_21 ki_0 ?_
    refine aw_zret C hr dX6_letterAt_22 ((pk_charN (by first | exact Nat.lt_of_le_of_lt (hb _) (by decide) | decide)).1) ?_
    exact PI.mk (by unfold lt0; rw [if_neg (Nat.not_lt.mpr h9)]) rfl
  · refine aw_aload_n C dX6_letterAt_12 (i := 0) rfl rfl ?_
    refine aw_get (k := 1) C dX6_letterAt_13 fl_X6_9 (by decide) rfl rfl ?_
    refine aw_iload_n C dX6_letterAt_16 (i := 1) rfl rfl ?_
    refine aw_cald (k := 9) C dX6_letterAt_17 (by decide) (rfl) (rfl) (by omega) (by decide) (rfl) ?_
    refine aw_goto (tgt := 22) C dX6_letterAt_18 (by decide) ?_
    refine aw_zret C hr dX6_letterAt_22 ((pk_charN (by first | exact Nat.lt_of_le_of_lt (hb _) (by decide) | decide)).1) ?_
    exact PI.mk (by unfold lt0; rw [if_pos h9]) rfl
set_option maxRecDepth 20000 in
/-- clear -/
theorem cb_pclear {l : Launch} {D : va_G} {cy : Nat → ClassId} {z : Nat → Nat} {q : Nat → Nat} (hI : wI 49 q) {tl dsp dwi dat bsp bwi pnx phd vkn : Nat} {dff lbl lsh lpk : Int32} {lett : Nat → Nat} {num lim now : Nat → Int32} {prw plr hgr : Nat → Nat → Int32} {bk bd wio wys trl : Nat → Int32} {clr : Nat → Int64} {tld tie fst las saw : Nat → Int32} : Ct l yX3_clear cX3_clear 1 none 0 0 D cy z 49 q [.ref (q 4)] (bwC cy q tl dsp dwi dat bsp bwi pnx phd vkn dff lbl lsh lpk lett num lim now prw plr hgr bk bd wio wys trl clr tld tie fst las saw) (PV (bwC cy q tl dsp dwi dat bsp bwi pnx 0 vkn dff lbl lsh lpk lett num lim now prw plr hgr bk bd wio wys trl clr tld tie fst las saw)) := by
  refine Ct.of (own := RX3) (by decide) rfl hI (Nat.le_of_ble_eq_true rfl) ?_
  intro p e s m args below meth c C hr
  refine aw_lv (lv' := [(0, .ref (q 4))]) (fun x hx => hx) ?_
  refine aw_aload_n C dX3_clear_0 (i := 0) rfl rfl ?_
  refine aw_iconst C dX3_clear_1 ki_0 ?_
  refine aw_put (k := 4) C dX3_clear_2 fp_X3_18 (by decide) rfl rfl rfl (Nat.le_of_ble_eq_true rfl) bw_p_phd ?_
  refine aw_vret C hr dX3_clear_5 ?_
  exact ⟨rfl, rfl⟩
def nxU (n : Nat) : Nat := if n + 1 < 6 then n + 1 else 0
def nxD (n : Nat) : Nat := if 0 < n then n - 1 else 5
def hdU (n : Nat) : Nat := if 6 < n + 1 then 6 else n + 1
theorem min_n {a : Nat} (h : a < 100) : minI (nI (a + 1)) (nI 6) = nI (hdU a) := by
  unfold minI hdU
  by_cases h1 : 6 < a + 1
  · rw [if_pos (nI_lt h1 (by omega)), if_pos h1]
  · rw [if_neg (nI_nlt (by omega) (by omega)), if_neg h1]
theorem cpy_all {f g : Nat → Int32} {n j : Nat} (h : j < n) : va_cpy f g 0 0 n j = f j := by rw [pk_cpy_in (Nat.zero_le _) (by omega)]; simp
set_option maxRecDepth 20000 in
/-- keep -/
theorem cb_keep {l : Launch} {D : va_G} {cy : Nat → ClassId} {z : Nat → Nat} {q : Nat → Nat} (hI : wI 49 q) {tl dsp dwi dat bsp bwi pnx phd vkn : Nat} {dff lbl lsh lpk : Int32} {lett : Nat → Nat} {num lim now : Nat → Int32} {prw plr hgr : Nat → Nat → Int32} {bk bd wio wys trl : Nat → Int32} {clr : Nat → Int64} {tld tie fst las saw : Nat → Int32} (hn : pnx < 6) (hh : phd ≤ 6) : Ct l yX3_keep cX3_keep 2 none 1 32 D cy z 49 q [.ref (q 4), .ref (q 3)] (bwC cy q tl dsp dwi dat bsp bwi pnx phd vkn dff lbl lsh lpk lett num lim now prw plr hgr bk bd wio wys trl clr tld tie fst las saw) (PV (bwC cy q tl dsp dwi dat bsp bwi (nxU pnx) (hdU phd) vkn dff lbl lsh lpk lett num lim now (va_up prw pnx (va_cpy now (prw pnx) 0 0 45)) plr hgr bk bd wio wys trl clr tld tie fst las saw)) := by
  refine Ct.of (own := RX3) (by decide) rfl hI (Nat.le_of_ble_eq_true rfl) ?_
  intro p e s m args below meth c C hr
  refine aw_lv (lv' := [(0, .ref (q 4)), (1, .ref (q 3))]) (fun x hx => hx) ?_
  refine aw_aload_n C dX3_keep_0 (i := 1) rfl rfl ?_
  refine aw_get (k := 3) C dX3_keep_1 fl_X3_22 (by decide) rfl rfl ?_
  refine aw_iconst C dX3_keep_4 ki_0 ?_
  refine aw_aload_n C dX3_keep_5 (i := 0) rfl rfl ?_
  refine aw_get (k := 4) C dX3_keep_6 fl_X3_13 (by decide) rfl rfl ?_
  refine aw_aload_n C dX3_keep_9 (i := 0) rfl rfl ?_
  refine aw_get (k := 4) C dX3_keep_10 fl_X3_26 (by decide) rfl rfl ?_
  refine aw_aald (k := 13) (n := pnx) C dX3_keep_13 (by decide) rfl (rfl) (by omega) (by decide) rfl ?_
  refine aw_iconst C dX3_keep_14 ki_0 ?_
  refine aw_bipush C dX3_keep_15 kb_45 ?_
  refine aw_copy (k0 := 12) (k1 := (14 + pnx)) C dX3_keep_17 ccy_X3_29 (by decide) (rfl) (by omega) (bw_r_prw (by omega)) (by decide) (by decide) (by decide) (by decide) (Nat.le_of_ble_eq_true rfl) (Nat.le_of_ble_eq_true rfl) (Nat.le_of_ble_eq_true rfl) (bw_u_prw (by omega)) ?_
  refine aw_aload_n C dX3_keep_20 (i := 0) rfl rfl ?_
  refine aw_aload_n C dX3_keep_21 (i := 0) rfl rfl ?_
  refine aw_get (k := 4) C dX3_keep_22 fl_X3_26 (by decide) rfl rfl ?_
  refine aw_iconst C dX3_keep_25 ki_1 ?_
  refine aw_iadd_n C dX3_keep_26 ?_
  refine aw_bipush C dX3_keep_27 kb_6 ?_
  refine aw_icmp_ge_n (tgt := 41) C dX3_keep_29 (by decide) (by omega) (by omega) (fun h29 => ?_) (fun h29 => ?_)
  · refine aw_iconst C dX3_keep_41 ki_0 ?_
    refine aw_put (k := 4) C dX3_keep_42 fp_X3_26 (by decide) rfl rfl rfl (Nat.le_of_ble_eq_true rfl) bw_p_pnx ?_
    refine aw_aload_n C dX3_keep_45 (i := 0) rfl rfl ?_
    refine aw_aload_n C dX3_keep_46 (i := 0) rfl rfl ?_
    refine aw_get (k := 4) C dX3_keep_47 fl_X3_18 (by decide) rfl rfl ?_
    refine aw_iconst C dX3_keep_50 ki_1 ?_
    refine aw_iadd_n C dX3_keep_51 ?_
    refine aw_bipush C dX3_keep_52 kb_6 ?_
    refine aw_min C dX3_keep_54 cm9_X3_35 (Nat.le_of_ble_eq_true rfl) (Nat.le_of_ble_eq_true rfl) (Nat.le_of_ble_eq_true rfl) ?_
    rw [min_n (by omega)]
    refine aw_put (k := 4) C dX3_keep_57 fp_X3_18 (by decide) rfl rfl rfl (Nat.le_of_ble_eq_true rfl) bw_p_phd ?_
    refine aw_vret C hr dX3_keep_60 ?_
    exact ⟨rfl, by unfold nxU; rw [if_neg (Nat.not_lt.mpr h29)]⟩
  · refine aw_aload_n C dX3_keep_32 (i := 0) rfl rfl ?_
    refine aw_get (k := 4) C dX3_keep_33 fl_X3_26 (by decide) rfl rfl ?_
    refine aw_iconst C dX3_keep_36 ki_1 ?_
    refine aw_iadd_n C dX3_keep_37 ?_
    refine aw_goto (tgt := 42) C dX3_keep_38 (by decide) ?_
    refine aw_put (k := 4) C dX3_keep_42 fp_X3_26 (by decide) rfl rfl rfl (Nat.le_of_ble_eq_true rfl) bw_p_pnx ?_
    refine aw_aload_n C dX3_keep_45 (i := 0) rfl rfl ?_
    refine aw_aload_n C dX3_keep_46 (i := 0) rfl rfl ?_
    refine aw_get (k := 4) C dX3_keep_47 fl_X3_18 (by decide) rfl rfl ?_
    refine aw_iconst C dX3_keep_50 ki_1 ?_
    refine aw_iadd_n C dX3_keep_51 ?_
    refine aw_bipush C dX3_keep_52 kb_6 ?_
    refine aw_min C dX3_keep_54 cm9_X3_35 (Nat.le_of_ble_eq_true rfl) (Nat.le_of_ble_eq_true rfl) (Nat.le_of_ble_eq_true rfl) ?_
    rw [min_n (by omega)]
    refine aw_put (k := 4) C dX3_keep_57 fp_X3_18 (by decide) rfl rfl rfl (Nat.le_of_ble_eq_true rfl) bw_p_phd ?_
    refine aw_vret C hr dX3_keep_60 ?_
    exact ⟨rfl, by unfold nxU; rw [if_pos h29]⟩
set_option maxRecDepth 20000 in
/-- giveBack -/
theorem cb_giveBack {l : Launch} {D : va_G} {cy : Nat → ClassId} {z : Nat → Nat} {q : Nat → Nat} (hI : wI 49 q) {tl dsp dwi dat bsp bwi pnx phd vkn : Nat} {dff lbl lsh lpk : Int32} {lett : Nat → Nat} {num lim now : Nat → Int32} {prw plr hgr : Nat → Nat → Int32} {bk bd wio wys trl : Nat → Int32} {clr : Nat → Int64} {tld tie fst las saw : Nat → Int32} (hn : pnx < 6) (hh : phd ≤ 6) : Ct l yX3_giveBack cX3_giveBack 2 none 1 32 D cy z 49 q [.ref (q 4), .ref (q 3)] (bwC cy q tl dsp dwi dat bsp bwi pnx phd vkn dff lbl lsh lpk lett num lim now prw plr hgr bk bd wio wys trl clr tld tie fst las saw) (PV (if phd = 0 then (bwC cy q tl dsp dwi dat bsp bwi pnx phd vkn dff lbl lsh lpk lett num lim now prw plr hgr bk bd wio wys trl clr tld tie fst las saw) else (bwC cy q tl dsp dwi dat bsp bwi (nxD pnx) (phd - 1) vkn dff lbl lsh lpk lett num lim (va_cpy (prw (nxD pnx)) now 0 0 45) prw plr hgr bk bd wio wys trl clr tld tie fst las saw))) := by
  refine Ct.of (own := RX3) (by decide) rfl hI (Nat.le_of_ble_eq_true rfl) ?_
  intro p e s m args below meth c C hr
  refine aw_lv (lv' := [(0, .ref (q 4)), (1, .ref (q 3))]) (fun x hx => hx) ?_
  refine aw_aload_n C dX3_giveBack_0 (i := 0) rfl rfl ?_
  refine aw_get (k := 4) C dX3_giveBack_1 fl_X3_18 (by decide) rfl rfl ?_
  refine aw_if_ne_n (tgt := 8) C dX3_giveBack_4 (by decide) (by omega) (fun h4 => ?_) (fun h4 => ?_)
  · refine aw_aload_n C dX3_giveBack_8 (i := 0) rfl rfl ?_
    refine aw_aload_n C dX3_giveBack_9 (i := 0) rfl rfl ?_
    refine aw_get (k := 4) C dX3_giveBack_10 fl_X3_26 (by decide) rfl rfl ?_
    refine aw_if_le_n (tgt := 25) C dX3_giveBack_13 (by decide) (by omega) (fun h13 => ?_) (fun h13 => ?_)
    · refine aw_iconst C dX3_giveBack_25 ki_5 ?_
      refine aw_put (k := 4) C dX3_giveBack_26 fp_X3_26 (by decide) rfl rfl rfl (Nat.le_of_ble_eq_true rfl) bw_p_pnx ?_
      refine aw_aload_n C dX3_giveBack_29 (i := 0) rfl rfl ?_
      refine aw_dup C dX3_giveBack_30 rfl ?_
      refine aw_get (k := 4) C dX3_giveBack_31 fl_X3_18 (by decide) rfl rfl ?_
      refine aw_iconst C dX3_giveBack_34 ki_1 ?_
      refine aw_isub_n C dX3_giveBack_35 (by omega) ?_
      refine aw_put (k := 4) C dX3_giveBack_36 fp_X3_18 (by decide) rfl rfl rfl (Nat.le_of_ble_eq_true rfl) bw_p_phd ?_
      refine aw_aload_n C dX3_giveBack_39 (i := 0) rfl rfl ?_
      refine aw_get (k := 4) C dX3_giveBack_40 fl_X3_13 (by decide) rfl rfl ?_
      refine aw_aload_n C dX3_giveBack_43 (i := 0) rfl rfl ?_
      refine aw_get (k := 4) C dX3_giveBack_44 fl_X3_26 (by decide) rfl rfl ?_
      refine aw_aald (k := 13) (n := 5) C dX3_giveBack_47 (by decide) rfl (rfl) (by omega) (by decide) rfl ?_
      refine aw_iconst C dX3_giveBack_48 ki_0 ?_
      refine aw_aload_n C dX3_giveBack_49 (i := 1) rfl rfl ?_
      refine aw_get (k := 3) C dX3_giveBack_50 fl_X3_22 (by decide) rfl rfl ?_
      refine aw_iconst C dX3_giveBack_53 ki_0 ?_
      refine aw_bipush C dX3_giveBack_54 kb_45 ?_
      refine aw_copy (k0 := (14 + 5)) (k1 := 12) C dX3_giveBack_56 ccy_X3_29 (by omega) (bw_r_prw (by omega)) (by decide) (rfl) (by decide) (by decide) (by decide) (by decide) (Nat.le_of_ble_eq_true rfl) (Nat.le_of_ble_eq_true rfl) (Nat.le_of_ble_eq_true rfl) (bw_a_now) ?_
      refine aw_vret C hr dX3_giveBack_59 ?_
      have e9 : nxD pnx = 5 := by unfold nxD; rw [if_neg (by omega)]
      exact ⟨rfl, by rw [if_neg (Nat.ne_of_gt h4), e9]⟩
    · refine aw_aload_n C dX3_giveBack_16 (i := 0) rfl rfl ?_
      refine aw_get (k := 4) C dX3_giveBack_17 fl_X3_26 (by decide) rfl rfl ?_
      refine aw_iconst C dX3_giveBack_20 ki_1 ?_
      refine aw_isub_n C dX3_giveBack_21 (by omega) ?_
      refine aw_goto (tgt := 26) C dX3_giveBack_22 (by decide) ?_
      refine aw_put (k := 4) C dX3_giveBack_26 fp_X3_26 (by decide) rfl rfl rfl (Nat.le_of_ble_eq_true rfl) bw_p_pnx ?_
      refine aw_aload_n C dX3_giveBack_29 (i := 0) rfl rfl ?_
      refine aw_dup C dX3_giveBack_30 rfl ?_
      refine aw_get (k := 4) C dX3_giveBack_31 fl_X3_18 (by decide) rfl rfl ?_
      refine aw_iconst C dX3_giveBack_34 ki_1 ?_
      refine aw_isub_n C dX3_giveBack_35 (by omega) ?_
      refine aw_put (k := 4) C dX3_giveBack_36 fp_X3_18 (by decide) rfl rfl rfl (Nat.le_of_ble_eq_true rfl) bw_p_phd ?_
      refine aw_aload_n C dX3_giveBack_39 (i := 0) rfl rfl ?_
      refine aw_get (k := 4) C dX3_giveBack_40 fl_X3_13 (by decide) rfl rfl ?_
      refine aw_aload_n C dX3_giveBack_43 (i := 0) rfl rfl ?_
      refine aw_get (k := 4) C dX3_giveBack_44 fl_X3_26 (by decide) rfl rfl ?_
      refine aw_aald (k := 13) (n := (pnx - 1)) C dX3_giveBack_47 (by decide) rfl (rfl) (by omega) (by decide) rfl ?_
      refine aw_iconst C dX3_giveBack_48 ki_0 ?_
      refine aw_aload_n C dX3_giveBack_49 (i := 1) rfl rfl ?_
      refine aw_get (k := 3) C dX3_giveBack_50 fl_X3_22 (by decide) rfl rfl ?_
      refine aw_iconst C dX3_giveBack_53 ki_0 ?_
      refine aw_bipush C dX3_giveBack_54 kb_45 ?_
      refine aw_copy (k0 := (14 + (pnx - 1))) (k1 := 12) C dX3_giveBack_56 ccy_X3_29 (by omega) (bw_r_prw (by omega)) (by decide) (rfl) (by decide) (by decide) (by decide) (by decide) (Nat.le_of_ble_eq_true rfl) (Nat.le_of_ble_eq_true rfl) (Nat.le_of_ble_eq_true rfl) (bw_a_now) ?_
      refine aw_vret C hr dX3_giveBack_59 ?_
      have e9 : nxD pnx = pnx - 1 := by unfold nxD; rw [if_pos h13]
      exact ⟨rfl, by rw [if_neg (Nat.ne_of_gt h4), e9]⟩
  · refine aw_vret C hr dX3_giveBack_7 ?_
    exact ⟨rfl, (if_pos h4).symm⟩
