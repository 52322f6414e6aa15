-- BondedWires: its calls (1)
set_option maxRecDepth 20000 in
/-- isWire -/
theorem cb_isWire {l : Launch} {D : va_G} {cy : Nat → ClassId} {z : Nat → Nat} {q : Nat → Nat} (hI : wI 49 q) {tl dsp dwi dat bsp bwi pnx phd vkn : Nat} {dff lbl lsh lpk : Int32} {lett : Nat → Nat} {num lim now : Nat → Int32} {prw plr hgr : Nat → Nat → Int32} {bk bd wio wys trl : Nat → Int32} {clr : Nat → Int64} {tld tie fst las saw : Nat → Int32} {x : Int32} (hw : bwi ≤ 8) : Ct l yX8_isWire cX8_isWire 2 (some .boolean) 0 0 D cy z 49 q [.ref (q 0), .int x] (bwC cy q tl dsp dwi dat bsp bwi pnx phd vkn dff lbl lsh lpk lett num lim now prw plr hgr bk bd wio wys trl clr tld tie fst las saw) (PI (bi (wrB bwi x)) (bwC cy q tl dsp dwi dat bsp bwi pnx phd vkn dff lbl lsh lpk lett num lim now prw plr hgr bk bd wio wys trl clr tld tie fst las saw)) := by
  refine Ct.of (own := RX8) (by decide) rfl hI (Nat.le_of_ble_eq_true rfl) ?_
  intro p e s m args below meth c C hr
  refine aw_lv (lv' := [(0, .ref (q 0)), (1, .int x)]) (fun x hx => hx) ?_
  refine aw_iload_n C dX8_isWire_0 (i := 1) rfl rfl ?_
  refine aw_if_lt (tgt := 19) C dX8_isWire_1 (by decide) (fun h1 => ?_) (fun h1 => ?_)
  · refine aw_iconst C dX8_isWire_19 ki_0 ?_
    refine aw_zret C hr dX8_isWire_20 (by decide) ?_
    have e6 : (nI 0).toInt = 0 := rfl
    have e5 : (0 : Int32).toInt = 0 := rfl
    have e8 : (nI bwi - nI 1).toInt = (bwi : Int) - 1 := pk_sub_toInt (by omega) (by omega)
    have e7 : (nI bwi).toInt = bwi := nI_toInt (by omega)
    refine PI.mk (bi_g ?_) rfl
    unfold wrB inB
    simp only [Bool.and_eq_true, Bool.or_eq_true, decide_eq_true_eq, Int32.le_iff_toInt_le, Int32.lt_iff_toInt_lt, e8, e7, e6, e5] at h1 ⊢
    omega
  · refine aw_iload_n C dX8_isWire_4 (i := 1) rfl rfl ?_
    refine aw_aload_n C dX8_isWire_5 (i := 0) rfl rfl ?_
    refine aw_get (k := 0) C dX8_isWire_6 fl_X8_26 (by decide) rfl rfl ?_
    refine aw_get (k := 3) C dX8_isWire_9 fl_X8_102 (by decide) rfl rfl ?_
    refine aw_icmp_ge (tgt := 19) C dX8_isWire_12 (by decide) (fun h12 => ?_) (fun h12 => ?_)
    · refine aw_iconst C dX8_isWire_19 ki_0 ?_
      refine aw_zret C hr dX8_isWire_20 (by decide) ?_
      have e6 : (nI 0).toInt = 0 := rfl
      have e5 : (0 : Int32).toInt = 0 := rfl
      have e8 : (nI bwi - nI 1).toInt = (bwi : Int) - 1 := pk_sub_toInt (by omega) (by omega)
      have e7 : (nI bwi).toInt = bwi := nI_toInt (by omega)
      refine PI.mk (bi_g ?_) rfl
      unfold wrB inB
      simp only [Bool.and_eq_true, Bool.or_eq_true, decide_eq_true_eq, Int32.le_iff_toInt_le, Int32.lt_iff_toInt_lt, e8, e7, e6, e5] at h1 h12 ⊢
      omega
    · refine aw_iconst C dX8_isWire_15 ki_1 ?_
      refine aw_goto (tgt := 20) C dX8_isWire_16 (by decide) ?_
      refine aw_zret C hr dX8_isWire_20 (by decide) ?_
      have e6 : (nI 0).toInt = 0 := rfl
      have e5 : (0 : Int32).toInt = 0 := rfl
      have e8 : (nI bwi - nI 1).toInt = (bwi : Int) - 1 := pk_sub_toInt (by omega) (by omega)
      have e7 : (nI bwi).toInt = bwi := nI_toInt (by omega)
      refine PI.mk (bi_t ?_) rfl
      unfold wrB inB
      simp only [Bool.and_eq_true, Bool.or_eq_true, decide_eq_true_eq, Int32.le_iff_toInt_le, Int32.lt_iff_toInt_lt, e8, e7, e6, e5] at h1 h12 ⊢
      omega
set_option maxRecDepth 20000 in
/-- isRow -/
theorem cb_isRow {l : Launch} {D : va_G} {cy : Nat → ClassId} {z : Nat → Nat} {q : Nat → Nat} (hI : wI 49 q) {tl dsp dwi dat bsp bwi pnx phd vkn : Nat} {dff lbl lsh lpk : Int32} {lett : Nat → Nat} {num lim now : Nat → Int32} {prw plr hgr : Nat → Nat → Int32} {bk bd wio wys trl : Nat → Int32} {clr : Nat → Int64} {tld tie fst las saw : Nat → Int32} {x : Int32} (hs2 : bsp ≤ 40) : Ct l yX8_isRow cX8_isRow 2 (some .boolean) 0 0 D cy z 49 q [.ref (q 0), .int x] (bwC cy q tl dsp dwi dat bsp bwi pnx phd vkn dff lbl lsh lpk lett num lim now prw plr hgr bk bd wio wys trl clr tld tie fst las saw) (PI (bi (inB x (nI 0) (nI bsp))) (bwC cy q tl dsp dwi dat bsp bwi pnx phd vkn dff lbl lsh lpk lett num lim now prw plr hgr bk bd wio wys trl clr tld tie fst las saw)) := by
  refine Ct.of (own := RX8) (by decide) rfl hI (Nat.le_of_ble_eq_true rfl) ?_
  intro p e s m args below meth c C hr
  refine aw_lv (lv' := [(0, .ref (q 0)), (1, .int x)]) (fun x hx => hx) ?_
  refine aw_iload_n C dX8_isRow_0 (i := 1) rfl rfl ?_
  refine aw_if_lt (tgt := 19) C dX8_isRow_1 (by decide) (fun h1 => ?_) (fun h1 => ?_)
  · refine aw_iconst C dX8_isRow_19 ki_0 ?_
    refine aw_zret C hr dX8_isRow_20 (by decide) ?_
    have e6 : (nI 0).toInt = 0 := rfl
    have e5 : (0 : Int32).toInt = 0 := rfl
    have e7 : (nI bsp).toInt = bsp := nI_toInt (by omega)
    refine PI.mk (bi_g ?_) rfl
    unfold inB
    simp only [Bool.and_eq_true, Bool.or_eq_true, decide_eq_true_eq, Int32.le_iff_toInt_le, Int32.lt_iff_toInt_lt, e7, e6, e5] at h1 ⊢
    omega
  · refine aw_iload_n C dX8_isRow_4 (i := 1) rfl rfl ?_
    refine aw_aload_n C dX8_isRow_5 (i := 0) rfl rfl ?_
    refine aw_get (k := 0) C dX8_isRow_6 fl_X8_26 (by decide) rfl rfl ?_
    refine aw_get (k := 3) C dX8_isRow_9 fl_X8_243 (by decide) rfl rfl ?_
    refine aw_icmp_gt (tgt := 19) C dX8_isRow_12 (by decide) (fun h12 => ?_) (fun h12 => ?_)
    · refine aw_iconst C dX8_isRow_19 ki_0 ?_
      refine aw_zret C hr dX8_isRow_20 (by decide) ?_
      have e6 : (nI 0).toInt = 0 := rfl
      have e5 : (0 : Int32).toInt = 0 := rfl
      have e7 : (nI bsp).toInt = bsp := nI_toInt (by omega)
      refine PI.mk (bi_g ?_) rfl
      unfold inB
      simp only [Bool.and_eq_true, Bool.or_eq_true, decide_eq_true_eq, Int32.le_iff_toInt_le, Int32.lt_iff_toInt_lt, e7, e6, e5] at h1 h12 ⊢
      omega
    · refine aw_iconst C dX8_isRow_15 ki_1 ?_
      refine aw_goto (tgt := 20) C dX8_isRow_16 (by decide) ?_
      refine aw_zret C hr dX8_isRow_20 (by decide) ?_
      have e6 : (nI 0).toInt = 0 := rfl
      have e5 : (0 : Int32).toInt = 0 := rfl
      have e7 : (nI bsp).toInt = bsp := nI_toInt (by omega)
      refine PI.mk (bi_t ?_) rfl
      unfold inB
      simp only [Bool.and_eq_true, Bool.or_eq_true, decide_eq_true_eq, Int32.le_iff_toInt_le, Int32.lt_iff_toInt_lt, e7, e6, e5] at h1 h12 ⊢
      omega
set_option maxRecDepth 20000 in
/-- isLook -/
theorem cb_isLook {l : Launch} {D : va_G} {cy : Nat → ClassId} {z : Nat → Nat} {q : Nat → Nat} {N : Nat} (hI : wI N q) {f : wS} {t a b : Int32} : Ct l yX8_isLook cX8_isLook 3 (some .boolean) 0 0 D cy z N q [.int t, .int a, .int b] f (PI (bi (sgB t a b)) f) := by
  refine Ct.of (own := RX8) (by decide) rfl hI (Nat.le_of_ble_eq_true rfl) ?_
  intro p e s m args below meth c C hr
  refine aw_lv (lv' := [(0, .int t), (1, .int a), (2, .int b)]) (fun x hx => hx) ?_
  refine aw_iload_n C dX8_isLook_0 (i := 0) rfl rfl ?_
  refine aw_if_lt (tgt := 36) C dX8_isLook_1 (by decide) (fun h1 => ?_) (fun h1 => ?_)
  · refine aw_iconst C dX8_isLook_36 ki_0 ?_
    refine aw_zret C hr dX8_isLook_37 (by decide) ?_
    have e6 : (nI 0).toInt = 0 := rfl
    have e5 : (0 : Int32).toInt = 0 := rfl
    have e7 : (nI 2).toInt = 2 := rfl
    have e8 : (nI 60).toInt = 60 := rfl
    refine PI.mk (bi_g ?_) rfl
    unfold sgB inB
    simp only [Bool.and_eq_true, Bool.or_eq_true, decide_eq_true_eq, Int32.le_iff_toInt_le, Int32.lt_iff_toInt_lt, e7, e8, e6, e5] at h1 ⊢
    omega
  · refine aw_iload_n C dX8_isLook_4 (i := 0) rfl rfl ?_
    refine aw_iconst C dX8_isLook_5 ki_2 ?_
    refine aw_icmp_gt (tgt := 36) C dX8_isLook_6 (by decide) (fun h6 => ?_) (fun h6 => ?_)
    · refine aw_iconst C dX8_isLook_36 ki_0 ?_
      refine aw_zret C hr dX8_isLook_37 (by decide) ?_
      have e6 : (nI 0).toInt = 0 := rfl
      have e5 : (0 : Int32).toInt = 0 := rfl
      have e7 : (nI 2).toInt = 2 := rfl
      have e8 : (nI 60).toInt = 60 := rfl
      refine PI.mk (bi_g ?_) rfl
      unfold sgB inB
      simp only [Bool.and_eq_true, Bool.or_eq_true, decide_eq_true_eq, Int32.le_iff_toInt_le, Int32.lt_iff_toInt_lt, e7, e8, e6, e5] at h1 h6 ⊢
      omega
    · refine aw_iload_n C dX8_isLook_9 (i := 1) rfl rfl ?_
      refine aw_if_lt (tgt := 36) C dX8_isLook_10 (by decide) (fun h10 => ?_) (fun h10 => ?_)
      · refine aw_iconst C dX8_isLook_36 ki_0 ?_
        refine aw_zret C hr dX8_isLook_37 (by decide) ?_
        have e6 : (nI 0).toInt = 0 := rfl
        have e5 : (0 : Int32).toInt = 0 := rfl
        have e7 : (nI 2).toInt = 2 := rfl
        have e8 : (nI 60).toInt = 60 := rfl
        refine PI.mk (bi_g ?_) rfl
        unfold sgB inB
        simp only [Bool.and_eq_true, Bool.or_eq_true, decide_eq_true_eq, Int32.le_iff_toInt_le, Int32.lt_iff_toInt_lt, e7, e8, e6, e5] at h1 h6 h10 ⊢
        omega
      · refine aw_iload_n C dX8_isLook_13 (i := 1) rfl rfl ?_
        refine aw_iload_n C dX8_isLook_14 (i := 2) rfl rfl ?_
        refine aw_icmp_gt (tgt := 36) C dX8_isLook_15 (by decide) (fun h15 => ?_) (fun h15 => ?_)
        · refine aw_iconst C dX8_isLook_36 ki_0 ?_
          refine aw_zret C hr dX8_isLook_37 (by decide) ?_
          have e6 : (nI 0).toInt = 0 := rfl
          have e5 : (0 : Int32).toInt = 0 := rfl
          have e7 : (nI 2).toInt = 2 := rfl
          have e8 : (nI 60).toInt = 60 := rfl
          refine PI.mk (bi_g ?_) rfl
          unfold sgB inB
          simp only [Bool.and_eq_true, Bool.or_eq_true, decide_eq_true_eq, Int32.le_iff_toInt_le, Int32.lt_iff_toInt_lt, e7, e8, e6, e5] at h1 h6 h10 h15 ⊢
          omega
        · refine aw_iload_n C dX8_isLook_18 (i := 2) rfl rfl ?_
          refine aw_bipush C dX8_isLook_19 kb_60 ?_
          refine aw_icmp_gt (tgt := 36) C dX8_isLook_21 (by decide) (fun h21 => ?_) (fun h21 => ?_)
          · refine aw_iconst C dX8_isLook_36 ki_0 ?_
            refine aw_zret C hr dX8_isLook_37 (by decide) ?_
            have e6 : (nI 0).toInt = 0 := rfl
            have e5 : (0 : Int32).toInt = 0 := rfl
            have e7 : (nI 2).toInt = 2 := rfl
            have e8 : (nI 60).toInt = 60 := rfl
            refine PI.mk (bi_g ?_) rfl
            unfold sgB inB
            simp only [Bool.and_eq_true, Bool.or_eq_true, decide_eq_true_eq, Int32.le_iff_toInt_le, Int32.lt_iff_toInt_lt, e7, e8, e6, e5] at h1 h6 h10 h15 h21 ⊢
            omega
          · refine aw_iload_n C dX8_isLook_24 (i := 2) rfl rfl ?_
            refine aw_iload_n C dX8_isLook_25 (i := 1) rfl rfl ?_
            refine aw_isub C dX8_isLook_26 ?_
            refine aw_bipush C dX8_isLook_27 kb_20 ?_
            refine aw_icmp_ge (tgt := 36) C dX8_isLook_29 (by decide) (fun h29 => ?_) (fun h29 => ?_)
            · refine aw_iconst C dX8_isLook_36 ki_0 ?_
              refine aw_zret C hr dX8_isLook_37 (by decide) ?_
              have e6 : (nI 0).toInt = 0 := rfl
              have e5 : (0 : Int32).toInt = 0 := rfl
              have e7 : (nI 2).toInt = 2 := rfl
              have e8 : (nI 60).toInt = 60 := rfl
              refine PI.mk (bi_g ?_) rfl
              unfold sgB inB
              simp only [Bool.and_eq_true, Bool.or_eq_true, decide_eq_true_eq, Int32.le_iff_toInt_le, Int32.lt_iff_toInt_lt, e7, e8, e6, e5] at h1 h6 h10 h15 h21 h29 ⊢
              omega
            · refine aw_iconst C dX8_isLook_32 ki_1 ?_
              refine aw_goto (tgt := 37) C dX8_isLook_33 (by decide) ?_
              refine aw_zret C hr dX8_isLook_37 (by decide) ?_
              have e6 : (nI 0).toInt = 0 := rfl
              have e5 : (0 : Int32).toInt = 0 := rfl
              have e7 : (nI 2).toInt = 2 := rfl
              have e8 : (nI 60).toInt = 60 := rfl
              refine PI.mk (bi_t ?_) rfl
              unfold sgB inB
              simp only [Bool.and_eq_true, Bool.or_eq_true, decide_eq_true_eq, Int32.le_iff_toInt_le, Int32.lt_iff_toInt_lt, e7, e8, e6, e5] at h1 h6 h10 h15 h21 h29 ⊢
              omega
theorem i2c_n : ∀ c, c < 127 → ((nI c).toUInt32 % 65536).toInt32 = nI c := by decide +kernel
set_option maxRecDepth 20000 in
/-- write -/
theorem cb_write {l : Launch} {D : va_G} {cy : Nat → ClassId} {z : Nat → Nat} {q : Nat → Nat} (hI : wI 49 q) {len span wires chg : Nat} {text : Nat → Nat} {h was eyes : Nat → Int32} {dsp dwi dat pnx vkn : Nat} {dff lbl lsh lpk : Int32} {lett : Nat → Nat} {num lim now : Nat → Int32} {prw plr hgr : Nat → Nat → Int32} {bk bd wio wys trl : Nat → Int32} {clr : Nat → Int64} {tld tie fst las saw : Nat → Int32} (S9 : okS len span wires chg text h was eyes) (Q9 : bwQ len span wires chg text h was eyes pnx vkn lett now prw plr hgr bk bd tld tie fst las saw) {x : Int32} : Ct l yX8_write cX8_write 2 (some .int) 1 21 D cy z 49 q [.ref (q 0), .int x] (bwC cy q len dsp dwi dat span wires pnx chg vkn dff lbl lsh lpk lett num lim now prw plr hgr bk bd wio wys trl clr tld tie fst las saw) (PB cy q (opWrite len span wires chg text h was eyes x)) := by
  refine Ct.of (own := RX8) (by decide) rfl hI (Nat.le_of_ble_eq_true rfl) ?_
  intro p e s m args below meth c C hr
  refine aw_lv (lv' := [(0, .ref (q 0)), (1, .int x)]) (fun x hx => hx) ?_
  have S8 := S9
  obtain ⟨hl, hb, hs, hs2, hw, hc, hO, hW, hK⟩ := S8
  have Q8 := Q9
  obtain ⟨hlb, hlt, hA, hP, hH, hB, hn, hR, hE⟩ := Q8
  refine aw_iload_n C dX8_write_0 (i := 1) rfl rfl ?_
  refine aw_bipush C dX8_write_1 kb_32 ?_
  refine aw_icmp_lt (tgt := 12) C dX8_write_3 (by decide) (fun h3 => ?_) (fun h3 => ?_)
  · refine aw_iconst C dX8_write_12 ki_m1 ?_
    refine aw_iret C hr dX8_write_13 ?_
    exact PB.mk (by unfold opWrite; rw [if_neg (by rw [inB_f1 h3]; decide)]) S9 Q9
  · refine aw_iload_n C dX8_write_6 (i := 1) rfl rfl ?_
    refine aw_bipush C dX8_write_7 kb_126 ?_
    refine aw_icmp_le (tgt := 14) C dX8_write_9 (by decide) (fun h9 => ?_) (fun h9 => ?_)
    · have b9 := inB_t (i_le h3) h9
      obtain ⟨c9, c1, c2, rfl⟩ := in_n (by omega) (by omega) b9
      refine aw_aload_n C dX8_write_14 (i := 0) rfl rfl ?_
      refine aw_get (k := 0) C dX8_write_15 fl_X8_10 (by decide) rfl rfl ?_
      refine aw_iload_n C dX8_write_18 (i := 1) rfl rfl ?_
      refine aw_i2c C dX8_write_19 (i2c_n c9 (by omega)) ?_
      refine aw_V1i (k := 1) C dX8_write_20 cv_X8_81 (by decide) rfl rfl rfl (cb_append hI (by omega) hl) ⟨Nat.le_of_ble_eq_true rfl, Nat.le_of_ble_eq_true rfl⟩ (Nat.le_of_ble_eq_true rfl) ?_
      refine aw_if_eq_b (tgt := 36) C dX8_write_23 (by decide) (fun h23 => ?_) (fun h23 => ?_)
      · rw [if_neg (of_decide_eq_false h23)]
        have hl9 := of_decide_eq_false h23
        refine aw_bipush C dX8_write_36 kb_m3 ?_
        refine aw_iret C hr dX8_write_38 ?_
        exact PB.mk (by unfold opWrite; rw [if_pos b9, if_pos (by omega)]) S9 Q9
      · rw [if_pos (of_decide_eq_true h23)]
        have hl9 := of_decide_eq_true h23
        refine aw_aload_n C dX8_write_26 (i := 0) rfl rfl ?_
        refine aw_get (k := 0) C dX8_write_27 fl_X8_10 (by decide) rfl rfl ?_
        refine aw_get (k := 1) C dX8_write_30 fl_X8_92 (by decide) rfl rfl ?_
        refine aw_goto (tgt := 38) C dX8_write_33 (by decide) ?_
        refine aw_iret C hr dX8_write_38 ?_
        refine PB.mk (text := va_up text len c9) (by unfold opWrite; rw [if_pos b9, if_neg (by omega), nI_clamp (by omega)]) ⟨by omega, fun j => ?_, hs, hs2, hw, hc, hO, hW, hK⟩ ⟨fun j => ?_, fun j hj => ?_, hA, hP, hH, hB, hn, hR, hE⟩
        · unfold va_up; split; omega; exact hb j
        · unfold va_up; split; omega; exact hlb j
        · unfold va_up; split; rfl; exact hlt j (by omega)
    · refine aw_iconst C dX8_write_12 ki_m1 ?_
      refine aw_iret C hr dX8_write_13 ?_
      exact PB.mk (by unfold opWrite; rw [if_neg (by rw [inB_f2 (i_lt h9)]; decide)]) S9 Q9
set_option maxRecDepth 20000 in
/-- wipe -/
theorem cb_wipe {l : Launch} {D : va_G} {cy : Nat → ClassId} {z : Nat → Nat} {q : Nat → Nat} (hI : wI 49 q) {len span wires chg : Nat} {text : Nat → Nat} {h was eyes : Nat → Int32} {dsp dwi dat pnx vkn : Nat} {dff lbl lsh lpk : Int32} {lett : Nat → Nat} {num lim now : Nat → Int32} {prw plr hgr : Nat → Nat → Int32} {bk bd wio wys trl : Nat → Int32} {clr : Nat → Int64} {tld tie fst las saw : Nat → Int32} (S9 : okS len span wires chg text h was eyes) (Q9 : bwQ len span wires chg text h was eyes pnx vkn lett now prw plr hgr bk bd tld tie fst las saw) : Ct l yX8_wipe cX8_wipe 2 (some .int) 1 20 D cy z 49 q [.ref (q 0)] (bwC cy q len dsp dwi dat span wires pnx chg vkn dff lbl lsh lpk lett num lim now prw plr hgr bk bd wio wys trl clr tld tie fst las saw) (PB cy q (opWipe len span wires chg text h was eyes)) := by
  refine Ct.of (own := RX8) (by decide) rfl hI (Nat.le_of_ble_eq_true rfl) ?_
  intro p e s m args below meth c C hr
  refine aw_lv (lv' := [(0, .ref (q 0))]) (fun x hx => hx) ?_
  have S8 := S9
  obtain ⟨hl, hb, hs, hs2, hw, hc, hO, hW, hK⟩ := S8
  have Q8 := Q9
  obtain ⟨hlb, hlt, hA, hP, hH, hB, hn, hR, hE⟩ := Q8
  refine aw_aload_n C dX8_wipe_0 (i := 0) rfl rfl ?_
  refine aw_get (k := 0) C dX8_wipe_1 fl_X8_10 (by decide) rfl rfl ?_
  refine aw_get (k := 1) C dX8_wipe_4 fl_X8_92 (by decide) rfl rfl ?_
  refine aw_istore_n (lv' := [(0, _), (1, _)]) C dX8_wipe_7 (i := 1) rfl (Nat.le_of_ble_eq_true rfl) rfl ?_
  refine aw_aload_n C dX8_wipe_8 (i := 0) rfl rfl ?_
  refine aw_get (k := 0) C dX8_wipe_9 fl_X8_10 (by decide) rfl rfl ?_
  refine aw_V0v (k := 1) C dX8_wipe_12 cv_X8_89 (by decide) rfl rfl rfl (cb_tclear hI) ⟨Nat.le_of_ble_eq_true rfl, Nat.le_of_ble_eq_true rfl⟩ (Nat.le_of_ble_eq_true rfl) ?_
  refine aw_iload_n C dX8_wipe_15 (i := 1) rfl rfl ?_
  refine aw_iret C hr dX8_wipe_16 ?_
  exact PB.mk rfl ⟨by omega, hb, hs, hs2, hw, hc, hO, hW, hK⟩ ⟨hlb, fun j hj => absurd hj (Nat.not_lt_zero j), hA, hP, hH, hB, hn, hR, hE⟩
set_option maxRecDepth 20000 in
/-- fault -/
theorem cb_fault {l : Launch} {D : va_G} {cy : Nat → ClassId} {z : Nat → Nat} {q : Nat → Nat} (hI : wI 49 q) {len span wires chg : Nat} {text : Nat → Nat} {h was eyes : Nat → Int32} {dsp dwi dat pnx vkn : Nat} {dff lbl lsh lpk : Int32} {lett : Nat → Nat} {num lim now : Nat → Int32} {prw plr hgr : Nat → Nat → Int32} {bk bd wio wys trl : Nat → Int32} {clr : Nat → Int64} {tld tie fst las saw : Nat → Int32} (S9 : okS len span wires chg text h was eyes) (Q9 : bwQ len span wires chg text h was eyes pnx vkn lett now prw plr hgr bk bd tld tie fst las saw) : Ct l yX8_fault cX8_fault 1 (some .int) 5 113 D cy z 49 q [.ref (q 0)] (bwC cy q len dsp dwi dat span wires pnx chg vkn dff lbl lsh lpk lett num lim now prw plr hgr bk bd wio wys trl clr tld tie fst las saw) (PB cy q (opFault len text, (len, span, wires, chg, text, h, was, eyes))) := by
  refine Ct.of (own := RX8) (by decide) rfl hI (Nat.le_of_ble_eq_true rfl) ?_
  intro p e s m args below meth c C hr
  refine aw_lv (lv' := [(0, .ref (q 0))]) (fun x hx => hx) ?_
  have S8 := S9
  obtain ⟨hl, hb, hs, hs2, hw, hc, hO, hW, hK⟩ := S8
  have Q8 := Q9
  obtain ⟨hlb, hlt, hA, hP, hH, hB, hn, hR, hE⟩ := Q8
  refine aw_aload_n C dX8_fault_0 (i := 0) rfl rfl ?_
  refine aw_get (k := 0) C dX8_fault_1 fl_X8_19 (by decide) rfl rfl ?_
  refine aw_aload_n C dX8_fault_4 (i := 0) rfl rfl ?_
  refine aw_get (k := 0) C dX8_fault_5 fl_X8_10 (by decide) rfl rfl ?_
  refine aw_V1y (k := 2) C dX8_fault_8 cv_X8_95 (by decide) rfl rfl rfl (cb_read hI hl hlb) ⟨Nat.le_of_ble_eq_true rfl, Nat.le_of_ble_eq_true rfl⟩ (Nat.le_of_ble_eq_true rfl) (fun g hp9 => ?_)
  obtain ⟨s9, w9, d9, n9, l9, rfl, hr9⟩ := hp9
  refine aw_aload_n C dX8_fault_11 (i := 0) rfl rfl ?_
  refine aw_get (k := 0) C dX8_fault_12 fl_X8_19 (by decide) rfl rfl ?_
  refine aw_get (k := 2) C dX8_fault_15 fl_X8_99 (by decide) rfl rfl ?_
  refine aw_iret C hr dX8_fault_18 ?_
  exact PB.mk (by unfold opFault; rw [rdT_cg hlt]) S9 Q9
theorem ly_agr {num lim now R h : Nat → Int32} {n : Nat} (hn : n ≤ 8) (hr : rlN num lim n R) (h3 : R 43 = nI 0) (h4 : R 44 = nI 0) : agr (lyN num lim now) (cpG R h 45) n := by
  intro x hx
  have hx45 := rel_lt hn hx
  rw [cpG_lt hx45]
  unfold lyN
  by_cases e4 : x = 44
  · rw [e4, upd_us, h4]
  · rw [upd_un e4]
    by_cases e3 : x = 43
    · rw [e3, upd_us, h3]
    · rw [upd_un e3]
      by_cases e : x < 40
      · rw [pk_cpy_out (by omega), pk_cpy_in (by omega) (by omega)]
        rw [show 0 + (x - 0) = x by omega]
        exact hr.1 x (by rcases hx with hx | hx <;> omega)
      · rw [pk_cpy_in (by omega) (by omega)]
        have := hr.2 (x - 40) (by omega)
        rw [show 40 + (x - 40) = x by omega] at this
        rw [show 0 + (x - 40) = x - 40 by omega]
        exact this
theorem rdL_43 (t : Nat → Nat) (len : Nat) : ∀ (d i sp wn : Nat) (r : Nat → Int32), wn ≤ 8 → r 43 = nI 0 → (rdL t len d i sp wn r).2.2.2 43 = nI 0
  | 0, _, _, _, _, _, h2 => h2
  | d + 1, i, sp, wn, r, h1, h2 => by
    unfold rdL
    split
    · split
      · next e =>
        split
        · refine rdL_43 t len d _ _ _ _ (itW_le e h1) ?_
          unfold itR
          split
          · exact h2
          · split
            · next e2 =>
              have := itW_le e h1
              unfold itW at this
              rw [if_pos e2] at this
              rw [cpO_out (by omega)]
              exact h2
            · have : lmN (t i) ≤ 2 ∨ lmN (t i) = 3 := by unfold lmN; split <;> (try split) <;> (try split) <;> omega
              rcases this with g | g
              · rw [upd_un (by omega)]; exact h2
              · next n1 n2 =>
                exfalso
                revert e
                unfold itO
                simp [n1, n2, g]
        · exact h2
      · exact h2
    · exact h2
theorem rdT_43 (len : Nat) (text : Nat → Nat) : (rdT len text).2.2.2 43 = nI 0 := rdL_43 _ _ _ _ _ _ _ (by omega) rfl
set_option maxRecDepth 20000 in
/-- layText -/
theorem cb_layText {l : Launch} {D : va_G} {cy : Nat → ClassId} {z : Nat → Nat} {q : Nat → Nat} (hI : wI 49 q) {tl dsp dwi dat bsp bwi pnx phd vkn : Nat} {dff lbl lsh lpk : Int32} {lett : Nat → Nat} {num lim now : Nat → Int32} {prw plr hgr : Nat → Nat → Int32} {bk bd wio wys trl : Nat → Int32} {clr : Nat → Int64} {tld tie fst las saw : Nat → Int32} {h : Nat → Int32} (hl : tl ≤ 200) (hlb : ∀ j, lett j ≤ 1000) : Ct l yX8_layText cX8_layText 1 (some .boolean) 5 113 D cy z 49 q [.ref (q 0)] (bwC cy q tl dsp dwi dat bsp bwi pnx phd vkn dff lbl lsh lpk lett num lim now prw plr hgr bk bd wio wys trl clr tld tie fst las saw) (PX (fun x g => ∃ s9 w9 d9 n9 l9 f9, (x = nI 0 ∧ (decide ((rdT tl lett).1 = -4) && decide (¬ (rdT tl lett).2.1 = 0)) = false ∧ g = (bwC cy q tl s9 w9 d9 bsp bwi pnx phd vkn f9 lbl lsh lpk lett n9 l9 now prw plr hgr bk bd wio wys trl clr tld tie fst las saw)) ∨ (x = nI 1 ∧ (decide ((rdT tl lett).1 = -4) && decide (¬ (rdT tl lett).2.1 = 0)) = true ∧ ∃ a9 p9 h9, g = (bwC cy q tl s9 w9 d9 (rdT tl lett).2.1 (rdT tl lett).2.2.1 pnx 0 0 f9 lbl lsh lpk lett n9 l9 a9 prw p9 h9 bk bd wio wys trl clr (cpG (fun _ => nI 0) tld 2) tie fst las saw) ∧ agr a9 (cpG (rdT tl lett).2.2.2 h 45) (rdT tl lett).2.2.1 ∧ vPl p9 (cpG (rdT tl lett).2.2.2 h 45) (rdT tl lett).2.1 (rdT tl lett).2.2.1 ∧ vHg h9 (cpG (rdT tl lett).2.2.2 h 45) (rdT tl lett).2.1 (rdT tl lett).2.2.1))) := by
  refine Ct.of (own := RX8) (by decide) rfl hI (Nat.le_of_ble_eq_true rfl) ?_
  intro p e s m args below meth c C hr
  refine aw_lv (lv' := [(0, .ref (q 0))]) (fun x hx => hx) ?_
  refine aw_aload_n C dX8_layText_0 (i := 0) rfl rfl ?_
  refine aw_get (k := 0) C dX8_layText_1 fl_X8_19 (by decide) rfl rfl ?_
  refine aw_aload_n C dX8_layText_4 (i := 0) rfl rfl ?_
  refine aw_get (k := 0) C dX8_layText_5 fl_X8_10 (by decide) rfl rfl ?_
  refine aw_V1y (k := 2) C dX8_layText_8 cv_X8_95 (by decide) rfl rfl rfl (cb_read hI hl hlb) ⟨Nat.le_of_ble_eq_true rfl, Nat.le_of_ble_eq_true rfl⟩ (Nat.le_of_ble_eq_true rfl) (fun g hp9 => ?_)
  obtain ⟨s9, w9, d9, n9, l9, rfl, hr9⟩ := hp9
  refine aw_aload_n C dX8_layText_11 (i := 0) rfl rfl ?_
  refine aw_get (k := 0) C dX8_layText_12 fl_X8_19 (by decide) rfl rfl ?_
  refine aw_get (k := 2) C dX8_layText_15 fl_X8_99 (by decide) rfl rfl ?_
  refine aw_bipush C dX8_layText_18 kb_m4 ?_
  refine aw_icmp_ne (tgt := 33) C dX8_layText_20 (by decide) (fun h20 => ?_) (fun h20 => ?_)
  · refine aw_iconst C dX8_layText_33 ki_0 ?_
    refine aw_zret C hr dX8_layText_34 (by decide) ?_
    exact ⟨_, rfl, _, _, _, _, _, _, Or.inl ⟨rfl, by rw [decide_eq_false h20]; rfl, rfl⟩⟩
  · refine aw_aload_n C dX8_layText_23 (i := 0) rfl rfl ?_
    refine aw_get (k := 0) C dX8_layText_24 fl_X8_19 (by decide) rfl rfl ?_
    refine aw_get (k := 2) C dX8_layText_27 fl_X8_258 (by decide) rfl rfl ?_
    refine aw_if_ne_n (tgt := 35) C dX8_layText_30 (by decide) (by have := (hr9 h20).1; have := (rdT_sp tl lett).1; omega) (fun h30 => ?_) (fun h30 => ?_)
    · have o9 := rdT_ok tl lett
      have b9 := (rdT_sp tl lett).2
      obtain ⟨rfl, rfl, q9⟩ := hr9 h20
      have z9 : 8 ≤ (rdT tl lett).2.1 ∧ (rdT tl lett).2.1 ≤ 40 := o9.2.1.resolve_left (by omega)
      have g9 := ly_agr (now := now) (h := h) b9 q9 (rdT_43 tl lett) o9.2.2
      refine aw_aload_n C dX8_layText_35 (i := 0) rfl rfl ?_
      refine aw_get (k := 0) C dX8_layText_36 fl_X8_26 (by decide) rfl rfl ?_
      refine aw_aload_n C dX8_layText_39 (i := 0) rfl rfl ?_
      refine aw_get (k := 0) C dX8_layText_40 fl_X8_19 (by decide) rfl rfl ?_
      refine aw_V1v (k := 3) C dX8_layText_43 cv_X8_259 (by decide) rfl rfl rfl (cb_layFrom hI) ⟨Nat.le_of_ble_eq_true rfl, Nat.le_of_ble_eq_true rfl⟩ (Nat.le_of_ble_eq_true rfl) ?_
      refine aw_aload_n C dX8_layText_46 (i := 0) rfl rfl ?_
      refine aw_get (k := 0) C dX8_layText_47 fl_X8_33 (by decide) rfl rfl ?_
      refine aw_V0v (k := 4) C dX8_layText_50 cv_X8_263 (by decide) rfl rfl rfl (cb_pclear hI) ⟨Nat.le_of_ble_eq_true rfl, Nat.le_of_ble_eq_true rfl⟩ (Nat.le_of_ble_eq_true rfl) ?_
      refine aw_aload_n C dX8_layText_53 (i := 0) rfl rfl ?_
      refine aw_get (k := 0) C dX8_layText_54 fl_X8_65 (by decide) rfl rfl ?_
      refine aw_V0v (k := 8) C dX8_layText_57 cv_X8_236 (by decide) rfl rfl rfl (cb_sclear hI) ⟨Nat.le_of_ble_eq_true rfl, Nat.le_of_ble_eq_true rfl⟩ (Nat.le_of_ble_eq_true rfl) ?_
      refine aw_aload_n C dX8_layText_60 (i := 0) rfl rfl ?_
      refine aw_get (k := 0) C dX8_layText_61 fl_X8_42 (by decide) rfl rfl ?_
      refine aw_V0y (k := 5) C dX8_layText_64 cv_X8_127 (by decide) rfl rfl rfl (cb_refresh hI g9 z9.1 z9.2 b9) ⟨Nat.le_of_ble_eq_true rfl, Nat.le_of_ble_eq_true rfl⟩ (Nat.le_of_ble_eq_true rfl) (fun g hp9 => ?_)
      obtain ⟨p9, h9, rfl, y1, y2⟩ := hp9
      refine aw_iconst C dX8_layText_67 ki_1 ?_
      refine aw_zret C hr dX8_layText_68 (by decide) ?_
      exact ⟨_, rfl, _, _, _, _, _, _, Or.inr ⟨rfl, by rw [decide_eq_true h20, decide_eq_true (p := ¬ (rdT tl lett).2.1 = 0) (by omega)]; rfl, _, _, _, rfl, g9, y1, y2⟩⟩
    · refine aw_iconst C dX8_layText_33 ki_0 ?_
      refine aw_zret C hr dX8_layText_34 (by decide) ?_
      exact ⟨_, rfl, _, _, _, _, _, _, Or.inl ⟨rfl, by rw [← (hr9 h20).1, h30]; simp, rfl⟩⟩
set_option maxRecDepth 20000 in
/-- lay -/
theorem cb_lay {l : Launch} {D : va_G} {cy : Nat → ClassId} {z : Nat → Nat} {q : Nat → Nat} (hI : wI 49 q) {len span wires chg : Nat} {text : Nat → Nat} {h was eyes : Nat → Int32} {dsp dwi dat pnx vkn : Nat} {dff lbl lsh lpk : Int32} {lett : Nat → Nat} {num lim now : Nat → Int32} {prw plr hgr : Nat → Nat → Int32} {bk bd wio wys trl : Nat → Int32} {clr : Nat → Int64} {tld tie fst las saw : Nat → Int32} (S9 : okS len span wires chg text h was eyes) (Q9 : bwQ len span wires chg text h was eyes pnx vkn lett now prw plr hgr bk bd tld tie fst las saw) : Ct l yX8_lay cX8_lay 1 (some .int) 6 133 D cy z 49 q [.ref (q 0)] (bwC cy q len dsp dwi dat span wires pnx chg vkn dff lbl lsh lpk lett num lim now prw plr hgr bk bd wio wys trl clr tld tie fst las saw) (PB cy q (opLay len span wires chg text h was eyes)) := by
  refine Ct.of (own := RX8) (by decide) rfl hI (Nat.le_of_ble_eq_true rfl) ?_
  intro p e s m args below meth c C hr
  refine aw_lv (lv' := [(0, .ref (q 0))]) (fun x hx => hx) ?_
  have S8 := S9
  obtain ⟨hl, hb, hs, hs2, hw, hc, hO, hW, hK⟩ := S8
  have Q8 := Q9
  obtain ⟨hlb, hlt, hA, hP, hH, hB, hn, hR, hE⟩ := Q8
  refine aw_aload_n C dX8_lay_0 (i := 0) rfl rfl ?_
  refine aw_V0x (k := 0) C dX8_lay_1 cv_X8_85 (by decide) rfl rfl rfl (cb_layText (h := h) hI hl hlb) ⟨Nat.le_of_ble_eq_true rfl, Nat.le_of_ble_eq_true rfl⟩ (Nat.le_of_ble_eq_true rfl) (fun x g hp9 => ?_)
  obtain ⟨s9, w9, d9, n9, l9, f9, hp9⟩ := hp9
  rw [rdT_cg hlt] at hp9
  refine aw_if_eq (tgt := 17) C dX8_lay_4 (by decide) (fun h4 => ?_) (fun h4 => ?_)
  · rcases hp9 with ⟨rfl, z9, rfl⟩ | ⟨rfl, -⟩
    rotate_left
    · exact absurd h4 (by decide)
    refine aw_bipush C dX8_lay_17 kb_m2 ?_
    refine aw_iret C hr dX8_lay_19 ?_
    refine PB.mk ?_ S9 Q9
    unfold opLay
    by_cases g1 : (rdT len text).1 = -4
    · rw [decide_eq_true g1, Bool.true_and] at z9
      have g2 := of_decide_eq_false z9
      rw [if_pos g1, if_pos (Classical.not_not.mp g2)]
    · rw [if_neg g1]
  · rcases hp9 with ⟨rfl, -⟩ | ⟨rfl, z9, a9, p9, h9, rfl, g9, y1, y2⟩
    · exact absurd rfl h4
    rw [Bool.and_eq_true, decide_eq_true_eq, decide_eq_true_eq] at z9
    have o9 := rdT_ok len text
    have b9 := (rdT_sp len text).2
    have w8 := o9.2.1.resolve_left z9.2
    refine aw_aload_n C dX8_lay_7 (i := 0) rfl rfl ?_
    refine aw_get (k := 0) C dX8_lay_8 fl_X8_26 (by decide) rfl rfl ?_
    refine aw_get (k := 3) C dX8_lay_11 fl_X8_102 (by decide) rfl rfl ?_
    refine aw_goto (tgt := 19) C dX8_lay_14 (by decide) ?_
    refine aw_iret C hr dX8_lay_19 ?_
    exact PB.mk (h := cpG (rdT len text).2.2.2 h 45) (by unfold opLay; rw [if_pos z9.1, if_neg z9.2]) ⟨hl, hb, w8.1, w8.2, b9, by omega, hOK_cg b9 (fun x hx => (cpG_lt (rel_lt b9 hx)).symm) o9.1, fun j hj => absurd hj (Nat.not_lt_zero j), eyF_K⟩ ⟨hlb, hlt, g9, y1, y2, Or.inl rfl, hn, fun j hj => absurd hj (Nat.not_lt_zero j), eyF_R hE⟩
set_option maxRecDepth 20000 in
/-- set -/
theorem cb_set {l : Launch} {D : va_G} {cy : Nat → ClassId} {z : Nat → Nat} {q : Nat → Nat} (hI : wI 49 q) {len span wires chg : Nat} {text : Nat → Nat} {h was eyes : Nat → Int32} {dsp dwi dat pnx vkn : Nat} {dff lbl lsh lpk : Int32} {lett : Nat → Nat} {num lim now : Nat → Int32} {prw plr hgr : Nat → Nat → Int32} {bk bd wio wys trl : Nat → Int32} {clr : Nat → Int64} {tld tie fst las saw : Nat → Int32} (S9 : okS len span wires chg text h was eyes) (Q9 : bwQ len span wires chg text h was eyes pnx vkn lett now prw plr hgr bk bd tld tie fst las saw) {i what v : Int32} : Ct l yX8_set cX8_set 5 (some .int) 4 94 D cy z 49 q [.ref (q 0), .int i, .int what, .int v] (bwC cy q len dsp dwi dat span wires pnx chg vkn dff lbl lsh lpk lett num lim now prw plr hgr bk bd wio wys trl clr tld tie fst las saw) (PB cy q (opSet len span wires chg text h was eyes i what v)) := by
  refine Ct.of (own := RX8) (by decide) rfl hI (Nat.le_of_ble_eq_true rfl) ?_
  intro p e s m args below meth c C hr
  refine aw_lv (lv' := [(0, .ref (q 0)), (1, .int i), (2, .int what), (3, .int v)]) (fun x hx => hx) ?_
  have S8 := S9
  obtain ⟨hl, hb, hs, hs2, hw, hc, hO, hW, hK⟩ := S8
  have Q8 := Q9
  obtain ⟨hlb, hlt, hA, hP, hH, hB, hn, hR, hE⟩ := Q8
  refine aw_aload_n C dX8_set_0 (i := 0) rfl rfl ?_
  refine aw_iload_n C dX8_set_1 (i := 1) rfl rfl ?_
  refine aw_V1i (k := 0) C dX8_set_2 cv_X8_105 (by decide) rfl rfl rfl (cb_isWire hI hw) ⟨Nat.le_of_ble_eq_true rfl, Nat.le_of_ble_eq_true rfl⟩ (Nat.le_of_ble_eq_true rfl) ?_
  refine aw_if_eq_b (tgt := 17) C dX8_set_5 (by decide) (fun h5 => ?_) (fun h5 => ?_)
  · refine aw_iconst C dX8_set_17 ki_m1 ?_
    refine aw_iret C hr dX8_set_18 ?_
    exact PB.mk (by unfold opSet; rw [if_neg (by rw [h5]; decide)]) S9 Q9
  · refine aw_iload_n C dX8_set_8 (i := 2) rfl rfl ?_
    refine aw_if_lt (tgt := 17) C dX8_set_9 (by decide) (fun h9 => ?_) (fun h9 => ?_)
    · refine aw_iconst C dX8_set_17 ki_m1 ?_
      refine aw_iret C hr dX8_set_18 ?_
      exact PB.mk (by unfold opSet; rw [if_pos h5, if_neg (fun a9 => by have b9 := inB_iff.mp a9; exact i_nle h9 (by rw [← nI_0]; exact b9.1))]) S9 Q9
    · refine aw_iload_n C dX8_set_12 (i := 2) rfl rfl ?_
      refine aw_iconst C dX8_set_13 ki_5 ?_
      refine aw_icmp_lt (tgt := 19) C dX8_set_14 (by decide) (fun h14 => ?_) (fun h14 => ?_)
      · have n9 : inB what (nI 0) (nI 4) = true := by
          have d9 := Int32.lt_iff_toInt_lt.mp h14
          have d8 : (nI 5).toInt = 5 := rfl
          refine inB_t (by rw [nI_0]; exact i_le h9) (Int32.le_iff_toInt_le.mpr ?_)
          rw [show (nI 4).toInt = 4 from rfl]
          omega
        obtain ⟨w9, -, w8, rfl⟩ := in_n (by omega) (by omega) n9
        obtain ⟨a9, ha9, rfl⟩ := wr_of hw h5
        have hw9 : w9 < 5 := by omega
        refine aw_iload_n C dX8_set_19 (i := 3) rfl rfl ?_
        refine aw_gets (j := 0) (host := "BondedWires") C dX8_set_20 (by decide) (Or.inl (gw_at 459 (by decide +kernel) rfl)) ?_
        refine aw_iload_n C dX8_set_23 (i := 2) rfl rfl ?_
        refine aw_ziald (j := 0) C dX8_set_24 (by decide) (rfl) (hw9) (by omega) ?_
        refine aw_icmp_lt (tgt := 37) C dX8_set_25 (by decide) (fun h25 => ?_) (fun h25 => ?_)
        · refine aw_iconst C dX8_set_37 ki_m1 ?_
          refine aw_iret C hr dX8_set_38 ?_
          exact PB.mk (by unfold opSet; rw [if_pos h5, if_pos n9, if_neg (by rw [inB_f1 (by rw [← zF_0 hw9]; exact h25)]; decide)]) S9 Q9
        · refine aw_iload_n C dX8_set_28 (i := 3) rfl rfl ?_
          refine aw_gets (j := 1) (host := "BondedWires") C dX8_set_29 (by decide) (Or.inl (gw_at 460 (by decide +kernel) rfl)) ?_
          refine aw_iload_n C dX8_set_32 (i := 2) rfl rfl ?_
          refine aw_ziald (j := 1) C dX8_set_33 (by decide) (rfl) (hw9) (by omega) ?_
          refine aw_icmp_le (tgt := 39) C dX8_set_34 (by decide) (fun h34 => ?_) (fun h34 => ?_)
          · have v9 : inB v (lowI (nI w9)) (highI (nI w9)) = true := inB_t (v := v) (by rw [← zF_0 hw9]; exact i_le h25) (by rw [← zF_1 hw9]; exact h34)
            refine aw_aload_n C dX8_set_39 (i := 0) rfl rfl ?_
            refine aw_get (k := 0) C dX8_set_40 fl_X8_26 (by decide) rfl rfl ?_
            refine aw_iload_n C dX8_set_43 (i := 1) rfl rfl ?_
            refine aw_iload_n C dX8_set_44 (i := 2) rfl rfl ?_
            refine aw_V2i (k := 3) C dX8_set_45 cv_X8_116 (by decide) rfl rfl rfl (cb_numberOf hI (by omega)) ⟨Nat.le_of_ble_eq_true rfl, Nat.le_of_ble_eq_true rfl⟩ (Nat.le_of_ble_eq_true rfl) ?_
            rw [agr_w hA ha9 hw9]
            refine aw_istore (lv' := [(0, _), (1, _), (2, _), (3, _), (4, _)]) C dX8_set_48 (Nat.le_of_ble_eq_true rfl) rfl ?_
            refine aw_iload C dX8_set_50 rfl ?_
            refine aw_iload_n C dX8_set_52 (i := 3) rfl rfl ?_
            refine aw_icmp_ne (tgt := 59) C dX8_set_53 (by decide) (fun h53 => ?_) (fun h53 => ?_)
            · refine aw_aload_n C dX8_set_59 (i := 0) rfl rfl ?_
              refine aw_get (k := 0) C dX8_set_60 fl_X8_33 (by decide) rfl rfl ?_
              refine aw_aload_n C dX8_set_63 (i := 0) rfl rfl ?_
              refine aw_get (k := 0) C dX8_set_64 fl_X8_26 (by decide) rfl rfl ?_
              refine aw_V1v (k := 4) C dX8_set_67 cv_X8_120 (by decide) rfl rfl rfl (cb_keep hI hn hc) ⟨Nat.le_of_ble_eq_true rfl, Nat.le_of_ble_eq_true rfl⟩ (Nat.le_of_ble_eq_true rfl) ?_
              refine aw_aload_n C dX8_set_70 (i := 0) rfl rfl ?_
              refine aw_get (k := 0) C dX8_set_71 fl_X8_26 (by decide) rfl rfl ?_
              refine aw_iload_n C dX8_set_74 (i := 1) rfl rfl ?_
              refine aw_iload_n C dX8_set_75 (i := 2) rfl rfl ?_
              refine aw_iload_n C dX8_set_76 (i := 3) rfl rfl ?_
              refine aw_V3v (k := 3) C dX8_set_77 cv_X8_123 (by decide) rfl rfl rfl (cb_tellNumber hI (by omega)) ⟨Nat.le_of_ble_eq_true rfl, Nat.le_of_ble_eq_true rfl⟩ (Nat.le_of_ble_eq_true rfl) ?_
              have g9 : agr (upd now (a9 * 5 + w9) v) (upd h (5 * a9 + w9) v) wires := by rw [Nat.mul_comm a9 5]; exact agr_upd hA
              refine aw_aload_n C dX8_set_80 (i := 0) rfl rfl ?_
              refine aw_get (k := 0) C dX8_set_81 fl_X8_42 (by decide) rfl rfl ?_
              refine aw_V0y (k := 5) C dX8_set_84 cv_X8_127 (by decide) rfl rfl rfl (cb_refresh hI g9 hs hs2 hw) ⟨Nat.le_of_ble_eq_true rfl, Nat.le_of_ble_eq_true rfl⟩ (Nat.le_of_ble_eq_true rfl) (fun g hp9 => ?_)
              obtain ⟨p9, h9, rfl, y1, y2⟩ := hp9
              rw [hdU_nt hc]
              refine aw_iload C dX8_set_87 rfl ?_
              refine aw_iret C hr dX8_set_89 ?_
              exact PB.mk (h := upd h (5 * a9 + w9) v) (by unfold opSet; rw [if_pos h5, if_pos n9, if_pos v9, nI_clamp (by omega), nI_clamp (by omega)]; unfold becm; rw [if_neg h53]) ⟨hl, hb, hs, hs2, hw, ntC_le hc, set_ok hO hw ha9 hw9 v9, nt_ok hw hc hO hW, hK⟩ ⟨hlb, hlt, g9, y1, y2, Or.inl rfl, nxU_lt, rg_keep hw hc hn hA hR, hE⟩
            · refine aw_bipush C dX8_set_56 kb_m2 ?_
              refine aw_iret C hr dX8_set_58 ?_
              exact PB.mk (by unfold opSet; rw [if_pos h5, if_pos n9, if_pos v9, nI_clamp (by omega), nI_clamp (by omega)]; unfold becm; rw [if_pos h53]) S9 Q9
          · refine aw_iconst C dX8_set_37 ki_m1 ?_
            refine aw_iret C hr dX8_set_38 ?_
            exact PB.mk (by unfold opSet; rw [if_pos h5, if_pos n9, if_neg (by rw [inB_f2 (by rw [← zF_1 hw9]; exact i_lt h34)]; decide)]) S9 Q9
      · refine aw_iconst C dX8_set_17 ki_m1 ?_
        refine aw_iret C hr dX8_set_18 ?_
        exact PB.mk (by unfold opSet; rw [if_pos h5, if_neg (fun a9 => by have b9 := inB_iff.mp a9; have c9 := Int32.le_iff_toInt_le.mp b9.2; have d9 := Int32.le_iff_toInt_le.mp (i_le h14); exact absurd (Int.le_trans d9 c9) (by decide))]) S9 Q9
set_option maxRecDepth 20000 in
/-- limit -/
theorem cb_limit {l : Launch} {D : va_G} {cy : Nat → ClassId} {z : Nat → Nat} {q : Nat → Nat} (hI : wI 49 q) {len span wires chg : Nat} {text : Nat → Nat} {h was eyes : Nat → Int32} {dsp dwi dat pnx vkn : Nat} {dff lbl lsh lpk : Int32} {lett : Nat → Nat} {num lim now : Nat → Int32} {prw plr hgr : Nat → Nat → Int32} {bk bd wio wys trl : Nat → Int32} {clr : Nat → Int64} {tld tie fst las saw : Nat → Int32} (S9 : okS len span wires chg text h was eyes) (Q9 : bwQ len span wires chg text h was eyes pnx vkn lett now prw plr hgr bk bd tld tie fst las saw) {w v : Int32} : Ct l yX8_limit cX8_limit 4 (some .int) 4 94 D cy z 49 q [.ref (q 0), .int w, .int v] (bwC cy q len dsp dwi dat span wires pnx chg vkn dff lbl lsh lpk lett num lim now prw plr hgr bk bd wio wys trl clr tld tie fst las saw) (PB cy q (opLimit len span wires chg text h was eyes w v)) := by
  refine Ct.of (own := RX8) (by decide) rfl hI (Nat.le_of_ble_eq_true rfl) ?_
  intro p e s m args below meth c C hr
  refine aw_lv (lv' := [(0, .ref (q 0)), (1, .int w), (2, .int v)]) (fun x hx => hx) ?_
  have S8 := S9
  obtain ⟨hl, hb, hs, hs2, hw, hc, hO, hW, hK⟩ := S8
  have Q8 := Q9
  obtain ⟨hlb, hlt, hA, hP, hH, hB, hn, hR, hE⟩ := Q8
  refine aw_iload_n C dX8_limit_0 (i := 1) rfl rfl ?_
  refine aw_if_lt (tgt := 23) C dX8_limit_1 (by decide) (fun h1 => ?_) (fun h1 => ?_)
  · refine aw_iconst C dX8_limit_23 ki_m1 ?_
    refine aw_iret C hr dX8_limit_24 ?_
    exact PB.mk (by unfold opLimit; rw [if_neg (fun a9 => i_nle h1 (by rw [← nI_0]; exact (inB_iff.mp a9).1))]) S9 Q9
  · refine aw_iload_n C dX8_limit_4 (i := 1) rfl rfl ?_
    refine aw_iconst C dX8_limit_5 ki_3 ?_
    refine aw_icmp_ge (tgt := 23) C dX8_limit_6 (by decide) (fun h6 => ?_) (fun h6 => ?_)
    · refine aw_iconst C dX8_limit_23 ki_m1 ?_
      refine aw_iret C hr dX8_limit_24 ?_
      exact PB.mk (by unfold opLimit; rw [if_neg (fun a9 => by have c9 := Int32.le_iff_toInt_le.mp (inB_iff.mp a9).2; have d9 := Int32.le_iff_toInt_le.mp h6; exact absurd (Int.le_trans d9 c9) (by decide))]) S9 Q9
    · have n9 : inB w (nI 0) (nI 2) = true := by
        have d9 := Int32.lt_iff_toInt_lt.mp (i_lt h6)
        have d8 : (nI 3).toInt = 3 := rfl
        refine inB_t (by rw [nI_0]; exact i_le h1) (Int32.le_iff_toInt_le.mpr ?_)
        rw [show (nI 2).toInt = 2 from rfl]
        omega
      obtain ⟨w9, -, w8, rfl⟩ := in_n (by omega) (by omega) n9
      have hw9 : w9 < 3 := by omega
      refine aw_iload_n C dX8_limit_9 (i := 2) rfl rfl ?_
      refine aw_iconst C dX8_limit_10 ki_1 ?_
      refine aw_icmp_lt (tgt := 23) C dX8_limit_11 (by decide) (fun h11 => ?_) (fun h11 => ?_)
      · refine aw_iconst C dX8_limit_23 ki_m1 ?_
        refine aw_iret C hr dX8_limit_24 ?_
        exact PB.mk (by unfold opLimit; rw [if_pos n9, if_neg (by rw [inB_f1 h11]; decide)]) S9 Q9
      · refine aw_iload_n C dX8_limit_14 (i := 2) rfl rfl ?_
        refine aw_gets (j := 2) (host := "BondedWires") C dX8_limit_15 (by decide) (Or.inl (gw_at 478 (by decide +kernel) rfl)) ?_
        refine aw_iload_n C dX8_limit_18 (i := 1) rfl rfl ?_
        refine aw_ziald (j := 2) C dX8_limit_19 (by decide) (rfl) (hw9) (by omega) ?_
        refine aw_icmp_le (tgt := 25) C dX8_limit_20 (by decide) (fun h20 => ?_) (fun h20 => ?_)
        · have v9 : inB v (nI 1) (mostI (nI w9)) = true := inB_t (v := v) (i_le h11) (by rw [← zF_2 hw9]; exact h20)
          refine aw_aload_n C dX8_limit_25 (i := 0) rfl rfl ?_
          refine aw_get (k := 0) C dX8_limit_26 fl_X8_26 (by decide) rfl rfl ?_
          refine aw_iload_n C dX8_limit_29 (i := 1) rfl rfl ?_
          refine aw_V1i (k := 3) C dX8_limit_30 cv_X8_133 (by decide) rfl rfl rfl (cb_limitOf hI (by omega)) ⟨Nat.le_of_ble_eq_true rfl, Nat.le_of_ble_eq_true rfl⟩ (Nat.le_of_ble_eq_true rfl) ?_
          rw [hA (40 + w9) (by omega)]
          refine aw_istore_n (lv' := [(0, _), (1, _), (2, _), (3, _)]) C dX8_limit_33 (i := 3) rfl (Nat.le_of_ble_eq_true rfl) rfl ?_
          refine aw_iload_n C dX8_limit_34 (i := 3) rfl rfl ?_
          refine aw_iload_n C dX8_limit_35 (i := 2) rfl rfl ?_
          refine aw_icmp_ne (tgt := 42) C dX8_limit_36 (by decide) (fun h36 => ?_) (fun h36 => ?_)
          · refine aw_aload_n C dX8_limit_42 (i := 0) rfl rfl ?_
            refine aw_get (k := 0) C dX8_limit_43 fl_X8_33 (by decide) rfl rfl ?_
            refine aw_aload_n C dX8_limit_46 (i := 0) rfl rfl ?_
            refine aw_get (k := 0) C dX8_limit_47 fl_X8_26 (by decide) rfl rfl ?_
            refine aw_V1v (k := 4) C dX8_limit_50 cv_X8_120 (by decide) rfl rfl rfl (cb_keep hI hn hc) ⟨Nat.le_of_ble_eq_true rfl, Nat.le_of_ble_eq_true rfl⟩ (Nat.le_of_ble_eq_true rfl) ?_
            refine aw_aload_n C dX8_limit_53 (i := 0) rfl rfl ?_
            refine aw_get (k := 0) C dX8_limit_54 fl_X8_26 (by decide) rfl rfl ?_
            refine aw_iload_n C dX8_limit_57 (i := 1) rfl rfl ?_
            refine aw_iload_n C dX8_limit_58 (i := 2) rfl rfl ?_
            refine aw_V2v (k := 3) C dX8_limit_59 cv_X8_137 (by decide) rfl rfl rfl (cb_tellLimit hI (by omega)) ⟨Nat.le_of_ble_eq_true rfl, Nat.le_of_ble_eq_true rfl⟩ (Nat.le_of_ble_eq_true rfl) ?_
            have g9 : agr (upd now (40 + w9) v) (upd h (40 + w9) v) wires := agr_upd hA
            refine aw_aload_n C dX8_limit_62 (i := 0) rfl rfl ?_
            refine aw_get (k := 0) C dX8_limit_63 fl_X8_42 (by decide) rfl rfl ?_
            refine aw_V0y (k := 5) C dX8_limit_66 cv_X8_127 (by decide) rfl rfl rfl (cb_refresh hI g9 hs hs2 hw) ⟨Nat.le_of_ble_eq_true rfl, Nat.le_of_ble_eq_true rfl⟩ (Nat.le_of_ble_eq_true rfl) (fun g hp9 => ?_)
            obtain ⟨p9, h9, rfl, y1, y2⟩ := hp9
            rw [hdU_nt hc]
            refine aw_iload_n C dX8_limit_69 (i := 3) rfl rfl ?_
            refine aw_iret C hr dX8_limit_70 ?_
            exact PB.mk (h := upd h (40 + w9) v) (by unfold opLimit; rw [if_pos n9, if_pos v9, nI_clamp (by omega)]; unfold becm; rw [if_neg h36]) ⟨hl, hb, hs, hs2, hw, ntC_le hc, lim_ok hO hw hw9 v9, nt_ok hw hc hO hW, hK⟩ ⟨hlb, hlt, g9, y1, y2, Or.inl rfl, nxU_lt, rg_keep hw hc hn hA hR, hE⟩
          · refine aw_bipush C dX8_limit_39 kb_m2 ?_
            refine aw_iret C hr dX8_limit_41 ?_
            exact PB.mk (by unfold opLimit; rw [if_pos n9, if_pos v9, nI_clamp (by omega)]; unfold becm; rw [if_pos h36]) S9 Q9
        · refine aw_iconst C dX8_limit_23 ki_m1 ?_
          refine aw_iret C hr dX8_limit_24 ?_
          exact PB.mk (by unfold opLimit; rw [if_pos n9, if_neg (by rw [inB_f2 (by rw [← zF_2 hw9]; exact i_lt h20)]; decide)]) S9 Q9
set_option maxRecDepth 20000 in
/-- shift -/
theorem cb_shift {l : Launch} {D : va_G} {cy : Nat → ClassId} {z : Nat → Nat} {q : Nat → Nat} (hI : wI 49 q) {len span wires chg : Nat} {text : Nat → Nat} {h was eyes : Nat → Int32} {dsp dwi dat pnx vkn : Nat} {dff lbl lsh lpk : Int32} {lett : Nat → Nat} {num lim now : Nat → Int32} {prw plr hgr : Nat → Nat → Int32} {bk bd wio wys trl : Nat → Int32} {clr : Nat → Int64} {tld tie fst las saw : Nat → Int32} (S9 : okS len span wires chg text h was eyes) (Q9 : bwQ len span wires chg text h was eyes pnx vkn lett now prw plr hgr bk bd tld tie fst las saw) {x : Int32} : Ct l yX8_shift cX8_shift 3 (some .int) 4 94 D cy z 49 q [.ref (q 0), .int x] (bwC cy q len dsp dwi dat span wires pnx chg vkn dff lbl lsh lpk lett num lim now prw plr hgr bk bd wio wys trl clr tld tie fst las saw) (PB cy q (opShift len span wires chg text h was eyes x)) := by
  refine Ct.of (own := RX8) (by decide) rfl hI (Nat.le_of_ble_eq_true rfl) ?_
  intro p e s m args below meth c C hr
  refine aw_lv (lv' := [(0, .ref (q 0)), (1, .int x)]) (fun x hx => hx) ?_
  have S8 := S9
  obtain ⟨hl, hb, hs, hs2, hw, hc, hO, hW, hK⟩ := S8
  have Q8 := Q9
  obtain ⟨hlb, hlt, hA, hP, hH, hB, hn, hR, hE⟩ := Q8
  refine aw_iload_n C dX8_shift_0 (i := 1) rfl rfl ?_
  refine aw_bipush C dX8_shift_1 kb_m9 ?_
  refine aw_icmp_lt (tgt := 12) C dX8_shift_3 (by decide) (fun h3 => ?_) (fun h3 => ?_)
  · refine aw_iconst C dX8_shift_12 ki_m1 ?_
    refine aw_iret C hr dX8_shift_13 ?_
    exact PB.mk (by unfold opShift; rw [if_neg (by rw [inB_f1 h3]; decide)]) S9 Q9
  · refine aw_iload_n C dX8_shift_6 (i := 1) rfl rfl ?_
    refine aw_bipush C dX8_shift_7 kb_9 ?_
    refine aw_icmp_le (tgt := 14) C dX8_shift_9 (by decide) (fun h9 => ?_) (fun h9 => ?_)
    · have v9 := inB_t (i_le h3) h9
      refine aw_aload_n C dX8_shift_14 (i := 0) rfl rfl ?_
      refine aw_get (k := 0) C dX8_shift_15 fl_X8_26 (by decide) rfl rfl ?_
      refine aw_V0i (k := 3) C dX8_shift_18 cv_X8_141 (by decide) rfl rfl rfl (cb_shiftNow hI) ⟨Nat.le_of_ble_eq_true rfl, Nat.le_of_ble_eq_true rfl⟩ (Nat.le_of_ble_eq_true rfl) ?_
      rw [hA 43 (by omega)]
      refine aw_istore_n (lv' := [(0, _), (1, _), (2, _)]) C dX8_shift_21 (i := 2) rfl (Nat.le_of_ble_eq_true rfl) rfl ?_
      refine aw_iload_n C dX8_shift_22 (i := 2) rfl rfl ?_
      refine aw_iload_n C dX8_shift_23 (i := 1) rfl rfl ?_
      refine aw_icmp_ne (tgt := 30) C dX8_shift_24 (by decide) (fun h24 => ?_) (fun h24 => ?_)
      · refine aw_aload_n C dX8_shift_30 (i := 0) rfl rfl ?_
        refine aw_get (k := 0) C dX8_shift_31 fl_X8_33 (by decide) rfl rfl ?_
        refine aw_aload_n C dX8_shift_34 (i := 0) rfl rfl ?_
        refine aw_get (k := 0) C dX8_shift_35 fl_X8_26 (by decide) rfl rfl ?_
        refine aw_V1v (k := 4) C dX8_shift_38 cv_X8_120 (by decide) rfl rfl rfl (cb_keep hI hn hc) ⟨Nat.le_of_ble_eq_true rfl, Nat.le_of_ble_eq_true rfl⟩ (Nat.le_of_ble_eq_true rfl) ?_
        refine aw_aload_n C dX8_shift_41 (i := 0) rfl rfl ?_
        refine aw_get (k := 0) C dX8_shift_42 fl_X8_26 (by decide) rfl rfl ?_
        refine aw_iload_n C dX8_shift_45 (i := 1) rfl rfl ?_
        refine aw_V1v (k := 3) C dX8_shift_46 cv_X8_144 (by decide) rfl rfl rfl (cb_tellShift hI) ⟨Nat.le_of_ble_eq_true rfl, Nat.le_of_ble_eq_true rfl⟩ (Nat.le_of_ble_eq_true rfl) ?_
        have g9 : agr (upd now 43 x) (upd h 43 x) wires := agr_upd hA
        refine aw_aload_n C dX8_shift_49 (i := 0) rfl rfl ?_
        refine aw_get (k := 0) C dX8_shift_50 fl_X8_42 (by decide) rfl rfl ?_
        refine aw_V0y (k := 5) C dX8_shift_53 cv_X8_127 (by decide) rfl rfl rfl (cb_refresh hI g9 hs hs2 hw) ⟨Nat.le_of_ble_eq_true rfl, Nat.le_of_ble_eq_true rfl⟩ (Nat.le_of_ble_eq_true rfl) (fun g hp9 => ?_)
        obtain ⟨p9, h9, rfl, y1, y2⟩ := hp9
        rw [hdU_nt hc]
        refine aw_iload_n C dX8_shift_56 (i := 2) rfl rfl ?_
        refine aw_ldc C dX8_shift_57 kc_X8_148 ?_
        refine aw_iadd C dX8_shift_59 ?_
        refine aw_iret C hr dX8_shift_60 ?_
        exact PB.mk (h := upd h 43 x) (by unfold opShift; rw [if_pos v9, if_neg h24]) ⟨hl, hb, hs, hs2, hw, ntC_le hc, shf_ok hO hw v9, nt_ok hw hc hO hW, hK⟩ ⟨hlb, hlt, g9, y1, y2, Or.inl rfl, nxU_lt, rg_keep hw hc hn hA hR, hE⟩
      · refine aw_bipush C dX8_shift_27 kb_m2 ?_
        refine aw_iret C hr dX8_shift_29 ?_
        exact PB.mk (by unfold opShift; rw [if_pos v9, if_pos h24]) S9 Q9
    · refine aw_iconst C dX8_shift_12 ki_m1 ?_
      refine aw_iret C hr dX8_shift_13 ?_
      exact PB.mk (by unfold opShift; rw [if_neg (by rw [inB_f2 (i_lt h9)]; decide)]) S9 Q9
set_option maxRecDepth 20000 in
/-- undo -/
theorem cb_undo {l : Launch} {D : va_G} {cy : Nat → ClassId} {z : Nat → Nat} {q : Nat → Nat} (hI : wI 49 q) {len span wires chg : Nat} {text : Nat → Nat} {h was eyes : Nat → Int32} {dsp dwi dat pnx vkn : Nat} {dff lbl lsh lpk : Int32} {lett : Nat → Nat} {num lim now : Nat → Int32} {prw plr hgr : Nat → Nat → Int32} {bk bd wio wys trl : Nat → Int32} {clr : Nat → Int64} {tld tie fst las saw : Nat → Int32} (S9 : okS len span wires chg text h was eyes) (Q9 : bwQ len span wires chg text h was eyes pnx vkn lett now prw plr hgr bk bd tld tie fst las saw) : Ct l yX8_undo cX8_undo 1 (some .int) 4 94 D cy z 49 q [.ref (q 0)] (bwC cy q len dsp dwi dat span wires pnx chg vkn dff lbl lsh lpk lett num lim now prw plr hgr bk bd wio wys trl clr tld tie fst las saw) (PB cy q (opUndo len span wires chg text h was eyes)) := by
  refine Ct.of (own := RX8) (by decide) rfl hI (Nat.le_of_ble_eq_true rfl) ?_
  intro p e s m args below meth c C hr
  refine aw_lv (lv' := [(0, .ref (q 0))]) (fun x hx => hx) ?_
  have S8 := S9
  obtain ⟨hl, hb, hs, hs2, hw, hc, hO, hW, hK⟩ := S8
  have Q8 := Q9
  obtain ⟨hlb, hlt, hA, hP, hH, hB, hn, hR, hE⟩ := Q8
  refine aw_aload_n C dX8_undo_0 (i := 0) rfl rfl ?_
  refine aw_get (k := 0) C dX8_undo_1 fl_X8_33 (by decide) rfl rfl ?_
  refine aw_get (k := 4) C dX8_undo_4 fl_X8_149 (by decide) rfl rfl ?_
  refine aw_if_ne_n (tgt := 13) C dX8_undo_7 (by decide) (by omega) (fun h7 => ?_) (fun h7 => ?_)
  · refine aw_aload_n C dX8_undo_13 (i := 0) rfl rfl ?_
    refine aw_get (k := 0) C dX8_undo_14 fl_X8_33 (by decide) rfl rfl ?_
    refine aw_aload_n C dX8_undo_17 (i := 0) rfl rfl ?_
    refine aw_get (k := 0) C dX8_undo_18 fl_X8_26 (by decide) rfl rfl ?_
    refine aw_V1v (k := 4) C dX8_undo_21 cv_X8_152 (by decide) rfl rfl rfl (cb_giveBack hI hn hc) ⟨Nat.le_of_ble_eq_true rfl, Nat.le_of_ble_eq_true rfl⟩ (Nat.le_of_ble_eq_true rfl) ?_
    rw [if_neg (Nat.ne_of_gt h7)]
    have z9 : ¬ chg = 0 := Nat.ne_of_gt h7
    have g9 := ag_undo (h := h) (now := now) hw z9 hc hn hR
    refine aw_aload_n C dX8_undo_24 (i := 0) rfl rfl ?_
    refine aw_get (k := 0) C dX8_undo_25 fl_X8_42 (by decide) rfl rfl ?_
    refine aw_V0y (k := 5) C dX8_undo_28 cv_X8_127 (by decide) rfl rfl rfl (cb_refresh hI g9 hs hs2 hw) ⟨Nat.le_of_ble_eq_true rfl, Nat.le_of_ble_eq_true rfl⟩ (Nat.le_of_ble_eq_true rfl) (fun g hp9 => ?_)
    obtain ⟨p9, h9, rfl, y1, y2⟩ := hp9
    refine aw_aload_n C dX8_undo_31 (i := 0) rfl rfl ?_
    refine aw_get (k := 0) C dX8_undo_32 fl_X8_33 (by decide) rfl rfl ?_
    refine aw_get (k := 4) C dX8_undo_35 fl_X8_149 (by decide) rfl rfl ?_
    refine aw_iret C hr dX8_undo_38 ?_
    exact PB.mk (h := unH chg was h) (by unfold opUndo; rw [if_neg z9]) ⟨hl, hb, hs, hs2, hw, by omega, un_ok hw z9 hW, fun j hj => hW j (by omega), hK⟩ ⟨hlb, hlt, g9, y1, y2, Or.inl rfl, nxD_lt hn, rg_undo z9 hc hn hR, hE⟩
  · refine aw_bipush C dX8_undo_10 kb_m2 ?_
    refine aw_iret C hr dX8_undo_12 ?_
    exact PB.mk (by unfold opUndo; rw [if_pos h7]) S9 Q9
