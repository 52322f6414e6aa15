-- the reference: places, heights, who is near, who is in the way
set_option maxRecDepth 20000 in
/-- isIn -/
theorem cm_isIn {l : Launch} {D : va_G} {cy : Nat → ClassId} {z : Nat → Nat} {q : Nat → Nat} {N : Nat} (hI : wI N q) {f : wS} {v lo hi : Int32} : Ct l yX9_isIn cX9_isIn 3 (some .boolean) 0 0 D cy z N q [.int v, .int lo, .int hi] f (PI (bi (inB v lo hi)) f) := by
  refine Ct.of (own := RX9) (by decide) rfl hI (Nat.le_of_ble_eq_true rfl) ?_
  intro p e s m args below meth c C hr
  refine aw_lv (lv' := [(0, .int v), (1, .int lo), (2, .int hi)]) (fun x hx => hx) ?_
  refine aw_iload_n C dX9_isIn_0 (i := 0) rfl rfl ?_
  refine aw_iload_n C dX9_isIn_1 (i := 1) rfl rfl ?_
  refine aw_icmp_lt (tgt := 14) C dX9_isIn_2 (by decide) (fun h2 => ?_) (fun h2 => ?_)
  · refine aw_iconst C dX9_isIn_14 ki_0 ?_
    refine aw_zret C hr dX9_isIn_15 (by decide) ?_
    refine PI.mk (bi_g ?_) rfl
    unfold inB
    simp only [Bool.and_eq_true, Bool.or_eq_true, decide_eq_true_eq, Int32.le_iff_toInt_le, Int32.lt_iff_toInt_lt] at h2 ⊢
    omega
  · refine aw_iload_n C dX9_isIn_5 (i := 0) rfl rfl ?_
    refine aw_iload_n C dX9_isIn_6 (i := 2) rfl rfl ?_
    refine aw_icmp_gt (tgt := 14) C dX9_isIn_7 (by decide) (fun h7 => ?_) (fun h7 => ?_)
    · refine aw_iconst C dX9_isIn_14 ki_0 ?_
      refine aw_zret C hr dX9_isIn_15 (by decide) ?_
      refine PI.mk (bi_g ?_) rfl
      unfold inB
      simp only [Bool.and_eq_true, Bool.or_eq_true, decide_eq_true_eq, Int32.le_iff_toInt_le, Int32.lt_iff_toInt_lt] at h2 h7 ⊢
      omega
    · refine aw_iconst C dX9_isIn_10 ki_1 ?_
      refine aw_goto (tgt := 15) C dX9_isIn_11 (by decide) ?_
      refine aw_zret C hr dX9_isIn_15 (by decide) ?_
      refine PI.mk (bi_t ?_) rfl
      unfold inB
      simp only [Bool.and_eq_true, Bool.or_eq_true, decide_eq_true_eq, Int32.le_iff_toInt_le, Int32.lt_iff_toInt_lt] at h2 h7 ⊢
      omega
set_option maxRecDepth 20000 in
/-- distance -/
theorem cm_distance {l : Launch} {D : va_G} {cy : Nat → ClassId} {z : Nat → Nat} {q : Nat → Nat} {N : Nat} (hI : wI N q) {f : wS} {a b : Int32} : Ct l yX9_distance cX9_distance 2 (some .int) 0 0 D cy z N q [.int a, .int b] f (PI (dst a b) f) := by
  refine Ct.of (own := RX9) (by decide) rfl hI (Nat.le_of_ble_eq_true rfl) ?_
  intro p e s m args below meth c C hr
  refine aw_lv (lv' := [(0, .int a), (1, .int b)]) (fun x hx => hx) ?_
  refine aw_iload_n C dX9_distance_0 (i := 0) rfl rfl ?_
  refine aw_iload_n C dX9_distance_1 (i := 1) rfl rfl ?_
  refine aw_icmp_ge (tgt := 11) C dX9_distance_2 (by decide) (fun h2 => ?_) (fun h2 => ?_)
  · refine aw_iload_n C dX9_distance_11 (i := 0) rfl rfl ?_
    refine aw_iload_n C dX9_distance_12 (i := 1) rfl rfl ?_
    refine aw_isub C dX9_distance_13 ?_
    refine aw_iret C hr dX9_distance_14 ?_
    first | exact PI.mk (if_neg (i_nlt h2)).symm rfl | exact PI.mk (if_pos (i_lt h2)).symm rfl
  · refine aw_iload_n C dX9_distance_5 (i := 1) rfl rfl ?_
    refine aw_iload_n C dX9_distance_6 (i := 0) rfl rfl ?_
    refine aw_isub C dX9_distance_7 ?_
    refine aw_goto (tgt := 14) C dX9_distance_8 (by decide) ?_
    refine aw_iret C hr dX9_distance_14 ?_
    first | exact PI.mk (if_neg (i_nlt h2)).symm rfl | exact PI.mk (if_pos (i_lt h2)).symm rfl
set_option maxRecDepth 20000 in
/-- isWire -/
theorem cm_isWire {l : Launch} {D : va_G} {cy : Nat → ClassId} {z : Nat → Nat} {q : Nat → Nat} (hI : wI 9 q) {len span wires chg rsp rwi val ends : Nat} {text : Nat → Nat} {h was rd eyes fw bars ways : Nat → Int32} {i : Int32} : Ct l yX9_isWire cX9_isWire 2 (some .boolean) 1 22 D cy z 9 q [.ref (q 0), .int i] (mdC cy q len span wires chg rsp rwi val ends text h was rd eyes fw bars ways) (PI (bi (inB i (nI 0) (nI wires - nI 1))) (mdC cy q len span wires chg rsp rwi val ends text h was rd eyes fw bars ways)) := by
  refine Ct.of (own := RX9) (by decide) rfl hI (Nat.le_of_ble_eq_true rfl) ?_
  intro p e s m args below meth c C hr
  refine aw_lv (lv' := [(0, .ref (q 0)), (1, .int i)]) (fun x hx => hx) ?_
  refine aw_iload_n C dX9_isWire_0 (i := 1) rfl rfl ?_
  refine aw_iconst C dX9_isWire_1 ki_0 ?_
  refine aw_aload_n C dX9_isWire_2 (i := 0) rfl rfl ?_
  refine aw_get (k := 0) C dX9_isWire_3 fl_X9_38 (by decide) rfl rfl ?_
  refine aw_iconst C dX9_isWire_6 ki_1 ?_
  refine aw_isub C dX9_isWire_7 ?_
  refine aw_S3i C dX9_isWire_8 cs_X9_54 (cm_isIn hI) ⟨Nat.le_of_ble_eq_true rfl, Nat.le_of_ble_eq_true rfl⟩ (Nat.le_of_ble_eq_true rfl) ?_
  refine aw_zret C hr dX9_isWire_11 (bi_nar) ?_
  exact PI.mk rfl rfl
set_option maxRecDepth 20000 in
/-- placeOf -/
theorem cm_placeOf {l : Launch} {D : va_G} {cy : Nat → ClassId} {z : Nat → Nat} {q : Nat → Nat} (hI : wI 9 q) {len span wires chg rsp rwi val ends : Nat} {text : Nat → Nat} {h was rd eyes fw bars ways : Nat → Int32} {i y : Nat} (hi : i < 8) (hy : y ≤ span) : Ct l yX9_placeOf cX9_placeOf 3 (some .int) 0 0 D cy z 9 q [.ref (q 0), .int (nI i), .int (nI y)] (mdC cy q len span wires chg rsp rwi val ends text h was rd eyes fw bars ways) (PI (plc h span i y) (mdC cy q len span wires chg rsp rwi val ends text h was rd eyes fw bars ways)) := by
  refine Ct.of (own := RX9) (by decide) rfl hI (Nat.le_of_ble_eq_true rfl) ?_
  intro p e s m args below meth c C hr
  refine aw_lv (lv' := [(0, .ref (q 0)), (1, .int (nI i)), (2, .int (nI y))]) (fun x hx => hx) ?_
  refine aw_aload_n C dX9_placeOf_0 (i := 0) rfl rfl ?_
  refine aw_get (k := 0) C dX9_placeOf_1 fl_X9_13 (by decide) rfl rfl ?_
  refine aw_iconst C dX9_placeOf_4 ki_5 ?_
  refine aw_iload_n C dX9_placeOf_5 (i := 1) rfl rfl ?_
  refine aw_imul_n C dX9_placeOf_6 ?_
  refine aw_iald (k := 2) C dX9_placeOf_7 (by decide) (rfl) (rfl) (by omega) (by decide) (rfl) ?_
  refine aw_aload_n C dX9_placeOf_8 (i := 0) rfl rfl ?_
  refine aw_get (k := 0) C dX9_placeOf_9 fl_X9_13 (by decide) rfl rfl ?_
  refine aw_bipush C dX9_placeOf_12 kb_43 ?_
  refine aw_iald (k := 2) C dX9_placeOf_14 (by decide) (rfl) (rfl) (by omega) (by decide) (rfl) ?_
  refine aw_iadd C dX9_placeOf_15 ?_
  refine aw_aload_n C dX9_placeOf_16 (i := 0) rfl rfl ?_
  refine aw_get (k := 0) C dX9_placeOf_17 fl_X9_34 (by decide) rfl rfl ?_
  refine aw_iload_n C dX9_placeOf_20 (i := 2) rfl rfl ?_
  refine aw_isub_n C dX9_placeOf_21 (by omega) ?_
  refine aw_imul C dX9_placeOf_22 ?_
  refine aw_aload_n C dX9_placeOf_23 (i := 0) rfl rfl ?_
  refine aw_get (k := 0) C dX9_placeOf_24 fl_X9_13 (by decide) rfl rfl ?_
  refine aw_iconst C dX9_placeOf_27 ki_5 ?_
  refine aw_iload_n C dX9_placeOf_28 (i := 1) rfl rfl ?_
  refine aw_imul_n C dX9_placeOf_29 ?_
  refine aw_iconst C dX9_placeOf_30 ki_2 ?_
  refine aw_iadd_n C dX9_placeOf_31 ?_
  refine aw_iald (k := 2) C dX9_placeOf_32 (by decide) (rfl) (rfl) (by omega) (by decide) (rfl) ?_
  refine aw_iload_n C dX9_placeOf_33 (i := 2) rfl rfl ?_
  refine aw_imul C dX9_placeOf_34 ?_
  refine aw_iadd C dX9_placeOf_35 ?_
  refine aw_iret C hr dX9_placeOf_36 ?_
  exact PI.mk rfl rfl
set_option maxRecDepth 20000 in
/-- heightOf -/
theorem cm_heightOf {l : Launch} {D : va_G} {cy : Nat → ClassId} {z : Nat → Nat} {q : Nat → Nat} (hI : wI 9 q) {len span wires chg rsp rwi val ends : Nat} {text : Nat → Nat} {h was rd eyes fw bars ways : Nat → Int32} {i y : Nat} (hi : i < 8) (hy : y ≤ span) (hs : 8 ≤ span) (hs2 : span ≤ 40) : Ct l yX9_heightOf cX9_heightOf 6 (some .int) 0 0 D cy z 9 q [.ref (q 0), .int (nI i), .int (nI y)] (mdC cy q len span wires chg rsp rwi val ends text h was rd eyes fw bars ways) (PI (hgt h span i y) (mdC cy q len span wires chg rsp rwi val ends text h was rd eyes fw bars ways)) := by
  refine Ct.of (own := RX9) (by decide) rfl hI (Nat.le_of_ble_eq_true rfl) ?_
  intro p e s m args below meth c C hr
  refine aw_lv (lv' := [(0, .ref (q 0)), (1, .int (nI i)), (2, .int (nI y))]) (fun x hx => hx) ?_
  refine aw_bipush C dX9_heightOf_0 kb_10 ?_
  refine aw_aload_n C dX9_heightOf_2 (i := 0) rfl rfl ?_
  refine aw_get (k := 0) C dX9_heightOf_3 fl_X9_13 (by decide) rfl rfl ?_
  refine aw_iconst C dX9_heightOf_6 ki_5 ?_
  refine aw_iload_n C dX9_heightOf_7 (i := 1) rfl rfl ?_
  refine aw_imul_n C dX9_heightOf_8 ?_
  refine aw_iconst C dX9_heightOf_9 ki_1 ?_
  refine aw_iadd_n C dX9_heightOf_10 ?_
  refine aw_iald (k := 2) C dX9_heightOf_11 (by decide) (rfl) (rfl) (by omega) (by decide) (rfl) ?_
  refine aw_imul C dX9_heightOf_12 ?_
  refine aw_istore_n (lv' := [(0, _), (1, _), (2, _), (3, _)]) C dX9_heightOf_13 (i := 3) rfl (Nat.le_of_ble_eq_true rfl) rfl ?_
  refine aw_aload_n C dX9_heightOf_14 (i := 0) rfl rfl ?_
  refine aw_get (k := 0) C dX9_heightOf_15 fl_X9_13 (by decide) rfl rfl ?_
  refine aw_iconst C dX9_heightOf_18 ki_5 ?_
  refine aw_iload_n C dX9_heightOf_19 (i := 1) rfl rfl ?_
  refine aw_imul_n C dX9_heightOf_20 ?_
  refine aw_iconst C dX9_heightOf_21 ki_4 ?_
  refine aw_iadd_n C dX9_heightOf_22 ?_
  refine aw_iald (k := 2) C dX9_heightOf_23 (by decide) (rfl) (rfl) (by omega) (by decide) (rfl) ?_
  refine aw_istore (lv' := [(0, _), (1, _), (2, _), (3, _), (4, _)]) C dX9_heightOf_24 (Nat.le_of_ble_eq_true rfl) rfl ?_
  refine aw_iload_n C dX9_heightOf_26 (i := 2) rfl rfl ?_
  refine aw_if_eq_n (tgt := 38) C dX9_heightOf_27 (by decide) (by omega) (fun h27 => ?_) (fun h27 => ?_)
  · refine aw_iload_n C dX9_heightOf_38 (i := 2) rfl rfl ?_
    refine aw_if_ne_n (tgt := 46) C dX9_heightOf_39 (by decide) (by omega) (fun h39 => ?_) (fun h39 => ?_)
    · refine aw_iconst C dX9_heightOf_46 ki_0 ?_
      refine aw_iret C hr dX9_heightOf_47 ?_
      refine PI.mk ?_ rfl
      unfold hgt hg
      first | (rw [if_pos h27]; done) | (rw [if_neg (Nat.ne_of_gt h27), if_pos h35]; done) | (exfalso; omega)
    · refine aw_iload_n C dX9_heightOf_42 (i := 3) rfl rfl ?_
      refine aw_goto (tgt := 47) C dX9_heightOf_43 (by decide) ?_
      refine aw_iret C hr dX9_heightOf_47 ?_
      refine PI.mk ?_ rfl
      unfold hgt hg
      first | (rw [if_pos h27]; done) | (rw [if_neg (Nat.ne_of_gt h27), if_pos h35]; done) | (exfalso; omega)
  · refine aw_iload_n C dX9_heightOf_30 (i := 2) rfl rfl ?_
    refine aw_aload_n C dX9_heightOf_31 (i := 0) rfl rfl ?_
    refine aw_get (k := 0) C dX9_heightOf_32 fl_X9_34 (by decide) rfl rfl ?_
    refine aw_icmp_ne_n (tgt := 48) C dX9_heightOf_35 (by decide) (by omega) (by omega) (fun h35 => ?_) (fun h35 => ?_)
    · refine aw_aload_n C dX9_heightOf_48 (i := 0) rfl rfl ?_
      refine aw_get (k := 0) C dX9_heightOf_49 fl_X9_13 (by decide) rfl rfl ?_
      refine aw_iconst C dX9_heightOf_52 ki_5 ?_
      refine aw_iload_n C dX9_heightOf_53 (i := 1) rfl rfl ?_
      refine aw_imul_n C dX9_heightOf_54 ?_
      refine aw_iconst C dX9_heightOf_55 ki_3 ?_
      refine aw_iadd_n C dX9_heightOf_56 ?_
      refine aw_iald (k := 2) C dX9_heightOf_57 (by decide) (rfl) (rfl) (by omega) (by decide) (rfl) ?_
      refine aw_if_ne (tgt := 66) C dX9_heightOf_58 (by decide) (fun h58 => ?_) (fun h58 => ?_)
      · refine aw_aload_n C dX9_heightOf_66 (i := 0) rfl rfl ?_
        refine aw_get (k := 0) C dX9_heightOf_67 fl_X9_13 (by decide) rfl rfl ?_
        refine aw_iconst C dX9_heightOf_70 ki_5 ?_
        refine aw_iload_n C dX9_heightOf_71 (i := 1) rfl rfl ?_
        refine aw_imul_n C dX9_heightOf_72 ?_
        refine aw_iconst C dX9_heightOf_73 ki_3 ?_
        refine aw_iadd_n C dX9_heightOf_74 ?_
        refine aw_iald (k := 2) C dX9_heightOf_75 (by decide) (rfl) (rfl) (by omega) (by decide) (rfl) ?_
        refine aw_iconst C dX9_heightOf_76 ki_1 ?_
        refine aw_icmp_ne (tgt := 118) C dX9_heightOf_77 (by decide) (fun h77 => ?_) (fun h77 => ?_)
        · refine aw_aload_n C dX9_heightOf_118 (i := 0) rfl rfl ?_
          refine aw_get (k := 0) C dX9_heightOf_119 fl_X9_34 (by decide) rfl rfl ?_
          refine aw_iconst C dX9_heightOf_122 ki_4 ?_
          refine aw_idiv_n C dX9_heightOf_123 (by omega) (by omega) (by omega) ?_
          refine aw_istore (lv' := [(0, _), (1, _), (2, _), (3, _), (4, _), (5, _)]) C dX9_heightOf_124 (Nat.le_of_ble_eq_true rfl) rfl ?_
          refine aw_iload_n C dX9_heightOf_126 (i := 2) rfl rfl ?_
          refine aw_iload C dX9_heightOf_127 rfl ?_
          refine aw_icmp_ge_n (tgt := 144) C dX9_heightOf_129 (by decide) (by omega) (by omega) (fun h129 => ?_) (fun h129 => ?_)
          · refine aw_iload_n C dX9_heightOf_144 (i := 3) rfl rfl ?_
            refine aw_iload C dX9_heightOf_145 rfl ?_
            refine aw_iadd C dX9_heightOf_147 ?_
            refine aw_aload_n C dX9_heightOf_148 (i := 0) rfl rfl ?_
            refine aw_get (k := 0) C dX9_heightOf_149 fl_X9_34 (by decide) rfl rfl ?_
            refine aw_iload_n C dX9_heightOf_152 (i := 2) rfl rfl ?_
            refine aw_isub_n C dX9_heightOf_153 (by omega) ?_
            refine aw_imul C dX9_heightOf_154 ?_
            refine aw_aload_n C dX9_heightOf_155 (i := 0) rfl rfl ?_
            refine aw_get (k := 0) C dX9_heightOf_156 fl_X9_34 (by decide) rfl rfl ?_
            refine aw_iload C dX9_heightOf_159 rfl ?_
            refine aw_isub_n C dX9_heightOf_161 (by omega) ?_
            refine aw_idiv C dX9_heightOf_162 (nI_ne0 (by omega) (by omega)) ?_
            refine aw_iret C hr dX9_heightOf_163 ?_
            refine PI.mk ?_ rfl
            unfold hgt hg
            rw [if_neg (Nat.ne_of_gt h27), if_neg h35, if_neg h58, if_neg h77]
            first | (rw [if_pos h129]; done) | (rw [if_neg (Nat.not_lt.mpr h129)]; done)
          · refine aw_iload_n C dX9_heightOf_132 (i := 3) rfl rfl ?_
            refine aw_iload C dX9_heightOf_133 rfl ?_
            refine aw_iload_n C dX9_heightOf_135 (i := 2) rfl rfl ?_
            refine aw_imul C dX9_heightOf_136 ?_
            refine aw_iload C dX9_heightOf_137 rfl ?_
            refine aw_idiv C dX9_heightOf_139 (nI_ne0 (by omega) (by omega)) ?_
            refine aw_iadd C dX9_heightOf_140 ?_
            refine aw_goto (tgt := 163) C dX9_heightOf_141 (by decide) ?_
            refine aw_iret C hr dX9_heightOf_163 ?_
            refine PI.mk ?_ rfl
            unfold hgt hg
            rw [if_neg (Nat.ne_of_gt h27), if_neg h35, if_neg h58, if_neg h77]
            first | (rw [if_pos h129]; done) | (rw [if_neg (Nat.not_lt.mpr h129)]; done)
        · refine aw_iload_n C dX9_heightOf_80 (i := 3) rfl rfl ?_
          refine aw_aload_n C dX9_heightOf_81 (i := 0) rfl rfl ?_
          refine aw_get (k := 0) C dX9_heightOf_82 fl_X9_34 (by decide) rfl rfl ?_
          refine aw_iload_n C dX9_heightOf_85 (i := 2) rfl rfl ?_
          refine aw_isub_n C dX9_heightOf_86 (by omega) ?_
          refine aw_imul C dX9_heightOf_87 ?_
          refine aw_aload_n C dX9_heightOf_88 (i := 0) rfl rfl ?_
          refine aw_get (k := 0) C dX9_heightOf_89 fl_X9_34 (by decide) rfl rfl ?_
          refine aw_idiv C dX9_heightOf_92 (nI_ne0 (by omega) (by omega)) ?_
          refine aw_iconst C dX9_heightOf_93 ki_4 ?_
          refine aw_iload C dX9_heightOf_94 rfl ?_
          refine aw_imul C dX9_heightOf_96 ?_
          refine aw_iload_n C dX9_heightOf_97 (i := 2) rfl rfl ?_
          refine aw_imul C dX9_heightOf_98 ?_
          refine aw_aload_n C dX9_heightOf_99 (i := 0) rfl rfl ?_
          refine aw_get (k := 0) C dX9_heightOf_100 fl_X9_34 (by decide) rfl rfl ?_
          refine aw_iload_n C dX9_heightOf_103 (i := 2) rfl rfl ?_
          refine aw_isub_n C dX9_heightOf_104 (by omega) ?_
          refine aw_imul C dX9_heightOf_105 ?_
          refine aw_aload_n C dX9_heightOf_106 (i := 0) rfl rfl ?_
          refine aw_get (k := 0) C dX9_heightOf_107 fl_X9_34 (by decide) rfl rfl ?_
          refine aw_aload_n C dX9_heightOf_110 (i := 0) rfl rfl ?_
          refine aw_get (k := 0) C dX9_heightOf_111 fl_X9_34 (by decide) rfl rfl ?_
          refine aw_imul_n C dX9_heightOf_114 ?_
          refine aw_idiv C dX9_heightOf_115 (nI_ne0 (Nat.mul_pos (by omega) (by omega)) (by have := Nat.mul_le_mul hs2 hs2; omega)) ?_
          refine aw_iadd C dX9_heightOf_116 ?_
          refine aw_iret C hr dX9_heightOf_117 ?_
          refine PI.mk ?_ rfl
          unfold hgt hg
          rw [if_neg (Nat.ne_of_gt h27), if_neg h35, if_neg h58, if_pos h77]
      · refine aw_iload_n C dX9_heightOf_61 (i := 3) rfl rfl ?_
        refine aw_iload C dX9_heightOf_62 rfl ?_
        refine aw_iadd C dX9_heightOf_64 ?_
        refine aw_iret C hr dX9_heightOf_65 ?_
        refine PI.mk ?_ rfl
        unfold hgt hg
        rw [if_neg (Nat.ne_of_gt h27), if_neg h35, if_pos h58]
    · refine aw_iload_n C dX9_heightOf_38 (i := 2) rfl rfl ?_
      refine aw_if_ne_n (tgt := 46) C dX9_heightOf_39 (by decide) (by omega) (fun h39 => ?_) (fun h39 => ?_)
      · refine aw_iconst C dX9_heightOf_46 ki_0 ?_
        refine aw_iret C hr dX9_heightOf_47 ?_
        refine PI.mk ?_ rfl
        unfold hgt hg
        first | (rw [if_pos h27]; done) | (rw [if_neg (Nat.ne_of_gt h27), if_pos h35]; done) | (exfalso; omega)
      · refine aw_iload_n C dX9_heightOf_42 (i := 3) rfl rfl ?_
        refine aw_goto (tgt := 47) C dX9_heightOf_43 (by decide) ?_
        refine aw_iret C hr dX9_heightOf_47 ?_
        refine PI.mk ?_ rfl
        unfold hgt hg
        first | (rw [if_pos h27]; done) | (rw [if_neg (Nat.ne_of_gt h27), if_pos h35]; done) | (exfalso; omega)
set_option maxRecDepth 20000 in
/-- longOf, its loop -/
theorem cm_longOf_l {l : Launch} {D : va_G} {cy : Nat → ClassId} {z : Nat → Nat} {q : Nat → Nat} {p : Program} {e : Env} {s : State} {m : MethodId} {args : Array Value} {below : List Frame} {meth : Method} {c : Code} (hI : wI 9 q) (C : Cx p s m args meth c cX9_longOf 4 RX9 D cy z 9 q) (hr : meth.sig.returnType = (some .int)) {len span wires chg rsp rwi val ends : Nat} {text : Nat → Nat} {h was rd eyes fw bars ways : Nat → Int32} {i : Nat} (hi : i < 8) (hs : 8 ≤ span) (hs2 : span ≤ 40) : ∀ (d : Nat) (y : Nat), span - y < d → (y ≤ span) → AW p l e { frames := 1, cells := 0, slots := 0, locals := 25 } s m args below meth c D 9 q 4 (MQ below (Qg D 9 q (PI (lng h span i) (mdC cy q len span wires chg rsp rwi val ends text h was rd eyes fw bars ways)) (wA 9 q s.heap.size)) args s 0 0 (wA 9 q s.heap.size)) (mdC cy q len span wires chg rsp rwi val ends text h was rd eyes fw bars ways) [(0, .ref (q 0)), (1, .int (nI i)), (2, .int (accI (nI span + dst (plc h span i 0) (plc h span i span) / nI span) (fun y => dst (hgt h span i y) (hgt h span i (y + 1))) y)), (3, .int (nI y))] 31 [] := by
  intro d
  induction d with
  | zero => intro y hd; exact absurd hd (Nat.not_lt_zero _)
  | succ d ih =>
    intro y hd iv0
    refine aw_iload_n C dX9_longOf_31 (i := 3) rfl rfl ?_
    refine aw_aload_n C dX9_longOf_32 (i := 0) rfl rfl ?_
    refine aw_get (k := 0) C dX9_longOf_33 fl_X9_34 (by decide) rfl rfl ?_
    refine aw_icmp_ge_n (tgt := 65) C dX9_longOf_36 (by decide) (by omega) (by omega) (fun h36 => ?_) (fun h36 => ?_)
    · refine aw_iload_n C dX9_longOf_65 (i := 2) rfl rfl ?_
      refine aw_iret C hr dX9_longOf_66 ?_
      exact PI.mk (by rw [show y = span by omega]; rfl) rfl
    · refine aw_iload_n C dX9_longOf_39 (i := 2) rfl rfl ?_
      refine aw_aload_n C dX9_longOf_40 (i := 0) rfl rfl ?_
      refine aw_iload_n C dX9_longOf_41 (i := 1) rfl rfl ?_
      refine aw_iload_n C dX9_longOf_42 (i := 3) rfl rfl ?_
      refine aw_V2i (k := 0) C dX9_longOf_43 cv_X9_108 (by decide) rfl rfl rfl (cm_heightOf hI (by omega) (by omega) hs hs2) ⟨Nat.le_of_ble_eq_true rfl, Nat.le_of_ble_eq_true rfl⟩ (Nat.le_of_ble_eq_true rfl) ?_
      refine aw_aload_n C dX9_longOf_46 (i := 0) rfl rfl ?_
      refine aw_iload_n C dX9_longOf_47 (i := 1) rfl rfl ?_
      refine aw_iload_n C dX9_longOf_48 (i := 3) rfl rfl ?_
      refine aw_iconst C dX9_longOf_49 ki_1 ?_
      refine aw_iadd_n C dX9_longOf_50 ?_
      refine aw_V2i (k := 0) C dX9_longOf_51 cv_X9_108 (by decide) rfl rfl rfl (cm_heightOf hI (by omega) (by omega) hs hs2) ⟨Nat.le_of_ble_eq_true rfl, Nat.le_of_ble_eq_true rfl⟩ (Nat.le_of_ble_eq_true rfl) ?_
      refine aw_S2i C dX9_longOf_54 cs_X9_105 (cm_distance hI) ⟨Nat.le_of_ble_eq_true rfl, Nat.le_of_ble_eq_true rfl⟩ (Nat.le_of_ble_eq_true rfl) ?_
      refine aw_iadd C dX9_longOf_57 ?_
      refine aw_istore_n (lv' := [(0, _), (1, _), (2, _), (3, _)]) C dX9_longOf_58 (i := 2) rfl (Nat.le_of_ble_eq_true rfl) rfl ?_
      refine aw_iinc_n (lv' := [(0, _), (1, _), (2, _), (3, _)]) C dX9_longOf_59 rfl ki_1 (Nat.le_of_ble_eq_true rfl) rfl ?_
      refine aw_goto (tgt := 31) C dX9_longOf_62 (by decide) ?_
      exact ih (y + 1) (by omega) (by omega)
set_option maxRecDepth 20000 in
/-- longOf -/
theorem cm_longOf {l : Launch} {D : va_G} {cy : Nat → ClassId} {z : Nat → Nat} {q : Nat → Nat} (hI : wI 9 q) {len span wires chg rsp rwi val ends : Nat} {text : Nat → Nat} {h was rd eyes fw bars ways : Nat → Int32} {i : Nat} (hi : i < 8) (hs : 8 ≤ span) (hs2 : span ≤ 40) : Ct l yX9_longOf cX9_longOf 4 (some .int) 1 25 D cy z 9 q [.ref (q 0), .int (nI i)] (mdC cy q len span wires chg rsp rwi val ends text h was rd eyes fw bars ways) (PI (lng h span i) (mdC cy q len span wires chg rsp rwi val ends text h was rd eyes fw bars ways)) := by
  refine Ct.of (own := RX9) (by decide) rfl hI (Nat.le_of_ble_eq_true rfl) ?_
  intro p e s m args below meth c C hr
  refine aw_lv (lv' := [(0, .ref (q 0)), (1, .int (nI i))]) (fun x hx => hx) ?_
  refine aw_aload_n C dX9_longOf_0 (i := 0) rfl rfl ?_
  refine aw_get (k := 0) C dX9_longOf_1 fl_X9_34 (by decide) rfl rfl ?_
  refine aw_aload_n C dX9_longOf_4 (i := 0) rfl rfl ?_
  refine aw_iload_n C dX9_longOf_5 (i := 1) rfl rfl ?_
  refine aw_iconst C dX9_longOf_6 ki_0 ?_
  refine aw_V2i (k := 0) C dX9_longOf_7 cv_X9_102 (by decide) rfl rfl rfl (cm_placeOf hI (by omega) (by omega)) ⟨Nat.le_of_ble_eq_true rfl, Nat.le_of_ble_eq_true rfl⟩ (Nat.le_of_ble_eq_true rfl) ?_
  refine aw_aload_n C dX9_longOf_10 (i := 0) rfl rfl ?_
  refine aw_iload_n C dX9_longOf_11 (i := 1) rfl rfl ?_
  refine aw_aload_n C dX9_longOf_12 (i := 0) rfl rfl ?_
  refine aw_get (k := 0) C dX9_longOf_13 fl_X9_34 (by decide) rfl rfl ?_
  refine aw_V2i (k := 0) C dX9_longOf_16 cv_X9_102 (by decide) rfl rfl rfl (cm_placeOf hI (by omega) (by omega)) ⟨Nat.le_of_ble_eq_true rfl, Nat.le_of_ble_eq_true rfl⟩ (Nat.le_of_ble_eq_true rfl) ?_
  refine aw_S2i C dX9_longOf_19 cs_X9_105 (cm_distance hI) ⟨Nat.le_of_ble_eq_true rfl, Nat.le_of_ble_eq_true rfl⟩ (Nat.le_of_ble_eq_true rfl) ?_
  refine aw_aload_n C dX9_longOf_22 (i := 0) rfl rfl ?_
  refine aw_get (k := 0) C dX9_longOf_23 fl_X9_34 (by decide) rfl rfl ?_
  refine aw_idiv C dX9_longOf_26 (nI_ne0 (by omega) (by omega)) ?_
  refine aw_iadd C dX9_longOf_27 ?_
  refine aw_istore_n (lv' := [(0, _), (1, _), (2, _)]) C dX9_longOf_28 (i := 2) rfl (Nat.le_of_ble_eq_true rfl) rfl ?_
  refine aw_iconst C dX9_longOf_29 ki_0 ?_
  refine aw_istore_n (lv' := [(0, _), (1, _), (2, _), (3, _)]) C dX9_longOf_30 (i := 3) rfl (Nat.le_of_ble_eq_true rfl) rfl ?_
  exact cm_longOf_l hI C hr hi hs hs2 (span + 1) 0 (by omega) (by omega)
set_option maxRecDepth 20000 in
/-- topOf, its loop -/
theorem cm_topOf_l {l : Launch} {D : va_G} {cy : Nat → ClassId} {z : Nat → Nat} {q : Nat → Nat} {p : Program} {e : Env} {s : State} {m : MethodId} {args : Array Value} {below : List Frame} {meth : Method} {c : Code} (hI : wI 9 q) (C : Cx p s m args meth c cX9_topOf 4 RX9 D cy z 9 q) (hr : meth.sig.returnType = (some .int)) {len span wires chg rsp rwi val ends : Nat} {text : Nat → Nat} {h was rd eyes fw bars ways : Nat → Int32} {i : Nat} (hi : i < 8) (hs : 8 ≤ span) (hs2 : span ≤ 40) : ∀ (d : Nat) (y : Nat), span - y < d → (y ≤ span) → AW p l e { frames := 1, cells := 0, slots := 0, locals := 25 } s m args below meth c D 9 q 4 (MQ below (Qg D 9 q (PI (nI (topR h span i span)) (mdC cy q len span wires chg rsp rwi val ends text h was rd eyes fw bars ways)) (wA 9 q s.heap.size)) args s 0 0 (wA 9 q s.heap.size)) (mdC cy q len span wires chg rsp rwi val ends text h was rd eyes fw bars ways) [(0, .ref (q 0)), (1, .int (nI i)), (2, .int (nI (topR h span i y))), (3, .int (nI (y + 1)))] 4 [] := by
  intro d
  induction d with
  | zero => intro y hd; exact absurd hd (Nat.not_lt_zero _)
  | succ d ih =>
    intro y hd iv0
    refine aw_iload_n C dX9_topOf_4 (i := 3) rfl rfl ?_
    refine aw_aload_n C dX9_topOf_5 (i := 0) rfl rfl ?_
    refine aw_get (k := 0) C dX9_topOf_6 fl_X9_34 (by decide) rfl rfl ?_
    refine aw_icmp_gt_n (tgt := 39) C dX9_topOf_9 (by decide) (by omega) (by omega) (fun h9 => ?_) (fun h9 => ?_)
    · refine aw_iload_n C dX9_topOf_39 (i := 2) rfl rfl ?_
      refine aw_iret C hr dX9_topOf_40 ?_
      exact PI.mk (by rw [show y = span by omega]) rfl
    · have ht := topR_le h span i y
      refine aw_aload_n C dX9_topOf_12 (i := 0) rfl rfl ?_
      refine aw_iload_n C dX9_topOf_13 (i := 1) rfl rfl ?_
      refine aw_iload_n C dX9_topOf_14 (i := 3) rfl rfl ?_
      refine aw_V2i (k := 0) C dX9_topOf_15 cv_X9_108 (by decide) rfl rfl rfl (cm_heightOf hI (by omega) (by omega) hs hs2) ⟨Nat.le_of_ble_eq_true rfl, Nat.le_of_ble_eq_true rfl⟩ (Nat.le_of_ble_eq_true rfl) ?_
      refine aw_aload_n C dX9_topOf_18 (i := 0) rfl rfl ?_
      refine aw_iload_n C dX9_topOf_19 (i := 1) rfl rfl ?_
      refine aw_iload_n C dX9_topOf_20 (i := 2) rfl rfl ?_
      refine aw_V2i (k := 0) C dX9_topOf_21 cv_X9_108 (by decide) rfl rfl rfl (cm_heightOf hI (by omega) (by omega) hs hs2) ⟨Nat.le_of_ble_eq_true rfl, Nat.le_of_ble_eq_true rfl⟩ (Nat.le_of_ble_eq_true rfl) ?_
      refine aw_icmp_le (tgt := 31) C dX9_topOf_24 (by decide) (fun h24 => ?_) (fun h24 => ?_)
      · refine aw_iload_n C dX9_topOf_31 (i := 2) rfl rfl ?_
        refine aw_istore_n (lv' := [(0, _), (1, _), (2, _), (3, _)]) C dX9_topOf_32 (i := 2) rfl (Nat.le_of_ble_eq_true rfl) rfl ?_
        refine aw_iinc_n (lv' := [(0, _), (1, _), (2, _), (3, _)]) C dX9_topOf_33 rfl ki_1 (Nat.le_of_ble_eq_true rfl) rfl ?_
        refine aw_goto (tgt := 4) C dX9_topOf_36 (by decide) ?_
        have e : topR h span i (y + 1) = topR h span i y := if_neg (i_nlt h24)
        have k9 := ih (y + 1) (by omega) (by omega)
        rw [e] at k9
        exact k9
      · refine aw_iload_n C dX9_topOf_27 (i := 3) rfl rfl ?_
        refine aw_goto (tgt := 32) C dX9_topOf_28 (by decide) ?_
        refine aw_istore_n (lv' := [(0, _), (1, _), (2, _), (3, _)]) C dX9_topOf_32 (i := 2) rfl (Nat.le_of_ble_eq_true rfl) rfl ?_
        refine aw_iinc_n (lv' := [(0, _), (1, _), (2, _), (3, _)]) C dX9_topOf_33 rfl ki_1 (Nat.le_of_ble_eq_true rfl) rfl ?_
        refine aw_goto (tgt := 4) C dX9_topOf_36 (by decide) ?_
        have e : topR h span i (y + 1) = y + 1 := if_pos (i_lt h24)
        have k9 := ih (y + 1) (by omega) (by omega)
        rw [e] at k9
        exact k9
set_option maxRecDepth 20000 in
/-- topOf -/
theorem cm_topOf {l : Launch} {D : va_G} {cy : Nat → ClassId} {z : Nat → Nat} {q : Nat → Nat} (hI : wI 9 q) {len span wires chg rsp rwi val ends : Nat} {text : Nat → Nat} {h was rd eyes fw bars ways : Nat → Int32} {i : Nat} (hi : i < 8) (hs : 8 ≤ span) (hs2 : span ≤ 40) : Ct l yX9_topOf cX9_topOf 4 (some .int) 1 25 D cy z 9 q [.ref (q 0), .int (nI i)] (mdC cy q len span wires chg rsp rwi val ends text h was rd eyes fw bars ways) (PI (nI (topR h span i span)) (mdC cy q len span wires chg rsp rwi val ends text h was rd eyes fw bars ways)) := by
  refine Ct.of (own := RX9) (by decide) rfl hI (Nat.le_of_ble_eq_true rfl) ?_
  intro p e s m args below meth c C hr
  refine aw_lv (lv' := [(0, .ref (q 0)), (1, .int (nI i))]) (fun x hx => hx) ?_
  refine aw_iconst C dX9_topOf_0 ki_0 ?_
  refine aw_istore_n (lv' := [(0, _), (1, _), (2, _)]) C dX9_topOf_1 (i := 2) rfl (Nat.le_of_ble_eq_true rfl) rfl ?_
  refine aw_iconst C dX9_topOf_2 ki_1 ?_
  refine aw_istore_n (lv' := [(0, _), (1, _), (2, _), (3, _)]) C dX9_topOf_3 (i := 3) rfl (Nat.le_of_ble_eq_true rfl) rfl ?_
  exact cm_topOf_l hI C hr hi hs hs2 (span + 1) 0 (by omega) (by omega)
set_option maxRecDepth 20000 in
/-- areNear -/
theorem cm_areNear {l : Launch} {D : va_G} {cy : Nat → ClassId} {z : Nat → Nat} {q : Nat → Nat} (hI : wI 9 q) {len span wires chg rsp rwi val ends : Nat} {text : Nat → Nat} {h was rd eyes fw bars ways : Nat → Int32} {i k : Nat} (hi : i < 8) (hk : k < 8) {y : Nat} (hy : y ≤ span) (hs : 8 ≤ span) (hs2 : span ≤ 40) : Ct l yX9_areNear cX9_areNear 4 (some .boolean) 1 25 D cy z 9 q [.ref (q 0), .int (nI i), .int (nI k), .int (nI y)] (mdC cy q len span wires chg rsp rwi val ends text h was rd eyes fw bars ways) (PI (bi (nrA h span i k y)) (mdC cy q len span wires chg rsp rwi val ends text h was rd eyes fw bars ways)) := by
  refine Ct.of (own := RX9) (by decide) rfl hI (Nat.le_of_ble_eq_true rfl) ?_
  intro p e s m args below meth c C hr
  refine aw_lv (lv' := [(0, .ref (q 0)), (1, .int (nI i)), (2, .int (nI k)), (3, .int (nI y))]) (fun x hx => hx) ?_
  refine aw_aload_n C dX9_areNear_0 (i := 0) rfl rfl ?_
  refine aw_iload_n C dX9_areNear_1 (i := 1) rfl rfl ?_
  refine aw_iload_n C dX9_areNear_2 (i := 3) rfl rfl ?_
  refine aw_V2i (k := 0) C dX9_areNear_3 cv_X9_102 (by decide) rfl rfl rfl (cm_placeOf hI (by omega) (by omega)) ⟨Nat.le_of_ble_eq_true rfl, Nat.le_of_ble_eq_true rfl⟩ (Nat.le_of_ble_eq_true rfl) ?_
  refine aw_aload_n C dX9_areNear_6 (i := 0) rfl rfl ?_
  refine aw_iload_n C dX9_areNear_7 (i := 2) rfl rfl ?_
  refine aw_iload_n C dX9_areNear_8 (i := 3) rfl rfl ?_
  refine aw_V2i (k := 0) C dX9_areNear_9 cv_X9_102 (by decide) rfl rfl rfl (cm_placeOf hI (by omega) (by omega)) ⟨Nat.le_of_ble_eq_true rfl, Nat.le_of_ble_eq_true rfl⟩ (Nat.le_of_ble_eq_true rfl) ?_
  refine aw_S2i C dX9_areNear_12 cs_X9_105 (cm_distance hI) ⟨Nat.le_of_ble_eq_true rfl, Nat.le_of_ble_eq_true rfl⟩ (Nat.le_of_ble_eq_true rfl) ?_
  refine aw_aload_n C dX9_areNear_15 (i := 0) rfl rfl ?_
  refine aw_get (k := 0) C dX9_areNear_16 fl_X9_13 (by decide) rfl rfl ?_
  refine aw_bipush C dX9_areNear_19 kb_40 ?_
  refine aw_iald (k := 2) C dX9_areNear_21 (by decide) (rfl) (rfl) (by omega) (by decide) (rfl) ?_
  refine aw_aload_n C dX9_areNear_22 (i := 0) rfl rfl ?_
  refine aw_get (k := 0) C dX9_areNear_23 fl_X9_34 (by decide) rfl rfl ?_
  refine aw_imul C dX9_areNear_26 ?_
  refine aw_icmp_ge (tgt := 59) C dX9_areNear_27 (by decide) (fun h27 => ?_) (fun h27 => ?_)
  · refine aw_iconst C dX9_areNear_59 ki_0 ?_
    refine aw_zret C hr dX9_areNear_60 (by decide) ?_
    refine PI.mk (bi_g ?_) rfl
    unfold nrA
    simp only [Bool.and_eq_true, Bool.or_eq_true, decide_eq_true_eq, Int32.le_iff_toInt_le, Int32.lt_iff_toInt_lt] at h27 ⊢
    omega
  · refine aw_aload_n C dX9_areNear_30 (i := 0) rfl rfl ?_
    refine aw_iload_n C dX9_areNear_31 (i := 1) rfl rfl ?_
    refine aw_iload_n C dX9_areNear_32 (i := 3) rfl rfl ?_
    refine aw_V2i (k := 0) C dX9_areNear_33 cv_X9_108 (by decide) rfl rfl rfl (cm_heightOf hI (by omega) (by omega) hs hs2) ⟨Nat.le_of_ble_eq_true rfl, Nat.le_of_ble_eq_true rfl⟩ (Nat.le_of_ble_eq_true rfl) ?_
    refine aw_aload_n C dX9_areNear_36 (i := 0) rfl rfl ?_
    refine aw_iload_n C dX9_areNear_37 (i := 2) rfl rfl ?_
    refine aw_iload_n C dX9_areNear_38 (i := 3) rfl rfl ?_
    refine aw_V2i (k := 0) C dX9_areNear_39 cv_X9_108 (by decide) rfl rfl rfl (cm_heightOf hI (by omega) (by omega) hs hs2) ⟨Nat.le_of_ble_eq_true rfl, Nat.le_of_ble_eq_true rfl⟩ (Nat.le_of_ble_eq_true rfl) ?_
    refine aw_S2i C dX9_areNear_42 cs_X9_105 (cm_distance hI) ⟨Nat.le_of_ble_eq_true rfl, Nat.le_of_ble_eq_true rfl⟩ (Nat.le_of_ble_eq_true rfl) ?_
    refine aw_aload_n C dX9_areNear_45 (i := 0) rfl rfl ?_
    refine aw_get (k := 0) C dX9_areNear_46 fl_X9_13 (by decide) rfl rfl ?_
    refine aw_bipush C dX9_areNear_49 kb_41 ?_
    refine aw_iald (k := 2) C dX9_areNear_51 (by decide) (rfl) (rfl) (by omega) (by decide) (rfl) ?_
    refine aw_icmp_ge (tgt := 59) C dX9_areNear_52 (by decide) (fun h52 => ?_) (fun h52 => ?_)
    · refine aw_iconst C dX9_areNear_59 ki_0 ?_
      refine aw_zret C hr dX9_areNear_60 (by decide) ?_
      refine PI.mk (bi_g ?_) rfl
      unfold nrA
      simp only [Bool.and_eq_true, Bool.or_eq_true, decide_eq_true_eq, Int32.le_iff_toInt_le, Int32.lt_iff_toInt_lt] at h27 h52 ⊢
      omega
    · refine aw_iconst C dX9_areNear_55 ki_1 ?_
      refine aw_goto (tgt := 60) C dX9_areNear_56 (by decide) ?_
      refine aw_zret C hr dX9_areNear_60 (by decide) ?_
      refine PI.mk (bi_t ?_) rfl
      unfold nrA
      simp only [Bool.and_eq_true, Bool.or_eq_true, decide_eq_true_eq, Int32.le_iff_toInt_le, Int32.lt_iff_toInt_lt] at h27 h52 ⊢
      omega
set_option maxRecDepth 20000 in
/-- near, its loop -/
theorem cm_nearF_l {l : Launch} {D : va_G} {cy : Nat → ClassId} {z : Nat → Nat} {q : Nat → Nat} {p : Program} {e : Env} {s : State} {m : MethodId} {args : Array Value} {below : List Frame} {meth : Method} {c : Code} (hI : wI 9 q) (C : Cx p s m args meth c cX9_near 6 RX9 D cy z 9 q) (hr : meth.sig.returnType = (some .int)) {len span wires chg rsp rwi val ends : Nat} {text : Nat → Nat} {h was rd eyes fw bars ways : Nat → Int32} {i k : Nat} (hi : i < 8) (hk : k < 8) (hs : 8 ≤ span) (hs2 : span ≤ 40) : ∀ (d : Nat) (y : Nat), span + 1 - y < d → (y ≤ span + 1) → (∀ j, j < y → nrA h span i k j = false) → AW p l e { frames := 2, cells := 0, slots := 0, locals := 48 } s m args below meth c D 9 q 6 (MQ below (Qg D 9 q (PI (nrF h span i k) (mdC cy q len span wires chg rsp rwi val ends text h was rd eyes fw bars ways)) (wA 9 q s.heap.size)) args s 0 0 (wA 9 q s.heap.size)) (mdC cy q len span wires chg rsp rwi val ends text h was rd eyes fw bars ways) [(0, .ref (q 0)), (1, .int (nI i)), (2, .int (nI k)), (3, .int (nI 1)), (4, .int (nI 0)), (5, .int (nI y))] 6 [] := by
  intro d
  induction d with
  | zero => intro y hd; exact absurd hd (Nat.not_lt_zero _)
  | succ d ih =>
    intro y hd iv0 iv1
    refine aw_iload C dX9_near_6 rfl ?_
    refine aw_aload_n C dX9_near_8 (i := 0) rfl rfl ?_
    refine aw_get (k := 0) C dX9_near_9 fl_X9_34 (by decide) rfl rfl ?_
    refine aw_icmp_gt_n (tgt := 42) C dX9_near_12 (by decide) (by omega) (by omega) (fun h12 => ?_) (fun h12 => ?_)
    · refine aw_iload_n C dX9_near_42 (i := 3) rfl rfl ?_
      refine aw_if_eq_n (tgt := 51) C dX9_near_43 (by decide) (by omega) (fun h43 => absurd h43 (by decide)) (fun h43 => ?_)
      refine aw_bipush C dX9_near_46 kb_m4 ?_
      refine aw_goto (tgt := 53) C dX9_near_48 (by decide) ?_
      refine aw_iret C hr dX9_near_53 ?_
      exact PI.mk (by unfold nrF; rw [fstB_none (fun j hj => iv1 j (by omega))]) rfl
    · refine aw_aload_n C dX9_near_15 (i := 0) rfl rfl ?_
      refine aw_iload_n C dX9_near_16 (i := 1) rfl rfl ?_
      refine aw_iload_n C dX9_near_17 (i := 2) rfl rfl ?_
      refine aw_iload C dX9_near_18 rfl ?_
      refine aw_V3i (k := 0) C dX9_near_20 cv_X9_117 (by decide) rfl rfl rfl (cm_areNear hI hi hk (by omega) hs hs2) ⟨Nat.le_of_ble_eq_true rfl, Nat.le_of_ble_eq_true rfl⟩ (Nat.le_of_ble_eq_true rfl) ?_
      refine aw_if_eq_b (tgt := 36) C dX9_near_23 (by decide) (fun h23 => ?_) (fun h23 => ?_)
      · refine aw_iinc_n (lv' := [(0, _), (1, _), (2, _), (3, _), (4, _), (5, _)]) C dX9_near_36 rfl ki_1 (Nat.le_of_ble_eq_true rfl) rfl ?_
        refine aw_goto (tgt := 6) C dX9_near_39 (by decide) ?_
        exact ih (y + 1) (by omega) (by omega) (fun j hj => by rcases Nat.lt_or_ge j y with g | g; exact iv1 j g; rw [show j = y by omega]; exact h23)
      · refine aw_iload_n C dX9_near_26 (i := 3) rfl rfl ?_
        refine aw_if_eq_n (tgt := 33) C dX9_near_27 (by decide) (by omega) (fun h27 => absurd h27 (by decide)) (fun h27 => ?_)
        refine aw_iload C dX9_near_30 rfl ?_
        refine aw_iret C hr dX9_near_32 ?_
        exact PI.mk (by unfold nrF; rw [fstB_at (k := y) (by omega) iv1 h23]) rfl
set_option maxRecDepth 20000 in
/-- near -/
theorem cm_nearF {l : Launch} {D : va_G} {cy : Nat → ClassId} {z : Nat → Nat} {q : Nat → Nat} (hI : wI 9 q) {len span wires chg rsp rwi val ends : Nat} {text : Nat → Nat} {h was rd eyes fw bars ways : Nat → Int32} {i k : Nat} (hi : i < 8) (hk : k < 8) (hs : 8 ≤ span) (hs2 : span ≤ 40) : Ct l yX9_near cX9_near 6 (some .int) 2 48 D cy z 9 q [.ref (q 0), .int (nI i), .int (nI k), .int (nI 1)] (mdC cy q len span wires chg rsp rwi val ends text h was rd eyes fw bars ways) (PI (nrF h span i k) (mdC cy q len span wires chg rsp rwi val ends text h was rd eyes fw bars ways)) := by
  refine Ct.of (own := RX9) (by decide) rfl hI (Nat.le_of_ble_eq_true rfl) ?_
  intro p e s m args below meth c C hr
  refine aw_lv (lv' := [(0, .ref (q 0)), (1, .int (nI i)), (2, .int (nI k)), (3, .int (nI 1))]) (fun x hx => hx) ?_
  refine aw_iconst C dX9_near_0 ki_0 ?_
  refine aw_istore (lv' := [(0, _), (1, _), (2, _), (3, _), (4, _)]) C dX9_near_1 (Nat.le_of_ble_eq_true rfl) rfl ?_
  refine aw_iconst C dX9_near_3 ki_0 ?_
  refine aw_istore (lv' := [(0, _), (1, _), (2, _), (3, _), (4, _), (5, _)]) C dX9_near_4 (Nat.le_of_ble_eq_true rfl) rfl ?_
  exact cm_nearF_l hI C hr hi hk hs hs2 (span + 2) 0 (by omega) (by omega) (fun j hj => absurd hj (Nat.not_lt_zero j))
set_option maxRecDepth 20000 in
/-- near, its loop -/
theorem cm_nearC_l {l : Launch} {D : va_G} {cy : Nat → ClassId} {z : Nat → Nat} {q : Nat → Nat} {p : Program} {e : Env} {s : State} {m : MethodId} {args : Array Value} {below : List Frame} {meth : Method} {c : Code} (hI : wI 9 q) (C : Cx p s m args meth c cX9_near 6 RX9 D cy z 9 q) (hr : meth.sig.returnType = (some .int)) {len span wires chg rsp rwi val ends : Nat} {text : Nat → Nat} {h was rd eyes fw bars ways : Nat → Int32} {i k : Nat} (hi : i < 8) (hk : k < 8) (hs : 8 ≤ span) (hs2 : span ≤ 40) : ∀ (d : Nat) (y : Nat), span + 1 - y < d → (y ≤ span + 1) → AW p l e { frames := 2, cells := 0, slots := 0, locals := 48 } s m args below meth c D 9 q 6 (MQ below (Qg D 9 q (PI (nI (nrC h span i k)) (mdC cy q len span wires chg rsp rwi val ends text h was rd eyes fw bars ways)) (wA 9 q s.heap.size)) args s 0 0 (wA 9 q s.heap.size)) (mdC cy q len span wires chg rsp rwi val ends text h was rd eyes fw bars ways) [(0, .ref (q 0)), (1, .int (nI i)), (2, .int (nI k)), (3, .int (nI 0)), (4, .int (nI (cntB (nrA h span i k) y))), (5, .int (nI y))] 6 [] := by
  intro d
  induction d with
  | zero => intro y hd; exact absurd hd (Nat.not_lt_zero _)
  | succ d ih =>
    intro y hd iv0
    refine aw_iload C dX9_near_6 rfl ?_
    refine aw_aload_n C dX9_near_8 (i := 0) rfl rfl ?_
    refine aw_get (k := 0) C dX9_near_9 fl_X9_34 (by decide) rfl rfl ?_
    refine aw_icmp_gt_n (tgt := 42) C dX9_near_12 (by decide) (by omega) (by omega) (fun h12 => ?_) (fun h12 => ?_)
    · refine aw_iload_n C dX9_near_42 (i := 3) rfl rfl ?_
      refine aw_if_eq_n (tgt := 51) C dX9_near_43 (by decide) (by omega) (fun h43 => ?_) (fun h43 => absurd h43 (by decide))
      refine aw_iload C dX9_near_51 rfl ?_
      refine aw_iret C hr dX9_near_53 ?_
      exact PI.mk (by rw [show y = span + 1 by omega]; rfl) rfl
    · refine aw_aload_n C dX9_near_15 (i := 0) rfl rfl ?_
      refine aw_iload_n C dX9_near_16 (i := 1) rfl rfl ?_
      refine aw_iload_n C dX9_near_17 (i := 2) rfl rfl ?_
      refine aw_iload C dX9_near_18 rfl ?_
      refine aw_V3i (k := 0) C dX9_near_20 cv_X9_117 (by decide) rfl rfl rfl (cm_areNear hI hi hk (by omega) hs hs2) ⟨Nat.le_of_ble_eq_true rfl, Nat.le_of_ble_eq_true rfl⟩ (Nat.le_of_ble_eq_true rfl) ?_
      refine aw_if_eq_b (tgt := 36) C dX9_near_23 (by decide) (fun h23 => ?_) (fun h23 => ?_)
      · refine aw_iinc_n (lv' := [(0, _), (1, _), (2, _), (3, _), (4, _), (5, _)]) C dX9_near_36 rfl ki_1 (Nat.le_of_ble_eq_true rfl) rfl ?_
        refine aw_goto (tgt := 6) C dX9_near_39 (by decide) ?_
        have e := cntB_n h23
        have k9 := ih (y + 1) (by omega) (by omega)
        rw [e] at k9
        exact k9
      · refine aw_iload_n C dX9_near_26 (i := 3) rfl rfl ?_
        refine aw_if_eq_n (tgt := 33) C dX9_near_27 (by decide) (by omega) (fun h27 => ?_) (fun h27 => absurd h27 (by decide))
        refine aw_iinc_n (lv' := [(0, _), (1, _), (2, _), (3, _), (4, _), (5, _)]) C dX9_near_33 rfl ki_1 (Nat.le_of_ble_eq_true rfl) rfl ?_
        refine aw_iinc_n (lv' := [(0, _), (1, _), (2, _), (3, _), (4, _), (5, _)]) C dX9_near_36 rfl ki_1 (Nat.le_of_ble_eq_true rfl) rfl ?_
        refine aw_goto (tgt := 6) C dX9_near_39 (by decide) ?_
        have e := cntB_t h23
        have k9 := ih (y + 1) (by omega) (by omega)
        rw [e] at k9
        exact k9
set_option maxRecDepth 20000 in
/-- near -/
theorem cm_nearC {l : Launch} {D : va_G} {cy : Nat → ClassId} {z : Nat → Nat} {q : Nat → Nat} (hI : wI 9 q) {len span wires chg rsp rwi val ends : Nat} {text : Nat → Nat} {h was rd eyes fw bars ways : Nat → Int32} {i k : Nat} (hi : i < 8) (hk : k < 8) (hs : 8 ≤ span) (hs2 : span ≤ 40) : Ct l yX9_near cX9_near 6 (some .int) 2 48 D cy z 9 q [.ref (q 0), .int (nI i), .int (nI k), .int (nI 0)] (mdC cy q len span wires chg rsp rwi val ends text h was rd eyes fw bars ways) (PI (nI (nrC h span i k)) (mdC cy q len span wires chg rsp rwi val ends text h was rd eyes fw bars ways)) := by
  refine Ct.of (own := RX9) (by decide) rfl hI (Nat.le_of_ble_eq_true rfl) ?_
  intro p e s m args below meth c C hr
  refine aw_lv (lv' := [(0, .ref (q 0)), (1, .int (nI i)), (2, .int (nI k)), (3, .int (nI 0))]) (fun x hx => hx) ?_
  refine aw_iconst C dX9_near_0 ki_0 ?_
  refine aw_istore (lv' := [(0, _), (1, _), (2, _), (3, _), (4, _)]) C dX9_near_1 (Nat.le_of_ble_eq_true rfl) rfl ?_
  refine aw_iconst C dX9_near_3 ki_0 ?_
  refine aw_istore (lv' := [(0, _), (1, _), (2, _), (3, _), (4, _), (5, _)]) C dX9_near_4 (Nat.le_of_ble_eq_true rfl) rfl ?_
  exact cm_nearC_l hI C hr hi hk hs hs2 (span + 2) 0 (by omega) (by omega)
set_option maxRecDepth 20000 in
/-- cross -/
theorem cm_cross {l : Launch} {D : va_G} {cy : Nat → ClassId} {z : Nat → Nat} {q : Nat → Nat} (hI : wI 9 q) {len span wires chg rsp rwi val ends : Nat} {text : Nat → Nat} {h was rd eyes fw bars ways : Nat → Int32} {i k : Nat} (hi : i < 8) (hk : k < 8) (hs : 8 ≤ span) (hs2 : span ≤ 40) : Ct l yX9_cross cX9_cross 5 (some .boolean) 1 22 D cy z 9 q [.ref (q 0), .int (nI i), .int (nI k)] (mdC cy q len span wires chg rsp rwi val ends text h was rd eyes fw bars ways) (PI (bi (crs h span i k)) (mdC cy q len span wires chg rsp rwi val ends text h was rd eyes fw bars ways)) := by
  refine Ct.of (own := RX9) (by decide) rfl hI (Nat.le_of_ble_eq_true rfl) ?_
  intro p e s m args below meth c C hr
  refine aw_lv (lv' := [(0, .ref (q 0)), (1, .int (nI i)), (2, .int (nI k))]) (fun x hx => hx) ?_
  refine aw_aload_n C dX9_cross_0 (i := 0) rfl rfl ?_
  refine aw_iload_n C dX9_cross_1 (i := 1) rfl rfl ?_
  refine aw_iconst C dX9_cross_2 ki_0 ?_
  refine aw_V2i (k := 0) C dX9_cross_3 cv_X9_102 (by decide) rfl rfl rfl (cm_placeOf hI (by omega) (by omega)) ⟨Nat.le_of_ble_eq_true rfl, Nat.le_of_ble_eq_true rfl⟩ (Nat.le_of_ble_eq_true rfl) ?_
  refine aw_aload_n C dX9_cross_6 (i := 0) rfl rfl ?_
  refine aw_iload_n C dX9_cross_7 (i := 2) rfl rfl ?_
  refine aw_iconst C dX9_cross_8 ki_0 ?_
  refine aw_V2i (k := 0) C dX9_cross_9 cv_X9_102 (by decide) rfl rfl rfl (cm_placeOf hI (by omega) (by omega)) ⟨Nat.le_of_ble_eq_true rfl, Nat.le_of_ble_eq_true rfl⟩ (Nat.le_of_ble_eq_true rfl) ?_
  refine aw_isub C dX9_cross_12 ?_
  refine aw_istore_n (lv' := [(0, _), (1, _), (2, _), (3, _)]) C dX9_cross_13 (i := 3) rfl (Nat.le_of_ble_eq_true rfl) rfl ?_
  refine aw_aload_n C dX9_cross_14 (i := 0) rfl rfl ?_
  refine aw_iload_n C dX9_cross_15 (i := 1) rfl rfl ?_
  refine aw_aload_n C dX9_cross_16 (i := 0) rfl rfl ?_
  refine aw_get (k := 0) C dX9_cross_17 fl_X9_34 (by decide) rfl rfl ?_
  refine aw_V2i (k := 0) C dX9_cross_20 cv_X9_102 (by decide) rfl rfl rfl (cm_placeOf hI (by omega) (by omega)) ⟨Nat.le_of_ble_eq_true rfl, Nat.le_of_ble_eq_true rfl⟩ (Nat.le_of_ble_eq_true rfl) ?_
  refine aw_aload_n C dX9_cross_23 (i := 0) rfl rfl ?_
  refine aw_iload_n C dX9_cross_24 (i := 2) rfl rfl ?_
  refine aw_aload_n C dX9_cross_25 (i := 0) rfl rfl ?_
  refine aw_get (k := 0) C dX9_cross_26 fl_X9_34 (by decide) rfl rfl ?_
  refine aw_V2i (k := 0) C dX9_cross_29 cv_X9_102 (by decide) rfl rfl rfl (cm_placeOf hI (by omega) (by omega)) ⟨Nat.le_of_ble_eq_true rfl, Nat.le_of_ble_eq_true rfl⟩ (Nat.le_of_ble_eq_true rfl) ?_
  refine aw_isub C dX9_cross_32 ?_
  refine aw_istore (lv' := [(0, _), (1, _), (2, _), (3, _), (4, _)]) C dX9_cross_33 (Nat.le_of_ble_eq_true rfl) rfl ?_
  refine aw_iload_n C dX9_cross_35 (i := 3) rfl rfl ?_
  refine aw_if_ge (tgt := 44) C dX9_cross_36 (by decide) (fun h36 => ?_) (fun h36 => ?_)
  · refine aw_iload_n C dX9_cross_44 (i := 3) rfl rfl ?_
    refine aw_if_le (tgt := 57) C dX9_cross_45 (by decide) (fun h45 => ?_) (fun h45 => ?_)
    · refine aw_iconst C dX9_cross_57 ki_0 ?_
      refine aw_zret C hr dX9_cross_58 (by decide) ?_
      refine PI.mk (bi_g ?_) rfl
      unfold crs
      simp only [Bool.and_eq_true, Bool.or_eq_true, decide_eq_true_eq, Int32.le_iff_toInt_le, Int32.lt_iff_toInt_lt] at h36 h45 ⊢
      omega
    · refine aw_iload C dX9_cross_48 rfl ?_
      refine aw_if_ge (tgt := 57) C dX9_cross_50 (by decide) (fun h50 => ?_) (fun h50 => ?_)
      · refine aw_iconst C dX9_cross_57 ki_0 ?_
        refine aw_zret C hr dX9_cross_58 (by decide) ?_
        refine PI.mk (bi_g ?_) rfl
        unfold crs
        simp only [Bool.and_eq_true, Bool.or_eq_true, decide_eq_true_eq, Int32.le_iff_toInt_le, Int32.lt_iff_toInt_lt] at h36 h45 h50 ⊢
        omega
      · refine aw_iconst C dX9_cross_53 ki_1 ?_
        refine aw_goto (tgt := 58) C dX9_cross_54 (by decide) ?_
        refine aw_zret C hr dX9_cross_58 (by decide) ?_
        refine PI.mk (bi_t ?_) rfl
        unfold crs
        simp only [Bool.and_eq_true, Bool.or_eq_true, decide_eq_true_eq, Int32.le_iff_toInt_le, Int32.lt_iff_toInt_lt] at h36 h45 h50 ⊢
        omega
  · refine aw_iload C dX9_cross_39 rfl ?_
    refine aw_if_gt (tgt := 53) C dX9_cross_41 (by decide) (fun h41 => ?_) (fun h41 => ?_)
    · refine aw_iconst C dX9_cross_53 ki_1 ?_
      refine aw_goto (tgt := 58) C dX9_cross_54 (by decide) ?_
      refine aw_zret C hr dX9_cross_58 (by decide) ?_
      refine PI.mk (bi_t ?_) rfl
      unfold crs
      simp only [Bool.and_eq_true, Bool.or_eq_true, decide_eq_true_eq, Int32.le_iff_toInt_le, Int32.lt_iff_toInt_lt] at h36 h41 ⊢
      omega
    · refine aw_iload_n C dX9_cross_44 (i := 3) rfl rfl ?_
      refine aw_if_le (tgt := 57) C dX9_cross_45 (by decide) (fun h45 => ?_) (fun h45 => ?_)
      · refine aw_iconst C dX9_cross_57 ki_0 ?_
        refine aw_zret C hr dX9_cross_58 (by decide) ?_
        refine PI.mk (bi_g ?_) rfl
        unfold crs
        simp only [Bool.and_eq_true, Bool.or_eq_true, decide_eq_true_eq, Int32.le_iff_toInt_le, Int32.lt_iff_toInt_lt] at h36 h41 h45 ⊢
        omega
      · refine aw_iload C dX9_cross_48 rfl ?_
        refine aw_if_ge (tgt := 57) C dX9_cross_50 (by decide) (fun h50 => ?_) (fun h50 => ?_)
        · refine aw_iconst C dX9_cross_57 ki_0 ?_
          refine aw_zret C hr dX9_cross_58 (by decide) ?_
          refine PI.mk (bi_g ?_) rfl
          unfold crs
          simp only [Bool.and_eq_true, Bool.or_eq_true, decide_eq_true_eq, Int32.le_iff_toInt_le, Int32.lt_iff_toInt_lt] at h36 h41 h45 h50 ⊢
          omega
        · refine aw_iconst C dX9_cross_53 ki_1 ?_
          refine aw_goto (tgt := 58) C dX9_cross_54 (by decide) ?_
          refine aw_zret C hr dX9_cross_58 (by decide) ?_
          refine PI.mk (bi_t ?_) rfl
          unfold crs
          simp only [Bool.and_eq_true, Bool.or_eq_true, decide_eq_true_eq, Int32.le_iff_toInt_le, Int32.lt_iff_toInt_lt] at h36 h41 h45 h50 ⊢
          omega
set_option maxRecDepth 20000 in
/-- inWayAt, its loop -/
theorem cm_inWayAt_l {l : Launch} {D : va_G} {cy : Nat → ClassId} {z : Nat → Nat} {q : Nat → Nat} {p : Program} {e : Env} {s : State} {m : MethodId} {args : Array Value} {below : List Frame} {meth : Method} {c : Code} (hI : wI 9 q) (C : Cx p s m args meth c cX9_inWayAt 9 RX9 D cy z 9 q) (hr : meth.sig.returnType = (some .boolean)) {len span wires chg rsp rwi val ends : Nat} {text : Nat → Nat} {h was rd eyes fw bars ways : Nat → Int32} {i k : Nat} (hi : i < 8) (hk : k < 8) {e0 : Nat} (he : e0 ≤ span) (hs : 8 ≤ span) (hs2 : span ≤ 40) : ∀ (d : Nat) (y : Nat), span + 1 - y < d → (y ≤ span + 1) → (∀ j, j < y → ovr h span i k e0 j = false) → AW p l e { frames := 1, cells := 0, slots := 0, locals := 25 } s m args below meth c D 9 q 9 (MQ below (Qg D 9 q (PI (bi (wayA h span i k e0)) (mdC cy q len span wires chg rsp rwi val ends text h was rd eyes fw bars ways)) (wA 9 q s.heap.size)) args s 0 0 (wA 9 q s.heap.size)) (mdC cy q len span wires chg rsp rwi val ends text h was rd eyes fw bars ways) [(0, .ref (q 0)), (1, .int (nI i)), (2, .int (nI k)), (3, .int (nI e0)), (4, .int (hgt h span i e0)), (5, .int (plc h span i e0)), (6, .int (nI y))] 19 [] := by
  intro d
  induction d with
  | zero => intro y hd; exact absurd hd (Nat.not_lt_zero _)
  | succ d ih =>
    intro y hd iv0 iv1
    refine aw_iload C dX9_inWayAt_19 rfl ?_
    refine aw_aload_n C dX9_inWayAt_21 (i := 0) rfl rfl ?_
    refine aw_get (k := 0) C dX9_inWayAt_22 fl_X9_34 (by decide) rfl rfl ?_
    refine aw_icmp_gt_n (tgt := 104) C dX9_inWayAt_25 (by decide) (by omega) (by omega) (fun h25 => ?_) (fun h25 => ?_)
    · refine aw_iconst C dX9_inWayAt_104 ki_0 ?_
      refine aw_zret C hr dX9_inWayAt_105 (by decide) ?_
      exact PI.mk (bi_f (anyB_f.mpr (fun j hj => iv1 j (by omega)))) rfl
    · refine aw_aload_n C dX9_inWayAt_28 (i := 0) rfl rfl ?_
      refine aw_iload_n C dX9_inWayAt_29 (i := 2) rfl rfl ?_
      refine aw_iload C dX9_inWayAt_30 rfl ?_
      refine aw_V2i (k := 0) C dX9_inWayAt_32 cv_X9_108 (by decide) rfl rfl rfl (cm_heightOf hI (by omega) (by omega) hs hs2) ⟨Nat.le_of_ble_eq_true rfl, Nat.le_of_ble_eq_true rfl⟩ (Nat.le_of_ble_eq_true rfl) ?_
      refine aw_iload C dX9_inWayAt_35 rfl ?_
      refine aw_isub C dX9_inWayAt_37 ?_
      refine aw_istore (lv' := [(0, _), (1, _), (2, _), (3, _), (4, _), (5, _), (6, _), (7, _)]) C dX9_inWayAt_38 (Nat.le_of_ble_eq_true rfl) rfl ?_
      refine aw_iconst C dX9_inWayAt_40 ki_2 ?_
      refine aw_aload_n C dX9_inWayAt_41 (i := 0) rfl rfl ?_
      refine aw_get (k := 0) C dX9_inWayAt_42 fl_X9_13 (by decide) rfl rfl ?_
      refine aw_bipush C dX9_inWayAt_45 kb_42 ?_
      refine aw_iald (k := 2) C dX9_inWayAt_47 (by decide) (rfl) (rfl) (by omega) (by decide) (rfl) ?_
      refine aw_imul C dX9_inWayAt_48 ?_
      refine aw_iload C dX9_inWayAt_49 rfl ?_
      refine aw_iadd C dX9_inWayAt_51 ?_
      refine aw_istore (lv' := [(0, _), (1, _), (2, _), (3, _), (4, _), (5, _), (6, _), (7, _), (8, _)]) C dX9_inWayAt_52 (Nat.le_of_ble_eq_true rfl) rfl ?_
      refine aw_iload C dX9_inWayAt_54 rfl ?_
      refine aw_if_lt (tgt := 98) C dX9_inWayAt_56 (by decide) (fun h56 => ?_) (fun h56 => ?_)
      · refine aw_iinc_n (lv' := [(0, _), (1, _), (2, _), (3, _), (4, _), (5, _), (6, _), (7, _), (8, _)]) C dX9_inWayAt_98 rfl ki_1 (Nat.le_of_ble_eq_true rfl) rfl ?_
        refine aw_goto (tgt := 19) C dX9_inWayAt_101 (by decide) ?_
        refine aw_take 7 (lv' := [(0, _), (1, _), (2, _), (3, _), (4, _), (5, _), (6, _)]) rfl ?_
        exact ih (y + 1) (by omega) (by omega) (fun j hj => by rcases Nat.lt_or_ge j y with g | g; exact iv1 j g; rw [show j = y by omega]; rw [← Bool.not_eq_true]; unfold ovr; simp only [Bool.and_eq_true, Bool.or_eq_true, decide_eq_true_eq, Int32.le_iff_toInt_le, Int32.lt_iff_toInt_lt] at h56 ⊢; omega)
      · refine aw_iconst C dX9_inWayAt_59 ki_2 ?_
        refine aw_iload C dX9_inWayAt_60 rfl ?_
        refine aw_iload_n C dX9_inWayAt_62 (i := 3) rfl rfl ?_
        refine aw_S2i C dX9_inWayAt_63 cs_X9_105 (cm_distance hI) ⟨Nat.le_of_ble_eq_true rfl, Nat.le_of_ble_eq_true rfl⟩ (Nat.le_of_ble_eq_true rfl) ?_
        refine aw_imul C dX9_inWayAt_66 ?_
        refine aw_iload C dX9_inWayAt_67 rfl ?_
        refine aw_icmp_ge (tgt := 98) C dX9_inWayAt_69 (by decide) (fun h69 => ?_) (fun h69 => ?_)
        · refine aw_iinc_n (lv' := [(0, _), (1, _), (2, _), (3, _), (4, _), (5, _), (6, _), (7, _), (8, _)]) C dX9_inWayAt_98 rfl ki_1 (Nat.le_of_ble_eq_true rfl) rfl ?_
          refine aw_goto (tgt := 19) C dX9_inWayAt_101 (by decide) ?_
          refine aw_take 7 (lv' := [(0, _), (1, _), (2, _), (3, _), (4, _), (5, _), (6, _)]) rfl ?_
          exact ih (y + 1) (by omega) (by omega) (fun j hj => by rcases Nat.lt_or_ge j y with g | g; exact iv1 j g; rw [show j = y by omega]; rw [← Bool.not_eq_true]; unfold ovr; simp only [Bool.and_eq_true, Bool.or_eq_true, decide_eq_true_eq, Int32.le_iff_toInt_le, Int32.lt_iff_toInt_lt] at h56 h69 ⊢; omega)
        · refine aw_iconst C dX9_inWayAt_72 ki_2 ?_
          refine aw_aload_n C dX9_inWayAt_73 (i := 0) rfl rfl ?_
          refine aw_iload_n C dX9_inWayAt_74 (i := 2) rfl rfl ?_
          refine aw_iload C dX9_inWayAt_75 rfl ?_
          refine aw_V2i (k := 0) C dX9_inWayAt_77 cv_X9_102 (by decide) rfl rfl rfl (cm_placeOf hI (by omega) (by omega)) ⟨Nat.le_of_ble_eq_true rfl, Nat.le_of_ble_eq_true rfl⟩ (Nat.le_of_ble_eq_true rfl) ?_
          refine aw_iload C dX9_inWayAt_80 rfl ?_
          refine aw_S2i C dX9_inWayAt_82 cs_X9_105 (cm_distance hI) ⟨Nat.le_of_ble_eq_true rfl, Nat.le_of_ble_eq_true rfl⟩ (Nat.le_of_ble_eq_true rfl) ?_
          refine aw_imul C dX9_inWayAt_85 ?_
          refine aw_aload_n C dX9_inWayAt_86 (i := 0) rfl rfl ?_
          refine aw_get (k := 0) C dX9_inWayAt_87 fl_X9_34 (by decide) rfl rfl ?_
          refine aw_iload C dX9_inWayAt_90 rfl ?_
          refine aw_imul C dX9_inWayAt_92 ?_
          refine aw_icmp_ge (tgt := 98) C dX9_inWayAt_93 (by decide) (fun h93 => ?_) (fun h93 => ?_)
          · refine aw_iinc_n (lv' := [(0, _), (1, _), (2, _), (3, _), (4, _), (5, _), (6, _), (7, _), (8, _)]) C dX9_inWayAt_98 rfl ki_1 (Nat.le_of_ble_eq_true rfl) rfl ?_
            refine aw_goto (tgt := 19) C dX9_inWayAt_101 (by decide) ?_
            refine aw_take 7 (lv' := [(0, _), (1, _), (2, _), (3, _), (4, _), (5, _), (6, _)]) rfl ?_
            exact ih (y + 1) (by omega) (by omega) (fun j hj => by rcases Nat.lt_or_ge j y with g | g; exact iv1 j g; rw [show j = y by omega]; rw [← Bool.not_eq_true]; unfold ovr; simp only [Bool.and_eq_true, Bool.or_eq_true, decide_eq_true_eq, Int32.le_iff_toInt_le, Int32.lt_iff_toInt_lt] at h56 h69 h93 ⊢; omega)
          · refine aw_iconst C dX9_inWayAt_96 ki_1 ?_
            refine aw_zret C hr dX9_inWayAt_97 (by decide) ?_
            exact PI.mk (bi_t (anyB_t.mpr ⟨y, by omega, by unfold ovr; simp only [Bool.and_eq_true, decide_eq_true_eq]; exact ⟨i_le h56, i_lt h69, i_lt h93⟩⟩)) rfl
set_option maxRecDepth 20000 in
/-- inWayAt -/
theorem cm_inWayAt {l : Launch} {D : va_G} {cy : Nat → ClassId} {z : Nat → Nat} {q : Nat → Nat} (hI : wI 9 q) {len span wires chg rsp rwi val ends : Nat} {text : Nat → Nat} {h was rd eyes fw bars ways : Nat → Int32} {i k : Nat} (hi : i < 8) (hk : k < 8) {e0 : Nat} (he : e0 ≤ span) (hs : 8 ≤ span) (hs2 : span ≤ 40) : Ct l yX9_inWayAt cX9_inWayAt 9 (some .boolean) 1 25 D cy z 9 q [.ref (q 0), .int (nI i), .int (nI k), .int (nI e0)] (mdC cy q len span wires chg rsp rwi val ends text h was rd eyes fw bars ways) (PI (bi (wayA h span i k e0)) (mdC cy q len span wires chg rsp rwi val ends text h was rd eyes fw bars ways)) := by
  refine Ct.of (own := RX9) (by decide) rfl hI (Nat.le_of_ble_eq_true rfl) ?_
  intro p e s m args below meth c C hr
  refine aw_lv (lv' := [(0, .ref (q 0)), (1, .int (nI i)), (2, .int (nI k)), (3, .int (nI e0))]) (fun x hx => hx) ?_
  refine aw_aload_n C dX9_inWayAt_0 (i := 0) rfl rfl ?_
  refine aw_iload_n C dX9_inWayAt_1 (i := 1) rfl rfl ?_
  refine aw_iload_n C dX9_inWayAt_2 (i := 3) rfl rfl ?_
  refine aw_V2i (k := 0) C dX9_inWayAt_3 cv_X9_108 (by decide) rfl rfl rfl (cm_heightOf hI (by omega) (by omega) hs hs2) ⟨Nat.le_of_ble_eq_true rfl, Nat.le_of_ble_eq_true rfl⟩ (Nat.le_of_ble_eq_true rfl) ?_
  refine aw_istore (lv' := [(0, _), (1, _), (2, _), (3, _), (4, _)]) C dX9_inWayAt_6 (Nat.le_of_ble_eq_true rfl) rfl ?_
  refine aw_aload_n C dX9_inWayAt_8 (i := 0) rfl rfl ?_
  refine aw_iload_n C dX9_inWayAt_9 (i := 1) rfl rfl ?_
  refine aw_iload_n C dX9_inWayAt_10 (i := 3) rfl rfl ?_
  refine aw_V2i (k := 0) C dX9_inWayAt_11 cv_X9_102 (by decide) rfl rfl rfl (cm_placeOf hI (by omega) (by omega)) ⟨Nat.le_of_ble_eq_true rfl, Nat.le_of_ble_eq_true rfl⟩ (Nat.le_of_ble_eq_true rfl) ?_
  refine aw_istore (lv' := [(0, _), (1, _), (2, _), (3, _), (4, _), (5, _)]) C dX9_inWayAt_14 (Nat.le_of_ble_eq_true rfl) rfl ?_
  refine aw_iconst C dX9_inWayAt_16 ki_0 ?_
  refine aw_istore (lv' := [(0, _), (1, _), (2, _), (3, _), (4, _), (5, _), (6, _)]) C dX9_inWayAt_17 (Nat.le_of_ble_eq_true rfl) rfl ?_
  exact cm_inWayAt_l hI C hr hi hk he hs hs2 (span + 2) 0 (by omega) (by omega) (fun j hj => absurd hj (Nat.not_lt_zero j))
set_option maxRecDepth 20000 in
/-- inWay -/
theorem cm_inWay {l : Launch} {D : va_G} {cy : Nat → ClassId} {z : Nat → Nat} {q : Nat → Nat} (hI : wI 9 q) {len span wires chg rsp rwi val ends : Nat} {text : Nat → Nat} {h was rd eyes fw bars ways : Nat → Int32} {i k : Nat} (hi : i < 8) (hk : k < 8) (hs : 8 ≤ span) (hs2 : span ≤ 40) : Ct l yX9_inWay cX9_inWay 3 (some .boolean) 2 53 D cy z 9 q [.ref (q 0), .int (nI i), .int (nI k)] (mdC cy q len span wires chg rsp rwi val ends text h was rd eyes fw bars ways) (PI (bi (way h span i k)) (mdC cy q len span wires chg rsp rwi val ends text h was rd eyes fw bars ways)) := by
  refine Ct.of (own := RX9) (by decide) rfl hI (Nat.le_of_ble_eq_true rfl) ?_
  intro p e s m args below meth c C hr
  refine aw_lv (lv' := [(0, .ref (q 0)), (1, .int (nI i)), (2, .int (nI k))]) (fun x hx => hx) ?_
  refine aw_aload_n C dX9_inWay_0 (i := 0) rfl rfl ?_
  refine aw_iload_n C dX9_inWay_1 (i := 1) rfl rfl ?_
  refine aw_iload_n C dX9_inWay_2 (i := 2) rfl rfl ?_
  refine aw_iconst C dX9_inWay_3 ki_0 ?_
  refine aw_V3i (k := 0) C dX9_inWay_4 cv_X9_120 (by decide) rfl rfl rfl (cm_inWayAt hI hi hk (by omega) hs hs2) ⟨Nat.le_of_ble_eq_true rfl, Nat.le_of_ble_eq_true rfl⟩ (Nat.le_of_ble_eq_true rfl) ?_
  refine aw_if_ne_b (tgt := 23) C dX9_inWay_7 (by decide) (fun h7 => ?_) (fun h7 => ?_)
  · refine aw_iconst C dX9_inWay_23 ki_1 ?_
    refine aw_goto (tgt := 28) C dX9_inWay_24 (by decide) ?_
    refine aw_zret C hr dX9_inWay_28 (by decide) ?_
    exact PI.mk (bi_t (by unfold way; rw [h7]; rfl)) rfl
  · refine aw_aload_n C dX9_inWay_10 (i := 0) rfl rfl ?_
    refine aw_iload_n C dX9_inWay_11 (i := 1) rfl rfl ?_
    refine aw_iload_n C dX9_inWay_12 (i := 2) rfl rfl ?_
    refine aw_aload_n C dX9_inWay_13 (i := 0) rfl rfl ?_
    refine aw_get (k := 0) C dX9_inWay_14 fl_X9_34 (by decide) rfl rfl ?_
    refine aw_V3i (k := 0) C dX9_inWay_17 cv_X9_120 (by decide) rfl rfl rfl (cm_inWayAt hI hi hk (by omega) hs hs2) ⟨Nat.le_of_ble_eq_true rfl, Nat.le_of_ble_eq_true rfl⟩ (Nat.le_of_ble_eq_true rfl) ?_
    refine aw_if_eq_b (tgt := 27) C dX9_inWay_20 (by decide) (fun h20 => ?_) (fun h20 => ?_)
    · refine aw_iconst C dX9_inWay_27 ki_0 ?_
      refine aw_zret C hr dX9_inWay_28 (by decide) ?_
      exact PI.mk (bi_f (by unfold way; rw [h7, h20]; rfl)) rfl
    · refine aw_iconst C dX9_inWay_23 ki_1 ?_
      refine aw_goto (tgt := 28) C dX9_inWay_24 (by decide) ?_
      refine aw_zret C hr dX9_inWay_28 (by decide) ?_
      exact PI.mk (bi_t (by unfold way; rw [h7, h20]; rfl)) rfl
set_option maxRecDepth 20000 in
/-- bits, its loop -/
theorem cm_bits_l {l : Launch} {D : va_G} {cy : Nat → ClassId} {z : Nat → Nat} {q : Nat → Nat} {N : Nat} {p : Program} {e : Env} {s : State} {m : MethodId} {args : Array Value} {below : List Frame} {meth : Method} {c : Code} (hI : wI N q) (C : Cx p s m args meth c cX9_bits 3 RX9 D cy z N q) (hr : meth.sig.returnType = (some .int)) {f : wS} {x : Int32} : ∀ (d : Nat) (k : Nat), 19 - k < d → (k ≤ 19) → AW p l e { frames := 0, cells := 0, slots := 0, locals := 0 } s m args below meth c D N q 3 (MQ below (Qg D N q (PI (bitsI x) f) (wA N q s.heap.size)) args s 0 0 (wA N q s.heap.size)) f [(0, .int x), (1, .int (accI (nI 0) (bt x) k)), (2, .int (nI k))] 4 [] := by
  intro d
  induction d with
  | zero => intro k hd; exact absurd hd (Nat.not_lt_zero _)
  | succ d ih =>
    intro k hd iv0
    refine aw_iload_n C dX9_bits_4 (i := 2) rfl rfl ?_
    refine aw_bipush C dX9_bits_5 kb_19 ?_
    refine aw_icmp_ge_n (tgt := 24) C dX9_bits_7 (by decide) (by omega) (by omega) (fun h7 => ?_) (fun h7 => ?_)
    · refine aw_iload_n C dX9_bits_24 (i := 1) rfl rfl ?_
      refine aw_iret C hr dX9_bits_25 ?_
      exact PI.mk (by rw [show k = 19 by omega]; rfl) rfl
    · refine aw_iload_n C dX9_bits_10 (i := 1) rfl rfl ?_
      refine aw_iload_n C dX9_bits_11 (i := 0) rfl rfl ?_
      refine aw_iload_n C dX9_bits_12 (i := 2) rfl rfl ?_
      refine aw_ishr C dX9_bits_13 ?_
      refine aw_iconst C dX9_bits_14 ki_1 ?_
      refine aw_iand C dX9_bits_15 ?_
      refine aw_iadd C dX9_bits_16 ?_
      refine aw_istore_n (lv' := [(0, _), (1, _), (2, _)]) C dX9_bits_17 (i := 1) rfl (Nat.le_of_ble_eq_true rfl) rfl ?_
      refine aw_iinc_n (lv' := [(0, _), (1, _), (2, _)]) C dX9_bits_18 rfl ki_1 (Nat.le_of_ble_eq_true rfl) rfl ?_
      refine aw_goto (tgt := 4) C dX9_bits_21 (by decide) ?_
      exact ih (k + 1) (by omega) (by omega)
set_option maxRecDepth 20000 in
/-- bits -/
theorem cm_bits {l : Launch} {D : va_G} {cy : Nat → ClassId} {z : Nat → Nat} {q : Nat → Nat} {N : Nat} (hI : wI N q) {f : wS} {x : Int32} : Ct l yX9_bits cX9_bits 3 (some .int) 0 0 D cy z N q [.int x] f (PI (bitsI x) f) := by
  refine Ct.of (own := RX9) (by decide) rfl hI (Nat.le_of_ble_eq_true rfl) ?_
  intro p e s m args below meth c C hr
  refine aw_lv (lv' := [(0, .int x)]) (fun x hx => hx) ?_
  refine aw_iconst C dX9_bits_0 ki_0 ?_
  refine aw_istore_n (lv' := [(0, _), (1, _)]) C dX9_bits_1 (i := 1) rfl (Nat.le_of_ble_eq_true rfl) rfl ?_
  refine aw_iconst C dX9_bits_2 ki_0 ?_
  refine aw_istore_n (lv' := [(0, _), (1, _), (2, _)]) C dX9_bits_3 (i := 2) rfl (Nat.le_of_ble_eq_true rfl) rfl ?_
  exact cm_bits_l hI C hr 20 0 (by omega) (by omega)
set_option maxRecDepth 20000 in
/-- isBarred, its loop -/
theorem cm_isBarred_l {l : Launch} {D : va_G} {cy : Nat → ClassId} {z : Nat → Nat} {q : Nat → Nat} {p : Program} {e : Env} {s : State} {m : MethodId} {args : Array Value} {below : List Frame} {meth : Method} {c : Code} (hI : wI 9 q) (C : Cx p s m args meth c cX9_isBarred 5 RX9 D cy z 9 q) (hr : meth.sig.returnType = (some .boolean)) {len span wires chg rsp rwi val ends : Nat} {text : Nat → Nat} {h was rd eyes fw bars ways : Nat → Int32} {i : Nat} {x : Int32} (hi : i < 8) (hw : wires ≤ 8) (hs : 8 ≤ span) (hs2 : span ≤ 40) : ∀ (d : Nat) (k : Nat) (b : Bool), wires - k < d → (k ≤ wires) → (b = anyB (barP h span i x) k) → AW p l e { frames := 3, cells := 0, slots := 0, locals := 75 } s m args below meth c D 9 q 5 (MQ below (Qg D 9 q (PI (bi (barB h span wires i x)) (mdC cy q len span wires chg rsp rwi val ends text h was rd eyes fw bars ways)) (wA 9 q s.heap.size)) args s 0 0 (wA 9 q s.heap.size)) (mdC cy q len span wires chg rsp rwi val ends text h was rd eyes fw bars ways) [(0, .ref (q 0)), (1, .int (nI i)), (2, .int x), (3, .int (bi b)), (4, .int (nI k))] 5 [] := by
  intro d
  induction d with
  | zero => intro k b hd; exact absurd hd (Nat.not_lt_zero _)
  | succ d ih =>
    intro k b hd iv0 iv1
    refine aw_iload C dX9_isBarred_5 rfl ?_
    refine aw_aload_n C dX9_isBarred_7 (i := 0) rfl rfl ?_
    refine aw_get (k := 0) C dX9_isBarred_8 fl_X9_38 (by decide) rfl rfl ?_
    refine aw_icmp_ge_n (tgt := 56) C dX9_isBarred_11 (by decide) (by omega) (by omega) (fun h11 => ?_) (fun h11 => ?_)
    · refine aw_iload_n C dX9_isBarred_56 (i := 3) rfl rfl ?_
      refine aw_zret C hr dX9_isBarred_57 (bi_nar) ?_
      exact PI.mk (by rw [iv1, show k = wires by omega]; rfl) rfl
    · refine aw_iload_n C dX9_isBarred_14 (i := 3) rfl rfl ?_
      refine aw_if_ne_b (tgt := 44) C dX9_isBarred_15 (by decide) (fun h15 => ?_) (fun h15 => ?_)
      · refine aw_iconst C dX9_isBarred_44 ki_1 ?_
        refine aw_goto (tgt := 49) C dX9_isBarred_45 (by decide) ?_
        refine aw_istore_n (lv' := [(0, _), (1, _), (2, _), (3, _), (4, _)]) C dX9_isBarred_49 (i := 3) rfl (Nat.le_of_ble_eq_true rfl) rfl ?_
        refine aw_iinc_n (lv' := [(0, _), (1, _), (2, _), (3, _), (4, _)]) C dX9_isBarred_50 rfl ki_1 (Nat.le_of_ble_eq_true rfl) rfl ?_
        refine aw_goto (tgt := 5) C dX9_isBarred_53 (by decide) ?_
        exact ih (k + 1) true (by omega) (by omega) (by unfold anyB; rw [← iv1, h15]; rfl)
      · refine aw_iload C dX9_isBarred_18 rfl ?_
        refine aw_iload_n C dX9_isBarred_20 (i := 1) rfl rfl ?_
        refine aw_icmp_eq_n (tgt := 48) C dX9_isBarred_21 (by decide) (by omega) (by omega) (fun h21 => ?_) (fun h21 => ?_)
        · refine aw_iconst C dX9_isBarred_48 ki_0 ?_
          refine aw_istore_n (lv' := [(0, _), (1, _), (2, _), (3, _), (4, _)]) C dX9_isBarred_49 (i := 3) rfl (Nat.le_of_ble_eq_true rfl) rfl ?_
          refine aw_iinc_n (lv' := [(0, _), (1, _), (2, _), (3, _), (4, _)]) C dX9_isBarred_50 rfl ki_1 (Nat.le_of_ble_eq_true rfl) rfl ?_
          refine aw_goto (tgt := 5) C dX9_isBarred_53 (by decide) ?_
          exact ih (k + 1) false (by omega) (by omega) (by unfold anyB; rw [← iv1, h15]; unfold barP bt; simp [h21])
        · refine aw_iload_n C dX9_isBarred_24 (i := 2) rfl rfl ?_
          refine aw_iload C dX9_isBarred_25 rfl ?_
          refine aw_ishr C dX9_isBarred_27 ?_
          refine aw_iconst C dX9_isBarred_28 ki_1 ?_
          refine aw_iand C dX9_isBarred_29 ?_
          refine aw_iconst C dX9_isBarred_30 ki_1 ?_
          refine aw_icmp_ne (tgt := 48) C dX9_isBarred_31 (by decide) (fun h31 => ?_) (fun h31 => ?_)
          · refine aw_iconst C dX9_isBarred_48 ki_0 ?_
            refine aw_istore_n (lv' := [(0, _), (1, _), (2, _), (3, _), (4, _)]) C dX9_isBarred_49 (i := 3) rfl (Nat.le_of_ble_eq_true rfl) rfl ?_
            refine aw_iinc_n (lv' := [(0, _), (1, _), (2, _), (3, _), (4, _)]) C dX9_isBarred_50 rfl ki_1 (Nat.le_of_ble_eq_true rfl) rfl ?_
            refine aw_goto (tgt := 5) C dX9_isBarred_53 (by decide) ?_
            exact ih (k + 1) false (by omega) (by omega) (by unfold anyB; rw [← iv1, h15]; unfold barP bt; simp [h21, h31])
          · refine aw_aload_n C dX9_isBarred_34 (i := 0) rfl rfl ?_
            refine aw_iload_n C dX9_isBarred_35 (i := 1) rfl rfl ?_
            refine aw_iload C dX9_isBarred_36 rfl ?_
            refine aw_V2i (k := 0) C dX9_isBarred_38 cv_X9_130 (by decide) rfl rfl rfl (cm_inWay hI hi (by omega) hs hs2) ⟨Nat.le_of_ble_eq_true rfl, Nat.le_of_ble_eq_true rfl⟩ (Nat.le_of_ble_eq_true rfl) ?_
            refine aw_if_eq_b (tgt := 48) C dX9_isBarred_41 (by decide) (fun h41 => ?_) (fun h41 => ?_)
            · refine aw_iconst C dX9_isBarred_48 ki_0 ?_
              refine aw_istore_n (lv' := [(0, _), (1, _), (2, _), (3, _), (4, _)]) C dX9_isBarred_49 (i := 3) rfl (Nat.le_of_ble_eq_true rfl) rfl ?_
              refine aw_iinc_n (lv' := [(0, _), (1, _), (2, _), (3, _), (4, _)]) C dX9_isBarred_50 rfl ki_1 (Nat.le_of_ble_eq_true rfl) rfl ?_
              refine aw_goto (tgt := 5) C dX9_isBarred_53 (by decide) ?_
              exact ih (k + 1) false (by omega) (by omega) (by unfold anyB; rw [← iv1, h15]; unfold barP bt; simp [h21, h31, h41])
            · refine aw_iconst C dX9_isBarred_44 ki_1 ?_
              refine aw_goto (tgt := 49) C dX9_isBarred_45 (by decide) ?_
              refine aw_istore_n (lv' := [(0, _), (1, _), (2, _), (3, _), (4, _)]) C dX9_isBarred_49 (i := 3) rfl (Nat.le_of_ble_eq_true rfl) rfl ?_
              refine aw_iinc_n (lv' := [(0, _), (1, _), (2, _), (3, _), (4, _)]) C dX9_isBarred_50 rfl ki_1 (Nat.le_of_ble_eq_true rfl) rfl ?_
              refine aw_goto (tgt := 5) C dX9_isBarred_53 (by decide) ?_
              exact ih (k + 1) true (by omega) (by omega) (by unfold anyB; rw [← iv1, h15]; unfold barP bt; simp [h21, h31, h41])
set_option maxRecDepth 20000 in
/-- isBarred -/
theorem cm_isBarred {l : Launch} {D : va_G} {cy : Nat → ClassId} {z : Nat → Nat} {q : Nat → Nat} (hI : wI 9 q) {len span wires chg rsp rwi val ends : Nat} {text : Nat → Nat} {h was rd eyes fw bars ways : Nat → Int32} {i : Nat} {x : Int32} (hi : i < 8) (hw : wires ≤ 8) (hs : 8 ≤ span) (hs2 : span ≤ 40) : Ct l yX9_isBarred cX9_isBarred 5 (some .boolean) 3 75 D cy z 9 q [.ref (q 0), .int (nI i), .int x] (mdC cy q len span wires chg rsp rwi val ends text h was rd eyes fw bars ways) (PI (bi (barB h span wires i x)) (mdC cy q len span wires chg rsp rwi val ends text h was rd eyes fw bars ways)) := by
  refine Ct.of (own := RX9) (by decide) rfl hI (Nat.le_of_ble_eq_true rfl) ?_
  intro p e s m args below meth c C hr
  refine aw_lv (lv' := [(0, .ref (q 0)), (1, .int (nI i)), (2, .int x)]) (fun x hx => hx) ?_
  refine aw_iconst C dX9_isBarred_0 ki_0 ?_
  refine aw_istore_n (lv' := [(0, _), (1, _), (2, _), (3, _)]) C dX9_isBarred_1 (i := 3) rfl (Nat.le_of_ble_eq_true rfl) rfl ?_
  refine aw_iconst C dX9_isBarred_2 ki_0 ?_
  refine aw_istore (lv' := [(0, _), (1, _), (2, _), (3, _), (4, _)]) C dX9_isBarred_3 (Nat.le_of_ble_eq_true rfl) rfl ?_
  exact cm_isBarred_l hI C hr hi hw hs hs2 (wires + 1) 0 false (by omega) (by omega) rfl
