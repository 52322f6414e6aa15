-- the reference: places, heights, who is near, who is in the way
set_option maxRecDepth 20000 in
/-- isIn -/
theorem cm_isIn {l : Launch} {D : va_G} {cy : Nat → ClassId} {z : Nat → Nat} {q : Nat → Nat} {N : Nat} (hI : wI N q) {f : wS} {v lo hi : Int32} : Ct l yX9_isIn cX9_isIn 3 (some .boolean) 0 0 D cy z N q [.int v, .int lo, .int hi] f (PI (bi (inB v lo hi)) f) := by
  refine Ct.of (own := RX9) (by decide) rfl hI (Nat.le_of_ble_eq_true rfl) ?_
  intro p e s m args below meth c C hr
  refine aw_lv (lv' := [(0, .int v), (1, .int lo), (2, .int hi)]) (fun x hx => hx) ?_
  refine aw_iload_n C dX9_isIn_0 (i := 0) rfl rfl ?_
  refine aw_iload_n C dX9_isIn_1 (i := 1) rfl rfl ?_
  refine aw_icmp_lt (tgt := 14) C dX9_isIn_2 (by decide) (fun h2 => ?_) (fun h2 => ?_)
  · refine aw_iconst C dX9_isIn_14 ki_0 ?_
    refine aw_zret C hr dX9_isIn_15 (by decide) ?_
    first | exact PI.mk (bi_t (inB_t (i_le h2) (i_le h7))) rfl | exact PI.mk (bi_f (inB_f1 h2)) rfl | exact PI.mk (bi_f (inB_f2 h7)) rfl
  · refine aw_iload_n C dX9_isIn_5 (i := 0) rfl rfl ?_
    refine aw_iload_n C dX9_isIn_6 (i := 2) rfl rfl ?_
    refine aw_icmp_gt (tgt := 14) C dX9_isIn_7 (by decide) (fun h7 => ?_) (fun h7 => ?_)
    · refine aw_iconst C dX9_isIn_14 ki_0 ?_
      refine aw_zret C hr dX9_isIn_15 (by decide) ?_
      first | exact PI.mk (bi_t (inB_t (i_le h2) (i_le h7))) rfl | exact PI.mk (bi_f (inB_f1 h2)) rfl | exact PI.mk (bi_f (inB_f2 h7)) rfl
    · refine aw_iconst C dX9_isIn_10 ki_1 ?_
      refine aw_goto (tgt := 15) C dX9_isIn_11 (by decide) ?_
      refine aw_zret C hr dX9_isIn_15 (by decide) ?_
      first | exact PI.mk (bi_t (inB_t (i_le h2) (i_le h7))) rfl | exact PI.mk (bi_f (inB_f1 h2)) rfl | exact PI.mk (bi_f (inB_f2 h7)) rfl
set_option maxRecDepth 20000 in
/-- distance -/
theorem cm_distance {l : Launch} {D : va_G} {cy : Nat → ClassId} {z : Nat → Nat} {q : Nat → Nat} {N : Nat} (hI : wI N q) {f : wS} {a b : Int32} : Ct l yX9_distance cX9_distance 2 (some .int) 0 0 D cy z N q [.int a, .int b] f (PI (dst a b) f) := by
  refine Ct.of (own := RX9) (by decide) rfl hI (Nat.le_of_ble_eq_true rfl) ?_
  intro p e s m args below meth c C hr
  refine aw_lv (lv' := [(0, .int a), (1, .int b)]) (fun x hx => hx) ?_
  refine aw_iload_n C dX9_distance_0 (i := 0) rfl rfl ?_
  refine aw_iload_n C dX9_distance_1 (i := 1) rfl rfl ?_
  refine aw_icmp_ge (tgt := 11) C dX9_distance_2 (by decide) (fun h2 => ?_) (fun h2 => ?_)
  · refine aw_iload_n C dX9_distance_11 (i := 0) rfl rfl ?_
    refine aw_iload_n C dX9_distance_12 (i := 1) rfl rfl ?_
    refine aw_isub C dX9_distance_13 ?_
    refine aw_iret C hr dX9_distance_14 ?_
    first | exact PI.mk (if_neg (i_nlt h2)).symm rfl | exact PI.mk (if_pos (i_lt h2)).symm rfl
  · refine aw_iload_n C dX9_distance_5 (i := 1) rfl rfl ?_
    refine aw_iload_n C dX9_distance_6 (i := 0) rfl rfl ?_
    refine aw_isub C dX9_distance_7 ?_
    refine aw_goto (tgt := 14) C dX9_distance_8 (by decide) ?_
    refine aw_iret C hr dX9_distance_14 ?_
    first | exact PI.mk (if_neg (i_nlt h2)).symm rfl | exact PI.mk (if_pos (i_lt h2)).symm rfl
set_option maxRecDepth 20000 in
/-- isWire -/
theorem cm_isWire {l : Launch} {D : va_G} {cy : Nat → ClassId} {z : Nat → Nat} {q : Nat → Nat} (hI : wI 9 q) {len span wires chg rsp rwi val ends : Nat} {text : Nat → Nat} {h was rd eyes fw bars ways : Nat → Int32} {i : Int32} : Ct l yX9_isWire cX9_isWire 2 (some .boolean) 1 22 D cy z 9 q [.ref (q 0), .int i] (mdC cy q len span wires chg rsp rwi val ends text h was rd eyes fw bars ways) (PI (bi (inB i (nI 0) (nI wires - nI 1))) (mdC cy q len span wires chg rsp rwi val ends text h was rd eyes fw bars ways)) := by
  refine Ct.of (own := RX9) (by decide) rfl hI (Nat.le_of_ble_eq_true rfl) ?_
  intro p e s m args below meth c C hr
  refine aw_lv (lv' := [(0, .ref (q 0)), (1, .int i)]) (fun x hx => hx) ?_
  refine aw_iload_n C dX9_isWire_0 (i := 1) rfl rfl ?_
  refine aw_iconst C dX9_isWire_1 ki_0 ?_
  refine aw_aload_n C dX9_isWire_2 (i := 0) rfl rfl ?_
  refine aw_get (k := 0) C dX9_isWire_3 fl_X9_38 (by decide) rfl rfl ?_
  refine aw_iconst C dX9_isWire_6 ki_1 ?_
  refine aw_isub C dX9_isWire_7 ?_
  refine aw_S3i C dX9_isWire_8 cs_X9_54 (cm_isIn hI) ⟨Nat.le_of_ble_eq_true rfl, Nat.le_of_ble_eq_true rfl⟩ (Nat.le_of_ble_eq_true rfl) ?_
  refine aw_zret C hr dX9_isWire_11 (bi_nar) ?_
  exact PI.mk rfl rfl
set_option maxRecDepth 20000 in
/-- placeOf -/
theorem cm_placeOf {l : Launch} {D : va_G} {cy : Nat → ClassId} {z : Nat → Nat} {q : Nat → Nat} (hI : wI 9 q) {len span wires chg rsp rwi val ends : Nat} {text : Nat → Nat} {h was rd eyes fw bars ways : Nat → Int32} {i y : Nat} (hi : i < 8) (hy : y ≤ span) : Ct l yX9_placeOf cX9_placeOf 3 (some .int) 0 0 D cy z 9 q [.ref (q 0), .int (nI i), .int (nI y)] (mdC cy q len span wires chg rsp rwi val ends text h was rd eyes fw bars ways) (PI (plc h span i y) (mdC cy q len span wires chg rsp rwi val ends text h was rd eyes fw bars ways)) := by
  refine Ct.of (own := RX9) (by decide) rfl hI (Nat.le_of_ble_eq_true rfl) ?_
  intro p e s m args below meth c C hr
  refine aw_lv (lv' := [(0, .ref (q 0)), (1, .int (nI i)), (2, .int (nI y))]) (fun x hx => hx) ?_
  refine aw_aload_n C dX9_placeOf_0 (i := 0) rfl rfl ?_
  refine aw_get (k := 0) C dX9_placeOf_1 fl_X9_13 (by decide) rfl rfl ?_
  refine aw_iconst C dX9_placeOf_4 ki_5 ?_
  refine aw_iload_n C dX9_placeOf_5 (i := 1) rfl rfl ?_
  refine aw_imul_n C dX9_placeOf_6 ?_
  refine aw_iald (k := 2) C dX9_placeOf_7 (by decide) (rfl) (rfl) (by omega) (by decide) (rfl) ?_
  refine aw_aload_n C dX9_placeOf_8 (i := 0) rfl rfl ?_
  refine aw_get (k := 0) C dX9_placeOf_9 fl_X9_13 (by decide) rfl rfl ?_
  refine aw_bipush C dX9_placeOf_12 kb_43 ?_
  refine aw_iald (k := 2) C dX9_placeOf_14 (by decide) (rfl) (rfl) (by omega) (by decide) (rfl) ?_
  refine aw_iadd C dX9_placeOf_15 ?_
  refine aw_aload_n C dX9_placeOf_16 (i := 0) rfl rfl ?_
  refine aw_get (k := 0) C dX9_placeOf_17 fl_X9_34 (by decide) rfl rfl ?_
  refine aw_iload_n C dX9_placeOf_20 (i := 2) rfl rfl ?_
  refine aw_isub_n C dX9_placeOf_21 (by omega) ?_
  refine aw_imul C dX9_placeOf_22 ?_
  refine aw_aload_n C dX9_placeOf_23 (i := 0) rfl rfl ?_
  refine aw_get (k := 0) C dX9_placeOf_24 fl_X9_13 (by decide) rfl rfl ?_
  refine aw_iconst C dX9_placeOf_27 ki_5 ?_
  refine aw_iload_n C dX9_placeOf_28 (i := 1) rfl rfl ?_
  refine aw_imul_n C dX9_placeOf_29 ?_
  refine aw_iconst C dX9_placeOf_30 ki_2 ?_
  refine aw_iadd_n C dX9_placeOf_31 ?_
  refine aw_iald (k := 2) C dX9_placeOf_32 (by decide) (rfl) (rfl) (by omega) (by decide) (rfl) ?_
  refine aw_iload_n C dX9_placeOf_33 (i := 2) rfl rfl ?_
  refine aw_imul C dX9_placeOf_34 ?_
  refine aw_iadd C dX9_placeOf_35 ?_
  refine aw_iret C hr dX9_placeOf_36 ?_
  exact PI.mk rfl rfl
set_option maxRecDepth 20000 in
/-- heightOf -/
theorem cm_heightOf {l : Launch} {D : va_G} {cy : Nat → ClassId} {z : Nat → Nat} {q : Nat → Nat} (hI : wI 9 q) {len span wires chg rsp rwi val ends : Nat} {text : Nat → Nat} {h was rd eyes fw bars ways : Nat → Int32} {i y : Nat} (hi : i < 8) (hy : y ≤ span) (hs : 8 ≤ span) (hs2 : span ≤ 40) : Ct l yX9_heightOf cX9_heightOf 6 (some .int) 0 0 D cy z 9 q [.ref (q 0), .int (nI i), .int (nI y)] (mdC cy q len span wires chg rsp rwi val ends text h was rd eyes fw bars ways) (PI (hgt h span i y) (mdC cy q len span wires chg rsp rwi val ends text h was rd eyes fw bars ways)) := by
  refine Ct.of (own := RX9) (by decide) rfl hI (Nat.le_of_ble_eq_true rfl) ?_
  intro p e s m args below meth c C hr
  refine aw_lv (lv' := [(0, .ref (q 0)), (1, .int (nI i)), (2, .int (nI y))]) (fun x hx => hx) ?_
  refine aw_bipush C dX9_heightOf_0 kb_10 ?_
  refine aw_aload_n C dX9_heightOf_2 (i := 0) rfl rfl ?_
  refine aw_get (k := 0) C dX9_heightOf_3 fl_X9_13 (by decide) rfl rfl ?_
  refine aw_iconst C dX9_heightOf_6 ki_5 ?_
  refine aw_iload_n C dX9_heightOf_7 (i := 1) rfl rfl ?_
  refine aw_imul_n C dX9_heightOf_8 ?_
  refine aw_iconst C dX9_heightOf_9 ki_1 ?_
  refine aw_iadd_n C dX9_heightOf_10 ?_
  refine aw_iald (k := 2) C dX9_heightOf_11 (by decide) (rfl) (rfl) (by omega) (by decide) (rfl) ?_
  refine aw_imul C dX9_heightOf_12 ?_
  refine aw_istore_n (lv' := [(0, _), (1, _), (2, _), (3, _)]) C dX9_heightOf_13 (i := 3) rfl (Nat.le_of_ble_eq_true rfl) rfl ?_
  refine aw_aload_n C dX9_heightOf_14 (i := 0) rfl rfl ?_
  refine aw_get (k := 0) C dX9_heightOf_15 fl_X9_13 (by decide) rfl rfl ?_
  refine aw_iconst C dX9_heightOf_18 ki_5 ?_
  refine aw_iload_n C dX9_heightOf_19 (i := 1) rfl rfl ?_
  refine aw_imul_n C dX9_heightOf_20 ?_
  refine aw_iconst C dX9_heightOf_21 ki_4 ?_
  refine aw_iadd_n C dX9_heightOf_22 ?_
  refine aw_iald (k := 2) C dX9_heightOf_23 (by decide) (rfl) (rfl) (by omega) (by decide) (rfl) ?_
  refine aw_istore (lv' := [(0, _), (1, _), (2, _), (3, _), (4, _)]) C dX9_heightOf_24 (Nat.le_of_ble_eq_true rfl) rfl ?_
  refine aw_iload_n C dX9_heightOf_26 (i := 2) rfl rfl ?_
  refine aw_if_eq_n (tgt := 38) C dX9_heightOf_27 (by decide) (by omega) (fun h27 => ?_) (fun h27 => ?_)
  · refine aw_iload_n C dX9_heightOf_38 (i := 2) rfl rfl ?_
    refine aw_if_ne_n (tgt := 46) C dX9_heightOf_39 (by decide) (by omega) (fun h39 => ?_) (fun h39 => ?_)
    · refine aw_iconst C dX9_heightOf_46 ki_0 ?_
      refine aw_iret C hr dX9_heightOf_47 ?_
      refine PI.mk ?_ rfl
      unfold hgt hg
      first | (rw [if_pos h27]; done) | (rw [if_neg (Nat.ne_of_gt h27), if_pos h35]; done) | (exfalso; omega)
    · refine aw_iload_n C dX9_heightOf_42 (i := 3) rfl rfl ?_
      refine aw_goto (tgt := 47) C dX9_heightOf_43 (by decide) ?_
      refine aw_iret C hr dX9_heightOf_47 ?_
      refine PI.mk ?_ rfl
      unfold hgt hg
      first | (rw [if_pos h27]; done) | (rw [if_neg (Nat.ne_of_gt h27), if_pos h35]; done) | (exfalso; omega)
  · refine aw_iload_n C dX9_heightOf_30 (i := 2) rfl rfl ?_
    refine aw_aload_n C dX9_heightOf_31 (i := 0) rfl rfl ?_
    refine aw_get (k := 0) C dX9_heightOf_32 fl_X9_34 (by decide) rfl rfl ?_
    refine aw_icmp_ne_n (tgt := 48) C dX9_heightOf_35 (by decide) (by omega) (by omega) (fun h35 => ?_) (fun h35 => ?_)
    · refine aw_aload_n C dX9_heightOf_48 (i := 0) rfl rfl ?_
      refine aw_get (k := 0) C dX9_heightOf_49 fl_X9_13 (by decide) rfl rfl ?_
      refine aw_iconst C dX9_heightOf_52 ki_5 ?_
      refine aw_iload_n C dX9_heightOf_53 (i := 1) rfl rfl ?_
      refine aw_imul_n C dX9_heightOf_54 ?_
      refine aw_iconst C dX9_heightOf_55 ki_3 ?_
      refine aw_iadd_n C dX9_heightOf_56 ?_
      refine aw_iald (k := 2) C dX9_heightOf_57 (by decide) (rfl) (rfl) (by omega) (by decide) (rfl) ?_
      refine aw_if_ne (tgt := 66) C dX9_heightOf_58 (by decide) (fun h58 => ?_) (fun h58 => ?_)
      · refine aw_aload_n C dX9_heightOf_66 (i := 0) rfl rfl ?_
        refine aw_get (k := 0) C dX9_heightOf_67 fl_X9_13 (by decide) rfl rfl ?_
        refine aw_iconst C dX9_heightOf_70 ki_5 ?_
        refine aw_iload_n C dX9_heightOf_71 (i := 1) rfl rfl ?_
        refine aw_imul_n C dX9_heightOf_72 ?_
        refine aw_iconst C dX9_heightOf_73 ki_3 ?_
        refine aw_iadd_n C dX9_heightOf_74 ?_
        refine aw_iald (k := 2) C dX9_heightOf_75 (by decide) (rfl) (rfl) (by omega) (by decide) (rfl) ?_
        refine aw_iconst C dX9_heightOf_76 ki_1 ?_
        refine aw_icmp_ne (tgt := 118) C dX9_heightOf_77 (by decide) (fun h77 => ?_) (fun h77 => ?_)
        · refine aw_aload_n C dX9_heightOf_118 (i := 0) rfl rfl ?_
          refine aw_get (k := 0) C dX9_heightOf_119 fl_X9_34 (by decide) rfl rfl ?_
          refine aw_iconst C dX9_heightOf_122 ki_4 ?_
          refine aw_idiv_n C dX9_heightOf_123 (by omega) (by omega) (by omega) ?_
          refine aw_istore (lv' := [(0, _), (1, _), (2, _), (3, _), (4, _), (5, _)]) C dX9_heightOf_124 (Nat.le_of_ble_eq_true rfl) rfl ?_
          refine aw_iload_n C dX9_heightOf_126 (i := 2) rfl rfl ?_
          refine aw_iload C dX9_heightOf_127 rfl ?_
          refine aw_icmp_ge_n (tgt := 144) C dX9_heightOf_129 (by decide) (by omega) (by omega) (fun h129 => ?_) (fun h129 => ?_)
          · refine aw_iload_n C dX9_heightOf_144 (i := 3) rfl rfl ?_
            refine aw_iload C dX9_heightOf_145 rfl ?_
            refine aw_iadd C dX9_heightOf_147 ?_
            refine aw_aload_n C dX9_heightOf_148 (i := 0) rfl rfl ?_
            refine aw_get (k := 0) C dX9_heightOf_149 fl_X9_34 (by decide) rfl rfl ?_
            refine aw_iload_n C dX9_heightOf_152 (i := 2) rfl rfl ?_
            refine aw_isub_n C dX9_heightOf_153 (by omega) ?_
            refine aw_imul C dX9_heightOf_154 ?_
            refine aw_aload_n C dX9_heightOf_155 (i := 0) rfl rfl ?_
            refine aw_get (k := 0) C dX9_heightOf_156 fl_X9_34 (by decide) rfl rfl ?_
            refine aw_iload C dX9_heightOf_159 rfl ?_
            refine aw_isub_n C dX9_heightOf_161 (by omega) ?_
            refine aw_idiv C dX9_heightOf_162 (nI_ne0 (by omega) (by omega)) ?_
            refine aw_iret C hr dX9_heightOf_163 ?_
            refine PI.mk ?_ rfl
            unfold hgt hg
            rw [if_neg (Nat.ne_of_gt h27), if_neg h35, if_neg h58, if_neg h77]
            first | (rw [if_pos h129]; done) | (rw [if_neg (Nat.not_lt.mpr h129)]; done)
          · refine aw_iload_n C dX9_heightOf_132 (i := 3) rfl rfl ?_
            refine aw_iload C dX9_heightOf_133 rfl ?_
            refine aw_iload_n C dX9_heightOf_135 (i := 2) rfl rfl ?_
            refine aw_imul C dX9_heightOf_136 ?_
            refine aw_iload C dX9_heightOf_137 rfl ?_
            refine aw_idiv C dX9_heightOf_139 (nI_ne0 (by omega) (by omega)) ?_
            refine aw_iadd C dX9_heightOf_140 ?_
            refine aw_goto (tgt := 163) C dX9_heightOf_141 (by decide) ?_
            refine aw_iret C hr dX9_heightOf_163 ?_
            refine PI.mk ?_ rfl
            unfold hgt hg
            rw [if_neg (Nat.ne_of_gt h27), if_neg h35, if_neg h58, if_neg h77]
            first | (rw [if_pos h129]; done) | (rw [if_neg (Nat.not_lt.mpr h129)]; done)
        · refine aw_iload_n C dX9_heightOf_80 (i := 3) rfl rfl ?_
          refine aw_aload_n C dX9_heightOf_81 (i := 0) rfl rfl ?_
          refine aw_get (k := 0) C dX9_heightOf_82 fl_X9_34 (by decide) rfl rfl ?_
          refine aw_iload_n C dX9_heightOf_85 (i := 2) rfl rfl ?_
          refine aw_isub_n C dX9_heightOf_86 (by omega) ?_
          refine aw_imul C dX9_heightOf_87 ?_
          refine aw_aload_n C dX9_heightOf_88 (i := 0) rfl rfl ?_
          refine aw_get (k := 0) C dX9_heightOf_89 fl_X9_34 (by decide) rfl rfl ?_
          refine aw_idiv C dX9_heightOf_92 (nI_ne0 (by omega) (by omega)) ?_
          refine aw_iconst C dX9_heightOf_93 ki_4 ?_
          refine aw_iload C dX9_heightOf_94 rfl ?_
          refine aw_imul C dX9_heightOf_96 ?_
          refine aw_iload_n C dX9_heightOf_97 (i := 2) rfl rfl ?_
          refine aw_imul C dX9_heightOf_98 ?_
          refine aw_aload_n C dX9_heightOf_99 (i := 0) rfl rfl ?_
          refine aw_get (k := 0) C dX9_heightOf_100 fl_X9_34 (by decide) rfl rfl ?_
          refine aw_iload_n C dX9_heightOf_103 (i := 2) rfl rfl ?_
          refine aw_isub_n C dX9_heightOf_104 (by omega) ?_
          refine aw_imul C dX9_heightOf_105 ?_
          refine aw_aload_n C dX9_heightOf_106 (i := 0) rfl rfl ?_
          refine aw_get (k := 0) C dX9_heightOf_107 fl_X9_34 (by decide) rfl rfl ?_
          refine aw_aload_n C dX9_heightOf_110 (i := 0) rfl rfl ?_
          refine aw_get (k := 0) C dX9_heightOf_111 fl_X9_34 (by decide) rfl rfl ?_
          refine aw_imul_n C dX9_heightOf_114 ?_
          refine aw_idiv C dX9_heightOf_115 (nI_ne0 (Nat.mul_pos (by omega) (by omega)) (by have := Nat.mul_le_mul hs2 hs2; omega)) ?_
          refine aw_iadd C dX9_heightOf_116 ?_
          refine aw_iret C hr dX9_heightOf_117 ?_
          refine PI.mk ?_ rfl
          unfold hgt hg
          rw [if_neg (Nat.ne_of_gt h27), if_neg h35, if_neg h58, if_pos h77]
      · refine aw_iload_n C dX9_heightOf_61 (i := 3) rfl rfl ?_
        refine aw_iload C dX9_heightOf_62 rfl ?_
        refine aw_iadd C dX9_heightOf_64 ?_
        refine aw_iret C hr dX9_heightOf_65 ?_
        refine PI.mk ?_ rfl
        unfold hgt hg
        rw [if_neg (Nat.ne_of_gt h27), if_neg h35, if_pos h58]
    · refine aw_iload_n C dX9_heightOf_38 (i := 2) rfl rfl ?_
      refine aw_if_ne_n (tgt := 46) C dX9_heightOf_39 (by decide) (by omega) (fun h39 => ?_) (fun h39 => ?_)
      · refine aw_iconst C dX9_heightOf_46 ki_0 ?_
        refine aw_iret C hr dX9_heightOf_47 ?_
        refine PI.mk ?_ rfl
        unfold hgt hg
        first | (rw [if_pos h27]; done) | (rw [if_neg (Nat.ne_of_gt h27), if_pos h35]; done) | (exfalso; omega)
      · refine aw_iload_n C dX9_heightOf_42 (i := 3) rfl rfl ?_
        refine aw_goto (tgt := 47) C dX9_heightOf_43 (by decide) ?_
        refine aw_iret C hr dX9_heightOf_47 ?_
        refine PI.mk ?_ rfl
        unfold hgt hg
        first | (rw [if_pos h27]; done) | (rw [if_neg (Nat.ne_of_gt h27), if_pos h35]; done) | (exfalso; omega)
