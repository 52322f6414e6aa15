-- the reference: the eyes
set_option maxRecDepth 20000 in
/-- isSight -/
theorem cm_isSight {l : Launch} {D : va_G} {cy : Nat → ClassId} {z : Nat → Nat} {q : Nat → Nat} {N : Nat} (hI : wI N q) {f : wS} {t a b : Int32} : Ct l yX9_isSight cX9_isSight 3 (some .boolean) 1 22 D cy z N q [.int t, .int a, .int b] f (PI (bi (sgB t a b)) f) := by
  refine Ct.of (own := RX9) (by decide) rfl hI (Nat.le_of_ble_eq_true rfl) ?_
  intro p e s m args below meth c C hr
  refine aw_lv (lv' := [(0, .int t), (1, .int a), (2, .int b)]) (fun x hx => hx) ?_
  refine aw_iload_n C dX9_isSight_0 (i := 0) rfl rfl ?_
  refine aw_iconst C dX9_isSight_1 ki_0 ?_
  refine aw_iconst C dX9_isSight_2 ki_2 ?_
  refine aw_S3i C dX9_isSight_3 cs_X9_54 (cm_isIn hI) ⟨Nat.le_of_ble_eq_true rfl, Nat.le_of_ble_eq_true rfl⟩ (Nat.le_of_ble_eq_true rfl) ?_
  refine aw_if_eq_b (tgt := 41) C dX9_isSight_6 (by decide) (fun h6 => ?_) (fun h6 => ?_)
  · refine aw_iconst C dX9_isSight_41 ki_0 ?_
    refine aw_zret C hr dX9_isSight_42 (by decide) ?_
    exact PI.mk (bi_f (by unfold sgB; simp [h6])) rfl
  · refine aw_iload_n C dX9_isSight_9 (i := 1) rfl rfl ?_
    refine aw_iconst C dX9_isSight_10 ki_0 ?_
    refine aw_bipush C dX9_isSight_11 kb_60 ?_
    refine aw_S3i C dX9_isSight_13 cs_X9_54 (cm_isIn hI) ⟨Nat.le_of_ble_eq_true rfl, Nat.le_of_ble_eq_true rfl⟩ (Nat.le_of_ble_eq_true rfl) ?_
    refine aw_if_eq_b (tgt := 41) C dX9_isSight_16 (by decide) (fun h16 => ?_) (fun h16 => ?_)
    · refine aw_iconst C dX9_isSight_41 ki_0 ?_
      refine aw_zret C hr dX9_isSight_42 (by decide) ?_
      exact PI.mk (bi_f (by unfold sgB; simp [h6, h16])) rfl
    · refine aw_iload_n C dX9_isSight_19 (i := 2) rfl rfl ?_
      refine aw_iload_n C dX9_isSight_20 (i := 1) rfl rfl ?_
      refine aw_bipush C dX9_isSight_21 kb_60 ?_
      refine aw_S3i C dX9_isSight_23 cs_X9_54 (cm_isIn hI) ⟨Nat.le_of_ble_eq_true rfl, Nat.le_of_ble_eq_true rfl⟩ (Nat.le_of_ble_eq_true rfl) ?_
      refine aw_if_eq_b (tgt := 41) C dX9_isSight_26 (by decide) (fun h26 => ?_) (fun h26 => ?_)
      · refine aw_iconst C dX9_isSight_41 ki_0 ?_
        refine aw_zret C hr dX9_isSight_42 (by decide) ?_
        exact PI.mk (bi_f (by unfold sgB; simp [h6, h16, h26])) rfl
      · refine aw_iload_n C dX9_isSight_29 (i := 2) rfl rfl ?_
        refine aw_iload_n C dX9_isSight_30 (i := 1) rfl rfl ?_
        refine aw_isub C dX9_isSight_31 ?_
        refine aw_bipush C dX9_isSight_32 kb_20 ?_
        refine aw_icmp_ge (tgt := 41) C dX9_isSight_34 (by decide) (fun h34 => ?_) (fun h34 => ?_)
        · refine aw_iconst C dX9_isSight_41 ki_0 ?_
          refine aw_zret C hr dX9_isSight_42 (by decide) ?_
          exact PI.mk (bi_f (by unfold sgB; simp [h6, h16, h26, i_nlt h34])) rfl
        · refine aw_iconst C dX9_isSight_37 ki_1 ?_
          refine aw_goto (tgt := 42) C dX9_isSight_38 (by decide) ?_
          refine aw_zret C hr dX9_isSight_42 (by decide) ?_
          exact PI.mk (bi_t (by unfold sgB; simp [h6, h16, h26, i_lt h34])) rfl
set_option maxRecDepth 20000 in
/-- seen, its loop -/
theorem cm_seen_l {l : Launch} {D : va_G} {cy : Nat → ClassId} {z : Nat → Nat} {q : Nat → Nat} {p : Program} {e : Env} {s : State} {m : MethodId} {args : Array Value} {below : List Frame} {meth : Method} {c : Code} (hI : wI 9 q) (C : Cx p s m args meth c cX9_seen 9 RX9 D cy z 9 q) (hr : meth.sig.returnType = (some .int)) {len span wires chg rsp rwi val ends : Nat} {text : Nat → Nat} {h was rd eyes fw bars ways : Nat → Int32} {t a b x : Int32} (hw : wires ≤ 8) : ∀ (d : Nat) (i : Nat), wires - i < d → (i ≤ wires) → AW p l e { frames := 1, cells := 0, slots := 0, locals := 22 } s m args below meth c D 9 q 9 (MQ below (Qg D 9 q (PI (snI h wires t a b x) (mdC cy q len span wires chg rsp rwi val ends text h was rd eyes fw bars ways)) (wA 9 q s.heap.size)) args s 0 0 (wA 9 q s.heap.size)) (mdC cy q len span wires chg rsp rwi val ends text h was rd eyes fw bars ways) [(0, .ref (q 0)), (1, .int t), (2, .int a), (3, .int b), (4, .int x), (5, .int (snA h t a b x i)), (6, .int (snH h t a b x i)), (7, .int (nI i))] 9 [] := by
  intro d
  induction d with
  | zero => intro i hd; exact absurd hd (Nat.not_lt_zero _)
  | succ d ih =>
    intro i hd iv0
    refine aw_iload C dX9_seen_9 rfl ?_
    refine aw_aload_n C dX9_seen_11 (i := 0) rfl rfl ?_
    refine aw_get (k := 0) C dX9_seen_12 fl_X9_38 (by decide) rfl rfl ?_
    refine aw_icmp_ge_n (tgt := 108) C dX9_seen_15 (by decide) (by omega) (by omega) (fun h15 => ?_) (fun h15 => ?_)
    · refine aw_iload C dX9_seen_108 rfl ?_
      refine aw_iload C dX9_seen_110 rfl ?_
      refine aw_iconst C dX9_seen_112 ki_m1 ?_
      refine aw_ixor C dX9_seen_113 ?_
      refine aw_iand C dX9_seen_114 ?_
      refine aw_iret C hr dX9_seen_115 ?_
      exact PI.mk (by rw [show i = wires by omega]; rfl) rfl
    · refine aw_aload_n C dX9_seen_18 (i := 0) rfl rfl ?_
      refine aw_get (k := 0) C dX9_seen_19 fl_X9_13 (by decide) rfl rfl ?_
      refine aw_iconst C dX9_seen_22 ki_5 ?_
      refine aw_iload C dX9_seen_23 rfl ?_
      refine aw_imul_n C dX9_seen_25 ?_
      refine aw_iald (k := 2) C dX9_seen_26 (by decide) (rfl) (rfl) (by omega) (by decide) (rfl) ?_
      refine aw_iload C dX9_seen_27 rfl ?_
      refine aw_iadd C dX9_seen_29 ?_
      refine aw_iload_n C dX9_seen_30 (i := 2) rfl rfl ?_
      refine aw_isub C dX9_seen_31 ?_
      refine aw_istore (lv' := [(0, _), (1, _), (2, _), (3, _), (4, _), (5, _), (6, _), (7, _), (8, _)]) C dX9_seen_32 (Nat.le_of_ble_eq_true rfl) rfl ?_
      refine aw_iload C dX9_seen_34 rfl ?_
      refine aw_iconst C dX9_seen_36 ki_0 ?_
      refine aw_iload_n C dX9_seen_37 (i := 3) rfl rfl ?_
      refine aw_iload_n C dX9_seen_38 (i := 2) rfl rfl ?_
      refine aw_isub C dX9_seen_39 ?_
      refine aw_S3i C dX9_seen_40 cs_X9_54 (cm_isIn hI) ⟨Nat.le_of_ble_eq_true rfl, Nat.le_of_ble_eq_true rfl⟩ (Nat.le_of_ble_eq_true rfl) ?_
      refine aw_if_eq_b (tgt := 102) C dX9_seen_43 (by decide) (fun h43 => ?_) (fun h43 => ?_)
      · refine aw_iinc_n (lv' := [(0, _), (1, _), (2, _), (3, _), (4, _), (5, _), (6, _), (7, _), (8, _)]) C dX9_seen_102 rfl ki_1 (Nat.le_of_ble_eq_true rfl) rfl ?_
        refine aw_goto (tgt := 9) C dX9_seen_105 (by decide) ?_
        refine aw_take 8 (lv' := [(0, _), (1, _), (2, _), (3, _), (4, _), (5, _), (6, _), (7, _)]) rfl ?_
        have k9 := ih (i + 1) (by omega) (by omega)
        rw [snA_s, if_neg (by rw [h43]; decide), snH_s, if_neg (by rw [h43]; decide)] at k9
        exact k9
      · refine aw_iload C dX9_seen_46 rfl ?_
        refine aw_aload_n C dX9_seen_48 (i := 0) rfl rfl ?_
        refine aw_get (k := 0) C dX9_seen_49 fl_X9_13 (by decide) rfl rfl ?_
        refine aw_iconst C dX9_seen_52 ki_5 ?_
        refine aw_iload C dX9_seen_53 rfl ?_
        refine aw_imul_n C dX9_seen_55 ?_
        refine aw_iconst C dX9_seen_56 ki_1 ?_
        refine aw_iadd_n C dX9_seen_57 ?_
        refine aw_iald (k := 2) C dX9_seen_58 (by decide) (rfl) (rfl) (by omega) (by decide) (rfl) ?_
        refine aw_iload_n C dX9_seen_59 (i := 1) rfl rfl ?_
        refine aw_icmp_ne (tgt := 70) C dX9_seen_60 (by decide) (fun h60 => ?_) (fun h60 => ?_)
        · refine aw_iconst C dX9_seen_70 ki_0 ?_
          refine aw_ior C dX9_seen_71 ?_
          refine aw_istore (lv' := [(0, _), (1, _), (2, _), (3, _), (4, _), (5, _), (6, _), (7, _), (8, _)]) C dX9_seen_72 (Nat.le_of_ble_eq_true rfl) rfl ?_
          refine aw_iload C dX9_seen_74 rfl ?_
          refine aw_aload_n C dX9_seen_76 (i := 0) rfl rfl ?_
          refine aw_get (k := 0) C dX9_seen_77 fl_X9_13 (by decide) rfl rfl ?_
          refine aw_iconst C dX9_seen_80 ki_5 ?_
          refine aw_iload C dX9_seen_81 rfl ?_
          refine aw_imul_n C dX9_seen_83 ?_
          refine aw_iconst C dX9_seen_84 ki_1 ?_
          refine aw_iadd_n C dX9_seen_85 ?_
          refine aw_iald (k := 2) C dX9_seen_86 (by decide) (rfl) (rfl) (by omega) (by decide) (rfl) ?_
          refine aw_iload_n C dX9_seen_87 (i := 1) rfl rfl ?_
          refine aw_icmp_le (tgt := 98) C dX9_seen_88 (by decide) (fun h88 => ?_) (fun h88 => ?_)
          · refine aw_iconst C dX9_seen_98 ki_0 ?_
            refine aw_ior C dX9_seen_99 ?_
            refine aw_istore (lv' := [(0, _), (1, _), (2, _), (3, _), (4, _), (5, _), (6, _), (7, _), (8, _)]) C dX9_seen_100 (Nat.le_of_ble_eq_true rfl) rfl ?_
            refine aw_iinc_n (lv' := [(0, _), (1, _), (2, _), (3, _), (4, _), (5, _), (6, _), (7, _), (8, _)]) C dX9_seen_102 rfl ki_1 (Nat.le_of_ble_eq_true rfl) rfl ?_
            refine aw_goto (tgt := 9) C dX9_seen_105 (by decide) ?_
            refine aw_take 8 (lv' := [(0, _), (1, _), (2, _), (3, _), (4, _), (5, _), (6, _), (7, _)]) rfl ?_
            have k9 := ih (i + 1) (by omega) (by omega)
            rw [snA_s, if_pos h43, if_neg h60, snH_s, if_pos h43, if_neg (i_nlt h88)] at k9
            exact k9
          · refine aw_iconst C dX9_seen_91 ki_1 ?_
            refine aw_iload C dX9_seen_92 rfl ?_
            refine aw_ishl C dX9_seen_94 ?_
            refine aw_goto (tgt := 99) C dX9_seen_95 (by decide) ?_
            refine aw_ior C dX9_seen_99 ?_
            refine aw_istore (lv' := [(0, _), (1, _), (2, _), (3, _), (4, _), (5, _), (6, _), (7, _), (8, _)]) C dX9_seen_100 (Nat.le_of_ble_eq_true rfl) rfl ?_
            refine aw_iinc_n (lv' := [(0, _), (1, _), (2, _), (3, _), (4, _), (5, _), (6, _), (7, _), (8, _)]) C dX9_seen_102 rfl ki_1 (Nat.le_of_ble_eq_true rfl) rfl ?_
            refine aw_goto (tgt := 9) C dX9_seen_105 (by decide) ?_
            refine aw_take 8 (lv' := [(0, _), (1, _), (2, _), (3, _), (4, _), (5, _), (6, _), (7, _)]) rfl ?_
            have k9 := ih (i + 1) (by omega) (by omega)
            rw [snA_s, if_pos h43, if_neg h60, snH_s, if_pos h43, if_pos (i_lt h88)] at k9
            exact k9
        · refine aw_iconst C dX9_seen_63 ki_1 ?_
          refine aw_iload C dX9_seen_64 rfl ?_
          refine aw_ishl C dX9_seen_66 ?_
          refine aw_goto (tgt := 71) C dX9_seen_67 (by decide) ?_
          refine aw_ior C dX9_seen_71 ?_
          refine aw_istore (lv' := [(0, _), (1, _), (2, _), (3, _), (4, _), (5, _), (6, _), (7, _), (8, _)]) C dX9_seen_72 (Nat.le_of_ble_eq_true rfl) rfl ?_
          refine aw_iload C dX9_seen_74 rfl ?_
          refine aw_aload_n C dX9_seen_76 (i := 0) rfl rfl ?_
          refine aw_get (k := 0) C dX9_seen_77 fl_X9_13 (by decide) rfl rfl ?_
          refine aw_iconst C dX9_seen_80 ki_5 ?_
          refine aw_iload C dX9_seen_81 rfl ?_
          refine aw_imul_n C dX9_seen_83 ?_
          refine aw_iconst C dX9_seen_84 ki_1 ?_
          refine aw_iadd_n C dX9_seen_85 ?_
          refine aw_iald (k := 2) C dX9_seen_86 (by decide) (rfl) (rfl) (by omega) (by decide) (rfl) ?_
          refine aw_iload_n C dX9_seen_87 (i := 1) rfl rfl ?_
          refine aw_icmp_le (tgt := 98) C dX9_seen_88 (by decide) (fun h88 => ?_) (fun h88 => ?_)
          · refine aw_iconst C dX9_seen_98 ki_0 ?_
            refine aw_ior C dX9_seen_99 ?_
            refine aw_istore (lv' := [(0, _), (1, _), (2, _), (3, _), (4, _), (5, _), (6, _), (7, _), (8, _)]) C dX9_seen_100 (Nat.le_of_ble_eq_true rfl) rfl ?_
            refine aw_iinc_n (lv' := [(0, _), (1, _), (2, _), (3, _), (4, _), (5, _), (6, _), (7, _), (8, _)]) C dX9_seen_102 rfl ki_1 (Nat.le_of_ble_eq_true rfl) rfl ?_
            refine aw_goto (tgt := 9) C dX9_seen_105 (by decide) ?_
            refine aw_take 8 (lv' := [(0, _), (1, _), (2, _), (3, _), (4, _), (5, _), (6, _), (7, _)]) rfl ?_
            have k9 := ih (i + 1) (by omega) (by omega)
            rw [snA_s, if_pos h43, if_pos h60, snH_s, if_pos h43, if_neg (i_nlt h88)] at k9
            exact k9
          · refine aw_iconst C dX9_seen_91 ki_1 ?_
            refine aw_iload C dX9_seen_92 rfl ?_
            refine aw_ishl C dX9_seen_94 ?_
            refine aw_goto (tgt := 99) C dX9_seen_95 (by decide) ?_
            refine aw_ior C dX9_seen_99 ?_
            refine aw_istore (lv' := [(0, _), (1, _), (2, _), (3, _), (4, _), (5, _), (6, _), (7, _), (8, _)]) C dX9_seen_100 (Nat.le_of_ble_eq_true rfl) rfl ?_
            refine aw_iinc_n (lv' := [(0, _), (1, _), (2, _), (3, _), (4, _), (5, _), (6, _), (7, _), (8, _)]) C dX9_seen_102 rfl ki_1 (Nat.le_of_ble_eq_true rfl) rfl ?_
            refine aw_goto (tgt := 9) C dX9_seen_105 (by decide) ?_
            refine aw_take 8 (lv' := [(0, _), (1, _), (2, _), (3, _), (4, _), (5, _), (6, _), (7, _)]) rfl ?_
            have k9 := ih (i + 1) (by omega) (by omega)
            rw [snA_s, if_pos h43, if_pos h60, snH_s, if_pos h43, if_pos (i_lt h88)] at k9
            exact k9
set_option maxRecDepth 20000 in
/-- seen -/
theorem cm_seen {l : Launch} {D : va_G} {cy : Nat → ClassId} {z : Nat → Nat} {q : Nat → Nat} (hI : wI 9 q) {len span wires chg rsp rwi val ends : Nat} {text : Nat → Nat} {h was rd eyes fw bars ways : Nat → Int32} {t a b x : Int32} (hw : wires ≤ 8) : Ct l yX9_seen cX9_seen 9 (some .int) 1 22 D cy z 9 q [.ref (q 0), .int t, .int a, .int b, .int x] (mdC cy q len span wires chg rsp rwi val ends text h was rd eyes fw bars ways) (PI (snI h wires t a b x) (mdC cy q len span wires chg rsp rwi val ends text h was rd eyes fw bars ways)) := by
  refine Ct.of (own := RX9) (by decide) rfl hI (Nat.le_of_ble_eq_true rfl) ?_
  intro p e s m args below meth c C hr
  refine aw_lv (lv' := [(0, .ref (q 0)), (1, .int t), (2, .int a), (3, .int b), (4, .int x)]) (fun x hx => hx) ?_
  refine aw_iconst C dX9_seen_0 ki_0 ?_
  refine aw_istore (lv' := [(0, _), (1, _), (2, _), (3, _), (4, _), (5, _)]) C dX9_seen_1 (Nat.le_of_ble_eq_true rfl) rfl ?_
  refine aw_iconst C dX9_seen_3 ki_0 ?_
  refine aw_istore (lv' := [(0, _), (1, _), (2, _), (3, _), (4, _), (5, _), (6, _)]) C dX9_seen_4 (Nat.le_of_ble_eq_true rfl) rfl ?_
  refine aw_iconst C dX9_seen_6 ki_0 ?_
  refine aw_istore (lv' := [(0, _), (1, _), (2, _), (3, _), (4, _), (5, _), (6, _), (7, _)]) C dX9_seen_7 (Nat.le_of_ble_eq_true rfl) rfl ?_
  exact cm_seen_l hI C hr hw (wires + 1) 0 (by omega) (by omega)
set_option maxRecDepth 20000 in
/-- sees -/
theorem cm_sees {l : Launch} {D : va_G} {cy : Nat → ClassId} {z : Nat → Nat} {q : Nat → Nat} (hI : wI 9 q) {len span wires chg rsp rwi val ends : Nat} {text : Nat → Nat} {h was rd eyes fw bars ways : Nat → Int32} {t a b : Int32} (hw : wires ≤ 8) : Ct l yX9_sees cX9_sees 4 (some .int) 2 50 D cy z 9 q [.ref (q 0), .int t, .int a, .int b] (mdC cy q len span wires chg rsp rwi val ends text h was rd eyes fw bars ways) (PI (opSees wires h t a b) (mdC cy q len span wires chg rsp rwi val ends text h was rd eyes fw bars ways)) := by
  refine Ct.of (own := RX9) (by decide) rfl hI (Nat.le_of_ble_eq_true rfl) ?_
  intro p e s m args below meth c C hr
  refine aw_lv (lv' := [(0, .ref (q 0)), (1, .int t), (2, .int a), (3, .int b)]) (fun x hx => hx) ?_
  refine aw_iload_n C dX9_sees_0 (i := 1) rfl rfl ?_
  refine aw_iload_n C dX9_sees_1 (i := 2) rfl rfl ?_
  refine aw_iload_n C dX9_sees_2 (i := 3) rfl rfl ?_
  refine aw_S3i C dX9_sees_3 cs_X9_157 (cm_isSight hI) ⟨Nat.le_of_ble_eq_true rfl, Nat.le_of_ble_eq_true rfl⟩ (Nat.le_of_ble_eq_true rfl) ?_
  refine aw_if_eq_b (tgt := 26) C dX9_sees_6 (by decide) (fun h6 => ?_) (fun h6 => ?_)
  · refine aw_iconst C dX9_sees_26 ki_m1 ?_
    refine aw_iret C hr dX9_sees_27 ?_
    exact PI.mk (if_neg (by rw [h6]; decide)).symm rfl
  · refine aw_aload_n C dX9_sees_9 (i := 0) rfl rfl ?_
    refine aw_iload_n C dX9_sees_10 (i := 1) rfl rfl ?_
    refine aw_iload_n C dX9_sees_11 (i := 2) rfl rfl ?_
    refine aw_iload_n C dX9_sees_12 (i := 3) rfl rfl ?_
    refine aw_aload_n C dX9_sees_13 (i := 0) rfl rfl ?_
    refine aw_get (k := 0) C dX9_sees_14 fl_X9_13 (by decide) rfl rfl ?_
    refine aw_bipush C dX9_sees_17 kb_43 ?_
    refine aw_iald (k := 2) C dX9_sees_19 (by decide) (rfl) (rfl) (by omega) (by decide) (rfl) ?_
    refine aw_V4i (k := 0) C dX9_sees_20 cv_X9_160 (by decide) rfl rfl rfl (cm_seen hI hw) ⟨Nat.le_of_ble_eq_true rfl, Nat.le_of_ble_eq_true rfl⟩ (Nat.le_of_ble_eq_true rfl) ?_
    refine aw_goto (tgt := 27) C dX9_sees_23 (by decide) ?_
    refine aw_iret C hr dX9_sees_27 ?_
    exact PI.mk (if_pos h6).symm rfl
set_option maxRecDepth 20000 in
/-- eye -/
theorem cm_eye {l : Launch} {D : va_G} {cy : Nat → ClassId} {z : Nat → Nat} {q : Nat → Nat} (hI : wI 9 q) {len span wires chg rsp rwi val ends : Nat} {text : Nat → Nat} {h was rd eyes fw bars ways : Nat → Int32} {ex t a b x : Int32} : Ct l yX9_eye cX9_eye 6 (some .int) 2 44 D cy z 9 q [.ref (q 0), .int ex, .int t, .int a, .int b, .int x] (mdC cy q len span wires chg rsp rwi val ends text h was rd eyes fw bars ways) (PO cy q (opEye len span wires chg text h was eyes ex t a b x)) := by
  refine Ct.of (own := RX9) (by decide) rfl hI (Nat.le_of_ble_eq_true rfl) ?_
  intro p e s m args below meth c C hr
  refine aw_lv (lv' := [(0, .ref (q 0)), (1, .int ex), (2, .int t), (3, .int a), (4, .int b), (5, .int x)]) (fun x hx => hx) ?_
  refine aw_iload_n C dX9_eye_0 (i := 1) rfl rfl ?_
  refine aw_iconst C dX9_eye_1 ki_0 ?_
  refine aw_iconst C dX9_eye_2 ki_1 ?_
  refine aw_S3i C dX9_eye_3 cs_X9_54 (cm_isIn hI) ⟨Nat.le_of_ble_eq_true rfl, Nat.le_of_ble_eq_true rfl⟩ (Nat.le_of_ble_eq_true rfl) ?_
  refine aw_if_eq_b (tgt := 38) C dX9_eye_6 (by decide) (fun h6 => ?_) (fun h6 => ?_)
  · refine aw_iconst C dX9_eye_38 ki_m1 ?_
    refine aw_iret C hr dX9_eye_39 ?_
    exact PO.mk (by unfold opEye; rw [if_neg (by rw [h6]; decide)])
  · refine aw_iload_n C dX9_eye_9 (i := 2) rfl rfl ?_
    refine aw_iload_n C dX9_eye_10 (i := 3) rfl rfl ?_
    refine aw_iload C dX9_eye_11 rfl ?_
    refine aw_S3i C dX9_eye_13 cs_X9_157 (cm_isSight hI) ⟨Nat.le_of_ble_eq_true rfl, Nat.le_of_ble_eq_true rfl⟩ (Nat.le_of_ble_eq_true rfl) ?_
    refine aw_if_eq_b (tgt := 38) C dX9_eye_16 (by decide) (fun h16 => ?_) (fun h16 => ?_)
    · refine aw_iconst C dX9_eye_38 ki_m1 ?_
      refine aw_iret C hr dX9_eye_39 ?_
      exact PO.mk (by unfold opEye; rw [if_pos h6, if_neg (by rw [h16]; decide)])
    · refine aw_iload C dX9_eye_19 rfl ?_
      refine aw_iconst C dX9_eye_21 ki_0 ?_
      refine aw_iconst C dX9_eye_22 ki_1 ?_
      refine aw_iload C dX9_eye_23 rfl ?_
      refine aw_iload_n C dX9_eye_25 (i := 3) rfl rfl ?_
      refine aw_isub C dX9_eye_26 ?_
      refine aw_iconst C dX9_eye_27 ki_1 ?_
      refine aw_iadd C dX9_eye_28 ?_
      refine aw_ishl C dX9_eye_29 ?_
      refine aw_iconst C dX9_eye_30 ki_1 ?_
      refine aw_isub C dX9_eye_31 ?_
      refine aw_S3i C dX9_eye_32 cs_X9_54 (cm_isIn hI) ⟨Nat.le_of_ble_eq_true rfl, Nat.le_of_ble_eq_true rfl⟩ (Nat.le_of_ble_eq_true rfl) ?_
      refine aw_if_ne_b (tgt := 40) C dX9_eye_35 (by decide) (fun h35 => ?_) (fun h35 => ?_)
      · have e0 : opEye len span wires chg text h was eyes ex t a b x = (eyU eyes ex.toNatClampNeg t a b x 0 + eyU eyes ex.toNatClampNeg t a b x 5, (len, span, wires, chg, text, h, was, eyU eyes ex.toNatClampNeg t a b x)) := by unfold opEye; rw [if_pos h6, if_pos h16, if_pos h35]
        obtain ⟨u, hu, rfl⟩ := in_of (by decide) h6
        rw [nI_clamp (by omega)] at e0
        refine aw_aload_n C dX9_eye_40 (i := 0) rfl rfl ?_
        refine aw_get (k := 0) C dX9_eye_41 fl_X9_22 (by decide) rfl rfl ?_
        refine aw_iconst C dX9_eye_44 ki_5 ?_
        refine aw_iload_n C dX9_eye_45 (i := 1) rfl rfl ?_
        refine aw_imul_n C dX9_eye_46 ?_
        refine aw_iconst C dX9_eye_47 ki_1 ?_
        refine aw_iast (k := 5) C dX9_eye_48 (by decide) (rfl) (rfl) (by omega) (by decide) (md_a_eyes) ?_
        refine aw_aload_n C dX9_eye_49 (i := 0) rfl rfl ?_
        refine aw_get (k := 0) C dX9_eye_50 fl_X9_22 (by decide) rfl rfl ?_
        refine aw_iconst C dX9_eye_53 ki_5 ?_
        refine aw_iload_n C dX9_eye_54 (i := 1) rfl rfl ?_
        refine aw_imul_n C dX9_eye_55 ?_
        refine aw_iconst C dX9_eye_56 ki_1 ?_
        refine aw_iadd_n C dX9_eye_57 ?_
        refine aw_iload_n C dX9_eye_58 (i := 2) rfl rfl ?_
        refine aw_iast (k := 5) C dX9_eye_59 (by decide) (rfl) (rfl) (by omega) (by decide) (md_a_eyes) ?_
        refine aw_aload_n C dX9_eye_60 (i := 0) rfl rfl ?_
        refine aw_get (k := 0) C dX9_eye_61 fl_X9_22 (by decide) rfl rfl ?_
        refine aw_iconst C dX9_eye_64 ki_5 ?_
        refine aw_iload_n C dX9_eye_65 (i := 1) rfl rfl ?_
        refine aw_imul_n C dX9_eye_66 ?_
        refine aw_iconst C dX9_eye_67 ki_2 ?_
        refine aw_iadd_n C dX9_eye_68 ?_
        refine aw_iload_n C dX9_eye_69 (i := 3) rfl rfl ?_
        refine aw_iast (k := 5) C dX9_eye_70 (by decide) (rfl) (rfl) (by omega) (by decide) (md_a_eyes) ?_
        refine aw_aload_n C dX9_eye_71 (i := 0) rfl rfl ?_
        refine aw_get (k := 0) C dX9_eye_72 fl_X9_22 (by decide) rfl rfl ?_
        refine aw_iconst C dX9_eye_75 ki_5 ?_
        refine aw_iload_n C dX9_eye_76 (i := 1) rfl rfl ?_
        refine aw_imul_n C dX9_eye_77 ?_
        refine aw_iconst C dX9_eye_78 ki_3 ?_
        refine aw_iadd_n C dX9_eye_79 ?_
        refine aw_iload C dX9_eye_80 rfl ?_
        refine aw_iast (k := 5) C dX9_eye_82 (by decide) (rfl) (rfl) (by omega) (by decide) (md_a_eyes) ?_
        refine aw_aload_n C dX9_eye_83 (i := 0) rfl rfl ?_
        refine aw_get (k := 0) C dX9_eye_84 fl_X9_22 (by decide) rfl rfl ?_
        refine aw_iconst C dX9_eye_87 ki_5 ?_
        refine aw_iload_n C dX9_eye_88 (i := 1) rfl rfl ?_
        refine aw_imul_n C dX9_eye_89 ?_
        refine aw_iconst C dX9_eye_90 ki_4 ?_
        refine aw_iadd_n C dX9_eye_91 ?_
        refine aw_iload C dX9_eye_92 rfl ?_
        refine aw_iast (k := 5) C dX9_eye_94 (by decide) (rfl) (rfl) (by omega) (by decide) (md_a_eyes) ?_
        refine aw_aload_n C dX9_eye_95 (i := 0) rfl rfl ?_
        refine aw_get (k := 0) C dX9_eye_96 fl_X9_22 (by decide) rfl rfl ?_
        refine aw_iconst C dX9_eye_99 ki_0 ?_
        refine aw_iald (k := 5) C dX9_eye_100 (by decide) (rfl) (rfl) (by omega) (by decide) (rfl) ?_
        refine aw_aload_n C dX9_eye_101 (i := 0) rfl rfl ?_
        refine aw_get (k := 0) C dX9_eye_102 fl_X9_22 (by decide) rfl rfl ?_
        refine aw_iconst C dX9_eye_105 ki_5 ?_
        refine aw_iald (k := 5) C dX9_eye_106 (by decide) (rfl) (rfl) (by omega) (by decide) (rfl) ?_
        refine aw_iadd C dX9_eye_107 ?_
        refine aw_iret C hr dX9_eye_108 ?_
        exact PO.mk e0
      · refine aw_iconst C dX9_eye_38 ki_m1 ?_
        refine aw_iret C hr dX9_eye_39 ?_
        exact PO.mk (by unfold opEye; rw [if_pos h6, if_pos h16, if_neg (by rw [h35]; decide)])
set_option maxRecDepth 20000 in
/-- forget -/
theorem cm_forget {l : Launch} {D : va_G} {cy : Nat → ClassId} {z : Nat → Nat} {q : Nat → Nat} (hI : wI 9 q) {len span wires chg rsp rwi val ends : Nat} {text : Nat → Nat} {h was rd eyes fw bars ways : Nat → Int32} : Ct l yX9_forget cX9_forget 2 (some .int) 0 0 D cy z 9 q [.ref (q 0)] (mdC cy q len span wires chg rsp rwi val ends text h was rd eyes fw bars ways) (PO cy q (opForget len span wires chg text h was eyes)) := by
  refine Ct.of (own := RX9) (by decide) rfl hI (Nat.le_of_ble_eq_true rfl) ?_
  intro p e s m args below meth c C hr
  refine aw_lv (lv' := [(0, .ref (q 0))]) (fun x hx => hx) ?_
  refine aw_aload_n C dX9_forget_0 (i := 0) rfl rfl ?_
  refine aw_get (k := 0) C dX9_forget_1 fl_X9_22 (by decide) rfl rfl ?_
  refine aw_iconst C dX9_forget_4 ki_0 ?_
  refine aw_iald (k := 5) C dX9_forget_5 (by decide) (rfl) (rfl) (by omega) (by decide) (rfl) ?_
  refine aw_aload_n C dX9_forget_6 (i := 0) rfl rfl ?_
  refine aw_get (k := 0) C dX9_forget_7 fl_X9_22 (by decide) rfl rfl ?_
  refine aw_iconst C dX9_forget_10 ki_5 ?_
  refine aw_iald (k := 5) C dX9_forget_11 (by decide) (rfl) (rfl) (by omega) (by decide) (rfl) ?_
  refine aw_iadd C dX9_forget_12 ?_
  refine aw_istore_n (lv' := [(0, _), (1, _)]) C dX9_forget_13 (i := 1) rfl (Nat.le_of_ble_eq_true rfl) rfl ?_
  refine aw_aload_n C dX9_forget_14 (i := 0) rfl rfl ?_
  refine aw_get (k := 0) C dX9_forget_15 fl_X9_22 (by decide) rfl rfl ?_
  refine aw_iconst C dX9_forget_18 ki_0 ?_
  refine aw_iconst C dX9_forget_19 ki_0 ?_
  refine aw_iast (k := 5) C dX9_forget_20 (by decide) (rfl) (rfl) (by omega) (by decide) (md_a_eyes) ?_
  refine aw_aload_n C dX9_forget_21 (i := 0) rfl rfl ?_
  refine aw_get (k := 0) C dX9_forget_22 fl_X9_22 (by decide) rfl rfl ?_
  refine aw_iconst C dX9_forget_25 ki_5 ?_
  refine aw_iconst C dX9_forget_26 ki_0 ?_
  refine aw_iast (k := 5) C dX9_forget_27 (by decide) (rfl) (rfl) (by omega) (by decide) (md_a_eyes) ?_
  refine aw_iload_n C dX9_forget_28 (i := 1) rfl rfl ?_
  refine aw_iret C hr dX9_forget_29 ?_
  exact PO.mk rfl
set_option maxRecDepth 20000 in
/-- explains, its loop -/
theorem cm_explains_e {l : Launch} {D : va_G} {cy : Nat → ClassId} {z : Nat → Nat} {q : Nat → Nat} {p : Program} {e : Env} {s : State} {m : MethodId} {args : Array Value} {below : List Frame} {meth : Method} {c : Code} {Q : State → Prop} (hI : wI 9 q) (C : Cx p s m args meth c cX9_explains 9 RX9 D cy z 9 q) (hr : meth.sig.returnType = (some .int)) {len span wires chg rsp rwi val ends : Nat} {text : Nat → Nat} {h was rd eyes fw bars ways : Nat → Int32} {what r sd x : Int32} {n u : Nat} {b0 : Bool} (hw : wires ≤ 8) (K : AW p l e { frames := 2, cells := 0, slots := 0, locals := 50 } s m args below meth c D 9 q 9 Q (mdC cy q len span wires chg rsp rwi val ends text h was rd eyes fw bars ways) [(0, .ref (q 0)), (1, .int what), (2, .int (nI (n))), (3, .int (r)), (4, .int (nI u)), (5, .int sd), (6, .int x), (7, .int (bi (exT (eyO h wires eyes x) b0 2))), (8, .int (nI 10))] 142 []) : ∀ (d : Nat) (t : Nat) (b : Bool), 2 - t < d → (t ≤ 2) → (b = exT (eyO h wires eyes x) b0 t) → AW p l e { frames := 2, cells := 0, slots := 0, locals := 50 } s m args below meth c D 9 q 9 Q (mdC cy q len span wires chg rsp rwi val ends text h was rd eyes fw bars ways) [(0, .ref (q 0)), (1, .int what), (2, .int (nI (n))), (3, .int (r)), (4, .int (nI u)), (5, .int sd), (6, .int x), (7, .int (bi b)), (8, .int (nI (5 * t)))] 62 [] := by
  intro d
  induction d with
  | zero => intro t b hd; exact absurd hd (Nat.not_lt_zero _)
  | succ d ih =>
    intro t b hd iv0 iv1
    refine aw_iload C dX9_explains_62 rfl ?_
    refine aw_bipush C dX9_explains_64 kb_10 ?_
    refine aw_icmp_ge_n (tgt := 142) C dX9_explains_66 (by decide) (by omega) (by omega) (fun h66 => ?_) (fun h66 => ?_)
    · obtain rfl : t = 2 := by omega
      rw [iv1]
      exact K
    · refine aw_iload C dX9_explains_69 rfl ?_
      refine aw_if_eq_b (tgt := 133) C dX9_explains_71 (by decide) (fun h71 => ?_) (fun h71 => ?_)
      · refine aw_iconst C dX9_explains_133 ki_0 ?_
        refine aw_istore (lv' := [(0, _), (1, _), (2, _), (3, _), (4, _), (5, _), (6, _), (7, _), (8, _)]) C dX9_explains_134 (Nat.le_of_ble_eq_true rfl) rfl ?_
        refine aw_iinc_n (lv' := [(0, _), (1, _), (2, _), (3, _), (4, _), (5, _), (6, _), (7, _), (8, _)]) C dX9_explains_136 rfl ki_5 (Nat.le_of_ble_eq_true rfl) rfl ?_
        refine aw_goto (tgt := 62) C dX9_explains_139 (by decide) ?_
        have k9 := ih (t + 1) false (by omega) (by omega) (by unfold exT; rw [← iv1, h71]; rfl)
        rw [show 5 * (t + 1) = 5 * t + 5 by omega] at k9
        exact k9
      · refine aw_aload_n C dX9_explains_74 (i := 0) rfl rfl ?_
        refine aw_get (k := 0) C dX9_explains_75 fl_X9_22 (by decide) rfl rfl ?_
        refine aw_iload C dX9_explains_78 rfl ?_
        refine aw_iald (k := 5) C dX9_explains_80 (by decide) (rfl) (rfl) (by omega) (by decide) (rfl) ?_
        refine aw_if_eq (tgt := 129) C dX9_explains_81 (by decide) (fun h81 => ?_) (fun h81 => ?_)
        · refine aw_iconst C dX9_explains_129 ki_1 ?_
          refine aw_goto (tgt := 134) C dX9_explains_130 (by decide) ?_
          refine aw_istore (lv' := [(0, _), (1, _), (2, _), (3, _), (4, _), (5, _), (6, _), (7, _), (8, _)]) C dX9_explains_134 (Nat.le_of_ble_eq_true rfl) rfl ?_
          refine aw_iinc_n (lv' := [(0, _), (1, _), (2, _), (3, _), (4, _), (5, _), (6, _), (7, _), (8, _)]) C dX9_explains_136 rfl ki_5 (Nat.le_of_ble_eq_true rfl) rfl ?_
          refine aw_goto (tgt := 62) C dX9_explains_139 (by decide) ?_
          have k9 := ih (t + 1) true (by omega) (by omega) (by unfold exT; rw [← iv1, h71]; unfold eyO; simp [h81])
          rw [show 5 * (t + 1) = 5 * t + 5 by omega] at k9
          exact k9
        · refine aw_aload_n C dX9_explains_84 (i := 0) rfl rfl ?_
          refine aw_aload_n C dX9_explains_85 (i := 0) rfl rfl ?_
          refine aw_get (k := 0) C dX9_explains_86 fl_X9_22 (by decide) rfl rfl ?_
          refine aw_iload C dX9_explains_89 rfl ?_
          refine aw_iconst C dX9_explains_91 ki_1 ?_
          refine aw_iadd_n C dX9_explains_92 ?_
          refine aw_iald (k := 5) C dX9_explains_93 (by decide) (rfl) (rfl) (by omega) (by decide) (rfl) ?_
          refine aw_aload_n C dX9_explains_94 (i := 0) rfl rfl ?_
          refine aw_get (k := 0) C dX9_explains_95 fl_X9_22 (by decide) rfl rfl ?_
          refine aw_iload C dX9_explains_98 rfl ?_
          refine aw_iconst C dX9_explains_100 ki_2 ?_
          refine aw_iadd_n C dX9_explains_101 ?_
          refine aw_iald (k := 5) C dX9_explains_102 (by decide) (rfl) (rfl) (by omega) (by decide) (rfl) ?_
          refine aw_aload_n C dX9_explains_103 (i := 0) rfl rfl ?_
          refine aw_get (k := 0) C dX9_explains_104 fl_X9_22 (by decide) rfl rfl ?_
          refine aw_iload C dX9_explains_107 rfl ?_
          refine aw_iconst C dX9_explains_109 ki_3 ?_
          refine aw_iadd_n C dX9_explains_110 ?_
          refine aw_iald (k := 5) C dX9_explains_111 (by decide) (rfl) (rfl) (by omega) (by decide) (rfl) ?_
          refine aw_iload C dX9_explains_112 rfl ?_
          refine aw_V4i (k := 0) C dX9_explains_114 cv_X9_160 (by decide) rfl rfl rfl (cm_seen hI hw) ⟨Nat.le_of_ble_eq_true rfl, Nat.le_of_ble_eq_true rfl⟩ (Nat.le_of_ble_eq_true rfl) ?_
          refine aw_aload_n C dX9_explains_117 (i := 0) rfl rfl ?_
          refine aw_get (k := 0) C dX9_explains_118 fl_X9_22 (by decide) rfl rfl ?_
          refine aw_iload C dX9_explains_121 rfl ?_
          refine aw_iconst C dX9_explains_123 ki_4 ?_
          refine aw_iadd_n C dX9_explains_124 ?_
          refine aw_iald (k := 5) C dX9_explains_125 (by decide) (rfl) (rfl) (by omega) (by decide) (rfl) ?_
          refine aw_icmp_ne (tgt := 133) C dX9_explains_126 (by decide) (fun h126 => ?_) (fun h126 => ?_)
          · refine aw_iconst C dX9_explains_133 ki_0 ?_
            refine aw_istore (lv' := [(0, _), (1, _), (2, _), (3, _), (4, _), (5, _), (6, _), (7, _), (8, _)]) C dX9_explains_134 (Nat.le_of_ble_eq_true rfl) rfl ?_
            refine aw_iinc_n (lv' := [(0, _), (1, _), (2, _), (3, _), (4, _), (5, _), (6, _), (7, _), (8, _)]) C dX9_explains_136 rfl ki_5 (Nat.le_of_ble_eq_true rfl) rfl ?_
            refine aw_goto (tgt := 62) C dX9_explains_139 (by decide) ?_
            have k9 := ih (t + 1) false (by omega) (by omega) (by unfold exT; rw [← iv1, h71]; unfold eyO; simp [h81, h126])
            rw [show 5 * (t + 1) = 5 * t + 5 by omega] at k9
            exact k9
          · refine aw_iconst C dX9_explains_129 ki_1 ?_
            refine aw_goto (tgt := 134) C dX9_explains_130 (by decide) ?_
            refine aw_istore (lv' := [(0, _), (1, _), (2, _), (3, _), (4, _), (5, _), (6, _), (7, _), (8, _)]) C dX9_explains_134 (Nat.le_of_ble_eq_true rfl) rfl ?_
            refine aw_iinc_n (lv' := [(0, _), (1, _), (2, _), (3, _), (4, _), (5, _), (6, _), (7, _), (8, _)]) C dX9_explains_136 rfl ki_5 (Nat.le_of_ble_eq_true rfl) rfl ?_
            refine aw_goto (tgt := 62) C dX9_explains_139 (by decide) ?_
            have k9 := ih (t + 1) true (by omega) (by omega) (by unfold exT; rw [← iv1, h71]; unfold eyO; simp [h81, h126])
            rw [show 5 * (t + 1) = 5 * t + 5 by omega] at k9
            exact k9
set_option maxRecDepth 20000 in
/-- explains, from 29 on -/
theorem cm_explains_sm {l : Launch} {D : va_G} {cy : Nat → ClassId} {z : Nat → Nat} {q : Nat → Nat} {p : Program} {e : Env} {s : State} {m : MethodId} {args : Array Value} {below : List Frame} {meth : Method} {c : Code} (hI : wI 9 q) (C : Cx p s m args meth c cX9_explains 9 RX9 D cy z 9 q) (hr : meth.sig.returnType = (some .int)) {len span wires chg rsp rwi val ends : Nat} {text : Nat → Nat} {h was rd eyes fw bars ways : Nat → Int32} {post : Option Value → wS → Prop} {what r : Int32} {n u : Nat} (hu : u < 10) (hn : n ≤ 100) (hw : wires ≤ 8) (hK : AW p l e { frames := 2, cells := 0, slots := 0, locals := 50 } s m args below meth c D 9 q 9 (MQ below (Qg D 9 q post (wA 9 q s.heap.size)) args s 0 0 (wA 9 q s.heap.size)) (mdC cy q len span wires chg rsp rwi val ends text h was rd eyes fw bars ways) [(0, .ref (q 0)), (1, .int what), (2, .int (nI (stN (isM h wires eyes u) n))), (3, .int (stR (isM h wires eyes u) n r ((-1) * nI u))), (4, .int (nI u)), (5, .int ((-1) + nI 2))] 29 []) : AW p l e { frames := 2, cells := 0, slots := 0, locals := 50 } s m args below meth c D 9 q 9 (MQ below (Qg D 9 q post (wA 9 q s.heap.size)) args s 0 0 (wA 9 q s.heap.size)) (mdC cy q len span wires chg rsp rwi val ends text h was rd eyes fw bars ways) [(0, .ref (q 0)), (1, .int what), (2, .int (nI (n))), (3, .int (r)), (4, .int (nI u)), (5, .int (-1))] 29 [] := by
  refine aw_iload C dX9_explains_29 rfl ?_
  refine aw_iconst C dX9_explains_31 ki_2 ?_
  refine aw_icmp_ge (tgt := 180) C dX9_explains_32 (by decide) (fun h32 => absurd h32 (by decide)) (fun h32 => ?_)
  refine aw_iload C dX9_explains_35 rfl ?_
  refine aw_iload C dX9_explains_37 rfl ?_
  refine aw_imul C dX9_explains_39 ?_
  refine aw_istore (lv' := [(0, _), (1, _), (2, _), (3, _), (4, _), (5, _), (6, _)]) C dX9_explains_40 (Nat.le_of_ble_eq_true rfl) rfl ?_
  refine aw_iload C dX9_explains_42 rfl ?_
  refine aw_if_gt_n (tgt := 52) C dX9_explains_44 (by decide) (by omega) (fun h44 => ?_) (fun h44 => ?_)
  · refine aw_iconst C dX9_explains_52 ki_1 ?_
    refine aw_goto (tgt := 57) C dX9_explains_53 (by decide) ?_
    refine aw_istore (lv' := [(0, _), (1, _), (2, _), (3, _), (4, _), (5, _), (6, _), (7, _)]) C dX9_explains_57 (Nat.le_of_ble_eq_true rfl) rfl ?_
    refine aw_iconst C dX9_explains_59 ki_0 ?_
    refine aw_istore (lv' := [(0, _), (1, _), (2, _), (3, _), (4, _), (5, _), (6, _), (7, _), (8, _)]) C dX9_explains_60 (Nat.le_of_ble_eq_true rfl) rfl ?_
    refine cm_explains_e (b0 := true) hI C hr hw ?_ 3 0 true (by omega) (by omega) rfl
    refine aw_iload C dX9_explains_142 rfl ?_
    refine aw_if_eq_b (tgt := 159) C dX9_explains_144 (by decide) (fun h144 => ?_) (fun h144 => ?_)
    · refine aw_iload_n C dX9_explains_159 (i := 3) rfl rfl ?_
      refine aw_istore_n (lv' := [(0, _), (1, _), (2, _), (3, _), (4, _), (5, _), (6, _), (7, _), (8, _)]) C dX9_explains_160 (i := 3) rfl (Nat.le_of_ble_eq_true rfl) rfl ?_
      refine aw_iload_n C dX9_explains_161 (i := 2) rfl rfl ?_
      refine aw_iload C dX9_explains_162 rfl ?_
      refine aw_if_eq_b (tgt := 171) C dX9_explains_164 (by decide) (fun h164 => ?_) (fun h164 => absurd h164 (by rw [h144]; decide))
      refine aw_iconst C dX9_explains_171 ki_0 ?_
      refine aw_iadd_n C dX9_explains_172 ?_
      refine aw_istore_n (lv' := [(0, _), (1, _), (2, _), (3, _), (4, _), (5, _), (6, _), (7, _), (8, _)]) C dX9_explains_173 (i := 2) rfl (Nat.le_of_ble_eq_true rfl) rfl ?_
      refine aw_iinc (lv' := [(0, _), (1, _), (2, _), (3, _), (4, _), (5, _), (6, _), (7, _), (8, _)]) C dX9_explains_174 rfl ki_2 (Nat.le_of_ble_eq_true rfl) rfl ?_
      refine aw_goto (tgt := 29) C dX9_explains_177 (by decide) ?_
      refine aw_take 6 (lv' := [(0, _), (1, _), (2, _), (3, _), (4, _), (5, _)]) rfl ?_
      have e1 : stN (isM h wires eyes u) n = n := by unfold stN; rw [(show isM h wires eyes u = false from h144)]; rfl
      have e2 : stR (isM h wires eyes u) n r ((-1) * nI u) = r := by unfold stR; rw [(show isM h wires eyes u = false from h144)]; rfl
      rw [e1, e2] at hK
      exact hK
    · refine aw_iload_n C dX9_explains_147 (i := 2) rfl rfl ?_
      refine aw_if_ne_n (tgt := 159) C dX9_explains_148 (by decide) (by omega) (fun h148 => ?_) (fun h148 => ?_)
      · refine aw_iload_n C dX9_explains_159 (i := 3) rfl rfl ?_
        refine aw_istore_n (lv' := [(0, _), (1, _), (2, _), (3, _), (4, _), (5, _), (6, _), (7, _), (8, _)]) C dX9_explains_160 (i := 3) rfl (Nat.le_of_ble_eq_true rfl) rfl ?_
        refine aw_iload_n C dX9_explains_161 (i := 2) rfl rfl ?_
        refine aw_iload C dX9_explains_162 rfl ?_
        refine aw_if_eq_b (tgt := 171) C dX9_explains_164 (by decide) (fun h164 => absurd h164 (by rw [h144]; decide)) (fun h164 => ?_)
        refine aw_iconst C dX9_explains_167 ki_1 ?_
        refine aw_goto (tgt := 172) C dX9_explains_168 (by decide) ?_
        refine aw_iadd_n C dX9_explains_172 ?_
        refine aw_istore_n (lv' := [(0, _), (1, _), (2, _), (3, _), (4, _), (5, _), (6, _), (7, _), (8, _)]) C dX9_explains_173 (i := 2) rfl (Nat.le_of_ble_eq_true rfl) rfl ?_
        refine aw_iinc (lv' := [(0, _), (1, _), (2, _), (3, _), (4, _), (5, _), (6, _), (7, _), (8, _)]) C dX9_explains_174 rfl ki_2 (Nat.le_of_ble_eq_true rfl) rfl ?_
        refine aw_goto (tgt := 29) C dX9_explains_177 (by decide) ?_
        refine aw_take 6 (lv' := [(0, _), (1, _), (2, _), (3, _), (4, _), (5, _)]) rfl ?_
        have e1 : stN (isM h wires eyes u) n = n + 1 := by unfold stN; rw [(show isM h wires eyes u = true from h144)]; rfl
        have e2 : stR (isM h wires eyes u) n r ((-1) * nI u) = r := by unfold stR; rw [(show isM h wires eyes u = true from h144), if_pos rfl, if_neg (Nat.ne_of_gt h148)]
        rw [e1, e2] at hK
        exact hK
      · refine aw_iload C dX9_explains_151 rfl ?_
        refine aw_ldc C dX9_explains_153 kc_X9_101 ?_
        refine aw_iadd C dX9_explains_155 ?_
        refine aw_goto (tgt := 160) C dX9_explains_156 (by decide) ?_
        refine aw_istore_n (lv' := [(0, _), (1, _), (2, _), (3, _), (4, _), (5, _), (6, _), (7, _), (8, _)]) C dX9_explains_160 (i := 3) rfl (Nat.le_of_ble_eq_true rfl) rfl ?_
        refine aw_iload_n C dX9_explains_161 (i := 2) rfl rfl ?_
        refine aw_iload C dX9_explains_162 rfl ?_
        refine aw_if_eq_b (tgt := 171) C dX9_explains_164 (by decide) (fun h164 => absurd h164 (by rw [h144]; decide)) (fun h164 => ?_)
        refine aw_iconst C dX9_explains_167 ki_1 ?_
        refine aw_goto (tgt := 172) C dX9_explains_168 (by decide) ?_
        refine aw_iadd_n C dX9_explains_172 ?_
        refine aw_istore_n (lv' := [(0, _), (1, _), (2, _), (3, _), (4, _), (5, _), (6, _), (7, _), (8, _)]) C dX9_explains_173 (i := 2) rfl (Nat.le_of_ble_eq_true rfl) rfl ?_
        refine aw_iinc (lv' := [(0, _), (1, _), (2, _), (3, _), (4, _), (5, _), (6, _), (7, _), (8, _)]) C dX9_explains_174 rfl ki_2 (Nat.le_of_ble_eq_true rfl) rfl ?_
        refine aw_goto (tgt := 29) C dX9_explains_177 (by decide) ?_
        refine aw_take 6 (lv' := [(0, _), (1, _), (2, _), (3, _), (4, _), (5, _)]) rfl ?_
        have e1 : stN (isM h wires eyes u) n = n + 1 := by unfold stN; rw [(show isM h wires eyes u = true from h144)]; rfl
        have e2 : stR (isM h wires eyes u) n r ((-1) * nI u) = ((-1) * nI u) + 100000 := by unfold stR; rw [(show isM h wires eyes u = true from h144), if_pos rfl, if_pos h148]
        rw [e1, e2] at hK
        exact hK
  · refine aw_iload C dX9_explains_47 rfl ?_
    refine aw_if_ge (tgt := 56) C dX9_explains_49 (by decide) (fun h49 => absurd h49 (by decide)) (fun h49 => ?_)
    refine aw_iconst C dX9_explains_52 ki_1 ?_
    refine aw_goto (tgt := 57) C dX9_explains_53 (by decide) ?_
    refine aw_istore (lv' := [(0, _), (1, _), (2, _), (3, _), (4, _), (5, _), (6, _), (7, _)]) C dX9_explains_57 (Nat.le_of_ble_eq_true rfl) rfl ?_
    refine aw_iconst C dX9_explains_59 ki_0 ?_
    refine aw_istore (lv' := [(0, _), (1, _), (2, _), (3, _), (4, _), (5, _), (6, _), (7, _), (8, _)]) C dX9_explains_60 (Nat.le_of_ble_eq_true rfl) rfl ?_
    refine cm_explains_e (b0 := true) hI C hr hw ?_ 3 0 true (by omega) (by omega) rfl
    refine aw_iload C dX9_explains_142 rfl ?_
    refine aw_if_eq_b (tgt := 159) C dX9_explains_144 (by decide) (fun h144 => ?_) (fun h144 => ?_)
    · refine aw_iload_n C dX9_explains_159 (i := 3) rfl rfl ?_
      refine aw_istore_n (lv' := [(0, _), (1, _), (2, _), (3, _), (4, _), (5, _), (6, _), (7, _), (8, _)]) C dX9_explains_160 (i := 3) rfl (Nat.le_of_ble_eq_true rfl) rfl ?_
      refine aw_iload_n C dX9_explains_161 (i := 2) rfl rfl ?_
      refine aw_iload C dX9_explains_162 rfl ?_
      refine aw_if_eq_b (tgt := 171) C dX9_explains_164 (by decide) (fun h164 => ?_) (fun h164 => absurd h164 (by rw [h144]; decide))
      refine aw_iconst C dX9_explains_171 ki_0 ?_
      refine aw_iadd_n C dX9_explains_172 ?_
      refine aw_istore_n (lv' := [(0, _), (1, _), (2, _), (3, _), (4, _), (5, _), (6, _), (7, _), (8, _)]) C dX9_explains_173 (i := 2) rfl (Nat.le_of_ble_eq_true rfl) rfl ?_
      refine aw_iinc (lv' := [(0, _), (1, _), (2, _), (3, _), (4, _), (5, _), (6, _), (7, _), (8, _)]) C dX9_explains_174 rfl ki_2 (Nat.le_of_ble_eq_true rfl) rfl ?_
      refine aw_goto (tgt := 29) C dX9_explains_177 (by decide) ?_
      refine aw_take 6 (lv' := [(0, _), (1, _), (2, _), (3, _), (4, _), (5, _)]) rfl ?_
      have e1 : stN (isM h wires eyes u) n = n := by unfold stN; rw [(show isM h wires eyes u = false from h144)]; rfl
      have e2 : stR (isM h wires eyes u) n r ((-1) * nI u) = r := by unfold stR; rw [(show isM h wires eyes u = false from h144)]; rfl
      rw [e1, e2] at hK
      exact hK
    · refine aw_iload_n C dX9_explains_147 (i := 2) rfl rfl ?_
      refine aw_if_ne_n (tgt := 159) C dX9_explains_148 (by decide) (by omega) (fun h148 => ?_) (fun h148 => ?_)
      · refine aw_iload_n C dX9_explains_159 (i := 3) rfl rfl ?_
        refine aw_istore_n (lv' := [(0, _), (1, _), (2, _), (3, _), (4, _), (5, _), (6, _), (7, _), (8, _)]) C dX9_explains_160 (i := 3) rfl (Nat.le_of_ble_eq_true rfl) rfl ?_
        refine aw_iload_n C dX9_explains_161 (i := 2) rfl rfl ?_
        refine aw_iload C dX9_explains_162 rfl ?_
        refine aw_if_eq_b (tgt := 171) C dX9_explains_164 (by decide) (fun h164 => absurd h164 (by rw [h144]; decide)) (fun h164 => ?_)
        refine aw_iconst C dX9_explains_167 ki_1 ?_
        refine aw_goto (tgt := 172) C dX9_explains_168 (by decide) ?_
        refine aw_iadd_n C dX9_explains_172 ?_
        refine aw_istore_n (lv' := [(0, _), (1, _), (2, _), (3, _), (4, _), (5, _), (6, _), (7, _), (8, _)]) C dX9_explains_173 (i := 2) rfl (Nat.le_of_ble_eq_true rfl) rfl ?_
        refine aw_iinc (lv' := [(0, _), (1, _), (2, _), (3, _), (4, _), (5, _), (6, _), (7, _), (8, _)]) C dX9_explains_174 rfl ki_2 (Nat.le_of_ble_eq_true rfl) rfl ?_
        refine aw_goto (tgt := 29) C dX9_explains_177 (by decide) ?_
        refine aw_take 6 (lv' := [(0, _), (1, _), (2, _), (3, _), (4, _), (5, _)]) rfl ?_
        have e1 : stN (isM h wires eyes u) n = n + 1 := by unfold stN; rw [(show isM h wires eyes u = true from h144)]; rfl
        have e2 : stR (isM h wires eyes u) n r ((-1) * nI u) = r := by unfold stR; rw [(show isM h wires eyes u = true from h144), if_pos rfl, if_neg (Nat.ne_of_gt h148)]
        rw [e1, e2] at hK
        exact hK
      · refine aw_iload C dX9_explains_151 rfl ?_
        refine aw_ldc C dX9_explains_153 kc_X9_101 ?_
        refine aw_iadd C dX9_explains_155 ?_
        refine aw_goto (tgt := 160) C dX9_explains_156 (by decide) ?_
        refine aw_istore_n (lv' := [(0, _), (1, _), (2, _), (3, _), (4, _), (5, _), (6, _), (7, _), (8, _)]) C dX9_explains_160 (i := 3) rfl (Nat.le_of_ble_eq_true rfl) rfl ?_
        refine aw_iload_n C dX9_explains_161 (i := 2) rfl rfl ?_
        refine aw_iload C dX9_explains_162 rfl ?_
        refine aw_if_eq_b (tgt := 171) C dX9_explains_164 (by decide) (fun h164 => absurd h164 (by rw [h144]; decide)) (fun h164 => ?_)
        refine aw_iconst C dX9_explains_167 ki_1 ?_
        refine aw_goto (tgt := 172) C dX9_explains_168 (by decide) ?_
        refine aw_iadd_n C dX9_explains_172 ?_
        refine aw_istore_n (lv' := [(0, _), (1, _), (2, _), (3, _), (4, _), (5, _), (6, _), (7, _), (8, _)]) C dX9_explains_173 (i := 2) rfl (Nat.le_of_ble_eq_true rfl) rfl ?_
        refine aw_iinc (lv' := [(0, _), (1, _), (2, _), (3, _), (4, _), (5, _), (6, _), (7, _), (8, _)]) C dX9_explains_174 rfl ki_2 (Nat.le_of_ble_eq_true rfl) rfl ?_
        refine aw_goto (tgt := 29) C dX9_explains_177 (by decide) ?_
        refine aw_take 6 (lv' := [(0, _), (1, _), (2, _), (3, _), (4, _), (5, _)]) rfl ?_
        have e1 : stN (isM h wires eyes u) n = n + 1 := by unfold stN; rw [(show isM h wires eyes u = true from h144)]; rfl
        have e2 : stR (isM h wires eyes u) n r ((-1) * nI u) = ((-1) * nI u) + 100000 := by unfold stR; rw [(show isM h wires eyes u = true from h144), if_pos rfl, if_pos h148]
        rw [e1, e2] at hK
        exact hK
set_option maxRecDepth 20000 in
/-- explains, from 29 on -/
theorem cm_explains_sp {l : Launch} {D : va_G} {cy : Nat → ClassId} {z : Nat → Nat} {q : Nat → Nat} {p : Program} {e : Env} {s : State} {m : MethodId} {args : Array Value} {below : List Frame} {meth : Method} {c : Code} (hI : wI 9 q) (C : Cx p s m args meth c cX9_explains 9 RX9 D cy z 9 q) (hr : meth.sig.returnType = (some .int)) {len span wires chg rsp rwi val ends : Nat} {text : Nat → Nat} {h was rd eyes fw bars ways : Nat → Int32} {post : Option Value → wS → Prop} {what r : Int32} {n u : Nat} (hu : u < 10) (hn : n ≤ 100) (hw : wires ≤ 8) (hK : AW p l e { frames := 2, cells := 0, slots := 0, locals := 50 } s m args below meth c D 9 q 9 (MQ below (Qg D 9 q post (wA 9 q s.heap.size)) args s 0 0 (wA 9 q s.heap.size)) (mdC cy q len span wires chg rsp rwi val ends text h was rd eyes fw bars ways) [(0, .ref (q 0)), (1, .int what), (2, .int (nI (stN (isP h wires eyes u) n))), (3, .int (stR (isP h wires eyes u) n r ((nI 1) * nI u))), (4, .int (nI u)), (5, .int ((nI 1) + nI 2))] 29 []) : AW p l e { frames := 2, cells := 0, slots := 0, locals := 50 } s m args below meth c D 9 q 9 (MQ below (Qg D 9 q post (wA 9 q s.heap.size)) args s 0 0 (wA 9 q s.heap.size)) (mdC cy q len span wires chg rsp rwi val ends text h was rd eyes fw bars ways) [(0, .ref (q 0)), (1, .int what), (2, .int (nI (n))), (3, .int (r)), (4, .int (nI u)), (5, .int (nI 1))] 29 [] := by
  refine aw_iload C dX9_explains_29 rfl ?_
  refine aw_iconst C dX9_explains_31 ki_2 ?_
  refine aw_icmp_ge (tgt := 180) C dX9_explains_32 (by decide) (fun h32 => absurd h32 (by decide)) (fun h32 => ?_)
  refine aw_iload C dX9_explains_35 rfl ?_
  refine aw_iload C dX9_explains_37 rfl ?_
  refine aw_imul C dX9_explains_39 ?_
  refine aw_istore (lv' := [(0, _), (1, _), (2, _), (3, _), (4, _), (5, _), (6, _)]) C dX9_explains_40 (Nat.le_of_ble_eq_true rfl) rfl ?_
  refine aw_iload C dX9_explains_42 rfl ?_
  refine aw_if_gt_n (tgt := 52) C dX9_explains_44 (by decide) (by omega) (fun h44 => ?_) (fun h44 => ?_)
  · refine aw_iconst C dX9_explains_52 ki_1 ?_
    refine aw_goto (tgt := 57) C dX9_explains_53 (by decide) ?_
    refine aw_istore (lv' := [(0, _), (1, _), (2, _), (3, _), (4, _), (5, _), (6, _), (7, _)]) C dX9_explains_57 (Nat.le_of_ble_eq_true rfl) rfl ?_
    refine aw_iconst C dX9_explains_59 ki_0 ?_
    refine aw_istore (lv' := [(0, _), (1, _), (2, _), (3, _), (4, _), (5, _), (6, _), (7, _), (8, _)]) C dX9_explains_60 (Nat.le_of_ble_eq_true rfl) rfl ?_
    refine cm_explains_e (b0 := (decide (0 < u))) hI C hr hw ?_ 3 0 true (by omega) (by omega) (by unfold exT; simp [h44])
    refine aw_iload C dX9_explains_142 rfl ?_
    refine aw_if_eq_b (tgt := 159) C dX9_explains_144 (by decide) (fun h144 => ?_) (fun h144 => ?_)
    · refine aw_iload_n C dX9_explains_159 (i := 3) rfl rfl ?_
      refine aw_istore_n (lv' := [(0, _), (1, _), (2, _), (3, _), (4, _), (5, _), (6, _), (7, _), (8, _)]) C dX9_explains_160 (i := 3) rfl (Nat.le_of_ble_eq_true rfl) rfl ?_
      refine aw_iload_n C dX9_explains_161 (i := 2) rfl rfl ?_
      refine aw_iload C dX9_explains_162 rfl ?_
      refine aw_if_eq_b (tgt := 171) C dX9_explains_164 (by decide) (fun h164 => ?_) (fun h164 => absurd h164 (by rw [h144]; decide))
      refine aw_iconst C dX9_explains_171 ki_0 ?_
      refine aw_iadd_n C dX9_explains_172 ?_
      refine aw_istore_n (lv' := [(0, _), (1, _), (2, _), (3, _), (4, _), (5, _), (6, _), (7, _), (8, _)]) C dX9_explains_173 (i := 2) rfl (Nat.le_of_ble_eq_true rfl) rfl ?_
      refine aw_iinc (lv' := [(0, _), (1, _), (2, _), (3, _), (4, _), (5, _), (6, _), (7, _), (8, _)]) C dX9_explains_174 rfl ki_2 (Nat.le_of_ble_eq_true rfl) rfl ?_
      refine aw_goto (tgt := 29) C dX9_explains_177 (by decide) ?_
      refine aw_take 6 (lv' := [(0, _), (1, _), (2, _), (3, _), (4, _), (5, _)]) rfl ?_
      have e1 : stN (isP h wires eyes u) n = n := by unfold stN; rw [(show isP h wires eyes u = false from h144)]; rfl
      have e2 : stR (isP h wires eyes u) n r ((nI 1) * nI u) = r := by unfold stR; rw [(show isP h wires eyes u = false from h144)]; rfl
      rw [e1, e2] at hK
      exact hK
    · refine aw_iload_n C dX9_explains_147 (i := 2) rfl rfl ?_
      refine aw_if_ne_n (tgt := 159) C dX9_explains_148 (by decide) (by omega) (fun h148 => ?_) (fun h148 => ?_)
      · refine aw_iload_n C dX9_explains_159 (i := 3) rfl rfl ?_
        refine aw_istore_n (lv' := [(0, _), (1, _), (2, _), (3, _), (4, _), (5, _), (6, _), (7, _), (8, _)]) C dX9_explains_160 (i := 3) rfl (Nat.le_of_ble_eq_true rfl) rfl ?_
        refine aw_iload_n C dX9_explains_161 (i := 2) rfl rfl ?_
        refine aw_iload C dX9_explains_162 rfl ?_
        refine aw_if_eq_b (tgt := 171) C dX9_explains_164 (by decide) (fun h164 => absurd h164 (by rw [h144]; decide)) (fun h164 => ?_)
        refine aw_iconst C dX9_explains_167 ki_1 ?_
        refine aw_goto (tgt := 172) C dX9_explains_168 (by decide) ?_
        refine aw_iadd_n C dX9_explains_172 ?_
        refine aw_istore_n (lv' := [(0, _), (1, _), (2, _), (3, _), (4, _), (5, _), (6, _), (7, _), (8, _)]) C dX9_explains_173 (i := 2) rfl (Nat.le_of_ble_eq_true rfl) rfl ?_
        refine aw_iinc (lv' := [(0, _), (1, _), (2, _), (3, _), (4, _), (5, _), (6, _), (7, _), (8, _)]) C dX9_explains_174 rfl ki_2 (Nat.le_of_ble_eq_true rfl) rfl ?_
        refine aw_goto (tgt := 29) C dX9_explains_177 (by decide) ?_
        refine aw_take 6 (lv' := [(0, _), (1, _), (2, _), (3, _), (4, _), (5, _)]) rfl ?_
        have e1 : stN (isP h wires eyes u) n = n + 1 := by unfold stN; rw [(show isP h wires eyes u = true from h144)]; rfl
        have e2 : stR (isP h wires eyes u) n r ((nI 1) * nI u) = r := by unfold stR; rw [(show isP h wires eyes u = true from h144), if_pos rfl, if_neg (Nat.ne_of_gt h148)]
        rw [e1, e2] at hK
        exact hK
      · refine aw_iload C dX9_explains_151 rfl ?_
        refine aw_ldc C dX9_explains_153 kc_X9_101 ?_
        refine aw_iadd C dX9_explains_155 ?_
        refine aw_goto (tgt := 160) C dX9_explains_156 (by decide) ?_
        refine aw_istore_n (lv' := [(0, _), (1, _), (2, _), (3, _), (4, _), (5, _), (6, _), (7, _), (8, _)]) C dX9_explains_160 (i := 3) rfl (Nat.le_of_ble_eq_true rfl) rfl ?_
        refine aw_iload_n C dX9_explains_161 (i := 2) rfl rfl ?_
        refine aw_iload C dX9_explains_162 rfl ?_
        refine aw_if_eq_b (tgt := 171) C dX9_explains_164 (by decide) (fun h164 => absurd h164 (by rw [h144]; decide)) (fun h164 => ?_)
        refine aw_iconst C dX9_explains_167 ki_1 ?_
        refine aw_goto (tgt := 172) C dX9_explains_168 (by decide) ?_
        refine aw_iadd_n C dX9_explains_172 ?_
        refine aw_istore_n (lv' := [(0, _), (1, _), (2, _), (3, _), (4, _), (5, _), (6, _), (7, _), (8, _)]) C dX9_explains_173 (i := 2) rfl (Nat.le_of_ble_eq_true rfl) rfl ?_
        refine aw_iinc (lv' := [(0, _), (1, _), (2, _), (3, _), (4, _), (5, _), (6, _), (7, _), (8, _)]) C dX9_explains_174 rfl ki_2 (Nat.le_of_ble_eq_true rfl) rfl ?_
        refine aw_goto (tgt := 29) C dX9_explains_177 (by decide) ?_
        refine aw_take 6 (lv' := [(0, _), (1, _), (2, _), (3, _), (4, _), (5, _)]) rfl ?_
        have e1 : stN (isP h wires eyes u) n = n + 1 := by unfold stN; rw [(show isP h wires eyes u = true from h144)]; rfl
        have e2 : stR (isP h wires eyes u) n r ((nI 1) * nI u) = ((nI 1) * nI u) + 100000 := by unfold stR; rw [(show isP h wires eyes u = true from h144), if_pos rfl, if_pos h148]
        rw [e1, e2] at hK
        exact hK
  · refine aw_iload C dX9_explains_47 rfl ?_
    refine aw_if_ge (tgt := 56) C dX9_explains_49 (by decide) (fun h49 => ?_) (fun h49 => absurd (by decide) h49)
    refine aw_iconst C dX9_explains_56 ki_0 ?_
    refine aw_istore (lv' := [(0, _), (1, _), (2, _), (3, _), (4, _), (5, _), (6, _), (7, _)]) C dX9_explains_57 (Nat.le_of_ble_eq_true rfl) rfl ?_
    refine aw_iconst C dX9_explains_59 ki_0 ?_
    refine aw_istore (lv' := [(0, _), (1, _), (2, _), (3, _), (4, _), (5, _), (6, _), (7, _), (8, _)]) C dX9_explains_60 (Nat.le_of_ble_eq_true rfl) rfl ?_
    refine cm_explains_e (b0 := (decide (0 < u))) hI C hr hw ?_ 3 0 false (by omega) (by omega) (by unfold exT; simp [h44])
    refine aw_iload C dX9_explains_142 rfl ?_
    refine aw_if_eq_b (tgt := 159) C dX9_explains_144 (by decide) (fun h144 => ?_) (fun h144 => ?_)
    · refine aw_iload_n C dX9_explains_159 (i := 3) rfl rfl ?_
      refine aw_istore_n (lv' := [(0, _), (1, _), (2, _), (3, _), (4, _), (5, _), (6, _), (7, _), (8, _)]) C dX9_explains_160 (i := 3) rfl (Nat.le_of_ble_eq_true rfl) rfl ?_
      refine aw_iload_n C dX9_explains_161 (i := 2) rfl rfl ?_
      refine aw_iload C dX9_explains_162 rfl ?_
      refine aw_if_eq_b (tgt := 171) C dX9_explains_164 (by decide) (fun h164 => ?_) (fun h164 => absurd h164 (by rw [h144]; decide))
      refine aw_iconst C dX9_explains_171 ki_0 ?_
      refine aw_iadd_n C dX9_explains_172 ?_
      refine aw_istore_n (lv' := [(0, _), (1, _), (2, _), (3, _), (4, _), (5, _), (6, _), (7, _), (8, _)]) C dX9_explains_173 (i := 2) rfl (Nat.le_of_ble_eq_true rfl) rfl ?_
      refine aw_iinc (lv' := [(0, _), (1, _), (2, _), (3, _), (4, _), (5, _), (6, _), (7, _), (8, _)]) C dX9_explains_174 rfl ki_2 (Nat.le_of_ble_eq_true rfl) rfl ?_
      refine aw_goto (tgt := 29) C dX9_explains_177 (by decide) ?_
      refine aw_take 6 (lv' := [(0, _), (1, _), (2, _), (3, _), (4, _), (5, _)]) rfl ?_
      have e1 : stN (isP h wires eyes u) n = n := by unfold stN; rw [(show isP h wires eyes u = false from h144)]; rfl
      have e2 : stR (isP h wires eyes u) n r ((nI 1) * nI u) = r := by unfold stR; rw [(show isP h wires eyes u = false from h144)]; rfl
      rw [e1, e2] at hK
      exact hK
    · refine aw_iload_n C dX9_explains_147 (i := 2) rfl rfl ?_
      refine aw_if_ne_n (tgt := 159) C dX9_explains_148 (by decide) (by omega) (fun h148 => ?_) (fun h148 => ?_)
      · refine aw_iload_n C dX9_explains_159 (i := 3) rfl rfl ?_
        refine aw_istore_n (lv' := [(0, _), (1, _), (2, _), (3, _), (4, _), (5, _), (6, _), (7, _), (8, _)]) C dX9_explains_160 (i := 3) rfl (Nat.le_of_ble_eq_true rfl) rfl ?_
        refine aw_iload_n C dX9_explains_161 (i := 2) rfl rfl ?_
        refine aw_iload C dX9_explains_162 rfl ?_
        refine aw_if_eq_b (tgt := 171) C dX9_explains_164 (by decide) (fun h164 => absurd h164 (by rw [h144]; decide)) (fun h164 => ?_)
        refine aw_iconst C dX9_explains_167 ki_1 ?_
        refine aw_goto (tgt := 172) C dX9_explains_168 (by decide) ?_
        refine aw_iadd_n C dX9_explains_172 ?_
        refine aw_istore_n (lv' := [(0, _), (1, _), (2, _), (3, _), (4, _), (5, _), (6, _), (7, _), (8, _)]) C dX9_explains_173 (i := 2) rfl (Nat.le_of_ble_eq_true rfl) rfl ?_
        refine aw_iinc (lv' := [(0, _), (1, _), (2, _), (3, _), (4, _), (5, _), (6, _), (7, _), (8, _)]) C dX9_explains_174 rfl ki_2 (Nat.le_of_ble_eq_true rfl) rfl ?_
        refine aw_goto (tgt := 29) C dX9_explains_177 (by decide) ?_
        refine aw_take 6 (lv' := [(0, _), (1, _), (2, _), (3, _), (4, _), (5, _)]) rfl ?_
        have e1 : stN (isP h wires eyes u) n = n + 1 := by unfold stN; rw [(show isP h wires eyes u = true from h144)]; rfl
        have e2 : stR (isP h wires eyes u) n r ((nI 1) * nI u) = r := by unfold stR; rw [(show isP h wires eyes u = true from h144), if_pos rfl, if_neg (Nat.ne_of_gt h148)]
        rw [e1, e2] at hK
        exact hK
      · refine aw_iload C dX9_explains_151 rfl ?_
        refine aw_ldc C dX9_explains_153 kc_X9_101 ?_
        refine aw_iadd C dX9_explains_155 ?_
        refine aw_goto (tgt := 160) C dX9_explains_156 (by decide) ?_
        refine aw_istore_n (lv' := [(0, _), (1, _), (2, _), (3, _), (4, _), (5, _), (6, _), (7, _), (8, _)]) C dX9_explains_160 (i := 3) rfl (Nat.le_of_ble_eq_true rfl) rfl ?_
        refine aw_iload_n C dX9_explains_161 (i := 2) rfl rfl ?_
        refine aw_iload C dX9_explains_162 rfl ?_
        refine aw_if_eq_b (tgt := 171) C dX9_explains_164 (by decide) (fun h164 => absurd h164 (by rw [h144]; decide)) (fun h164 => ?_)
        refine aw_iconst C dX9_explains_167 ki_1 ?_
        refine aw_goto (tgt := 172) C dX9_explains_168 (by decide) ?_
        refine aw_iadd_n C dX9_explains_172 ?_
        refine aw_istore_n (lv' := [(0, _), (1, _), (2, _), (3, _), (4, _), (5, _), (6, _), (7, _), (8, _)]) C dX9_explains_173 (i := 2) rfl (Nat.le_of_ble_eq_true rfl) rfl ?_
        refine aw_iinc (lv' := [(0, _), (1, _), (2, _), (3, _), (4, _), (5, _), (6, _), (7, _), (8, _)]) C dX9_explains_174 rfl ki_2 (Nat.le_of_ble_eq_true rfl) rfl ?_
        refine aw_goto (tgt := 29) C dX9_explains_177 (by decide) ?_
        refine aw_take 6 (lv' := [(0, _), (1, _), (2, _), (3, _), (4, _), (5, _)]) rfl ?_
        have e1 : stN (isP h wires eyes u) n = n + 1 := by unfold stN; rw [(show isP h wires eyes u = true from h144)]; rfl
        have e2 : stR (isP h wires eyes u) n r ((nI 1) * nI u) = ((nI 1) * nI u) + 100000 := by unfold stR; rw [(show isP h wires eyes u = true from h144), if_pos rfl, if_pos h148]
        rw [e1, e2] at hK
        exact hK
set_option maxRecDepth 20000 in
/-- explains, from 29 on -/
theorem cm_explains_x {l : Launch} {D : va_G} {cy : Nat → ClassId} {z : Nat → Nat} {q : Nat → Nat} {p : Program} {e : Env} {s : State} {m : MethodId} {args : Array Value} {below : List Frame} {meth : Method} {c : Code} (hI : wI 9 q) (C : Cx p s m args meth c cX9_explains 9 RX9 D cy z 9 q) (hr : meth.sig.returnType = (some .int)) {len span wires chg rsp rwi val ends : Nat} {text : Nat → Nat} {h was rd eyes fw bars ways : Nat → Int32} {post : Option Value → wS → Prop} {what r : Int32} {n u : Nat} (hu : u < 10) (hw : wires ≤ 8) (hK : AW p l e { frames := 2, cells := 0, slots := 0, locals := 50 } s m args below meth c D 9 q 9 (MQ below (Qg D 9 q post (wA 9 q s.heap.size)) args s 0 0 (wA 9 q s.heap.size)) (mdC cy q len span wires chg rsp rwi val ends text h was rd eyes fw bars ways) [(0, .ref (q 0)), (1, .int what), (2, .int (nI (n))), (3, .int (r)), (4, .int (nI (u + 1)))] 19 []) : AW p l e { frames := 2, cells := 0, slots := 0, locals := 50 } s m args below meth c D 9 q 9 (MQ below (Qg D 9 q post (wA 9 q s.heap.size)) args s 0 0 (wA 9 q s.heap.size)) (mdC cy q len span wires chg rsp rwi val ends text h was rd eyes fw bars ways) [(0, .ref (q 0)), (1, .int what), (2, .int (nI (n))), (3, .int (r)), (4, .int (nI u)), (5, .int (nI 1 + nI 2))] 29 [] := by
  refine aw_iload C dX9_explains_29 rfl ?_
  refine aw_iconst C dX9_explains_31 ki_2 ?_
  refine aw_icmp_ge (tgt := 180) C dX9_explains_32 (by decide) (fun h32 => ?_) (fun h32 => absurd (by decide) h32)
  refine aw_iinc_n (lv' := [(0, _), (1, _), (2, _), (3, _), (4, _), (5, _)]) C dX9_explains_180 rfl ki_1 (Nat.le_of_ble_eq_true rfl) rfl ?_
  refine aw_goto (tgt := 19) C dX9_explains_183 (by decide) ?_
  refine aw_take 5 (lv' := [(0, _), (1, _), (2, _), (3, _), (4, _)]) rfl ?_
  exact hK
set_option maxRecDepth 20000 in
/-- explains, its loop -/
theorem cm_explains_b {l : Launch} {D : va_G} {cy : Nat → ClassId} {z : Nat → Nat} {q : Nat → Nat} {p : Program} {e : Env} {s : State} {m : MethodId} {args : Array Value} {below : List Frame} {meth : Method} {c : Code} (hI : wI 9 q) (C : Cx p s m args meth c cX9_explains 9 RX9 D cy z 9 q) (hr : meth.sig.returnType = (some .int)) {len span wires chg rsp rwi val ends : Nat} {text : Nat → Nat} {h was rd eyes fw bars ways : Nat → Int32} {what : Int32} (hw : wires ≤ 8) (h6 : inB what (nI 0) (nI 1) = true) : ∀ (d : Nat) (u : Nat), 10 - u < d → (u ≤ 10) → AW p l e { frames := 2, cells := 0, slots := 0, locals := 50 } s m args below meth c D 9 q 9 (MQ below (Qg D 9 q (PI (opExplains wires h eyes what) (mdC cy q len span wires chg rsp rwi val ends text h was rd eyes fw bars ways)) (wA 9 q s.heap.size)) args s 0 0 (wA 9 q s.heap.size)) (mdC cy q len span wires chg rsp rwi val ends text h was rd eyes fw bars ways) [(0, .ref (q 0)), (1, .int what), (2, .int (nI (exC h wires eyes u))), (3, .int (exR h wires eyes u)), (4, .int (nI u))] 19 [] := by
  intro d
  induction d with
  | zero => intro u hd; exact absurd hd (Nat.not_lt_zero _)
  | succ d ih =>
    intro u hd iv0
    refine aw_iload C dX9_explains_19 rfl ?_
    refine aw_bipush C dX9_explains_21 kb_10 ?_
    refine aw_icmp_ge_n (tgt := 186) C dX9_explains_23 (by decide) (by omega) (by omega) (fun h23 => ?_) (fun h23 => ?_)
    · refine aw_iload_n C dX9_explains_186 (i := 1) rfl rfl ?_
      refine aw_if_ne (tgt := 194) C dX9_explains_187 (by decide) (fun h187 => ?_) (fun h187 => ?_)
      · refine aw_iload_n C dX9_explains_194 (i := 3) rfl rfl ?_
        refine aw_iret C hr dX9_explains_195 ?_
        obtain rfl : u = 10 := by omega
        exact PI.mk (by unfold opExplains; rw [if_pos h6, if_neg h187]) rfl
      · refine aw_iload_n C dX9_explains_190 (i := 2) rfl rfl ?_
        refine aw_goto (tgt := 195) C dX9_explains_191 (by decide) ?_
        refine aw_iret C hr dX9_explains_195 ?_
        obtain rfl : u = 10 := by omega
        exact PI.mk (by unfold opExplains; rw [if_pos h6, if_pos h187]) rfl
    · have hcl := exC_le h wires eyes u
      have hst := stN_le (isM h wires eyes u) (exC h wires eyes u)
      refine aw_iconst C dX9_explains_26 ki_m1 ?_
      refine aw_istore (lv' := [(0, _), (1, _), (2, _), (3, _), (4, _), (5, _)]) C dX9_explains_27 (Nat.le_of_ble_eq_true rfl) rfl ?_
      refine cm_explains_sm hI C hr h23 (by omega) hw ?_
      refine aw_lq (lv' := [(0, .ref (q 0)), (1, .int what), (2, .int (nI (stN (isM h wires eyes u) (exC h wires eyes u)))), (3, .int (stR (isM h wires eyes u) (exC h wires eyes u) (exR h wires eyes u) ((-1) * nI u))), (4, .int (nI u)), (5, .int (nI 1))]) (by rw [show ((-1 : Int32) + nI 2) = nI 1 from by decide]) ?_
      refine cm_explains_sp hI C hr h23 (by omega) hw ?_
      exact cm_explains_x hI C hr h23 hw (ih (u + 1) (by omega) (by omega))
set_option maxRecDepth 20000 in
/-- explains -/
theorem cm_explains {l : Launch} {D : va_G} {cy : Nat → ClassId} {z : Nat → Nat} {q : Nat → Nat} (hI : wI 9 q) {len span wires chg rsp rwi val ends : Nat} {text : Nat → Nat} {h was rd eyes fw bars ways : Nat → Int32} {what : Int32} (hw : wires ≤ 8) : Ct l yX9_explains cX9_explains 9 (some .int) 2 50 D cy z 9 q [.ref (q 0), .int what] (mdC cy q len span wires chg rsp rwi val ends text h was rd eyes fw bars ways) (PI (opExplains wires h eyes what) (mdC cy q len span wires chg rsp rwi val ends text h was rd eyes fw bars ways)) := by
  refine Ct.of (own := RX9) (by decide) rfl hI (Nat.le_of_ble_eq_true rfl) ?_
  intro p e s m args below meth c C hr
  refine aw_lv (lv' := [(0, .ref (q 0)), (1, .int what)]) (fun x hx => hx) ?_
  refine aw_iload_n C dX9_explains_0 (i := 1) rfl rfl ?_
  refine aw_iconst C dX9_explains_1 ki_0 ?_
  refine aw_iconst C dX9_explains_2 ki_1 ?_
  refine aw_S3i C dX9_explains_3 cs_X9_54 (cm_isIn hI) ⟨Nat.le_of_ble_eq_true rfl, Nat.le_of_ble_eq_true rfl⟩ (Nat.le_of_ble_eq_true rfl) ?_
  refine aw_if_ne_b (tgt := 11) C dX9_explains_6 (by decide) (fun h6 => ?_) (fun h6 => ?_)
  · refine aw_iconst C dX9_explains_11 ki_0 ?_
    refine aw_istore_n (lv' := [(0, _), (1, _), (2, _)]) C dX9_explains_12 (i := 2) rfl (Nat.le_of_ble_eq_true rfl) rfl ?_
    refine aw_bipush C dX9_explains_13 kb_m4 ?_
    refine aw_istore_n (lv' := [(0, _), (1, _), (2, _), (3, _)]) C dX9_explains_15 (i := 3) rfl (Nat.le_of_ble_eq_true rfl) rfl ?_
    refine aw_iconst C dX9_explains_16 ki_0 ?_
    refine aw_istore (lv' := [(0, _), (1, _), (2, _), (3, _), (4, _)]) C dX9_explains_17 (Nat.le_of_ble_eq_true rfl) rfl ?_
    exact cm_explains_b hI C hr hw h6 11 0 (by omega) (by omega)
  · refine aw_iconst C dX9_explains_9 ki_m1 ?_
    refine aw_iret C hr dX9_explains_10 ?_
    exact PI.mk (if_neg (by rw [h6]; decide)).symm rfl
