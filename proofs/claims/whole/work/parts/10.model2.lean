-- the reference: changes, and questions of one or two wires
set_option maxRecDepth 20000 in
/-- lowest -/
theorem cm_lowest {l : Launch} {D : va_G} {cy : Nat → ClassId} {z : Nat → Nat} {q : Nat → Nat} {N : Nat} (hI : wI N q) {f : wS} {w : Int32} : Ct l yX9_lowest cX9_lowest 1 (some .int) 0 0 D cy z N q [.int w] f (PI (lowI w) f) := by
  refine Ct.of (own := RX9) (by decide) rfl hI (Nat.le_of_ble_eq_true rfl) ?_
  intro p e s m args below meth c C hr
  refine aw_lv (lv' := [(0, .int w)]) (fun x hx => hx) ?_
  refine aw_iload_n C dX9_lowest_0 (i := 0) rfl rfl ?_
  refine aw_iconst C dX9_lowest_1 ki_4 ?_
  refine aw_icmp_ne (tgt := 9) C dX9_lowest_2 (by decide) (fun h2 => ?_) (fun h2 => ?_)
  · refine aw_iconst C dX9_lowest_9 ki_0 ?_
    refine aw_iret C hr dX9_lowest_10 ?_
    exact PI.mk (if_neg h2).symm rfl
  · refine aw_iconst C dX9_lowest_5 ki_1 ?_
    refine aw_goto (tgt := 10) C dX9_lowest_6 (by decide) ?_
    refine aw_iret C hr dX9_lowest_10 ?_
    exact PI.mk (if_pos h2).symm rfl
set_option maxRecDepth 20000 in
/-- most -/
theorem cm_most {l : Launch} {D : va_G} {cy : Nat → ClassId} {z : Nat → Nat} {q : Nat → Nat} {N : Nat} (hI : wI N q) {f : wS} {w : Int32} : Ct l yX9_most cX9_most 1 (some .int) 0 0 D cy z N q [.int w] f (PI (mostI w) f) := by
  refine Ct.of (own := RX9) (by decide) rfl hI (Nat.le_of_ble_eq_true rfl) ?_
  intro p e s m args below meth c C hr
  refine aw_lv (lv' := [(0, .int w)]) (fun x hx => hx) ?_
  refine aw_iload_n C dX9_most_0 (i := 0) rfl rfl ?_
  refine aw_iconst C dX9_most_1 ki_1 ?_
  refine aw_icmp_ne (tgt := 10) C dX9_most_2 (by decide) (fun h2 => ?_) (fun h2 => ?_)
  · refine aw_bipush C dX9_most_10 kb_9 ?_
    refine aw_iret C hr dX9_most_12 ?_
    exact PI.mk (if_neg h2).symm rfl
  · refine aw_bipush C dX9_most_5 kb_40 ?_
    refine aw_goto (tgt := 12) C dX9_most_7 (by decide) ?_
    refine aw_iret C hr dX9_most_12 ?_
    exact PI.mk (if_pos h2).symm rfl
set_option maxRecDepth 20000 in
/-- highest -/
theorem cm_highest {l : Launch} {D : va_G} {cy : Nat → ClassId} {z : Nat → Nat} {q : Nat → Nat} {N : Nat} (hI : wI N q) {f : wS} {w : Int32} : Ct l yX9_highest cX9_highest 1 (some .int) 0 0 D cy z N q [.int w] f (PI (highI w) f) := by
  refine Ct.of (own := RX9) (by decide) rfl hI (Nat.le_of_ble_eq_true rfl) ?_
  intro p e s m args below meth c C hr
  refine aw_lv (lv' := [(0, .int w)]) (fun x hx => hx) ?_
  refine aw_iload_n C dX9_highest_0 (i := 0) rfl rfl ?_
  refine aw_if_eq (tgt := 9) C dX9_highest_1 (by decide) (fun h1 => ?_) (fun h1 => ?_)
  · refine aw_bipush C dX9_highest_9 kb_60 ?_
    refine aw_goto (tgt := 25) C dX9_highest_11 (by decide) ?_
    refine aw_iret C hr dX9_highest_25 ?_
    exact PI.mk (by unfold highI; rw [if_pos h1]) rfl
  · refine aw_iload_n C dX9_highest_4 (i := 0) rfl rfl ?_
    refine aw_iconst C dX9_highest_5 ki_2 ?_
    refine aw_icmp_ne (tgt := 14) C dX9_highest_6 (by decide) (fun h6 => ?_) (fun h6 => ?_)
    · refine aw_iload_n C dX9_highest_14 (i := 0) rfl rfl ?_
      refine aw_iconst C dX9_highest_15 ki_4 ?_
      refine aw_icmp_ne (tgt := 24) C dX9_highest_16 (by decide) (fun h16 => ?_) (fun h16 => ?_)
      · refine aw_iconst C dX9_highest_24 ki_2 ?_
        refine aw_iret C hr dX9_highest_25 ?_
        exact PI.mk (by unfold highI; rw [if_neg h1, if_neg h6, if_neg h16]) rfl
      · refine aw_bipush C dX9_highest_19 kb_40 ?_
        refine aw_goto (tgt := 25) C dX9_highest_21 (by decide) ?_
        refine aw_iret C hr dX9_highest_25 ?_
        exact PI.mk (by unfold highI; rw [if_neg h1, if_neg h6, if_pos h16]) rfl
    · refine aw_bipush C dX9_highest_9 kb_60 ?_
      refine aw_goto (tgt := 25) C dX9_highest_11 (by decide) ?_
      refine aw_iret C hr dX9_highest_25 ?_
      exact PI.mk (by unfold highI; rw [if_neg h1, if_pos h6]) rfl
set_option maxRecDepth 20000 in
/-- notes, its loop -/
theorem cm_notes_1 {l : Launch} {D : va_G} {cy : Nat → ClassId} {z : Nat → Nat} {q : Nat → Nat} {p : Program} {e : Env} {s : State} {m : MethodId} {args : Array Value} {below : List Frame} {meth : Method} {c : Code} {Q : State → Prop} (hI : wI 9 q) (C : Cx p s m args meth c cX9_notes 2 RX9 D cy z 9 q) (hr : meth.sig.returnType = none) {len span wires chg rsp rwi val ends : Nat} {text : Nat → Nat} {h was rd eyes fw bars ways : Nat → Int32} (K : AW p l e { frames := 0, cells := 0, slots := 0, locals := 0 } s m args below meth c D 9 q 2 Q (mdC cy q len span wires chg rsp rwi val ends text h (cpG (fun j => was (j + 45)) was 225) rd eyes fw bars ways) [(0, .ref (q 0)), (1, .int (nI 225))] 39 []) : ∀ (d : Nat) (k : Nat), 225 - k < d → (k ≤ 225) → AW p l e { frames := 0, cells := 0, slots := 0, locals := 0 } s m args below meth c D 9 q 2 Q (mdC cy q len span wires chg rsp rwi val ends text h (cpG (fun j => was (j + 45)) was k) rd eyes fw bars ways) [(0, .ref (q 0)), (1, .int (nI k))] 11 [] := by
  intro d
  induction d with
  | zero => intro k hd; exact absurd hd (Nat.not_lt_zero _)
  | succ d ih =>
    intro k hd iv0
    refine aw_iload_n C dX9_notes_11 (i := 1) rfl rfl ?_
    refine aw_sipush C dX9_notes_12 ks_225 ?_
    refine aw_icmp_ge_n (tgt := 39) C dX9_notes_15 (by decide) (by omega) (by omega) (fun h15 => ?_) (fun h15 => ?_)
    · obtain rfl : k = 225 := by omega
      exact K
    · refine aw_aload_n C dX9_notes_18 (i := 0) rfl rfl ?_
      refine aw_get (k := 0) C dX9_notes_19 fl_X9_16 (by decide) rfl rfl ?_
      refine aw_iload_n C dX9_notes_22 (i := 1) rfl rfl ?_
      refine aw_aload_n C dX9_notes_23 (i := 0) rfl rfl ?_
      refine aw_get (k := 0) C dX9_notes_24 fl_X9_16 (by decide) rfl rfl ?_
      refine aw_iload_n C dX9_notes_27 (i := 1) rfl rfl ?_
      refine aw_bipush C dX9_notes_28 kb_45 ?_
      refine aw_iadd_n C dX9_notes_30 ?_
      refine aw_iald (k := 3) C dX9_notes_31 (by decide) (rfl) (rfl) (by omega) (by decide) (cpG_ge (by omega)) ?_
      refine aw_iast (k := 3) C dX9_notes_32 (by decide) (rfl) (rfl) (by omega) (by decide) (md_a_was) ?_
      refine aw_iinc_n (lv' := [(0, _), (1, _)]) C dX9_notes_33 rfl ki_1 (Nat.le_of_ble_eq_true rfl) rfl ?_
      refine aw_goto (tgt := 11) C dX9_notes_36 (by decide) ?_
      rw [cpG_s (fun j => was (j + 45)) was k]
      exact ih (k + 1) (by omega) (by omega)
set_option maxRecDepth 20000 in
/-- notes, its loop -/
theorem cm_notes_2 {l : Launch} {D : va_G} {cy : Nat → ClassId} {z : Nat → Nat} {q : Nat → Nat} {p : Program} {e : Env} {s : State} {m : MethodId} {args : Array Value} {below : List Frame} {meth : Method} {c : Code} (hI : wI 9 q) (C : Cx p s m args meth c cX9_notes 2 RX9 D cy z 9 q) (hr : meth.sig.returnType = none) {len span wires chg rsp rwi val ends : Nat} {text : Nat → Nat} {h was rd eyes fw bars ways : Nat → Int32} (hc : chg ≤ 5) : ∀ (d : Nat) (k : Nat), 45 - k < d → (k ≤ 45) → AW p l e { frames := 0, cells := 0, slots := 0, locals := 0 } s m args below meth c D 9 q 2 (MQ below (Qg D 9 q (PV (mdC cy q len span wires (chg + 1) rsp rwi val ends text h (cpO h was (45 * chg) 45) rd eyes fw bars ways)) (wA 9 q s.heap.size)) args s 0 0 (wA 9 q s.heap.size)) (mdC cy q len span wires chg rsp rwi val ends text h (cpO h was (45 * chg) k) rd eyes fw bars ways) [(0, .ref (q 0)), (1, .int (nI k))] 51 [] := by
  intro d
  induction d with
  | zero => intro k hd; exact absurd hd (Nat.not_lt_zero _)
  | succ d ih =>
    intro k hd iv0
    refine aw_iload_n C dX9_notes_51 (i := 1) rfl rfl ?_
    refine aw_bipush C dX9_notes_52 kb_45 ?_
    refine aw_icmp_ge_n (tgt := 83) C dX9_notes_54 (by decide) (by omega) (by omega) (fun h54 => ?_) (fun h54 => ?_)
    · refine aw_aload_n C dX9_notes_83 (i := 0) rfl rfl ?_
      refine aw_dup C dX9_notes_84 rfl ?_
      refine aw_get (k := 0) C dX9_notes_85 fl_X9_88 (by decide) rfl rfl ?_
      refine aw_iconst C dX9_notes_88 ki_1 ?_
      refine aw_iadd_n C dX9_notes_89 ?_
      refine aw_put (k := 0) C dX9_notes_90 fp_X9_88 (by decide) rfl rfl rfl (Nat.le_of_ble_eq_true rfl) md_p_chg ?_
      refine aw_vret C hr dX9_notes_93 ?_
      obtain rfl : k = 45 := by omega
      exact ⟨rfl, rfl⟩
    · refine aw_aload_n C dX9_notes_57 (i := 0) rfl rfl ?_
      refine aw_get (k := 0) C dX9_notes_58 fl_X9_16 (by decide) rfl rfl ?_
      refine aw_bipush C dX9_notes_61 kb_45 ?_
      refine aw_aload_n C dX9_notes_63 (i := 0) rfl rfl ?_
      refine aw_get (k := 0) C dX9_notes_64 fl_X9_88 (by decide) rfl rfl ?_
      refine aw_imul_n C dX9_notes_67 ?_
      refine aw_iload_n C dX9_notes_68 (i := 1) rfl rfl ?_
      refine aw_iadd_n C dX9_notes_69 ?_
      refine aw_aload_n C dX9_notes_70 (i := 0) rfl rfl ?_
      refine aw_get (k := 0) C dX9_notes_71 fl_X9_13 (by decide) rfl rfl ?_
      refine aw_iload_n C dX9_notes_74 (i := 1) rfl rfl ?_
      refine aw_iald (k := 2) C dX9_notes_75 (by decide) (rfl) (rfl) (by omega) (by decide) (rfl) ?_
      refine aw_iast (k := 3) C dX9_notes_76 (by decide) (rfl) (rfl) (by omega) (by decide) (md_a_was) ?_
      refine aw_iinc_n (lv' := [(0, _), (1, _)]) C dX9_notes_77 rfl ki_1 (Nat.le_of_ble_eq_true rfl) rfl ?_
      refine aw_goto (tgt := 51) C dX9_notes_80 (by decide) ?_
      rw [cpO_s]
      exact ih (k + 1) (by omega) (by omega)
set_option maxRecDepth 20000 in
/-- notes -/
theorem cm_notes {l : Launch} {D : va_G} {cy : Nat → ClassId} {z : Nat → Nat} {q : Nat → Nat} (hI : wI 9 q) {len span wires chg rsp rwi val ends : Nat} {text : Nat → Nat} {h was rd eyes fw bars ways : Nat → Int32} (hc : chg ≤ 6) : Ct l yX9_notes cX9_notes 2 none 0 0 D cy z 9 q [.ref (q 0)] (mdC cy q len span wires chg rsp rwi val ends text h was rd eyes fw bars ways) (PV (mdC cy q len span wires (ntC chg) rsp rwi val ends text h (ntW chg was h) rd eyes fw bars ways)) := by
  refine Ct.of (own := RX9) (by decide) rfl hI (Nat.le_of_ble_eq_true rfl) ?_
  intro p e s m args below meth c C hr
  refine aw_lv (lv' := [(0, .ref (q 0))]) (fun x hx => hx) ?_
  refine aw_aload_n C dX9_notes_0 (i := 0) rfl rfl ?_
  refine aw_get (k := 0) C dX9_notes_1 fl_X9_88 (by decide) rfl rfl ?_
  refine aw_bipush C dX9_notes_4 kb_6 ?_
  refine aw_icmp_ne_n (tgt := 49) C dX9_notes_6 (by decide) (by omega) (by omega) (fun h6 => ?_) (fun h6 => ?_)
  · refine aw_iconst C dX9_notes_49 ki_0 ?_
    refine aw_istore_n (lv' := [(0, _), (1, _)]) C dX9_notes_50 (i := 1) rfl (Nat.le_of_ble_eq_true rfl) rfl ?_
    have e1 : ntC chg = chg + 1 := by unfold ntC; rw [if_neg h6]
    have e2 : ntW chg was h = cpO h was (45 * chg) 45 := by unfold ntW; rw [if_neg h6]
    rw [e1, e2]
    refine aw_fq (f' := (mdC cy q len span wires chg rsp rwi val ends text h (cpO h was (45 * chg) 0) rd eyes fw bars ways)) (by rw [cpO_0]) ?_
    exact cm_notes_2 hI C hr (by omega) 46 0 (by omega) (by omega)
  · refine aw_iconst C dX9_notes_9 ki_0 ?_
    refine aw_istore_n (lv' := [(0, _), (1, _)]) C dX9_notes_10 (i := 1) rfl (Nat.le_of_ble_eq_true rfl) rfl ?_
    refine aw_fq (f' := (mdC cy q len span wires chg rsp rwi val ends text h (cpG (fun j => was (j + 45)) was 0) rd eyes fw bars ways)) (by rw [cpG_0]) ?_
    refine cm_notes_1 hI C hr ?_ 226 0 (by omega) (by omega)
    refine aw_aload_n C dX9_notes_39 (i := 0) rfl rfl ?_
    refine aw_dup C dX9_notes_40 rfl ?_
    refine aw_get (k := 0) C dX9_notes_41 fl_X9_88 (by decide) rfl rfl ?_
    refine aw_iconst C dX9_notes_44 ki_1 ?_
    refine aw_isub_n C dX9_notes_45 (by omega) ?_
    refine aw_put (k := 0) C dX9_notes_46 fp_X9_88 (by decide) rfl rfl rfl (Nat.le_of_ble_eq_true rfl) md_p_chg ?_
    refine aw_iconst C dX9_notes_49 ki_0 ?_
    refine aw_istore_n (lv' := [(0, _), (1, _)]) C dX9_notes_50 (i := 1) rfl (Nat.le_of_ble_eq_true rfl) rfl ?_
    have e1 : ntC chg = chg - 1 + 1 := by unfold ntC; rw [if_pos h6]; omega
    have e2 : ntW chg was h = cpO h (cpG (fun j => was (j + 45)) was 225) (45 * (chg - 1)) 45 := by unfold ntW; rw [if_pos h6, h6]
    rw [e1, e2]
    refine aw_fq (f' := (mdC cy q len span wires (chg - 1) rsp rwi val ends text h (cpO h (cpG (fun j => was (j + 45)) was 225) (45 * (chg - 1)) 0) rd eyes fw bars ways)) (by rw [cpO_0]) ?_
    exact cm_notes_2 hI C hr (by omega) 46 0 (by omega) (by omega)
set_option maxRecDepth 20000 in
/-- becomes -/
theorem cm_becomes {l : Launch} {D : va_G} {cy : Nat → ClassId} {z : Nat → Nat} {q : Nat → Nat} (hI : wI 9 q) {len span wires chg rsp rwi val ends : Nat} {text : Nat → Nat} {h was rd eyes fw bars ways : Nat → Int32} {pl : Nat} {v : Int32} (hc : chg ≤ 6) (hp : pl < 45) : Ct l yX9_becomes cX9_becomes 4 (some .int) 1 21 D cy z 9 q [.ref (q 0), .int (nI pl), .int v] (mdC cy q len span wires chg rsp rwi val ends text h was rd eyes fw bars ways) (PO cy q (becm len span wires chg text h was eyes pl v)) := by
  refine Ct.of (own := RX9) (by decide) rfl hI (Nat.le_of_ble_eq_true rfl) ?_
  intro p e s m args below meth c C hr
  refine aw_lv (lv' := [(0, .ref (q 0)), (1, .int (nI pl)), (2, .int v)]) (fun x hx => hx) ?_
  refine aw_aload_n C dX9_becomes_0 (i := 0) rfl rfl ?_
  refine aw_get (k := 0) C dX9_becomes_1 fl_X9_13 (by decide) rfl rfl ?_
  refine aw_iload_n C dX9_becomes_4 (i := 1) rfl rfl ?_
  refine aw_iald (k := 2) C dX9_becomes_5 (by decide) (rfl) (rfl) (by omega) (by decide) (rfl) ?_
  refine aw_istore_n (lv' := [(0, _), (1, _), (2, _), (3, _)]) C dX9_becomes_6 (i := 3) rfl (Nat.le_of_ble_eq_true rfl) rfl ?_
  refine aw_iload_n C dX9_becomes_7 (i := 3) rfl rfl ?_
  refine aw_iload_n C dX9_becomes_8 (i := 2) rfl rfl ?_
  refine aw_icmp_ne (tgt := 15) C dX9_becomes_9 (by decide) (fun h9 => ?_) (fun h9 => ?_)
  · refine aw_aload_n C dX9_becomes_15 (i := 0) rfl rfl ?_
    refine aw_V0v (k := 0) C dX9_becomes_16 cv_X9_91 (by decide) rfl rfl rfl (cm_notes hI hc) ⟨Nat.le_of_ble_eq_true rfl, Nat.le_of_ble_eq_true rfl⟩ (Nat.le_of_ble_eq_true rfl) ?_
    refine aw_aload_n C dX9_becomes_19 (i := 0) rfl rfl ?_
    refine aw_get (k := 0) C dX9_becomes_20 fl_X9_13 (by decide) rfl rfl ?_
    refine aw_iload_n C dX9_becomes_23 (i := 1) rfl rfl ?_
    refine aw_iload_n C dX9_becomes_24 (i := 2) rfl rfl ?_
    refine aw_iast (k := 2) C dX9_becomes_25 (by decide) (rfl) (rfl) (by omega) (by decide) (md_a_h) ?_
    refine aw_iload_n C dX9_becomes_26 (i := 3) rfl rfl ?_
    refine aw_iret C hr dX9_becomes_27 ?_
    exact PO.mk (if_neg h9)
  · refine aw_bipush C dX9_becomes_12 kb_m2 ?_
    refine aw_iret C hr dX9_becomes_14 ?_
    exact PO.mk (if_pos h9)
theorem cm_isWr {l : Launch} {D : va_G} {cy : Nat → ClassId} {z : Nat → Nat} {q : Nat → Nat} (hI : wI 9 q) {len span wires chg rsp rwi val ends : Nat} {text : Nat → Nat} {h was rd eyes fw bars ways : Nat → Int32} {i : Int32} : Ct l yX9_isWire cX9_isWire 2 (some .boolean) 1 22 D cy z 9 q [.ref (q 0), .int i] (mdC cy q len span wires chg rsp rwi val ends text h was rd eyes fw bars ways) (PI (bi (wrB wires i)) (mdC cy q len span wires chg rsp rwi val ends text h was rd eyes fw bars ways)) := cm_isWire hI
set_option maxRecDepth 20000 in
/-- set -/
theorem cm_set {l : Launch} {D : va_G} {cy : Nat → ClassId} {z : Nat → Nat} {q : Nat → Nat} (hI : wI 9 q) {len span wires chg rsp rwi val ends : Nat} {text : Nat → Nat} {h was rd eyes fw bars ways : Nat → Int32} {i what v : Int32} (hc : chg ≤ 6) (hw : wires ≤ 8) : Ct l yX9_set cX9_set 4 (some .int) 2 44 D cy z 9 q [.ref (q 0), .int i, .int what, .int v] (mdC cy q len span wires chg rsp rwi val ends text h was rd eyes fw bars ways) (PO cy q (opSet len span wires chg text h was eyes i what v)) := by
  refine Ct.of (own := RX9) (by decide) rfl hI (Nat.le_of_ble_eq_true rfl) ?_
  intro p e s m args below meth c C hr
  refine aw_lv (lv' := [(0, .ref (q 0)), (1, .int i), (2, .int what), (3, .int v)]) (fun x hx => hx) ?_
  refine aw_aload_n C dX9_set_0 (i := 0) rfl rfl ?_
  refine aw_iload_n C dX9_set_1 (i := 1) rfl rfl ?_
  refine aw_V1i (k := 0) C dX9_set_2 cv_X9_94 (by decide) rfl rfl rfl (cm_isWr hI) ⟨Nat.le_of_ble_eq_true rfl, Nat.le_of_ble_eq_true rfl⟩ (Nat.le_of_ble_eq_true rfl) ?_
  refine aw_if_eq_b (tgt := 32) C dX9_set_5 (by decide) (fun h5 => ?_) (fun h5 => ?_)
  · refine aw_iconst C dX9_set_32 ki_m1 ?_
    refine aw_iret C hr dX9_set_33 ?_
    exact PO.mk (by unfold opSet; rw [if_neg (by rw [h5]; decide)])
  · refine aw_iload_n C dX9_set_8 (i := 2) rfl rfl ?_
    refine aw_iconst C dX9_set_9 ki_0 ?_
    refine aw_iconst C dX9_set_10 ki_4 ?_
    refine aw_S3i C dX9_set_11 cs_X9_54 (cm_isIn hI) ⟨Nat.le_of_ble_eq_true rfl, Nat.le_of_ble_eq_true rfl⟩ (Nat.le_of_ble_eq_true rfl) ?_
    refine aw_if_eq_b (tgt := 32) C dX9_set_14 (by decide) (fun h14 => ?_) (fun h14 => ?_)
    · refine aw_iconst C dX9_set_32 ki_m1 ?_
      refine aw_iret C hr dX9_set_33 ?_
      exact PO.mk (by unfold opSet; rw [if_pos h5, if_neg (by rw [h14]; decide)])
    · refine aw_iload_n C dX9_set_17 (i := 3) rfl rfl ?_
      refine aw_iload_n C dX9_set_18 (i := 2) rfl rfl ?_
      refine aw_S1i C dX9_set_19 cs_X9_61 (cm_lowest hI) ⟨Nat.le_of_ble_eq_true rfl, Nat.le_of_ble_eq_true rfl⟩ (Nat.le_of_ble_eq_true rfl) ?_
      refine aw_iload_n C dX9_set_22 (i := 2) rfl rfl ?_
      refine aw_S1i C dX9_set_23 cs_X9_64 (cm_highest hI) ⟨Nat.le_of_ble_eq_true rfl, Nat.le_of_ble_eq_true rfl⟩ (Nat.le_of_ble_eq_true rfl) ?_
      refine aw_S3i C dX9_set_26 cs_X9_54 (cm_isIn hI) ⟨Nat.le_of_ble_eq_true rfl, Nat.le_of_ble_eq_true rfl⟩ (Nat.le_of_ble_eq_true rfl) ?_
      refine aw_if_ne_b (tgt := 34) C dX9_set_29 (by decide) (fun h29 => ?_) (fun h29 => ?_)
      · have e0 : opSet len span wires chg text h was eyes i what v = becm len span wires chg text h was eyes (5 * i.toNatClampNeg + what.toNatClampNeg) v := by unfold opSet; rw [if_pos h5, if_pos h14, if_pos h29]
        obtain ⟨a, ha, rfl⟩ := wr_of hw h5
        obtain ⟨b, hb, rfl⟩ := in_of (by decide) h14
        rw [nI_clamp (by omega), nI_clamp (by omega)] at e0
        refine aw_aload_n C dX9_set_34 (i := 0) rfl rfl ?_
        refine aw_iconst C dX9_set_35 ki_5 ?_
        refine aw_iload_n C dX9_set_36 (i := 1) rfl rfl ?_
        refine aw_imul_n C dX9_set_37 ?_
        refine aw_iload_n C dX9_set_38 (i := 2) rfl rfl ?_
        refine aw_iadd_n C dX9_set_39 ?_
        refine aw_iload_n C dX9_set_40 (i := 3) rfl rfl ?_
        refine aw_V2x (k := 0) C dX9_set_41 cv_X9_97 (by decide) rfl rfl rfl (cm_becomes hI hc (by omega)) ⟨Nat.le_of_ble_eq_true rfl, Nat.le_of_ble_eq_true rfl⟩ (Nat.le_of_ble_eq_true rfl) (fun x g hp => ?_)
        obtain ⟨rfl, rsp, rwi, val, ends, rd, fw, bars, ways, rfl⟩ := hp
        refine aw_iret C hr dX9_set_44 ?_
        exact PO.mk (by rw [e0])
      · refine aw_iconst C dX9_set_32 ki_m1 ?_
        refine aw_iret C hr dX9_set_33 ?_
        exact PO.mk (by unfold opSet; rw [if_pos h5, if_pos h14, if_neg (by rw [h29]; decide)])
set_option maxRecDepth 20000 in
/-- limit -/
theorem cm_limit {l : Launch} {D : va_G} {cy : Nat → ClassId} {z : Nat → Nat} {q : Nat → Nat} (hI : wI 9 q) {len span wires chg rsp rwi val ends : Nat} {text : Nat → Nat} {h was rd eyes fw bars ways : Nat → Int32} {w v : Int32} (hc : chg ≤ 6) : Ct l yX9_limit cX9_limit 3 (some .int) 2 44 D cy z 9 q [.ref (q 0), .int w, .int v] (mdC cy q len span wires chg rsp rwi val ends text h was rd eyes fw bars ways) (PO cy q (opLimit len span wires chg text h was eyes w v)) := by
  refine Ct.of (own := RX9) (by decide) rfl hI (Nat.le_of_ble_eq_true rfl) ?_
  intro p e s m args below meth c C hr
  refine aw_lv (lv' := [(0, .ref (q 0)), (1, .int w), (2, .int v)]) (fun x hx => hx) ?_
  refine aw_iload_n C dX9_limit_0 (i := 1) rfl rfl ?_
  refine aw_iconst C dX9_limit_1 ki_0 ?_
  refine aw_iconst C dX9_limit_2 ki_2 ?_
  refine aw_S3i C dX9_limit_3 cs_X9_54 (cm_isIn hI) ⟨Nat.le_of_ble_eq_true rfl, Nat.le_of_ble_eq_true rfl⟩ (Nat.le_of_ble_eq_true rfl) ?_
  refine aw_if_eq_b (tgt := 33) C dX9_limit_6 (by decide) (fun h6 => ?_) (fun h6 => ?_)
  · refine aw_iconst C dX9_limit_33 ki_m1 ?_
    refine aw_iret C hr dX9_limit_34 ?_
    exact PO.mk (by unfold opLimit; rw [if_neg (by rw [h6]; decide)])
  · refine aw_iload_n C dX9_limit_9 (i := 2) rfl rfl ?_
    refine aw_iconst C dX9_limit_10 ki_1 ?_
    refine aw_iload_n C dX9_limit_11 (i := 1) rfl rfl ?_
    refine aw_S1i C dX9_limit_12 cs_X9_77 (cm_most hI) ⟨Nat.le_of_ble_eq_true rfl, Nat.le_of_ble_eq_true rfl⟩ (Nat.le_of_ble_eq_true rfl) ?_
    refine aw_S3i C dX9_limit_15 cs_X9_54 (cm_isIn hI) ⟨Nat.le_of_ble_eq_true rfl, Nat.le_of_ble_eq_true rfl⟩ (Nat.le_of_ble_eq_true rfl) ?_
    refine aw_if_eq_b (tgt := 33) C dX9_limit_18 (by decide) (fun h18 => ?_) (fun h18 => ?_)
    · refine aw_iconst C dX9_limit_33 ki_m1 ?_
      refine aw_iret C hr dX9_limit_34 ?_
      exact PO.mk (by unfold opLimit; rw [if_pos h6, if_neg (by rw [h18]; decide)])
    · have e0 : opLimit len span wires chg text h was eyes w v = becm len span wires chg text h was eyes (40 + w.toNatClampNeg) v := by unfold opLimit; rw [if_pos h6, if_pos h18]
      obtain ⟨b, hb, rfl⟩ := in_of (by decide) h6
      rw [nI_clamp (by omega)] at e0
      refine aw_aload_n C dX9_limit_21 (i := 0) rfl rfl ?_
      refine aw_bipush C dX9_limit_22 kb_40 ?_
      refine aw_iload_n C dX9_limit_24 (i := 1) rfl rfl ?_
      refine aw_iadd_n C dX9_limit_25 ?_
      refine aw_iload_n C dX9_limit_26 (i := 2) rfl rfl ?_
      refine aw_V2x (k := 0) C dX9_limit_27 cv_X9_97 (by decide) rfl rfl rfl (cm_becomes hI hc (by omega)) ⟨Nat.le_of_ble_eq_true rfl, Nat.le_of_ble_eq_true rfl⟩ (Nat.le_of_ble_eq_true rfl) (fun x g hp => ?_)
      obtain ⟨rfl, rsp, rwi, val, ends, rd, fw, bars, ways, rfl⟩ := hp
      refine aw_goto (tgt := 34) C dX9_limit_30 (by decide) ?_
      refine aw_iret C hr dX9_limit_34 ?_
      exact PO.mk (by rw [e0])
set_option maxRecDepth 20000 in
/-- shift -/
theorem cm_shift {l : Launch} {D : va_G} {cy : Nat → ClassId} {z : Nat → Nat} {q : Nat → Nat} (hI : wI 9 q) {len span wires chg rsp rwi val ends : Nat} {text : Nat → Nat} {h was rd eyes fw bars ways : Nat → Int32} {x : Int32} (hc : chg ≤ 6) : Ct l yX9_shift cX9_shift 3 (some .int) 1 22 D cy z 9 q [.ref (q 0), .int x] (mdC cy q len span wires chg rsp rwi val ends text h was rd eyes fw bars ways) (PO cy q (opShift len span wires chg text h was eyes x)) := by
  refine Ct.of (own := RX9) (by decide) rfl hI (Nat.le_of_ble_eq_true rfl) ?_
  intro p e s m args below meth c C hr
  refine aw_lv (lv' := [(0, .ref (q 0)), (1, .int x)]) (fun x hx => hx) ?_
  refine aw_iload_n C dX9_shift_0 (i := 1) rfl rfl ?_
  refine aw_bipush C dX9_shift_1 kb_m9 ?_
  refine aw_bipush C dX9_shift_3 kb_9 ?_
  refine aw_S3i C dX9_shift_5 cs_X9_54 (cm_isIn hI) ⟨Nat.le_of_ble_eq_true rfl, Nat.le_of_ble_eq_true rfl⟩ (Nat.le_of_ble_eq_true rfl) ?_
  refine aw_if_ne_b (tgt := 13) C dX9_shift_8 (by decide) (fun h8 => ?_) (fun h8 => ?_)
  · refine aw_aload_n C dX9_shift_13 (i := 0) rfl rfl ?_
    refine aw_get (k := 0) C dX9_shift_14 fl_X9_13 (by decide) rfl rfl ?_
    refine aw_bipush C dX9_shift_17 kb_43 ?_
    refine aw_iald (k := 2) C dX9_shift_19 (by decide) (rfl) (rfl) (by omega) (by decide) (rfl) ?_
    refine aw_istore_n (lv' := [(0, _), (1, _), (2, _)]) C dX9_shift_20 (i := 2) rfl (Nat.le_of_ble_eq_true rfl) rfl ?_
    refine aw_iload_n C dX9_shift_21 (i := 2) rfl rfl ?_
    refine aw_iload_n C dX9_shift_22 (i := 1) rfl rfl ?_
    refine aw_icmp_ne (tgt := 29) C dX9_shift_23 (by decide) (fun h23 => ?_) (fun h23 => ?_)
    · refine aw_aload_n C dX9_shift_29 (i := 0) rfl rfl ?_
      refine aw_V0v (k := 0) C dX9_shift_30 cv_X9_91 (by decide) rfl rfl rfl (cm_notes hI hc) ⟨Nat.le_of_ble_eq_true rfl, Nat.le_of_ble_eq_true rfl⟩ (Nat.le_of_ble_eq_true rfl) ?_
      refine aw_aload_n C dX9_shift_33 (i := 0) rfl rfl ?_
      refine aw_get (k := 0) C dX9_shift_34 fl_X9_13 (by decide) rfl rfl ?_
      refine aw_bipush C dX9_shift_37 kb_43 ?_
      refine aw_iload_n C dX9_shift_39 (i := 1) rfl rfl ?_
      refine aw_iast (k := 2) C dX9_shift_40 (by decide) (rfl) (rfl) (by omega) (by decide) (md_a_h) ?_
      refine aw_iload_n C dX9_shift_41 (i := 2) rfl rfl ?_
      refine aw_ldc C dX9_shift_42 kc_X9_101 ?_
      refine aw_iadd C dX9_shift_44 ?_
      refine aw_iret C hr dX9_shift_45 ?_
      exact PO.mk (by unfold opShift; rw [if_pos h8, if_neg h23])
    · refine aw_bipush C dX9_shift_26 kb_m2 ?_
      refine aw_iret C hr dX9_shift_28 ?_
      exact PO.mk (by unfold opShift; rw [if_pos h8, if_pos h23])
  · refine aw_iconst C dX9_shift_11 ki_m1 ?_
    refine aw_iret C hr dX9_shift_12 ?_
    exact PO.mk (by unfold opShift; rw [if_neg (by rw [h8]; decide)])
set_option maxRecDepth 20000 in
/-- undo, its loop -/
theorem cm_undo_l {l : Launch} {D : va_G} {cy : Nat → ClassId} {z : Nat → Nat} {q : Nat → Nat} {p : Program} {e : Env} {s : State} {m : MethodId} {args : Array Value} {below : List Frame} {meth : Method} {c : Code} (hI : wI 9 q) (C : Cx p s m args meth c cX9_undo 2 RX9 D cy z 9 q) (hr : meth.sig.returnType = (some .int)) {len span wires chg rsp rwi val ends : Nat} {text : Nat → Nat} {h was rd eyes fw bars ways : Nat → Int32} (hc : chg ≤ 5) : ∀ (d : Nat) (k : Nat), 45 - k < d → (k ≤ 45) → AW p l e { frames := 0, cells := 0, slots := 0, locals := 0 } s m args below meth c D 9 q 2 (MQ below (Qg D 9 q (PI (nI chg) (mdC cy q len span wires chg rsp rwi val ends text (cpG (fun j => was (45 * chg + j)) h 45) was rd eyes fw bars ways)) (wA 9 q s.heap.size)) args s 0 0 (wA 9 q s.heap.size)) (mdC cy q len span wires chg rsp rwi val ends text (cpG (fun j => was (45 * chg + j)) h k) was rd eyes fw bars ways) [(0, .ref (q 0)), (1, .int (nI k))] 22 [] := by
  intro d
  induction d with
  | zero => intro k hd; exact absurd hd (Nat.not_lt_zero _)
  | succ d ih =>
    intro k hd iv0
    refine aw_iload_n C dX9_undo_22 (i := 1) rfl rfl ?_
    refine aw_bipush C dX9_undo_23 kb_45 ?_
    refine aw_icmp_ge_n (tgt := 54) C dX9_undo_25 (by decide) (by omega) (by omega) (fun h25 => ?_) (fun h25 => ?_)
    · refine aw_aload_n C dX9_undo_54 (i := 0) rfl rfl ?_
      refine aw_get (k := 0) C dX9_undo_55 fl_X9_88 (by decide) rfl rfl ?_
      refine aw_iret C hr dX9_undo_58 ?_
      obtain rfl : k = 45 := by omega
      exact PI.mk rfl rfl
    · refine aw_aload_n C dX9_undo_28 (i := 0) rfl rfl ?_
      refine aw_get (k := 0) C dX9_undo_29 fl_X9_13 (by decide) rfl rfl ?_
      refine aw_iload_n C dX9_undo_32 (i := 1) rfl rfl ?_
      refine aw_aload_n C dX9_undo_33 (i := 0) rfl rfl ?_
      refine aw_get (k := 0) C dX9_undo_34 fl_X9_16 (by decide) rfl rfl ?_
      refine aw_bipush C dX9_undo_37 kb_45 ?_
      refine aw_aload_n C dX9_undo_39 (i := 0) rfl rfl ?_
      refine aw_get (k := 0) C dX9_undo_40 fl_X9_88 (by decide) rfl rfl ?_
      refine aw_imul_n C dX9_undo_43 ?_
      refine aw_iload_n C dX9_undo_44 (i := 1) rfl rfl ?_
      refine aw_iadd_n C dX9_undo_45 ?_
      refine aw_iald (k := 3) C dX9_undo_46 (by decide) (rfl) (rfl) (by omega) (by decide) (rfl) ?_
      refine aw_iast (k := 2) C dX9_undo_47 (by decide) (rfl) (rfl) (by omega) (by decide) (md_a_h) ?_
      refine aw_iinc_n (lv' := [(0, _), (1, _)]) C dX9_undo_48 rfl ki_1 (Nat.le_of_ble_eq_true rfl) rfl ?_
      refine aw_goto (tgt := 22) C dX9_undo_51 (by decide) ?_
      rw [cpG_s (fun j => was (45 * chg + j)) h k]
      exact ih (k + 1) (by omega) (by omega)
set_option maxRecDepth 20000 in
/-- undo -/
theorem cm_undo {l : Launch} {D : va_G} {cy : Nat → ClassId} {z : Nat → Nat} {q : Nat → Nat} (hI : wI 9 q) {len span wires chg rsp rwi val ends : Nat} {text : Nat → Nat} {h was rd eyes fw bars ways : Nat → Int32} (hc : chg ≤ 6) : Ct l yX9_undo cX9_undo 2 (some .int) 0 0 D cy z 9 q [.ref (q 0)] (mdC cy q len span wires chg rsp rwi val ends text h was rd eyes fw bars ways) (PO cy q (opUndo len span wires chg text h was eyes)) := by
  refine Ct.of (own := RX9) (by decide) rfl hI (Nat.le_of_ble_eq_true rfl) ?_
  intro p e s m args below meth c C hr
  refine aw_lv (lv' := [(0, .ref (q 0))]) (fun x hx => hx) ?_
  refine aw_aload_n C dX9_undo_0 (i := 0) rfl rfl ?_
  refine aw_get (k := 0) C dX9_undo_1 fl_X9_88 (by decide) rfl rfl ?_
  refine aw_if_ne_n (tgt := 10) C dX9_undo_4 (by decide) (by omega) (fun h4 => ?_) (fun h4 => ?_)
  · refine aw_aload_n C dX9_undo_10 (i := 0) rfl rfl ?_
    refine aw_dup C dX9_undo_11 rfl ?_
    refine aw_get (k := 0) C dX9_undo_12 fl_X9_88 (by decide) rfl rfl ?_
    refine aw_iconst C dX9_undo_15 ki_1 ?_
    refine aw_isub_n C dX9_undo_16 (by omega) ?_
    refine aw_put (k := 0) C dX9_undo_17 fp_X9_88 (by decide) rfl rfl rfl (Nat.le_of_ble_eq_true rfl) md_p_chg ?_
    refine aw_iconst C dX9_undo_20 ki_0 ?_
    refine aw_istore_n (lv' := [(0, _), (1, _)]) C dX9_undo_21 (i := 1) rfl (Nat.le_of_ble_eq_true rfl) rfl ?_
    have e0 : opUndo len span wires chg text h was eyes = _ := if_neg (Nat.ne_of_gt h4)
    refine aw_fq (f' := (mdC cy q len span wires (chg - 1) rsp rwi val ends text (cpG (fun j => was (45 * (chg - 1) + j)) h 0) was rd eyes fw bars ways)) (by rw [cpG_0]) ?_
    refine aw_post ?_ (cm_undo_l hI C hr (by omega) 46 0 (by omega) (by omega))
    intro r g hp
    obtain ⟨rfl, rfl⟩ := hp
    exact PO.mk e0
  · refine aw_bipush C dX9_undo_7 kb_m2 ?_
    refine aw_iret C hr dX9_undo_9 ?_
    exact PO.mk (if_pos h4)
set_option maxRecDepth 20000 in
/-- write -/
theorem cm_write {l : Launch} {D : va_G} {cy : Nat → ClassId} {z : Nat → Nat} {q : Nat → Nat} (hI : wI 9 q) {len span wires chg rsp rwi val ends : Nat} {text : Nat → Nat} {h was rd eyes fw bars ways : Nat → Int32} {x : Int32} (hl : len ≤ 200) : Ct l yX9_write cX9_write 2 (some .int) 0 0 D cy z 9 q [.ref (q 0), .int x] (mdC cy q len span wires chg rsp rwi val ends text h was rd eyes fw bars ways) (PO cy q (opWrite len span wires chg text h was eyes x)) := by
  refine Ct.of (own := RX9) (by decide) rfl hI (Nat.le_of_ble_eq_true rfl) ?_
  intro p e s m args below meth c C hr
  refine aw_lv (lv' := [(0, .ref (q 0)), (1, .int x)]) (fun x hx => hx) ?_
  refine aw_iload_n C dX9_write_0 (i := 1) rfl rfl ?_
  refine aw_bipush C dX9_write_1 kb_32 ?_
  refine aw_icmp_lt (tgt := 12) C dX9_write_3 (by decide) (fun h3 => ?_) (fun h3 => ?_)
  · refine aw_iconst C dX9_write_12 ki_m1 ?_
    refine aw_iret C hr dX9_write_13 ?_
    exact PO.mk (by unfold opWrite; rw [if_neg (by rw [inB_f1 h3]; decide)])
  · refine aw_iload_n C dX9_write_6 (i := 1) rfl rfl ?_
    refine aw_bipush C dX9_write_7 kb_126 ?_
    refine aw_icmp_le (tgt := 14) C dX9_write_9 (by decide) (fun h9 => ?_) (fun h9 => ?_)
    · have hb : inB x (nI 32) (nI 126) = true := inB_t (i_le h3) h9
      obtain ⟨a, ha, rfl⟩ := nI_of (x := x) (i_nlt (by rw [← nI_0]; rw [Int32.le_iff_toInt_le]; have h1 := i_le h3; rw [Int32.le_iff_toInt_le] at h1; exact Int.le_trans (by decide) h1))
      have ec : (nI a).toNatClampNeg = a := nI_clamp ha
      refine aw_aload_n C dX9_write_14 (i := 0) rfl rfl ?_
      refine aw_get (k := 0) C dX9_write_15 fl_X9_41 (by decide) rfl rfl ?_
      refine aw_sipush C dX9_write_18 ks_200 ?_
      refine aw_icmp_ne_n (tgt := 27) C dX9_write_21 (by decide) (by omega) (by omega) (fun h21 => ?_) (fun h21 => ?_)
      · refine aw_aload_n C dX9_write_27 (i := 0) rfl rfl ?_
        refine aw_get (k := 0) C dX9_write_28 fl_X9_7 (by decide) rfl rfl ?_
        refine aw_aload_n C dX9_write_31 (i := 0) rfl rfl ?_
        refine aw_get (k := 0) C dX9_write_32 fl_X9_41 (by decide) rfl rfl ?_
        refine aw_iload_n C dX9_write_35 (i := 1) rfl rfl ?_
        refine aw_iast (k := 1) C dX9_write_36 (by decide) (rfl) (rfl) (by omega) (by decide) (md_a_text) ?_
        refine aw_aload_n C dX9_write_37 (i := 0) rfl rfl ?_
        refine aw_dup C dX9_write_38 rfl ?_
        refine aw_get (k := 0) C dX9_write_39 fl_X9_41 (by decide) rfl rfl ?_
        refine aw_iconst C dX9_write_42 ki_1 ?_
        refine aw_iadd_n C dX9_write_43 ?_
        refine aw_put (k := 0) C dX9_write_44 fp_X9_41 (by decide) rfl rfl rfl (Nat.le_of_ble_eq_true rfl) md_p_len ?_
        refine aw_aload_n C dX9_write_47 (i := 0) rfl rfl ?_
        refine aw_get (k := 0) C dX9_write_48 fl_X9_41 (by decide) rfl rfl ?_
        refine aw_iret C hr dX9_write_51 ?_
        exact PO.mk (by unfold opWrite; rw [if_pos hb, if_neg h21, ec])
      · refine aw_bipush C dX9_write_24 kb_m3 ?_
        refine aw_iret C hr dX9_write_26 ?_
        exact PO.mk (by unfold opWrite; rw [if_pos hb, if_pos h21])
    · refine aw_iconst C dX9_write_12 ki_m1 ?_
      refine aw_iret C hr dX9_write_13 ?_
      exact PO.mk (by unfold opWrite; rw [if_neg (by rw [inB_f2 (i_lt h9)]; decide)])
set_option maxRecDepth 20000 in
/-- wipe -/
theorem cm_wipe {l : Launch} {D : va_G} {cy : Nat → ClassId} {z : Nat → Nat} {q : Nat → Nat} (hI : wI 9 q) {len span wires chg rsp rwi val ends : Nat} {text : Nat → Nat} {h was rd eyes fw bars ways : Nat → Int32} : Ct l yX9_wipe cX9_wipe 2 (some .int) 0 0 D cy z 9 q [.ref (q 0)] (mdC cy q len span wires chg rsp rwi val ends text h was rd eyes fw bars ways) (PO cy q (opWipe len span wires chg text h was eyes)) := by
  refine Ct.of (own := RX9) (by decide) rfl hI (Nat.le_of_ble_eq_true rfl) ?_
  intro p e s m args below meth c C hr
  refine aw_lv (lv' := [(0, .ref (q 0))]) (fun x hx => hx) ?_
  refine aw_aload_n C dX9_wipe_0 (i := 0) rfl rfl ?_
  refine aw_get (k := 0) C dX9_wipe_1 fl_X9_41 (by decide) rfl rfl ?_
  refine aw_istore_n (lv' := [(0, _), (1, _)]) C dX9_wipe_4 (i := 1) rfl (Nat.le_of_ble_eq_true rfl) rfl ?_
  refine aw_aload_n C dX9_wipe_5 (i := 0) rfl rfl ?_
  refine aw_iconst C dX9_wipe_6 ki_0 ?_
  refine aw_put (k := 0) C dX9_wipe_7 fp_X9_41 (by decide) rfl rfl rfl (Nat.le_of_ble_eq_true rfl) md_p_len ?_
  refine aw_iload_n C dX9_wipe_10 (i := 1) rfl rfl ?_
  refine aw_iret C hr dX9_wipe_11 ?_
  exact PO.mk rfl
set_option maxRecDepth 20000 in
/-- place -/
theorem cm_place {l : Launch} {D : va_G} {cy : Nat → ClassId} {z : Nat → Nat} {q : Nat → Nat} (hI : wI 9 q) {len span wires chg rsp rwi val ends : Nat} {text : Nat → Nat} {h was rd eyes fw bars ways : Nat → Int32} {i y : Int32} (hs : 8 ≤ span) (hs2 : span ≤ 40) (hw : wires ≤ 8) : Ct l yX9_place cX9_place 3 (some .int) 2 43 D cy z 9 q [.ref (q 0), .int i, .int y] (mdC cy q len span wires chg rsp rwi val ends text h was rd eyes fw bars ways) (PI (opPlace span wires h i y) (mdC cy q len span wires chg rsp rwi val ends text h was rd eyes fw bars ways)) := by
  refine Ct.of (own := RX9) (by decide) rfl hI (Nat.le_of_ble_eq_true rfl) ?_
  intro p e s m args below meth c C hr
  refine aw_lv (lv' := [(0, .ref (q 0)), (1, .int i), (2, .int y)]) (fun x hx => hx) ?_
  refine aw_aload_n C dX9_place_0 (i := 0) rfl rfl ?_
  refine aw_iload_n C dX9_place_1 (i := 1) rfl rfl ?_
  refine aw_V1i (k := 0) C dX9_place_2 cv_X9_94 (by decide) rfl rfl rfl (cm_isWr hI) ⟨Nat.le_of_ble_eq_true rfl, Nat.le_of_ble_eq_true rfl⟩ (Nat.le_of_ble_eq_true rfl) ?_
  refine aw_if_eq_b (tgt := 32) C dX9_place_5 (by decide) (fun h5 => ?_) (fun h5 => ?_)
  · refine aw_iconst C dX9_place_32 ki_m1 ?_
    refine aw_iret C hr dX9_place_33 ?_
    exact PI.mk (by unfold opPlace; rw [if_neg (by rw [h5]; decide)]) rfl
  · refine aw_iload_n C dX9_place_8 (i := 2) rfl rfl ?_
    refine aw_iconst C dX9_place_9 ki_0 ?_
    refine aw_aload_n C dX9_place_10 (i := 0) rfl rfl ?_
    refine aw_get (k := 0) C dX9_place_11 fl_X9_34 (by decide) rfl rfl ?_
    refine aw_S3i C dX9_place_14 cs_X9_54 (cm_isIn hI) ⟨Nat.le_of_ble_eq_true rfl, Nat.le_of_ble_eq_true rfl⟩ (Nat.le_of_ble_eq_true rfl) ?_
    refine aw_if_eq_b (tgt := 32) C dX9_place_17 (by decide) (fun h17 => ?_) (fun h17 => ?_)
    · refine aw_iconst C dX9_place_32 ki_m1 ?_
      refine aw_iret C hr dX9_place_33 ?_
      exact PI.mk (by unfold opPlace; rw [if_pos h5, if_neg (by rw [h17]; decide)]) rfl
    · have e0 : opPlace span wires h i y = plc h span i.toNatClampNeg y.toNatClampNeg + 100000 := by unfold opPlace; rw [if_pos h5, if_pos h17]
      obtain ⟨a, ha, rfl⟩ := wr_of hw h5
      obtain ⟨b, hb, rfl⟩ := in_of (by omega) h17
      rw [nI_clamp (by omega), nI_clamp (by omega)] at e0
      refine aw_aload_n C dX9_place_20 (i := 0) rfl rfl ?_
      refine aw_iload_n C dX9_place_21 (i := 1) rfl rfl ?_
      refine aw_iload_n C dX9_place_22 (i := 2) rfl rfl ?_
      refine aw_V2i (k := 0) C dX9_place_23 cv_X9_102 (by decide) rfl rfl rfl (cm_placeOf hI (by omega) (by omega)) ⟨Nat.le_of_ble_eq_true rfl, Nat.le_of_ble_eq_true rfl⟩ (Nat.le_of_ble_eq_true rfl) ?_
      refine aw_ldc C dX9_place_26 kc_X9_101 ?_
      refine aw_iadd C dX9_place_28 ?_
      refine aw_goto (tgt := 33) C dX9_place_29 (by decide) ?_
      refine aw_iret C hr dX9_place_33 ?_
      exact PI.mk e0.symm rfl
set_option maxRecDepth 20000 in
/-- height -/
theorem cm_height {l : Launch} {D : va_G} {cy : Nat → ClassId} {z : Nat → Nat} {q : Nat → Nat} (hI : wI 9 q) {len span wires chg rsp rwi val ends : Nat} {text : Nat → Nat} {h was rd eyes fw bars ways : Nat → Int32} {i y : Int32} (hs : 8 ≤ span) (hs2 : span ≤ 40) (hw : wires ≤ 8) : Ct l yX9_height cX9_height 3 (some .int) 2 43 D cy z 9 q [.ref (q 0), .int i, .int y] (mdC cy q len span wires chg rsp rwi val ends text h was rd eyes fw bars ways) (PI (opHeight span wires h i y) (mdC cy q len span wires chg rsp rwi val ends text h was rd eyes fw bars ways)) := by
  refine Ct.of (own := RX9) (by decide) rfl hI (Nat.le_of_ble_eq_true rfl) ?_
  intro p e s m args below meth c C hr
  refine aw_lv (lv' := [(0, .ref (q 0)), (1, .int i), (2, .int y)]) (fun x hx => hx) ?_
  refine aw_aload_n C dX9_height_0 (i := 0) rfl rfl ?_
  refine aw_iload_n C dX9_height_1 (i := 1) rfl rfl ?_
  refine aw_V1i (k := 0) C dX9_height_2 cv_X9_94 (by decide) rfl rfl rfl (cm_isWr hI) ⟨Nat.le_of_ble_eq_true rfl, Nat.le_of_ble_eq_true rfl⟩ (Nat.le_of_ble_eq_true rfl) ?_
  refine aw_if_eq_b (tgt := 29) C dX9_height_5 (by decide) (fun h5 => ?_) (fun h5 => ?_)
  · refine aw_iconst C dX9_height_29 ki_m1 ?_
    refine aw_iret C hr dX9_height_30 ?_
    exact PI.mk (by unfold opHeight; rw [if_neg (by rw [h5]; decide)]) rfl
  · refine aw_iload_n C dX9_height_8 (i := 2) rfl rfl ?_
    refine aw_iconst C dX9_height_9 ki_0 ?_
    refine aw_aload_n C dX9_height_10 (i := 0) rfl rfl ?_
    refine aw_get (k := 0) C dX9_height_11 fl_X9_34 (by decide) rfl rfl ?_
    refine aw_S3i C dX9_height_14 cs_X9_54 (cm_isIn hI) ⟨Nat.le_of_ble_eq_true rfl, Nat.le_of_ble_eq_true rfl⟩ (Nat.le_of_ble_eq_true rfl) ?_
    refine aw_if_eq_b (tgt := 29) C dX9_height_17 (by decide) (fun h17 => ?_) (fun h17 => ?_)
    · refine aw_iconst C dX9_height_29 ki_m1 ?_
      refine aw_iret C hr dX9_height_30 ?_
      exact PI.mk (by unfold opHeight; rw [if_pos h5, if_neg (by rw [h17]; decide)]) rfl
    · have e0 : opHeight span wires h i y = hgt h span i.toNatClampNeg y.toNatClampNeg := by unfold opHeight; rw [if_pos h5, if_pos h17]
      obtain ⟨a, ha, rfl⟩ := wr_of hw h5
      obtain ⟨b, hb, rfl⟩ := in_of (by omega) h17
      rw [nI_clamp (by omega), nI_clamp (by omega)] at e0
      refine aw_aload_n C dX9_height_20 (i := 0) rfl rfl ?_
      refine aw_iload_n C dX9_height_21 (i := 1) rfl rfl ?_
      refine aw_iload_n C dX9_height_22 (i := 2) rfl rfl ?_
      refine aw_V2i (k := 0) C dX9_height_23 cv_X9_108 (by decide) rfl rfl rfl (cm_heightOf hI (by omega) (by omega) hs hs2) ⟨Nat.le_of_ble_eq_true rfl, Nat.le_of_ble_eq_true rfl⟩ (Nat.le_of_ble_eq_true rfl) ?_
      refine aw_goto (tgt := 30) C dX9_height_26 (by decide) ?_
      refine aw_iret C hr dX9_height_30 ?_
      exact PI.mk e0.symm rfl
set_option maxRecDepth 20000 in
/-- pair -/
theorem cm_pair {l : Launch} {D : va_G} {cy : Nat → ClassId} {z : Nat → Nat} {q : Nat → Nat} (hI : wI 9 q) {len span wires chg rsp rwi val ends : Nat} {text : Nat → Nat} {h was rd eyes fw bars ways : Nat → Int32} {i k what : Int32} (hs : 8 ≤ span) (hs2 : span ≤ 40) (hw : wires ≤ 8) : Ct l yX9_pair cX9_pair 4 (some .int) 3 75 D cy z 9 q [.ref (q 0), .int i, .int k, .int what] (mdC cy q len span wires chg rsp rwi val ends text h was rd eyes fw bars ways) (PI (opPair span wires h i k what) (mdC cy q len span wires chg rsp rwi val ends text h was rd eyes fw bars ways)) := by
  refine Ct.of (own := RX9) (by decide) rfl hI (Nat.le_of_ble_eq_true rfl) ?_
  intro p e s m args below meth c C hr
  refine aw_lv (lv' := [(0, .ref (q 0)), (1, .int i), (2, .int k), (3, .int what)]) (fun x hx => hx) ?_
  refine aw_aload_n C dX9_pair_0 (i := 0) rfl rfl ?_
  refine aw_iload_n C dX9_pair_1 (i := 1) rfl rfl ?_
  refine aw_V1i (k := 0) C dX9_pair_2 cv_X9_94 (by decide) rfl rfl rfl (cm_isWr hI) ⟨Nat.le_of_ble_eq_true rfl, Nat.le_of_ble_eq_true rfl⟩ (Nat.le_of_ble_eq_true rfl) ?_
  refine aw_if_eq_b (tgt := 30) C dX9_pair_5 (by decide) (fun h5 => ?_) (fun h5 => ?_)
  · refine aw_iconst C dX9_pair_30 ki_m1 ?_
    refine aw_iret C hr dX9_pair_31 ?_
    exact PI.mk (by unfold opPair; rw [if_neg (by rw [h5]; decide)]) rfl
  · refine aw_aload_n C dX9_pair_8 (i := 0) rfl rfl ?_
    refine aw_iload_n C dX9_pair_9 (i := 2) rfl rfl ?_
    refine aw_V1i (k := 0) C dX9_pair_10 cv_X9_94 (by decide) rfl rfl rfl (cm_isWr hI) ⟨Nat.le_of_ble_eq_true rfl, Nat.le_of_ble_eq_true rfl⟩ (Nat.le_of_ble_eq_true rfl) ?_
    refine aw_if_eq_b (tgt := 30) C dX9_pair_13 (by decide) (fun h13 => ?_) (fun h13 => ?_)
    · refine aw_iconst C dX9_pair_30 ki_m1 ?_
      refine aw_iret C hr dX9_pair_31 ?_
      exact PI.mk (by unfold opPair; rw [if_pos h5, if_neg (by rw [h13]; decide)]) rfl
    · refine aw_iload_n C dX9_pair_16 (i := 1) rfl rfl ?_
      refine aw_iload_n C dX9_pair_17 (i := 2) rfl rfl ?_
      refine aw_icmp_eq (tgt := 30) C dX9_pair_18 (by decide) (fun h18 => ?_) (fun h18 => ?_)
      · refine aw_iconst C dX9_pair_30 ki_m1 ?_
        refine aw_iret C hr dX9_pair_31 ?_
        exact PI.mk (by unfold opPair; rw [if_pos h5, if_pos h13, if_pos h18]) rfl
      · refine aw_iload_n C dX9_pair_21 (i := 3) rfl rfl ?_
        refine aw_iconst C dX9_pair_22 ki_0 ?_
        refine aw_iconst C dX9_pair_23 ki_3 ?_
        refine aw_S3i C dX9_pair_24 cs_X9_54 (cm_isIn hI) ⟨Nat.le_of_ble_eq_true rfl, Nat.le_of_ble_eq_true rfl⟩ (Nat.le_of_ble_eq_true rfl) ?_
        refine aw_if_ne_b (tgt := 32) C dX9_pair_27 (by decide) (fun h27 => ?_) (fun h27 => ?_)
        · have e0 : opPair span wires h i k what = (if what = nI 0 then nrF h span i.toNatClampNeg k.toNatClampNeg else if what = nI 1 then nI (nrC h span i.toNatClampNeg k.toNatClampNeg) else if what = nI 2 then bi (crs h span i.toNatClampNeg k.toNatClampNeg) else bi (way h span i.toNatClampNeg k.toNatClampNeg)) := by unfold opPair; rw [if_pos h5, if_pos h13, if_neg h18, if_pos h27]
          obtain ⟨a, ha, rfl⟩ := wr_of hw h5
          obtain ⟨b, hb, rfl⟩ := wr_of hw h13
          rw [nI_clamp (by omega), nI_clamp (by omega)] at e0
          refine aw_iload_n C dX9_pair_32 (i := 3) rfl rfl ?_
          by_cases hsw : 0 ≤ what.toInt ∧ what.toInt ≤ 2
          · rcases (show what.toInt = 0 ∨ what.toInt = 1 ∨ what.toInt = 2 by omega) with hsw | hsw | hsw
            · obtain rfl : what = nI 0 := Int32.toInt_inj.mp (by rw [hsw]; rfl)
              refine aw_tin (tgt := 60) (off := 27) (v := 0) C dX9_pair_33 hsw (by decide) (by decide) rfl (by decide) ?_
              refine aw_aload_n C dX9_pair_60 (i := 0) rfl rfl ?_
              refine aw_iload_n C dX9_pair_61 (i := 1) rfl rfl ?_
              refine aw_iload_n C dX9_pair_62 (i := 2) rfl rfl ?_
              refine aw_iconst C dX9_pair_63 ki_1 ?_
              refine aw_V3i (k := 0) C dX9_pair_64 cv_X9_123 (by decide) rfl rfl rfl (cm_nearF hI (by omega) (by omega) hs hs2) ⟨Nat.le_of_ble_eq_true rfl, Nat.le_of_ble_eq_true rfl⟩ (Nat.le_of_ble_eq_true rfl) ?_
              refine aw_iret C hr dX9_pair_67 ?_
              refine PI.mk ?_ rfl
              rw [e0, if_pos rfl]
            · obtain rfl : what = nI 1 := Int32.toInt_inj.mp (by rw [hsw]; rfl)
              refine aw_tin (tgt := 68) (off := 35) (v := 1) C dX9_pair_33 hsw (by decide) (by decide) rfl (by decide) ?_
              refine aw_aload_n C dX9_pair_68 (i := 0) rfl rfl ?_
              refine aw_iload_n C dX9_pair_69 (i := 1) rfl rfl ?_
              refine aw_iload_n C dX9_pair_70 (i := 2) rfl rfl ?_
              refine aw_iconst C dX9_pair_71 ki_0 ?_
              refine aw_V3i (k := 0) C dX9_pair_72 cv_X9_123 (by decide) rfl rfl rfl (cm_nearC hI (by omega) (by omega) hs hs2) ⟨Nat.le_of_ble_eq_true rfl, Nat.le_of_ble_eq_true rfl⟩ (Nat.le_of_ble_eq_true rfl) ?_
              refine aw_iret C hr dX9_pair_75 ?_
              refine PI.mk ?_ rfl
              rw [e0, if_neg (by decide), if_pos rfl]
            · obtain rfl : what = nI 2 := Int32.toInt_inj.mp (by rw [hsw]; rfl)
              refine aw_tin (tgt := 76) (off := 43) (v := 2) C dX9_pair_33 hsw (by decide) (by decide) rfl (by decide) ?_
              refine aw_aload_n C dX9_pair_76 (i := 0) rfl rfl ?_
              refine aw_iload_n C dX9_pair_77 (i := 1) rfl rfl ?_
              refine aw_iload_n C dX9_pair_78 (i := 2) rfl rfl ?_
              refine aw_V2i (k := 0) C dX9_pair_79 cv_X9_127 (by decide) rfl rfl rfl (cm_cross hI (by omega) (by omega) hs hs2) ⟨Nat.le_of_ble_eq_true rfl, Nat.le_of_ble_eq_true rfl⟩ (Nat.le_of_ble_eq_true rfl) ?_
              refine aw_if_eq_b (tgt := 89) C dX9_pair_82 (by decide) (fun h82 => ?_) (fun h82 => ?_)
              · refine aw_iconst C dX9_pair_89 ki_0 ?_
                refine aw_iret C hr dX9_pair_90 ?_
                refine PI.mk ?_ rfl
                rw [e0, if_neg (by decide), if_neg (by decide), if_pos rfl]
                rw [h82]
                rfl
              · refine aw_iconst C dX9_pair_85 ki_1 ?_
                refine aw_goto (tgt := 90) C dX9_pair_86 (by decide) ?_
                refine aw_iret C hr dX9_pair_90 ?_
                refine PI.mk ?_ rfl
                rw [e0, if_neg (by decide), if_neg (by decide), if_pos rfl]
                rw [h82]
                rfl
          · refine aw_tout (tgt := 91) C dX9_pair_33 (by omega) (by decide) ?_
            have hn0 : ¬ what = nI 0 := fun e9 => hsw (by rw [e9]; decide)
            have hn1 : ¬ what = nI 1 := fun e9 => hsw (by rw [e9]; decide)
            have hn2 : ¬ what = nI 2 := fun e9 => hsw (by rw [e9]; decide)
            refine aw_aload_n C dX9_pair_91 (i := 0) rfl rfl ?_
            refine aw_iload_n C dX9_pair_92 (i := 1) rfl rfl ?_
            refine aw_iload_n C dX9_pair_93 (i := 2) rfl rfl ?_
            refine aw_V2i (k := 0) C dX9_pair_94 cv_X9_130 (by decide) rfl rfl rfl (cm_inWay hI (by omega) (by omega) hs hs2) ⟨Nat.le_of_ble_eq_true rfl, Nat.le_of_ble_eq_true rfl⟩ (Nat.le_of_ble_eq_true rfl) ?_
            refine aw_if_eq_b (tgt := 104) C dX9_pair_97 (by decide) (fun h97 => ?_) (fun h97 => ?_)
            · refine aw_iconst C dX9_pair_104 ki_0 ?_
              refine aw_iret C hr dX9_pair_105 ?_
              refine PI.mk ?_ rfl
              rw [e0, if_neg hn0, if_neg hn1, if_neg hn2]
              rw [h97]
              rfl
            · refine aw_iconst C dX9_pair_100 ki_1 ?_
              refine aw_goto (tgt := 105) C dX9_pair_101 (by decide) ?_
              refine aw_iret C hr dX9_pair_105 ?_
              refine PI.mk ?_ rfl
              rw [e0, if_neg hn0, if_neg hn1, if_neg hn2]
              rw [h97]
              rfl
        · refine aw_iconst C dX9_pair_30 ki_m1 ?_
          refine aw_iret C hr dX9_pair_31 ?_
          exact PI.mk (by unfold opPair; rw [if_pos h5, if_pos h13, if_neg h18, if_neg (by rw [h27]; decide)]) rfl
set_option maxRecDepth 20000 in
/-- wire -/
theorem cm_wire {l : Launch} {D : va_G} {cy : Nat → ClassId} {z : Nat → Nat} {q : Nat → Nat} (hI : wI 9 q) {len span wires chg rsp rwi val ends : Nat} {text : Nat → Nat} {h was rd eyes fw bars ways : Nat → Int32} {i what : Int32} (hs : 8 ≤ span) (hs2 : span ≤ 40) (hw : wires ≤ 8) : Ct l yX9_wire cX9_wire 3 (some .int) 2 48 D cy z 9 q [.ref (q 0), .int i, .int what] (mdC cy q len span wires chg rsp rwi val ends text h was rd eyes fw bars ways) (PI (opWire span wires h i what) (mdC cy q len span wires chg rsp rwi val ends text h was rd eyes fw bars ways)) := by
  refine Ct.of (own := RX9) (by decide) rfl hI (Nat.le_of_ble_eq_true rfl) ?_
  intro p e s m args below meth c C hr
  refine aw_lv (lv' := [(0, .ref (q 0)), (1, .int i), (2, .int what)]) (fun x hx => hx) ?_
  refine aw_aload_n C dX9_wire_0 (i := 0) rfl rfl ?_
  refine aw_iload_n C dX9_wire_1 (i := 1) rfl rfl ?_
  refine aw_V1i (k := 0) C dX9_wire_2 cv_X9_94 (by decide) rfl rfl rfl (cm_isWr hI) ⟨Nat.le_of_ble_eq_true rfl, Nat.le_of_ble_eq_true rfl⟩ (Nat.le_of_ble_eq_true rfl) ?_
  refine aw_if_eq_b (tgt := 18) C dX9_wire_5 (by decide) (fun h5 => ?_) (fun h5 => ?_)
  · refine aw_iconst C dX9_wire_18 ki_m1 ?_
    refine aw_iret C hr dX9_wire_19 ?_
    exact PI.mk (by unfold opWire; rw [if_neg (by rw [h5]; decide)]) rfl
  · refine aw_iload_n C dX9_wire_8 (i := 2) rfl rfl ?_
    refine aw_iconst C dX9_wire_9 ki_0 ?_
    refine aw_bipush C dX9_wire_10 kb_8 ?_
    refine aw_S3i C dX9_wire_12 cs_X9_54 (cm_isIn hI) ⟨Nat.le_of_ble_eq_true rfl, Nat.le_of_ble_eq_true rfl⟩ (Nat.le_of_ble_eq_true rfl) ?_
    refine aw_if_ne_b (tgt := 20) C dX9_wire_15 (by decide) (fun h15 => ?_) (fun h15 => ?_)
    · have e0 : opWire span wires h i what = (if what = nI 5 then bt (h 44) i.toNatClampNeg else if what = nI 6 then lng h span i.toNatClampNeg else if what = nI 7 then hgt h span i.toNatClampNeg (topR h span i.toNatClampNeg span) else if what = nI 8 then nI (topR h span i.toNatClampNeg span) else h (5 * i.toNatClampNeg + what.toNatClampNeg)) := by unfold opWire; rw [if_pos h5, if_pos h15]
      obtain ⟨a, ha, rfl⟩ := wr_of hw h5
      rw [nI_clamp (by omega)] at e0
      have htp := topR_le h span a span
      refine aw_iload_n C dX9_wire_20 (i := 2) rfl rfl ?_
      by_cases hsw : 5 ≤ what.toInt ∧ what.toInt ≤ 8
      · rcases (show what.toInt = 5 ∨ what.toInt = 6 ∨ what.toInt = 7 ∨ what.toInt = 8 by omega) with hsw | hsw | hsw | hsw
        · obtain rfl : what = nI 5 := Int32.toInt_inj.mp (by rw [hsw]; rfl)
          refine aw_tin (tgt := 52) (off := 31) (v := 5) C dX9_wire_21 hsw (by decide) (by decide) rfl (by decide) ?_
          refine aw_aload_n C dX9_wire_52 (i := 0) rfl rfl ?_
          refine aw_get (k := 0) C dX9_wire_53 fl_X9_13 (by decide) rfl rfl ?_
          refine aw_bipush C dX9_wire_56 kb_44 ?_
          refine aw_iald (k := 2) C dX9_wire_58 (by decide) (rfl) (rfl) (by omega) (by decide) (rfl) ?_
          refine aw_iload_n C dX9_wire_59 (i := 1) rfl rfl ?_
          refine aw_ishr C dX9_wire_60 ?_
          refine aw_iconst C dX9_wire_61 ki_1 ?_
          refine aw_iand C dX9_wire_62 ?_
          refine aw_iret C hr dX9_wire_63 ?_
          refine PI.mk ?_ rfl
          rw [e0, if_pos rfl]
          rfl
        · obtain rfl : what = nI 6 := Int32.toInt_inj.mp (by rw [hsw]; rfl)
          refine aw_tin (tgt := 64) (off := 43) (v := 6) C dX9_wire_21 hsw (by decide) (by decide) rfl (by decide) ?_
          refine aw_aload_n C dX9_wire_64 (i := 0) rfl rfl ?_
          refine aw_iload_n C dX9_wire_65 (i := 1) rfl rfl ?_
          refine aw_V1i (k := 0) C dX9_wire_66 cv_X9_111 (by decide) rfl rfl rfl (cm_longOf hI (by omega) hs hs2) ⟨Nat.le_of_ble_eq_true rfl, Nat.le_of_ble_eq_true rfl⟩ (Nat.le_of_ble_eq_true rfl) ?_
          refine aw_iret C hr dX9_wire_69 ?_
          refine PI.mk ?_ rfl
          rw [e0, if_neg (by decide), if_pos rfl]
        · obtain rfl : what = nI 7 := Int32.toInt_inj.mp (by rw [hsw]; rfl)
          refine aw_tin (tgt := 70) (off := 49) (v := 7) C dX9_wire_21 hsw (by decide) (by decide) rfl (by decide) ?_
          refine aw_aload_n C dX9_wire_70 (i := 0) rfl rfl ?_
          refine aw_iload_n C dX9_wire_71 (i := 1) rfl rfl ?_
          refine aw_aload_n C dX9_wire_72 (i := 0) rfl rfl ?_
          refine aw_iload_n C dX9_wire_73 (i := 1) rfl rfl ?_
          refine aw_V1i (k := 0) C dX9_wire_74 cv_X9_114 (by decide) rfl rfl rfl (cm_topOf hI (by omega) hs hs2) ⟨Nat.le_of_ble_eq_true rfl, Nat.le_of_ble_eq_true rfl⟩ (Nat.le_of_ble_eq_true rfl) ?_
          refine aw_V2i (k := 0) C dX9_wire_77 cv_X9_108 (by decide) rfl rfl rfl (cm_heightOf hI (by omega) (by omega) hs hs2) ⟨Nat.le_of_ble_eq_true rfl, Nat.le_of_ble_eq_true rfl⟩ (Nat.le_of_ble_eq_true rfl) ?_
          refine aw_iret C hr dX9_wire_80 ?_
          refine PI.mk ?_ rfl
          rw [e0, if_neg (by decide), if_neg (by decide), if_pos rfl]
        · obtain rfl : what = nI 8 := Int32.toInt_inj.mp (by rw [hsw]; rfl)
          refine aw_tin (tgt := 81) (off := 60) (v := 8) C dX9_wire_21 hsw (by decide) (by decide) rfl (by decide) ?_
          refine aw_aload_n C dX9_wire_81 (i := 0) rfl rfl ?_
          refine aw_iload_n C dX9_wire_82 (i := 1) rfl rfl ?_
          refine aw_V1i (k := 0) C dX9_wire_83 cv_X9_114 (by decide) rfl rfl rfl (cm_topOf hI (by omega) hs hs2) ⟨Nat.le_of_ble_eq_true rfl, Nat.le_of_ble_eq_true rfl⟩ (Nat.le_of_ble_eq_true rfl) ?_
          refine aw_iret C hr dX9_wire_86 ?_
          refine PI.mk ?_ rfl
          rw [e0, if_neg (by decide), if_neg (by decide), if_neg (by decide), if_pos rfl]
      · refine aw_tout (tgt := 87) C dX9_wire_21 (by omega) (by decide) ?_
        have hn5 : ¬ what = nI 5 := fun e9 => hsw (by rw [e9]; decide)
        have hn6 : ¬ what = nI 6 := fun e9 => hsw (by rw [e9]; decide)
        have hn7 : ¬ what = nI 7 := fun e9 => hsw (by rw [e9]; decide)
        have hn8 : ¬ what = nI 8 := fun e9 => hsw (by rw [e9]; decide)
        obtain ⟨b, hb, rfl⟩ := in_of (by decide) h15
        rw [nI_clamp (by omega)] at e0
        rw [nI_toInt (by omega)] at hsw
        refine aw_aload_n C dX9_wire_87 (i := 0) rfl rfl ?_
        refine aw_get (k := 0) C dX9_wire_88 fl_X9_13 (by decide) rfl rfl ?_
        refine aw_iconst C dX9_wire_91 ki_5 ?_
        refine aw_iload_n C dX9_wire_92 (i := 1) rfl rfl ?_
        refine aw_imul_n C dX9_wire_93 ?_
        refine aw_iload_n C dX9_wire_94 (i := 2) rfl rfl ?_
        refine aw_iadd_n C dX9_wire_95 ?_
        refine aw_iald (k := 2) C dX9_wire_96 (by decide) (rfl) (rfl) (by omega) (by decide) (rfl) ?_
        refine aw_iret C hr dX9_wire_97 ?_
        refine PI.mk ?_ rfl
        rw [e0, if_neg hn5, if_neg hn6, if_neg hn7, if_neg hn8]
    · refine aw_iconst C dX9_wire_18 ki_m1 ?_
      refine aw_iret C hr dX9_wire_19 ?_
      exact PI.mk (by unfold opWire; rw [if_pos h5, if_neg (by rw [h15]; decide)]) rfl
set_option maxRecDepth 20000 in
/-- bond -/
theorem cm_bond {l : Launch} {D : va_G} {cy : Nat → ClassId} {z : Nat → Nat} {q : Nat → Nat} (hI : wI 9 q) {len span wires chg rsp rwi val ends : Nat} {text : Nat → Nat} {h was rd eyes fw bars ways : Nat → Int32} {i : Int32} (hc : chg ≤ 6) (hs : 8 ≤ span) (hs2 : span ≤ 40) (hw : wires ≤ 8) : Ct l yX9_bond cX9_bond 2 (some .int) 4 99 D cy z 9 q [.ref (q 0), .int i] (mdC cy q len span wires chg rsp rwi val ends text h was rd eyes fw bars ways) (PO cy q (opBond len span wires chg text h was eyes i)) := by
  refine Ct.of (own := RX9) (by decide) rfl hI (Nat.le_of_ble_eq_true rfl) ?_
  intro p e s m args below meth c C hr
  refine aw_lv (lv' := [(0, .ref (q 0)), (1, .int i)]) (fun x hx => hx) ?_
  refine aw_aload_n C dX9_bond_0 (i := 0) rfl rfl ?_
  refine aw_iload_n C dX9_bond_1 (i := 1) rfl rfl ?_
  refine aw_V1i (k := 0) C dX9_bond_2 cv_X9_94 (by decide) rfl rfl rfl (cm_isWr hI) ⟨Nat.le_of_ble_eq_true rfl, Nat.le_of_ble_eq_true rfl⟩ (Nat.le_of_ble_eq_true rfl) ?_
  refine aw_if_ne_b (tgt := 10) C dX9_bond_5 (by decide) (fun h5 => ?_) (fun h5 => ?_)
  · obtain ⟨a, ha, rfl⟩ := wr_of hw h5
    have ec : (nI a).toNatClampNeg = a := nI_clamp (by omega)
    refine aw_aload_n C dX9_bond_10 (i := 0) rfl rfl ?_
    refine aw_get (k := 0) C dX9_bond_11 fl_X9_13 (by decide) rfl rfl ?_
    refine aw_bipush C dX9_bond_14 kb_44 ?_
    refine aw_iald (k := 2) C dX9_bond_16 (by decide) (rfl) (rfl) (by omega) (by decide) (rfl) ?_
    refine aw_iload_n C dX9_bond_17 (i := 1) rfl rfl ?_
    refine aw_ishr C dX9_bond_18 ?_
    refine aw_iconst C dX9_bond_19 ki_1 ?_
    refine aw_iand C dX9_bond_20 ?_
    refine aw_iconst C dX9_bond_21 ki_1 ?_
    refine aw_icmp_eq (tgt := 40) C dX9_bond_22 (by decide) (fun h22 => ?_) (fun h22 => ?_)
    · refine aw_bipush C dX9_bond_40 kb_m2 ?_
      refine aw_iret C hr dX9_bond_42 ?_
      exact PO.mk (by unfold opBond; rw [if_pos h5, ec, if_pos (show bt (h 44) a = nI 1 from h22)])
    · refine aw_aload_n C dX9_bond_25 (i := 0) rfl rfl ?_
      refine aw_iload_n C dX9_bond_26 (i := 1) rfl rfl ?_
      refine aw_aload_n C dX9_bond_27 (i := 0) rfl rfl ?_
      refine aw_get (k := 0) C dX9_bond_28 fl_X9_13 (by decide) rfl rfl ?_
      refine aw_bipush C dX9_bond_31 kb_44 ?_
      refine aw_iald (k := 2) C dX9_bond_33 (by decide) (rfl) (rfl) (by omega) (by decide) (rfl) ?_
      refine aw_V2i (k := 0) C dX9_bond_34 cv_X9_133 (by decide) rfl rfl rfl (cm_isBarred hI (by omega) hw hs hs2) ⟨Nat.le_of_ble_eq_true rfl, Nat.le_of_ble_eq_true rfl⟩ (Nat.le_of_ble_eq_true rfl) ?_
      refine aw_if_eq_b (tgt := 43) C dX9_bond_37 (by decide) (fun h37 => ?_) (fun h37 => ?_)
      · refine aw_aload_n C dX9_bond_43 (i := 0) rfl rfl ?_
        refine aw_V0v (k := 0) C dX9_bond_44 cv_X9_91 (by decide) rfl rfl rfl (cm_notes hI hc) ⟨Nat.le_of_ble_eq_true rfl, Nat.le_of_ble_eq_true rfl⟩ (Nat.le_of_ble_eq_true rfl) ?_
        refine aw_aload_n C dX9_bond_47 (i := 0) rfl rfl ?_
        refine aw_get (k := 0) C dX9_bond_48 fl_X9_13 (by decide) rfl rfl ?_
        refine aw_bipush C dX9_bond_51 kb_44 ?_
        refine aw_dup2 C dX9_bond_53 rfl rfl ?_
        refine aw_iald (k := 2) C dX9_bond_54 (by decide) (rfl) (rfl) (by omega) (by decide) (rfl) ?_
        refine aw_iconst C dX9_bond_55 ki_1 ?_
        refine aw_iload_n C dX9_bond_56 (i := 1) rfl rfl ?_
        refine aw_ishl C dX9_bond_57 ?_
        refine aw_ior C dX9_bond_58 ?_
        refine aw_iast (k := 2) C dX9_bond_59 (by decide) (rfl) (rfl) (by omega) (by decide) (md_a_h) ?_
        refine aw_aload_n C dX9_bond_60 (i := 0) rfl rfl ?_
        refine aw_get (k := 0) C dX9_bond_61 fl_X9_13 (by decide) rfl rfl ?_
        refine aw_bipush C dX9_bond_64 kb_44 ?_
        refine aw_iald (k := 2) C dX9_bond_66 (by decide) (rfl) (rfl) (by omega) (by decide) ((by unfold upd; exact if_pos rfl)) ?_
        refine aw_S1i C dX9_bond_67 cs_X9_136 (cm_bits hI) ⟨Nat.le_of_ble_eq_true rfl, Nat.le_of_ble_eq_true rfl⟩ (Nat.le_of_ble_eq_true rfl) ?_
        refine aw_iret C hr dX9_bond_70 ?_
        exact PO.mk (by unfold opBond; rw [if_pos h5, ec, if_neg (show ¬ bt (h 44) a = nI 1 from h22), if_neg (by rw [h37]; decide)])
      · refine aw_bipush C dX9_bond_40 kb_m2 ?_
        refine aw_iret C hr dX9_bond_42 ?_
        exact PO.mk (by unfold opBond; rw [if_pos h5, ec, if_neg (show ¬ bt (h 44) a = nI 1 from h22), if_pos h37])
  · refine aw_iconst C dX9_bond_8 ki_m1 ?_
    refine aw_iret C hr dX9_bond_9 ?_
    exact PO.mk (by unfold opBond; rw [if_neg (by rw [h5]; decide)])
set_option maxRecDepth 20000 in
/-- take -/
theorem cm_take {l : Launch} {D : va_G} {cy : Nat → ClassId} {z : Nat → Nat} {q : Nat → Nat} (hI : wI 9 q) {len span wires chg rsp rwi val ends : Nat} {text : Nat → Nat} {h was rd eyes fw bars ways : Nat → Int32} {i : Int32} (hc : chg ≤ 6) (hs : 8 ≤ span) (hs2 : span ≤ 40) (hw : wires ≤ 8) : Ct l yX9_take cX9_take 2 (some .int) 2 43 D cy z 9 q [.ref (q 0), .int i] (mdC cy q len span wires chg rsp rwi val ends text h was rd eyes fw bars ways) (PO cy q (opTake len span wires chg text h was eyes i)) := by
  refine Ct.of (own := RX9) (by decide) rfl hI (Nat.le_of_ble_eq_true rfl) ?_
  intro p e s m args below meth c C hr
  refine aw_lv (lv' := [(0, .ref (q 0)), (1, .int i)]) (fun x hx => hx) ?_
  refine aw_aload_n C dX9_take_0 (i := 0) rfl rfl ?_
  refine aw_iload_n C dX9_take_1 (i := 1) rfl rfl ?_
  refine aw_V1i (k := 0) C dX9_take_2 cv_X9_94 (by decide) rfl rfl rfl (cm_isWr hI) ⟨Nat.le_of_ble_eq_true rfl, Nat.le_of_ble_eq_true rfl⟩ (Nat.le_of_ble_eq_true rfl) ?_
  refine aw_if_ne_b (tgt := 10) C dX9_take_5 (by decide) (fun h5 => ?_) (fun h5 => ?_)
  · obtain ⟨a, ha, rfl⟩ := wr_of hw h5
    have ec : (nI a).toNatClampNeg = a := nI_clamp (by omega)
    refine aw_aload_n C dX9_take_10 (i := 0) rfl rfl ?_
    refine aw_get (k := 0) C dX9_take_11 fl_X9_13 (by decide) rfl rfl ?_
    refine aw_bipush C dX9_take_14 kb_44 ?_
    refine aw_iald (k := 2) C dX9_take_16 (by decide) (rfl) (rfl) (by omega) (by decide) (rfl) ?_
    refine aw_iload_n C dX9_take_17 (i := 1) rfl rfl ?_
    refine aw_ishr C dX9_take_18 ?_
    refine aw_iconst C dX9_take_19 ki_1 ?_
    refine aw_iand C dX9_take_20 ?_
    refine aw_if_ne (tgt := 27) C dX9_take_21 (by decide) (fun h21 => ?_) (fun h21 => ?_)
    · refine aw_aload_n C dX9_take_27 (i := 0) rfl rfl ?_
      refine aw_V0v (k := 0) C dX9_take_28 cv_X9_91 (by decide) rfl rfl rfl (cm_notes hI hc) ⟨Nat.le_of_ble_eq_true rfl, Nat.le_of_ble_eq_true rfl⟩ (Nat.le_of_ble_eq_true rfl) ?_
      refine aw_aload_n C dX9_take_31 (i := 0) rfl rfl ?_
      refine aw_get (k := 0) C dX9_take_32 fl_X9_13 (by decide) rfl rfl ?_
      refine aw_bipush C dX9_take_35 kb_44 ?_
      refine aw_dup2 C dX9_take_37 rfl rfl ?_
      refine aw_iald (k := 2) C dX9_take_38 (by decide) (rfl) (rfl) (by omega) (by decide) (rfl) ?_
      refine aw_iconst C dX9_take_39 ki_1 ?_
      refine aw_iload_n C dX9_take_40 (i := 1) rfl rfl ?_
      refine aw_ishl C dX9_take_41 ?_
      refine aw_isub C dX9_take_42 ?_
      refine aw_iast (k := 2) C dX9_take_43 (by decide) (rfl) (rfl) (by omega) (by decide) (md_a_h) ?_
      refine aw_aload_n C dX9_take_44 (i := 0) rfl rfl ?_
      refine aw_get (k := 0) C dX9_take_45 fl_X9_13 (by decide) rfl rfl ?_
      refine aw_bipush C dX9_take_48 kb_44 ?_
      refine aw_iald (k := 2) C dX9_take_50 (by decide) (rfl) (rfl) (by omega) (by decide) ((by unfold upd; exact if_pos rfl)) ?_
      refine aw_S1i C dX9_take_51 cs_X9_136 (cm_bits hI) ⟨Nat.le_of_ble_eq_true rfl, Nat.le_of_ble_eq_true rfl⟩ (Nat.le_of_ble_eq_true rfl) ?_
      refine aw_iret C hr dX9_take_54 ?_
      exact PO.mk (by unfold opTake; rw [if_pos h5, ec, if_neg (show ¬ bt (h 44) a = 0 from h21)])
    · refine aw_bipush C dX9_take_24 kb_m2 ?_
      refine aw_iret C hr dX9_take_26 ?_
      exact PO.mk (by unfold opTake; rw [if_pos h5, ec, if_pos (show bt (h 44) a = 0 from h21)])
  · refine aw_iconst C dX9_take_8 ki_m1 ?_
    refine aw_iret C hr dX9_take_9 ?_
    exact PO.mk (by unfold opTake; rw [if_neg (by rw [h5]; decide)])
set_option maxRecDepth 20000 in
/-- ready, its loop -/
theorem cm_ready_l {l : Launch} {D : va_G} {cy : Nat → ClassId} {z : Nat → Nat} {q : Nat → Nat} {p : Program} {e : Env} {s : State} {m : MethodId} {args : Array Value} {below : List Frame} {meth : Method} {c : Code} (hI : wI 9 q) (C : Cx p s m args meth c cX9_ready 3 RX9 D cy z 9 q) (hr : meth.sig.returnType = (some .int)) {len span wires chg rsp rwi val ends : Nat} {text : Nat → Nat} {h was rd eyes fw bars ways : Nat → Int32} (hs : 8 ≤ span) (hs2 : span ≤ 40) (hw : wires ≤ 8) : ∀ (d : Nat) (k : Nat), wires - k < d → (k ≤ wires) → AW p l e { frames := 4, cells := 0, slots := 0, locals := 99 } s m args below meth c D 9 q 3 (MQ below (Qg D 9 q (PI (opReady span wires h) (mdC cy q len span wires chg rsp rwi val ends text h was rd eyes fw bars ways)) (wA 9 q s.heap.size)) args s 0 0 (wA 9 q s.heap.size)) (mdC cy q len span wires chg rsp rwi val ends text h was rd eyes fw bars ways) [(0, .ref (q 0)), (1, .int (rdyS h span wires k)), (2, .int (nI k))] 4 [] := by
  intro d
  induction d with
  | zero => intro k hd; exact absurd hd (Nat.not_lt_zero _)
  | succ d ih =>
    intro k hd iv0
    refine aw_iload_n C dX9_ready_4 (i := 2) rfl rfl ?_
    refine aw_aload_n C dX9_ready_5 (i := 0) rfl rfl ?_
    refine aw_get (k := 0) C dX9_ready_6 fl_X9_38 (by decide) rfl rfl ?_
    refine aw_icmp_ge_n (tgt := 57) C dX9_ready_9 (by decide) (by omega) (by omega) (fun h9 => ?_) (fun h9 => ?_)
    · refine aw_iload_n C dX9_ready_57 (i := 1) rfl rfl ?_
      refine aw_iret C hr dX9_ready_58 ?_
      exact PI.mk (by rw [show k = wires by omega]; rfl) rfl
    · refine aw_iload_n C dX9_ready_12 (i := 1) rfl rfl ?_
      refine aw_aload_n C dX9_ready_13 (i := 0) rfl rfl ?_
      refine aw_get (k := 0) C dX9_ready_14 fl_X9_13 (by decide) rfl rfl ?_
      refine aw_bipush C dX9_ready_17 kb_44 ?_
      refine aw_iald (k := 2) C dX9_ready_19 (by decide) (rfl) (rfl) (by omega) (by decide) (rfl) ?_
      refine aw_iload_n C dX9_ready_20 (i := 2) rfl rfl ?_
      refine aw_ishr C dX9_ready_21 ?_
      refine aw_iconst C dX9_ready_22 ki_1 ?_
      refine aw_iand C dX9_ready_23 ?_
      refine aw_if_ne (tgt := 48) C dX9_ready_24 (by decide) (fun h24 => ?_) (fun h24 => ?_)
      · refine aw_iconst C dX9_ready_48 ki_0 ?_
        refine aw_ior C dX9_ready_49 ?_
        refine aw_istore_n (lv' := [(0, _), (1, _), (2, _)]) C dX9_ready_50 (i := 1) rfl (Nat.le_of_ble_eq_true rfl) rfl ?_
        refine aw_iinc_n (lv' := [(0, _), (1, _), (2, _)]) C dX9_ready_51 rfl ki_1 (Nat.le_of_ble_eq_true rfl) rfl ?_
        refine aw_goto (tgt := 4) C dX9_ready_54 (by decide) ?_
        have k9 := ih (k + 1) (by omega) (by omega)
        unfold rdyS at k9
        rw [if_neg (show ¬ bt (h 44) k = 0 from h24)] at k9
        exact k9
      · refine aw_aload_n C dX9_ready_27 (i := 0) rfl rfl ?_
        refine aw_iload_n C dX9_ready_28 (i := 2) rfl rfl ?_
        refine aw_aload_n C dX9_ready_29 (i := 0) rfl rfl ?_
        refine aw_get (k := 0) C dX9_ready_30 fl_X9_13 (by decide) rfl rfl ?_
        refine aw_bipush C dX9_ready_33 kb_44 ?_
        refine aw_iald (k := 2) C dX9_ready_35 (by decide) (rfl) (rfl) (by omega) (by decide) (rfl) ?_
        refine aw_V2i (k := 0) C dX9_ready_36 cv_X9_133 (by decide) rfl rfl rfl (cm_isBarred hI (by omega) hw hs hs2) ⟨Nat.le_of_ble_eq_true rfl, Nat.le_of_ble_eq_true rfl⟩ (Nat.le_of_ble_eq_true rfl) ?_
        refine aw_if_ne_b (tgt := 48) C dX9_ready_39 (by decide) (fun h39 => ?_) (fun h39 => ?_)
        · refine aw_iconst C dX9_ready_48 ki_0 ?_
          refine aw_ior C dX9_ready_49 ?_
          refine aw_istore_n (lv' := [(0, _), (1, _), (2, _)]) C dX9_ready_50 (i := 1) rfl (Nat.le_of_ble_eq_true rfl) rfl ?_
          refine aw_iinc_n (lv' := [(0, _), (1, _), (2, _)]) C dX9_ready_51 rfl ki_1 (Nat.le_of_ble_eq_true rfl) rfl ?_
          refine aw_goto (tgt := 4) C dX9_ready_54 (by decide) ?_
          have k9 := ih (k + 1) (by omega) (by omega)
          unfold rdyS at k9
          rw [if_pos (show bt (h 44) k = 0 from h24), if_pos h39] at k9
          exact k9
        · refine aw_iconst C dX9_ready_42 ki_1 ?_
          refine aw_iload_n C dX9_ready_43 (i := 2) rfl rfl ?_
          refine aw_ishl C dX9_ready_44 ?_
          refine aw_goto (tgt := 49) C dX9_ready_45 (by decide) ?_
          refine aw_ior C dX9_ready_49 ?_
          refine aw_istore_n (lv' := [(0, _), (1, _), (2, _)]) C dX9_ready_50 (i := 1) rfl (Nat.le_of_ble_eq_true rfl) rfl ?_
          refine aw_iinc_n (lv' := [(0, _), (1, _), (2, _)]) C dX9_ready_51 rfl ki_1 (Nat.le_of_ble_eq_true rfl) rfl ?_
          refine aw_goto (tgt := 4) C dX9_ready_54 (by decide) ?_
          have k9 := ih (k + 1) (by omega) (by omega)
          unfold rdyS at k9
          rw [if_pos (show bt (h 44) k = 0 from h24), if_neg (by rw [h39]; decide)] at k9
          exact k9
set_option maxRecDepth 20000 in
/-- ready -/
theorem cm_ready {l : Launch} {D : va_G} {cy : Nat → ClassId} {z : Nat → Nat} {q : Nat → Nat} (hI : wI 9 q) {len span wires chg rsp rwi val ends : Nat} {text : Nat → Nat} {h was rd eyes fw bars ways : Nat → Int32} (hs : 8 ≤ span) (hs2 : span ≤ 40) (hw : wires ≤ 8) : Ct l yX9_ready cX9_ready 3 (some .int) 4 99 D cy z 9 q [.ref (q 0)] (mdC cy q len span wires chg rsp rwi val ends text h was rd eyes fw bars ways) (PI (opReady span wires h) (mdC cy q len span wires chg rsp rwi val ends text h was rd eyes fw bars ways)) := by
  refine Ct.of (own := RX9) (by decide) rfl hI (Nat.le_of_ble_eq_true rfl) ?_
  intro p e s m args below meth c C hr
  refine aw_lv (lv' := [(0, .ref (q 0))]) (fun x hx => hx) ?_
  refine aw_iconst C dX9_ready_0 ki_0 ?_
  refine aw_istore_n (lv' := [(0, _), (1, _)]) C dX9_ready_1 (i := 1) rfl (Nat.le_of_ble_eq_true rfl) rfl ?_
  refine aw_iconst C dX9_ready_2 ki_0 ?_
  refine aw_istore_n (lv' := [(0, _), (1, _), (2, _)]) C dX9_ready_3 (i := 2) rfl (Nat.le_of_ble_eq_true rfl) rfl ?_
  exact cm_ready_l hI C hr hs hs2 hw (wires + 1) 0 (by omega) (by omega)
