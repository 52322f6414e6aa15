-- the reference: reading the text
set_option maxRecDepth 20000 in
/-- letterAt -/
theorem cm_letterAt {l : Launch} {D : va_G} {cy : Nat → ClassId} {z : Nat → Nat} {q : Nat → Nat} (hI : wI 9 q) {len span wires chg rsp rwi val ends : Nat} {text : Nat → Nat} {h was rd eyes fw bars ways : Nat → Int32} {p0 : Nat} (hp : p0 ≤ 1000) (hl : len ≤ 200) : Ct l yX9_letterAt cX9_letterAt 2 (some .int) 0 0 D cy z 9 q [.ref (q 0), .int (nI p0)] (mdC cy q len span wires chg rsp rwi val ends text h was rd eyes fw bars ways) (PI (nI (lt0 len text p0)) (mdC cy q len span wires chg rsp rwi val ends text h was rd eyes fw bars ways)) := by
  refine Ct.of (own := RX9) (by decide) rfl hI (Nat.le_of_ble_eq_true rfl) ?_
  intro p e s m args below meth c C hr
  refine aw_lv (lv' := [(0, .ref (q 0)), (1, .int (nI p0))]) (fun x hx => hx) ?_
  refine aw_iload_n C dX9_letterAt_0 (i := 1) rfl rfl ?_
  refine aw_aload_n C dX9_letterAt_1 (i := 0) rfl rfl ?_
  refine aw_get (k := 0) C dX9_letterAt_2 fl_X9_41 (by decide) rfl rfl ?_
  refine aw_icmp_ge_n (tgt := 17) C dX9_letterAt_5 (by decide) (by omega) (by omega) (fun h5 => ?_) (fun h5 => ?_)
  · refine aw_iconst C dX9_letterAt_17 ki_0 ?_
    refine aw_iret C hr dX9_letterAt_18 ?_
    exact PI.mk (by unfold lt0; rw [if_neg (Nat.not_lt.mpr h5)]) rfl
  · refine aw_aload_n C dX9_letterAt_8 (i := 0) rfl rfl ?_
    refine aw_get (k := 0) C dX9_letterAt_9 fl_X9_7 (by decide) rfl rfl ?_
    refine aw_iload_n C dX9_letterAt_12 (i := 1) rfl rfl ?_
    refine aw_iald (k := 1) C dX9_letterAt_13 (by decide) (rfl) (rfl) (by omega) (by decide) (rfl) ?_
    refine aw_goto (tgt := 18) C dX9_letterAt_14 (by decide) ?_
    refine aw_iret C hr dX9_letterAt_18 ?_
    exact PI.mk (by unfold lt0; rw [if_pos h5]) rfl
set_option maxRecDepth 20000 in
/-- number, from 65 on -/
theorem cm_number_e {l : Launch} {D : va_G} {cy : Nat → ClassId} {z : Nat → Nat} {q : Nat → Nat} {p : Program} {e : Env} {s : State} {m : MethodId} {args : Array Value} {below : List Frame} {meth : Method} {c : Code} (hI : wI 9 q) (C : Cx p s m args meth c cX9_number 5 RX9 D cy z 9 q) (hr : meth.sig.returnType = (some .boolean)) {len span wires chg rsp rwi val ends : Nat} {text : Nat → Nat} {h was rd eyes fw bars ways : Nat → Int32} {p0 e0 : Nat} {lo hi : Int32} (hp : p0 ≤ 1000) (he : e0 ≤ 1002) : AW p l e { frames := 1, cells := 0, slots := 0, locals := 22 } s m args below meth c D 9 q 5 (MQ below (Qg D 9 q (PI (bi (decide (p0 < e0) && inB (nI val) lo hi)) (mdC cy q len span wires chg rsp rwi val e0 text h was rd eyes fw bars ways)) (wA 9 q s.heap.size)) args s 0 0 (wA 9 q s.heap.size)) (mdC cy q len span wires chg rsp rwi val ends text h was rd eyes fw bars ways) [(0, .ref (q 0)), (1, .int (nI p0)), (2, .int lo), (3, .int hi), (4, .int (nI e0))] 65 [] := by
  refine aw_aload_n C dX9_number_65 (i := 0) rfl rfl ?_
  refine aw_iload C dX9_number_66 rfl ?_
  refine aw_put (k := 0) C dX9_number_68 fp_X9_51 (by decide) rfl rfl rfl (Nat.le_of_ble_eq_true rfl) md_p_ends ?_
  refine aw_iload C dX9_number_71 rfl ?_
  refine aw_iload_n C dX9_number_73 (i := 1) rfl rfl ?_
  refine aw_icmp_le_n (tgt := 93) C dX9_number_74 (by decide) (by omega) (by omega) (fun h74 => ?_) (fun h74 => ?_)
  · refine aw_iconst C dX9_number_93 ki_0 ?_
    refine aw_zret C hr dX9_number_94 (by decide) ?_
    exact PI.mk (bi_f (by simp [Nat.not_lt.mpr h74])) rfl
  · refine aw_aload_n C dX9_number_77 (i := 0) rfl rfl ?_
    refine aw_get (k := 0) C dX9_number_78 fl_X9_44 (by decide) rfl rfl ?_
    refine aw_iload_n C dX9_number_81 (i := 2) rfl rfl ?_
    refine aw_iload_n C dX9_number_82 (i := 3) rfl rfl ?_
    refine aw_S3i C dX9_number_83 cs_X9_54 (cm_isIn hI) ⟨Nat.le_of_ble_eq_true rfl, Nat.le_of_ble_eq_true rfl⟩ (Nat.le_of_ble_eq_true rfl) ?_
    refine aw_if_eq_b (tgt := 93) C dX9_number_86 (by decide) (fun h86 => ?_) (fun h86 => ?_)
    · refine aw_iconst C dX9_number_93 ki_0 ?_
      refine aw_zret C hr dX9_number_94 (by decide) ?_
      exact PI.mk (bi_f (by simp [h74, h86])) rfl
    · refine aw_iconst C dX9_number_89 ki_1 ?_
      refine aw_goto (tgt := 94) C dX9_number_90 (by decide) ?_
      refine aw_zret C hr dX9_number_94 (by decide) ?_
      exact PI.mk (bi_t (by simp [h74, h86])) rfl
set_option maxRecDepth 20000 in
/-- number, from 8 on -/
theorem cm_number_3 {l : Launch} {D : va_G} {cy : Nat → ClassId} {z : Nat → Nat} {q : Nat → Nat} {p : Program} {e : Env} {s : State} {m : MethodId} {args : Array Value} {below : List Frame} {meth : Method} {c : Code} (hI : wI 9 q) (C : Cx p s m args meth c cX9_number 5 RX9 D cy z 9 q) (hr : meth.sig.returnType = (some .boolean)) {len span wires chg rsp rwi ends : Nat} {text : Nat → Nat} {h was rd eyes fw bars ways : Nat → Int32} {p0 : Nat} {lo hi : Int32} (hp : p0 ≤ 900) (hl : len ≤ 200) (hb : ∀ j, text j ≤ 1000) (a0 : 48 ≤ lt0 len text p0 ∧ lt0 len text p0 ≤ 57) (a1 : 48 ≤ lt0 len text (p0 + 1) ∧ lt0 len text (p0 + 1) ≤ 57) : AW p l e { frames := 1, cells := 0, slots := 0, locals := 22 } s m args below meth c D 9 q 5 (MQ below (Qg D 9 q (PI (bi (nmO (lt0 len text) p0 lo hi)) (mdC cy q len span wires chg rsp rwi (nmV (lt0 len text) p0) (nmE (lt0 len text) p0) text h was rd eyes fw bars ways)) (wA 9 q s.heap.size)) args s 0 0 (wA 9 q s.heap.size)) (mdC cy q len span wires chg rsp rwi (10 * (10 * 0 + lt0 len text p0 - 48) + lt0 len text (p0 + 1) - 48) ends text h was rd eyes fw bars ways) [(0, .ref (q 0)), (1, .int (nI p0)), (2, .int lo), (3, .int hi), (4, .int (nI (p0 + 1 + 1)))] 8 [] := by
  refine aw_aload_n C dX9_number_8 (i := 0) rfl rfl ?_
  refine aw_iload C dX9_number_9 rfl ?_
  refine aw_V1i (k := 0) C dX9_number_11 cv_X9_47 (by decide) rfl rfl rfl (cm_letterAt hI (by omega) hl) ⟨Nat.le_of_ble_eq_true rfl, Nat.le_of_ble_eq_true rfl⟩ (Nat.le_of_ble_eq_true rfl) ?_
  have hlb := lt0_b (len := len) (p := p0 + 1 + 1) hb
  refine aw_bipush C dX9_number_14 kb_48 ?_
  refine aw_icmp_lt_n (tgt := 65) C dX9_number_16 (by decide) (by omega) (by omega) (fun h16 => ?_) (fun h16 => ?_)
  · have d0 : dg (lt0 len text p0) = true := dg_t (by omega) (by omega)
    have d1 : dg (lt0 len text (p0 + 1)) = true := dg_t (by omega) (by omega)
    have e1 : nmE (lt0 len text) p0 = p0 + 1 + 1 := by unfold nmE; rw [if_pos d0, if_pos d1]
    have e2 : nmV (lt0 len text) p0 = 10 * (10 * 0 + lt0 len text p0 - 48) + lt0 len text (p0 + 1) - 48 := by unfold nmV; rw [if_pos d0, if_pos d1]; omega
    refine aw_post ?_ (cm_number_e hI C hr (by omega) (by omega))
    intro r g hp
    obtain ⟨rfl, rfl⟩ := hp
    exact PI.mk (by unfold nmO; rw [e1, e2]) (by rw [e1, e2])
  · refine aw_aload_n C dX9_number_19 (i := 0) rfl rfl ?_
    refine aw_iload C dX9_number_20 rfl ?_
    refine aw_V1i (k := 0) C dX9_number_22 cv_X9_47 (by decide) rfl rfl rfl (cm_letterAt hI (by omega) hl) ⟨Nat.le_of_ble_eq_true rfl, Nat.le_of_ble_eq_true rfl⟩ (Nat.le_of_ble_eq_true rfl) ?_
    refine aw_bipush C dX9_number_25 kb_57 ?_
    refine aw_icmp_gt_n (tgt := 65) C dX9_number_27 (by decide) (by omega) (by omega) (fun h27 => ?_) (fun h27 => ?_)
    · have d0 : dg (lt0 len text p0) = true := dg_t (by omega) (by omega)
      have d1 : dg (lt0 len text (p0 + 1)) = true := dg_t (by omega) (by omega)
      have e1 : nmE (lt0 len text) p0 = p0 + 1 + 1 := by unfold nmE; rw [if_pos d0, if_pos d1]
      have e2 : nmV (lt0 len text) p0 = 10 * (10 * 0 + lt0 len text p0 - 48) + lt0 len text (p0 + 1) - 48 := by unfold nmV; rw [if_pos d0, if_pos d1]; omega
      refine aw_post ?_ (cm_number_e hI C hr (by omega) (by omega))
      intro r g hp
      obtain ⟨rfl, rfl⟩ := hp
      exact PI.mk (by unfold nmO; rw [e1, e2]) (by rw [e1, e2])
    · refine aw_iload C dX9_number_30 rfl ?_
      refine aw_iload_n C dX9_number_32 (i := 1) rfl rfl ?_
      refine aw_iconst C dX9_number_33 ki_2 ?_
      refine aw_iadd_n C dX9_number_34 ?_
      refine aw_icmp_ge_n (tgt := 65) C dX9_number_35 (by decide) (by omega) (by omega) (fun h35 => ?_) (fun h35 => absurd h35 (by omega))
      have d0 : dg (lt0 len text p0) = true := dg_t (by omega) (by omega)
      have d1 : dg (lt0 len text (p0 + 1)) = true := dg_t (by omega) (by omega)
      have e1 : nmE (lt0 len text) p0 = p0 + 1 + 1 := by unfold nmE; rw [if_pos d0, if_pos d1]
      have e2 : nmV (lt0 len text) p0 = 10 * (10 * 0 + lt0 len text p0 - 48) + lt0 len text (p0 + 1) - 48 := by unfold nmV; rw [if_pos d0, if_pos d1]; omega
      refine aw_post ?_ (cm_number_e hI C hr (by omega) (by omega))
      intro r g hp
      obtain ⟨rfl, rfl⟩ := hp
      exact PI.mk (by unfold nmO; rw [e1, e2]) (by rw [e1, e2])
set_option maxRecDepth 20000 in
/-- number, from 8 on -/
theorem cm_number_2 {l : Launch} {D : va_G} {cy : Nat → ClassId} {z : Nat → Nat} {q : Nat → Nat} {p : Program} {e : Env} {s : State} {m : MethodId} {args : Array Value} {below : List Frame} {meth : Method} {c : Code} (hI : wI 9 q) (C : Cx p s m args meth c cX9_number 5 RX9 D cy z 9 q) (hr : meth.sig.returnType = (some .boolean)) {len span wires chg rsp rwi ends : Nat} {text : Nat → Nat} {h was rd eyes fw bars ways : Nat → Int32} {p0 : Nat} {lo hi : Int32} (hp : p0 ≤ 900) (hl : len ≤ 200) (hb : ∀ j, text j ≤ 1000) (a0 : 48 ≤ lt0 len text p0 ∧ lt0 len text p0 ≤ 57) : AW p l e { frames := 1, cells := 0, slots := 0, locals := 22 } s m args below meth c D 9 q 5 (MQ below (Qg D 9 q (PI (bi (nmO (lt0 len text) p0 lo hi)) (mdC cy q len span wires chg rsp rwi (nmV (lt0 len text) p0) (nmE (lt0 len text) p0) text h was rd eyes fw bars ways)) (wA 9 q s.heap.size)) args s 0 0 (wA 9 q s.heap.size)) (mdC cy q len span wires chg rsp rwi (10 * 0 + lt0 len text p0 - 48) ends text h was rd eyes fw bars ways) [(0, .ref (q 0)), (1, .int (nI p0)), (2, .int lo), (3, .int hi), (4, .int (nI (p0 + 1)))] 8 [] := by
  refine aw_aload_n C dX9_number_8 (i := 0) rfl rfl ?_
  refine aw_iload C dX9_number_9 rfl ?_
  refine aw_V1i (k := 0) C dX9_number_11 cv_X9_47 (by decide) rfl rfl rfl (cm_letterAt hI (by omega) hl) ⟨Nat.le_of_ble_eq_true rfl, Nat.le_of_ble_eq_true rfl⟩ (Nat.le_of_ble_eq_true rfl) ?_
  have hlb := lt0_b (len := len) (p := p0 + 1) hb
  refine aw_bipush C dX9_number_14 kb_48 ?_
  refine aw_icmp_lt_n (tgt := 65) C dX9_number_16 (by decide) (by omega) (by omega) (fun h16 => ?_) (fun h16 => ?_)
  · have d0 : dg (lt0 len text p0) = true := dg_t (by omega) (by omega)
    have d1 : dg (lt0 len text (p0 + 1)) = false := dg_f (by omega)
    have e1 : nmE (lt0 len text) p0 = p0 + 1 := by unfold nmE; rw [if_pos d0, if_neg (by rw [d1]; decide)]
    have e2 : nmV (lt0 len text) p0 = 10 * 0 + lt0 len text p0 - 48 := by unfold nmV; rw [if_pos d0, if_neg (by rw [d1]; decide)]; omega
    refine aw_post ?_ (cm_number_e hI C hr (by omega) (by omega))
    intro r g hp
    obtain ⟨rfl, rfl⟩ := hp
    exact PI.mk (by unfold nmO; rw [e1, e2]) (by rw [e1, e2])
  · refine aw_aload_n C dX9_number_19 (i := 0) rfl rfl ?_
    refine aw_iload C dX9_number_20 rfl ?_
    refine aw_V1i (k := 0) C dX9_number_22 cv_X9_47 (by decide) rfl rfl rfl (cm_letterAt hI (by omega) hl) ⟨Nat.le_of_ble_eq_true rfl, Nat.le_of_ble_eq_true rfl⟩ (Nat.le_of_ble_eq_true rfl) ?_
    refine aw_bipush C dX9_number_25 kb_57 ?_
    refine aw_icmp_gt_n (tgt := 65) C dX9_number_27 (by decide) (by omega) (by omega) (fun h27 => ?_) (fun h27 => ?_)
    · have d0 : dg (lt0 len text p0) = true := dg_t (by omega) (by omega)
      have d1 : dg (lt0 len text (p0 + 1)) = false := dg_f (by omega)
      have e1 : nmE (lt0 len text) p0 = p0 + 1 := by unfold nmE; rw [if_pos d0, if_neg (by rw [d1]; decide)]
      have e2 : nmV (lt0 len text) p0 = 10 * 0 + lt0 len text p0 - 48 := by unfold nmV; rw [if_pos d0, if_neg (by rw [d1]; decide)]; omega
      refine aw_post ?_ (cm_number_e hI C hr (by omega) (by omega))
      intro r g hp
      obtain ⟨rfl, rfl⟩ := hp
      exact PI.mk (by unfold nmO; rw [e1, e2]) (by rw [e1, e2])
    · refine aw_iload C dX9_number_30 rfl ?_
      refine aw_iload_n C dX9_number_32 (i := 1) rfl rfl ?_
      refine aw_iconst C dX9_number_33 ki_2 ?_
      refine aw_iadd_n C dX9_number_34 ?_
      refine aw_icmp_ge_n (tgt := 65) C dX9_number_35 (by decide) (by omega) (by omega) (fun h35 => absurd h35 (by omega)) (fun h35 => ?_)
      refine aw_aload_n C dX9_number_38 (i := 0) rfl rfl ?_
      refine aw_bipush C dX9_number_39 kb_10 ?_
      refine aw_aload_n C dX9_number_41 (i := 0) rfl rfl ?_
      refine aw_get (k := 0) C dX9_number_42 fl_X9_44 (by decide) rfl rfl ?_
      refine aw_imul_n C dX9_number_45 ?_
      refine aw_aload_n C dX9_number_46 (i := 0) rfl rfl ?_
      refine aw_iload C dX9_number_47 rfl ?_
      refine aw_V1i (k := 0) C dX9_number_49 cv_X9_47 (by decide) rfl rfl rfl (cm_letterAt hI (by omega) hl) ⟨Nat.le_of_ble_eq_true rfl, Nat.le_of_ble_eq_true rfl⟩ (Nat.le_of_ble_eq_true rfl) ?_
      refine aw_iadd_n C dX9_number_52 ?_
      refine aw_bipush C dX9_number_53 kb_48 ?_
      refine aw_isub_n C dX9_number_55 (by omega) ?_
      refine aw_put (k := 0) C dX9_number_56 fp_X9_44 (by decide) rfl rfl rfl (Nat.le_of_ble_eq_true rfl) md_p_val ?_
      refine aw_iinc_n (lv' := [(0, _), (1, _), (2, _), (3, _), (4, _)]) C dX9_number_59 rfl ki_1 (Nat.le_of_ble_eq_true rfl) rfl ?_
      refine aw_goto (tgt := 8) C dX9_number_62 (by decide) ?_
      exact cm_number_3 hI C hr hp hl hb a0 ⟨h16, h27⟩
set_option maxRecDepth 20000 in
/-- number, from 8 on -/
theorem cm_number_1 {l : Launch} {D : va_G} {cy : Nat → ClassId} {z : Nat → Nat} {q : Nat → Nat} {p : Program} {e : Env} {s : State} {m : MethodId} {args : Array Value} {below : List Frame} {meth : Method} {c : Code} (hI : wI 9 q) (C : Cx p s m args meth c cX9_number 5 RX9 D cy z 9 q) (hr : meth.sig.returnType = (some .boolean)) {len span wires chg rsp rwi ends : Nat} {text : Nat → Nat} {h was rd eyes fw bars ways : Nat → Int32} {p0 : Nat} {lo hi : Int32} (hp : p0 ≤ 900) (hl : len ≤ 200) (hb : ∀ j, text j ≤ 1000) : AW p l e { frames := 1, cells := 0, slots := 0, locals := 22 } s m args below meth c D 9 q 5 (MQ below (Qg D 9 q (PI (bi (nmO (lt0 len text) p0 lo hi)) (mdC cy q len span wires chg rsp rwi (nmV (lt0 len text) p0) (nmE (lt0 len text) p0) text h was rd eyes fw bars ways)) (wA 9 q s.heap.size)) args s 0 0 (wA 9 q s.heap.size)) (mdC cy q len span wires chg rsp rwi 0 ends text h was rd eyes fw bars ways) [(0, .ref (q 0)), (1, .int (nI p0)), (2, .int lo), (3, .int hi), (4, .int (nI p0))] 8 [] := by
  refine aw_aload_n C dX9_number_8 (i := 0) rfl rfl ?_
  refine aw_iload C dX9_number_9 rfl ?_
  refine aw_V1i (k := 0) C dX9_number_11 cv_X9_47 (by decide) rfl rfl rfl (cm_letterAt hI (by omega) hl) ⟨Nat.le_of_ble_eq_true rfl, Nat.le_of_ble_eq_true rfl⟩ (Nat.le_of_ble_eq_true rfl) ?_
  have hlb := lt0_b (len := len) (p := p0) hb
  refine aw_bipush C dX9_number_14 kb_48 ?_
  refine aw_icmp_lt_n (tgt := 65) C dX9_number_16 (by decide) (by omega) (by omega) (fun h16 => ?_) (fun h16 => ?_)
  · have d0 : dg (lt0 len text p0) = false := dg_f (by omega)
    have e1 : nmE (lt0 len text) p0 = p0 := by unfold nmE; rw [if_neg (by rw [d0]; decide)]
    have e2 : nmV (lt0 len text) p0 = 0 := by unfold nmV; rw [if_neg (by rw [d0]; decide)]
    refine aw_post ?_ (cm_number_e hI C hr (by omega) (by omega))
    intro r g hp
    obtain ⟨rfl, rfl⟩ := hp
    exact PI.mk (by unfold nmO; rw [e1, e2]) (by rw [e1, e2])
  · refine aw_aload_n C dX9_number_19 (i := 0) rfl rfl ?_
    refine aw_iload C dX9_number_20 rfl ?_
    refine aw_V1i (k := 0) C dX9_number_22 cv_X9_47 (by decide) rfl rfl rfl (cm_letterAt hI (by omega) hl) ⟨Nat.le_of_ble_eq_true rfl, Nat.le_of_ble_eq_true rfl⟩ (Nat.le_of_ble_eq_true rfl) ?_
    refine aw_bipush C dX9_number_25 kb_57 ?_
    refine aw_icmp_gt_n (tgt := 65) C dX9_number_27 (by decide) (by omega) (by omega) (fun h27 => ?_) (fun h27 => ?_)
    · have d0 : dg (lt0 len text p0) = false := dg_f (by omega)
      have e1 : nmE (lt0 len text) p0 = p0 := by unfold nmE; rw [if_neg (by rw [d0]; decide)]
      have e2 : nmV (lt0 len text) p0 = 0 := by unfold nmV; rw [if_neg (by rw [d0]; decide)]
      refine aw_post ?_ (cm_number_e hI C hr (by omega) (by omega))
      intro r g hp
      obtain ⟨rfl, rfl⟩ := hp
      exact PI.mk (by unfold nmO; rw [e1, e2]) (by rw [e1, e2])
    · refine aw_iload C dX9_number_30 rfl ?_
      refine aw_iload_n C dX9_number_32 (i := 1) rfl rfl ?_
      refine aw_iconst C dX9_number_33 ki_2 ?_
      refine aw_iadd_n C dX9_number_34 ?_
      refine aw_icmp_ge_n (tgt := 65) C dX9_number_35 (by decide) (by omega) (by omega) (fun h35 => absurd h35 (by omega)) (fun h35 => ?_)
      refine aw_aload_n C dX9_number_38 (i := 0) rfl rfl ?_
      refine aw_bipush C dX9_number_39 kb_10 ?_
      refine aw_aload_n C dX9_number_41 (i := 0) rfl rfl ?_
      refine aw_get (k := 0) C dX9_number_42 fl_X9_44 (by decide) rfl rfl ?_
      refine aw_imul_n C dX9_number_45 ?_
      refine aw_aload_n C dX9_number_46 (i := 0) rfl rfl ?_
      refine aw_iload C dX9_number_47 rfl ?_
      refine aw_V1i (k := 0) C dX9_number_49 cv_X9_47 (by decide) rfl rfl rfl (cm_letterAt hI (by omega) hl) ⟨Nat.le_of_ble_eq_true rfl, Nat.le_of_ble_eq_true rfl⟩ (Nat.le_of_ble_eq_true rfl) ?_
      refine aw_iadd_n C dX9_number_52 ?_
      refine aw_bipush C dX9_number_53 kb_48 ?_
      refine aw_isub_n C dX9_number_55 (by omega) ?_
      refine aw_put (k := 0) C dX9_number_56 fp_X9_44 (by decide) rfl rfl rfl (Nat.le_of_ble_eq_true rfl) md_p_val ?_
      refine aw_iinc_n (lv' := [(0, _), (1, _), (2, _), (3, _), (4, _)]) C dX9_number_59 rfl ki_1 (Nat.le_of_ble_eq_true rfl) rfl ?_
      refine aw_goto (tgt := 8) C dX9_number_62 (by decide) ?_
      exact cm_number_2 hI C hr hp hl hb ⟨h16, h27⟩
set_option maxRecDepth 20000 in
/-- number -/
theorem cm_number {l : Launch} {D : va_G} {cy : Nat → ClassId} {z : Nat → Nat} {q : Nat → Nat} (hI : wI 9 q) {len span wires chg rsp rwi val ends : Nat} {text : Nat → Nat} {h was rd eyes fw bars ways : Nat → Int32} {p0 : Nat} {lo hi : Int32} (hp : p0 ≤ 900) (hl : len ≤ 200) (hb : ∀ j, text j ≤ 1000) : Ct l yX9_number cX9_number 5 (some .boolean) 1 22 D cy z 9 q [.ref (q 0), .int (nI p0), .int lo, .int hi] (mdC cy q len span wires chg rsp rwi val ends text h was rd eyes fw bars ways) (PI (bi (nmO (lt0 len text) p0 lo hi)) (mdC cy q len span wires chg rsp rwi (nmV (lt0 len text) p0) (nmE (lt0 len text) p0) text h was rd eyes fw bars ways)) := by
  refine Ct.of (own := RX9) (by decide) rfl hI (Nat.le_of_ble_eq_true rfl) ?_
  intro p e s m args below meth c C hr
  refine aw_lv (lv' := [(0, .ref (q 0)), (1, .int (nI p0)), (2, .int lo), (3, .int hi)]) (fun x hx => hx) ?_
  refine aw_iload_n C dX9_number_0 (i := 1) rfl rfl ?_
  refine aw_istore (lv' := [(0, _), (1, _), (2, _), (3, _), (4, _)]) C dX9_number_1 (Nat.le_of_ble_eq_true rfl) rfl ?_
  refine aw_aload_n C dX9_number_3 (i := 0) rfl rfl ?_
  refine aw_iconst C dX9_number_4 ki_0 ?_
  refine aw_put (k := 0) C dX9_number_5 fp_X9_44 (by decide) rfl rfl rfl (Nat.le_of_ble_eq_true rfl) md_p_val ?_
  exact cm_number_1 hI C hr hp hl hb
set_option maxRecDepth 20000 in
/-- readsWire, its loop -/
theorem cm_readsWire_l {l : Launch} {D : va_G} {cy : Nat → ClassId} {z : Nat → Nat} {q : Nat → Nat} {p : Program} {e : Env} {s : State} {m : MethodId} {args : Array Value} {below : List Frame} {meth : Method} {c : Code} (hI : wI 9 q) (C : Cx p s m args meth c cX9_readsWire 3 RX9 D cy z 9 q) (hr : meth.sig.returnType = (some .boolean)) {len span wires chg rsp rwi : Nat} {text : Nat → Nat} {h was rd eyes fw bars ways : Nat → Int32} {e0 : Nat} (hp : e0 ≤ 400) (hl : len ≤ 200) (hb : ∀ j, text j ≤ 1000) (hrw : rwi ≤ 8) (h6 : rwi ≠ 8) : ∀ (d : Nat) (k : Nat) (val : Nat), 5 - k < d → (k ≤ 5) → (∀ j, j < k → wrK (lt0 len text) e0 j = true) → AW p l e { frames := 2, cells := 0, slots := 0, locals := 46 } s m args below meth c D 9 q 3 (MQ below (Qg D 9 q (PX (fun x g => (wrO (lt0 len text) rwi e0 = true ∧ x = bi true ∧ ∃ v, g = (mdC cy q len span wires chg rsp (rwi + 1) v (wrE (lt0 len text) e0 5) text h was (cpO (wrV (lt0 len text) e0) rd (5 * rwi) 5) eyes fw bars ways)) ∨ (wrO (lt0 len text) rwi e0 = false ∧ x = bi false ∧ ∃ v e9 r9, g = (mdC cy q len span wires chg rsp rwi v e9 text h was r9 eyes fw bars ways)))) (wA 9 q s.heap.size)) args s 0 0 (wA 9 q s.heap.size)) (mdC cy q len span wires chg rsp rwi val (wrE (lt0 len text) e0 k) text h was (cpO (wrV (lt0 len text) e0) rd (5 * rwi) k) eyes fw bars ways) [(0, .ref (q 0)), (1, .int (nI (e0 + 1))), (2, .int (nI k))] 20 [] := by
  intro d
  induction d with
  | zero => intro k val hd; exact absurd hd (Nat.not_lt_zero _)
  | succ d ih =>
    intro k val hd iv0 iv1
    refine aw_iload_n C dX9_readsWire_20 (i := 2) rfl rfl ?_
    refine aw_iconst C dX9_readsWire_21 ki_5 ?_
    refine aw_icmp_ge_n (tgt := 88) C dX9_readsWire_22 (by decide) (by omega) (by omega) (fun h22 => ?_) (fun h22 => ?_)
    · refine aw_aload_n C dX9_readsWire_88 (i := 0) rfl rfl ?_
      refine aw_dup C dX9_readsWire_89 rfl ?_
      refine aw_get (k := 0) C dX9_readsWire_90 fl_X9_58 (by decide) rfl rfl ?_
      refine aw_iconst C dX9_readsWire_93 ki_1 ?_
      refine aw_iadd_n C dX9_readsWire_94 ?_
      refine aw_put (k := 0) C dX9_readsWire_95 fp_X9_58 (by decide) rfl rfl rfl (Nat.le_of_ble_eq_true rfl) md_p_rwi ?_
      refine aw_iconst C dX9_readsWire_98 ki_1 ?_
      refine aw_zret C hr dX9_readsWire_99 (by decide) ?_
      have ha9 : wrO (lt0 len text) rwi e0 = true := by unfold wrO; rw [allB_t.mpr (fun j hj => iv1 j (by omega))]; simp [h6]
      obtain rfl : k = 5 := by omega
      exact ⟨_, rfl, Or.inl ⟨ha9, rfl, _, rfl⟩⟩
    · have hwe := wrE_le (lt0 len text) e0 k
      have hlb := lt0_b (len := len) (p := wrE (lt0 len text) e0 k) hb
      refine aw_iload_n C dX9_readsWire_25 (i := 2) rfl rfl ?_
      refine aw_if_le_n (tgt := 42) C dX9_readsWire_26 (by decide) (by omega) (fun h26 => ?_) (fun h26 => ?_)
      · refine aw_aload_n C dX9_readsWire_42 (i := 0) rfl rfl ?_
        refine aw_aload_n C dX9_readsWire_43 (i := 0) rfl rfl ?_
        refine aw_get (k := 0) C dX9_readsWire_44 fl_X9_51 (by decide) rfl rfl ?_
        refine aw_iconst C dX9_readsWire_47 ki_1 ?_
        refine aw_iadd_n C dX9_readsWire_48 ?_
        refine aw_iload_n C dX9_readsWire_49 (i := 2) rfl rfl ?_
        refine aw_S1i C dX9_readsWire_50 cs_X9_61 (cm_lowest hI) ⟨Nat.le_of_ble_eq_true rfl, Nat.le_of_ble_eq_true rfl⟩ (Nat.le_of_ble_eq_true rfl) ?_
        refine aw_iload_n C dX9_readsWire_53 (i := 2) rfl rfl ?_
        refine aw_S1i C dX9_readsWire_54 cs_X9_64 (cm_highest hI) ⟨Nat.le_of_ble_eq_true rfl, Nat.le_of_ble_eq_true rfl⟩ (Nat.le_of_ble_eq_true rfl) ?_
        refine aw_V3i (k := 0) C dX9_readsWire_57 cv_X9_67 (by decide) rfl rfl rfl (cm_number hI (by omega) hl hb) ⟨Nat.le_of_ble_eq_true rfl, Nat.le_of_ble_eq_true rfl⟩ (Nat.le_of_ble_eq_true rfl) ?_
        refine aw_if_ne_b (tgt := 65) C dX9_readsWire_60 (by decide) (fun h60 => ?_) (fun h60 => ?_)
        · refine aw_aload_n C dX9_readsWire_65 (i := 0) rfl rfl ?_
          refine aw_get (k := 0) C dX9_readsWire_66 fl_X9_19 (by decide) rfl rfl ?_
          refine aw_iconst C dX9_readsWire_69 ki_5 ?_
          refine aw_aload_n C dX9_readsWire_70 (i := 0) rfl rfl ?_
          refine aw_get (k := 0) C dX9_readsWire_71 fl_X9_58 (by decide) rfl rfl ?_
          refine aw_imul_n C dX9_readsWire_74 ?_
          refine aw_iload_n C dX9_readsWire_75 (i := 2) rfl rfl ?_
          refine aw_iadd_n C dX9_readsWire_76 ?_
          refine aw_aload_n C dX9_readsWire_77 (i := 0) rfl rfl ?_
          refine aw_get (k := 0) C dX9_readsWire_78 fl_X9_44 (by decide) rfl rfl ?_
          refine aw_iast (k := 4) C dX9_readsWire_81 (by decide) (rfl) (rfl) (by omega) (by decide) (md_a_rd) ?_
          refine aw_iinc_n (lv' := [(0, _), (1, _), (2, _)]) C dX9_readsWire_82 rfl ki_1 (Nat.le_of_ble_eq_true rfl) rfl ?_
          refine aw_goto (tgt := 20) C dX9_readsWire_85 (by decide) ?_
          have hk9 : wrK (lt0 len text) e0 k = true := by unfold wrK; rw [h60]; simp [h26]
          rw [show nI (nmV (lt0 len text) (wrE (lt0 len text) e0 k + 1)) = wrV (lt0 len text) e0 k from rfl, cpO_s]
          exact ih (k + 1) _ (by omega) (by omega) (fun j hj => by rcases Nat.lt_or_ge j k with g | g; exact iv1 j g; rw [show j = k by omega]; exact hk9)
        · refine aw_iconst C dX9_readsWire_63 ki_0 ?_
          refine aw_zret C hr dX9_readsWire_64 (by decide) ?_
          have hk9 : wrK (lt0 len text) e0 k = false := by unfold wrK; rw [h60]; exact Bool.and_false _
          have ha9 : wrO (lt0 len text) rwi e0 = false := by unfold wrO; rw [allB_f (k := k + 1) (by unfold allB; rw [hk9]; exact Bool.and_false _) (by omega)]; exact Bool.and_false _
          exact ⟨_, rfl, Or.inr ⟨ha9, rfl, _, _, _, rfl⟩⟩
      · refine aw_aload_n C dX9_readsWire_29 (i := 0) rfl rfl ?_
        refine aw_aload_n C dX9_readsWire_30 (i := 0) rfl rfl ?_
        refine aw_get (k := 0) C dX9_readsWire_31 fl_X9_51 (by decide) rfl rfl ?_
        refine aw_V1i (k := 0) C dX9_readsWire_34 cv_X9_47 (by decide) rfl rfl rfl (cm_letterAt hI (by omega) hl) ⟨Nat.le_of_ble_eq_true rfl, Nat.le_of_ble_eq_true rfl⟩ (Nat.le_of_ble_eq_true rfl) ?_
        refine aw_bipush C dX9_readsWire_37 kb_44 ?_
        refine aw_icmp_ne_n (tgt := 63) C dX9_readsWire_39 (by decide) (by omega) (by omega) (fun h39 => ?_) (fun h39 => ?_)
        · refine aw_iconst C dX9_readsWire_63 ki_0 ?_
          refine aw_zret C hr dX9_readsWire_64 (by decide) ?_
          have hk9 : wrK (lt0 len text) e0 k = false := by unfold wrK; simp [Nat.ne_of_gt h26, h39]
          have ha9 : wrO (lt0 len text) rwi e0 = false := by unfold wrO; rw [allB_f (k := k + 1) (by unfold allB; rw [hk9]; exact Bool.and_false _) (by omega)]; exact Bool.and_false _
          exact ⟨_, rfl, Or.inr ⟨ha9, rfl, _, _, _, rfl⟩⟩
        · refine aw_aload_n C dX9_readsWire_42 (i := 0) rfl rfl ?_
          refine aw_aload_n C dX9_readsWire_43 (i := 0) rfl rfl ?_
          refine aw_get (k := 0) C dX9_readsWire_44 fl_X9_51 (by decide) rfl rfl ?_
          refine aw_iconst C dX9_readsWire_47 ki_1 ?_
          refine aw_iadd_n C dX9_readsWire_48 ?_
          refine aw_iload_n C dX9_readsWire_49 (i := 2) rfl rfl ?_
          refine aw_S1i C dX9_readsWire_50 cs_X9_61 (cm_lowest hI) ⟨Nat.le_of_ble_eq_true rfl, Nat.le_of_ble_eq_true rfl⟩ (Nat.le_of_ble_eq_true rfl) ?_
          refine aw_iload_n C dX9_readsWire_53 (i := 2) rfl rfl ?_
          refine aw_S1i C dX9_readsWire_54 cs_X9_64 (cm_highest hI) ⟨Nat.le_of_ble_eq_true rfl, Nat.le_of_ble_eq_true rfl⟩ (Nat.le_of_ble_eq_true rfl) ?_
          refine aw_V3i (k := 0) C dX9_readsWire_57 cv_X9_67 (by decide) rfl rfl rfl (cm_number hI (by omega) hl hb) ⟨Nat.le_of_ble_eq_true rfl, Nat.le_of_ble_eq_true rfl⟩ (Nat.le_of_ble_eq_true rfl) ?_
          refine aw_if_ne_b (tgt := 65) C dX9_readsWire_60 (by decide) (fun h60 => ?_) (fun h60 => ?_)
          · refine aw_aload_n C dX9_readsWire_65 (i := 0) rfl rfl ?_
            refine aw_get (k := 0) C dX9_readsWire_66 fl_X9_19 (by decide) rfl rfl ?_
            refine aw_iconst C dX9_readsWire_69 ki_5 ?_
            refine aw_aload_n C dX9_readsWire_70 (i := 0) rfl rfl ?_
            refine aw_get (k := 0) C dX9_readsWire_71 fl_X9_58 (by decide) rfl rfl ?_
            refine aw_imul_n C dX9_readsWire_74 ?_
            refine aw_iload_n C dX9_readsWire_75 (i := 2) rfl rfl ?_
            refine aw_iadd_n C dX9_readsWire_76 ?_
            refine aw_aload_n C dX9_readsWire_77 (i := 0) rfl rfl ?_
            refine aw_get (k := 0) C dX9_readsWire_78 fl_X9_44 (by decide) rfl rfl ?_
            refine aw_iast (k := 4) C dX9_readsWire_81 (by decide) (rfl) (rfl) (by omega) (by decide) (md_a_rd) ?_
            refine aw_iinc_n (lv' := [(0, _), (1, _), (2, _)]) C dX9_readsWire_82 rfl ki_1 (Nat.le_of_ble_eq_true rfl) rfl ?_
            refine aw_goto (tgt := 20) C dX9_readsWire_85 (by decide) ?_
            have hk9 : wrK (lt0 len text) e0 k = true := by unfold wrK; rw [h60]; simp [Nat.ne_of_gt h26, h39]
            rw [show nI (nmV (lt0 len text) (wrE (lt0 len text) e0 k + 1)) = wrV (lt0 len text) e0 k from rfl, cpO_s]
            exact ih (k + 1) _ (by omega) (by omega) (fun j hj => by rcases Nat.lt_or_ge j k with g | g; exact iv1 j g; rw [show j = k by omega]; exact hk9)
          · refine aw_iconst C dX9_readsWire_63 ki_0 ?_
            refine aw_zret C hr dX9_readsWire_64 (by decide) ?_
            have hk9 : wrK (lt0 len text) e0 k = false := by unfold wrK; rw [h60]; exact Bool.and_false _
            have ha9 : wrO (lt0 len text) rwi e0 = false := by unfold wrO; rw [allB_f (k := k + 1) (by unfold allB; rw [hk9]; exact Bool.and_false _) (by omega)]; exact Bool.and_false _
            exact ⟨_, rfl, Or.inr ⟨ha9, rfl, _, _, _, rfl⟩⟩
set_option maxRecDepth 20000 in
/-- readsWire -/
theorem cm_readsWire {l : Launch} {D : va_G} {cy : Nat → ClassId} {z : Nat → Nat} {q : Nat → Nat} (hI : wI 9 q) {len span wires chg rsp rwi val ends : Nat} {text : Nat → Nat} {h was rd eyes fw bars ways : Nat → Int32} {e0 : Nat} (hp : e0 ≤ 400) (hl : len ≤ 200) (hb : ∀ j, text j ≤ 1000) (hrw : rwi ≤ 8) : Ct l yX9_readsWire cX9_readsWire 3 (some .boolean) 2 46 D cy z 9 q [.ref (q 0), .int (nI (e0 + 1))] (mdC cy q len span wires chg rsp rwi val ends text h was rd eyes fw bars ways) (PX (fun x g => (wrO (lt0 len text) rwi e0 = true ∧ x = bi true ∧ ∃ v, g = (mdC cy q len span wires chg rsp (rwi + 1) v (wrE (lt0 len text) e0 5) text h was (cpO (wrV (lt0 len text) e0) rd (5 * rwi) 5) eyes fw bars ways)) ∨ (wrO (lt0 len text) rwi e0 = false ∧ x = bi false ∧ ∃ v e9 r9, g = (mdC cy q len span wires chg rsp rwi v e9 text h was r9 eyes fw bars ways)))) := by
  refine Ct.of (own := RX9) (by decide) rfl hI (Nat.le_of_ble_eq_true rfl) ?_
  intro p e s m args below meth c C hr
  refine aw_lv (lv' := [(0, .ref (q 0)), (1, .int (nI (e0 + 1)))]) (fun x hx => hx) ?_
  refine aw_aload_n C dX9_readsWire_0 (i := 0) rfl rfl ?_
  refine aw_get (k := 0) C dX9_readsWire_1 fl_X9_58 (by decide) rfl rfl ?_
  refine aw_bipush C dX9_readsWire_4 kb_8 ?_
  refine aw_icmp_ne_n (tgt := 11) C dX9_readsWire_6 (by decide) (by omega) (by omega) (fun h6 => ?_) (fun h6 => ?_)
  · refine aw_aload_n C dX9_readsWire_11 (i := 0) rfl rfl ?_
    refine aw_iload_n C dX9_readsWire_12 (i := 1) rfl rfl ?_
    refine aw_iconst C dX9_readsWire_13 ki_1 ?_
    refine aw_isub_n C dX9_readsWire_14 (by omega) ?_
    refine aw_put (k := 0) C dX9_readsWire_15 fp_X9_51 (by decide) rfl rfl rfl (Nat.le_of_ble_eq_true rfl) md_p_ends ?_
    refine aw_iconst C dX9_readsWire_18 ki_0 ?_
    refine aw_istore_n (lv' := [(0, _), (1, _), (2, _)]) C dX9_readsWire_19 (i := 2) rfl (Nat.le_of_ble_eq_true rfl) rfl ?_
    refine aw_fq (f' := (mdC cy q len span wires chg rsp rwi val (wrE (lt0 len text) e0 0) text h was (cpO (wrV (lt0 len text) e0) rd (5 * rwi) 0) eyes fw bars ways)) (by rw [cpO_0]; rfl) ?_
    exact cm_readsWire_l hI C hr hp hl hb hrw h6 6 0 _ (by omega) (by omega) (fun j hj => absurd hj (Nat.not_lt_zero j))
  · refine aw_iconst C dX9_readsWire_9 ki_0 ?_
    refine aw_zret C hr dX9_readsWire_10 (by decide) ?_
    exact ⟨_, rfl, Or.inr ⟨by unfold wrO; simp [h6], rfl, _, _, _, rfl⟩⟩
