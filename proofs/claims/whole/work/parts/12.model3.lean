-- the reference: pairs, counts, orders
set_option maxRecDepth 20000 in
/-- pairsThat, its loop -/
theorem cm_pairs6_i {l : Launch} {D : va_G} {cy : Nat → ClassId} {z : Nat → Nat} {q : Nat → Nat} {p : Program} {e : Env} {s : State} {m : MethodId} {args : Array Value} {below : List Frame} {meth : Method} {c : Code} {Q : State → Prop} (hI : wI 9 q) (C : Cx p s m args meth c cX9_pairsThat 6 RX9 D cy z 9 q) (hr : meth.sig.returnType = (some .int)) {len span wires chg rsp rwi val ends : Nat} {text : Nat → Nat} {h was rd eyes fw bars ways : Nat → Int32} (hs : 8 ≤ span) (hs2 : span ≤ 40) (hw : wires ≤ 8) {i a : Nat} (hi : i < wires) (K : AW p l e { frames := 3, cells := 0, slots := 0, locals := 75 } s m args below meth c D 9 q 6 Q (mdC cy q len span wires chg rsp rwi val ends text h was rd eyes fw bars ways) [(0, .ref (q 0)), (1, .int (nI 6)), (2, .int (nI (a + cntB ((pr6 h span) i) wires))), (3, .int (nI i)), (4, .int (nI wires))] 111 []) : ∀ (d : Nat) (k : Nat), wires - k < d → (k ≤ wires) → AW p l e { frames := 3, cells := 0, slots := 0, locals := 75 } s m args below meth c D 9 q 6 Q (mdC cy q len span wires chg rsp rwi val ends text h was rd eyes fw bars ways) [(0, .ref (q 0)), (1, .int (nI 6)), (2, .int (nI (a + cntB ((pr6 h span) i) k))), (3, .int (nI i)), (4, .int (nI (k)))] 15 [] := by
  intro d
  induction d with
  | zero => intro k hd; exact absurd hd (Nat.not_lt_zero _)
  | succ d ih =>
    intro k hd iv0
    refine aw_iload C dX9_pairsThat_15 rfl ?_
    refine aw_aload_n C dX9_pairsThat_17 (i := 0) rfl rfl ?_
    refine aw_get (k := 0) C dX9_pairsThat_18 fl_X9_38 (by decide) rfl rfl ?_
    refine aw_icmp_ge_n (tgt := 111) C dX9_pairsThat_21 (by decide) (by omega) (by omega) (fun h21 => ?_) (fun h21 => ?_)
    · obtain rfl : k = wires := by omega
      exact K
    · have hcb := cntB_le ((pr6 h span) i) k
      have hnc : nrC h span i k ≤ span + 1 := cntB_le _ _
      refine aw_iload_n C dX9_pairsThat_24 (i := 3) rfl rfl ?_
      refine aw_iload C dX9_pairsThat_25 rfl ?_
      refine aw_icmp_eq_n (tgt := 105) C dX9_pairsThat_27 (by decide) (by omega) (by omega) (fun h27 => ?_) (fun h27 => ?_)
      · refine aw_iinc_n (lv' := [(0, _), (1, _), (2, _), (3, _), (4, _)]) C dX9_pairsThat_105 rfl ki_1 (Nat.le_of_ble_eq_true rfl) rfl ?_
        refine aw_goto (tgt := 15) C dX9_pairsThat_108 (by decide) ?_
        have e9 := cntB_n (n := k) (p := pr6 h span i) (by unfold pr6; simp [h27])
        have k9 := ih (k + 1) (by omega) (by omega)
        rw [e9] at k9
        exact k9
      · refine aw_iload_n C dX9_pairsThat_30 (i := 1) rfl rfl ?_
        refine aw_bipush C dX9_pairsThat_31 kb_8 ?_
        refine aw_icmp_eq_n (tgt := 42) C dX9_pairsThat_33 (by decide) (by omega) (by omega) (fun h33 => absurd h33 (by decide)) (fun h33 => ?_)
        refine aw_iload_n C dX9_pairsThat_36 (i := 3) rfl rfl ?_
        refine aw_iload C dX9_pairsThat_37 rfl ?_
        refine aw_icmp_ge_n (tgt := 105) C dX9_pairsThat_39 (by decide) (by omega) (by omega) (fun h39 => ?_) (fun h39 => ?_)
        · refine aw_iinc_n (lv' := [(0, _), (1, _), (2, _), (3, _), (4, _)]) C dX9_pairsThat_105 rfl ki_1 (Nat.le_of_ble_eq_true rfl) rfl ?_
          refine aw_goto (tgt := 15) C dX9_pairsThat_108 (by decide) ?_
          have e9 := cntB_n (n := k) (p := pr6 h span i) (by unfold pr6; simp [Nat.not_lt.mpr h39])
          have k9 := ih (k + 1) (by omega) (by omega)
          rw [e9] at k9
          exact k9
        · refine aw_iload_n C dX9_pairsThat_42 (i := 1) rfl rfl ?_
          refine aw_bipush C dX9_pairsThat_43 kb_6 ?_
          refine aw_icmp_ne_n (tgt := 67) C dX9_pairsThat_45 (by decide) (by omega) (by omega) (fun h45 => absurd rfl h45) (fun h45 => ?_)
          refine aw_aload_n C dX9_pairsThat_48 (i := 0) rfl rfl ?_
          refine aw_iload_n C dX9_pairsThat_49 (i := 3) rfl rfl ?_
          refine aw_iload C dX9_pairsThat_50 rfl ?_
          refine aw_iconst C dX9_pairsThat_52 ki_0 ?_
          refine aw_V3i (k := 0) C dX9_pairsThat_53 cv_X9_123 (by decide) rfl rfl rfl (cm_nearC hI (by omega) (by omega) hs hs2) ⟨Nat.le_of_ble_eq_true rfl, Nat.le_of_ble_eq_true rfl⟩ (Nat.le_of_ble_eq_true rfl) ?_
          refine aw_if_le_n (tgt := 63) C dX9_pairsThat_56 (by decide) (by omega) (fun h56 => ?_) (fun h56 => ?_)
          · refine aw_iconst C dX9_pairsThat_63 ki_0 ?_
            refine aw_goto (tgt := 90) C dX9_pairsThat_64 (by decide) ?_
            refine aw_istore (lv' := [(0, _), (1, _), (2, _), (3, _), (4, _), (5, _)]) C dX9_pairsThat_90 (Nat.le_of_ble_eq_true rfl) rfl ?_
            refine aw_iload_n C dX9_pairsThat_92 (i := 2) rfl rfl ?_
            refine aw_iload C dX9_pairsThat_93 rfl ?_
            refine aw_if_eq_n (tgt := 102) C dX9_pairsThat_95 (by decide) (by omega) (fun h95 => ?_) (fun h95 => absurd h95 (by decide))
            refine aw_iconst C dX9_pairsThat_102 ki_0 ?_
            refine aw_iadd_n C dX9_pairsThat_103 ?_
            refine aw_istore_n (lv' := [(0, _), (1, _), (2, _), (3, _), (4, _), (5, _)]) C dX9_pairsThat_104 (i := 2) rfl (Nat.le_of_ble_eq_true rfl) rfl ?_
            refine aw_iinc_n (lv' := [(0, _), (1, _), (2, _), (3, _), (4, _), (5, _)]) C dX9_pairsThat_105 rfl ki_1 (Nat.le_of_ble_eq_true rfl) rfl ?_
            refine aw_goto (tgt := 15) C dX9_pairsThat_108 (by decide) ?_
            refine aw_take 5 (lv' := [(0, _), (1, _), (2, _), (3, _), (4, _)]) rfl ?_
            have e9 := cntB_n (n := k) (p := pr6 h span i) (by unfold pr6; simp [h39, h56])
            have k9 := ih (k + 1) (by omega) (by omega)
            rw [e9] at k9
            exact k9
          · refine aw_iconst C dX9_pairsThat_59 ki_1 ?_
            refine aw_goto (tgt := 90) C dX9_pairsThat_60 (by decide) ?_
            refine aw_istore (lv' := [(0, _), (1, _), (2, _), (3, _), (4, _), (5, _)]) C dX9_pairsThat_90 (Nat.le_of_ble_eq_true rfl) rfl ?_
            refine aw_iload_n C dX9_pairsThat_92 (i := 2) rfl rfl ?_
            refine aw_iload C dX9_pairsThat_93 rfl ?_
            refine aw_if_eq_n (tgt := 102) C dX9_pairsThat_95 (by decide) (by omega) (fun h95 => absurd h95 (by decide)) (fun h95 => ?_)
            refine aw_iconst C dX9_pairsThat_98 ki_1 ?_
            refine aw_goto (tgt := 103) C dX9_pairsThat_99 (by decide) ?_
            refine aw_iadd_n C dX9_pairsThat_103 ?_
            refine aw_istore_n (lv' := [(0, _), (1, _), (2, _), (3, _), (4, _), (5, _)]) C dX9_pairsThat_104 (i := 2) rfl (Nat.le_of_ble_eq_true rfl) rfl ?_
            refine aw_iinc_n (lv' := [(0, _), (1, _), (2, _), (3, _), (4, _), (5, _)]) C dX9_pairsThat_105 rfl ki_1 (Nat.le_of_ble_eq_true rfl) rfl ?_
            refine aw_goto (tgt := 15) C dX9_pairsThat_108 (by decide) ?_
            refine aw_take 5 (lv' := [(0, _), (1, _), (2, _), (3, _), (4, _)]) rfl ?_
            have e9 := cntB_t (n := k) (p := pr6 h span i) (by unfold pr6; simp [h39, h56])
            have k9 := ih (k + 1) (by omega) (by omega)
            rw [e9] at k9
            exact k9
set_option maxRecDepth 20000 in
/-- pairsThat, its loop -/
theorem cm_pairs6_o {l : Launch} {D : va_G} {cy : Nat → ClassId} {z : Nat → Nat} {q : Nat → Nat} {p : Program} {e : Env} {s : State} {m : MethodId} {args : Array Value} {below : List Frame} {meth : Method} {c : Code} (hI : wI 9 q) (C : Cx p s m args meth c cX9_pairsThat 6 RX9 D cy z 9 q) (hr : meth.sig.returnType = (some .int)) {len span wires chg rsp rwi val ends : Nat} {text : Nat → Nat} {h was rd eyes fw bars ways : Nat → Int32} (hs : 8 ≤ span) (hs2 : span ≤ 40) (hw : wires ≤ 8) : ∀ (d : Nat) (i : Nat), wires - i < d → (i ≤ wires) → AW p l e { frames := 3, cells := 0, slots := 0, locals := 75 } s m args below meth c D 9 q 6 (MQ below (Qg D 9 q (PI (nI (prS (pr6 h span) wires wires)) (mdC cy q len span wires chg rsp rwi val ends text h was rd eyes fw bars ways)) (wA 9 q s.heap.size)) args s 0 0 (wA 9 q s.heap.size)) (mdC cy q len span wires chg rsp rwi val ends text h was rd eyes fw bars ways) [(0, .ref (q 0)), (1, .int (nI 6)), (2, .int (nI (prS (pr6 h span) wires i))), (3, .int (nI i))] 4 [] := by
  intro d
  induction d with
  | zero => intro i hd; exact absurd hd (Nat.not_lt_zero _)
  | succ d ih =>
    intro i hd iv0
    refine aw_iload_n C dX9_pairsThat_4 (i := 3) rfl rfl ?_
    refine aw_aload_n C dX9_pairsThat_5 (i := 0) rfl rfl ?_
    refine aw_get (k := 0) C dX9_pairsThat_6 fl_X9_38 (by decide) rfl rfl ?_
    refine aw_icmp_ge_n (tgt := 117) C dX9_pairsThat_9 (by decide) (by omega) (by omega) (fun h9 => ?_) (fun h9 => ?_)
    · refine aw_iload_n C dX9_pairsThat_117 (i := 2) rfl rfl ?_
      refine aw_iret C hr dX9_pairsThat_118 ?_
      exact PI.mk (by rw [show i = wires by omega]) rfl
    · refine aw_iconst C dX9_pairsThat_12 ki_0 ?_
      refine aw_istore (lv' := [(0, _), (1, _), (2, _), (3, _), (4, _)]) C dX9_pairsThat_13 (Nat.le_of_ble_eq_true rfl) rfl ?_
      refine cm_pairs6_i hI C hr hs hs2 hw (by omega) ?_ (wires + 1) 0 (by omega) (by omega)
      refine aw_iinc_n (lv' := [(0, _), (1, _), (2, _), (3, _), (4, _)]) C dX9_pairsThat_111 rfl ki_1 (Nat.le_of_ble_eq_true rfl) rfl ?_
      refine aw_goto (tgt := 4) C dX9_pairsThat_114 (by decide) ?_
      refine aw_take 4 (lv' := [(0, _), (1, _), (2, _), (3, _)]) rfl ?_
      exact ih (i + 1) (by omega) (by omega)
set_option maxRecDepth 20000 in
/-- pairsThat -/
theorem cm_pairs6 {l : Launch} {D : va_G} {cy : Nat → ClassId} {z : Nat → Nat} {q : Nat → Nat} (hI : wI 9 q) {len span wires chg rsp rwi val ends : Nat} {text : Nat → Nat} {h was rd eyes fw bars ways : Nat → Int32} (hs : 8 ≤ span) (hs2 : span ≤ 40) (hw : wires ≤ 8) : Ct l yX9_pairsThat cX9_pairsThat 6 (some .int) 3 75 D cy z 9 q [.ref (q 0), .int (nI 6)] (mdC cy q len span wires chg rsp rwi val ends text h was rd eyes fw bars ways) (PI (nI (prS (pr6 h span) wires wires)) (mdC cy q len span wires chg rsp rwi val ends text h was rd eyes fw bars ways)) := by
  refine Ct.of (own := RX9) (by decide) rfl hI (Nat.le_of_ble_eq_true rfl) ?_
  intro p e s m args below meth c C hr
  refine aw_lv (lv' := [(0, .ref (q 0)), (1, .int (nI 6))]) (fun x hx => hx) ?_
  refine aw_iconst C dX9_pairsThat_0 ki_0 ?_
  refine aw_istore_n (lv' := [(0, _), (1, _), (2, _)]) C dX9_pairsThat_1 (i := 2) rfl (Nat.le_of_ble_eq_true rfl) rfl ?_
  refine aw_iconst C dX9_pairsThat_2 ki_0 ?_
  refine aw_istore_n (lv' := [(0, _), (1, _), (2, _), (3, _)]) C dX9_pairsThat_3 (i := 3) rfl (Nat.le_of_ble_eq_true rfl) rfl ?_
  exact cm_pairs6_o hI C hr hs hs2 hw (wires + 1) 0 (by omega) (by omega)
set_option maxRecDepth 20000 in
/-- pairsThat, its loop -/
theorem cm_pairs7_i {l : Launch} {D : va_G} {cy : Nat → ClassId} {z : Nat → Nat} {q : Nat → Nat} {p : Program} {e : Env} {s : State} {m : MethodId} {args : Array Value} {below : List Frame} {meth : Method} {c : Code} {Q : State → Prop} (hI : wI 9 q) (C : Cx p s m args meth c cX9_pairsThat 6 RX9 D cy z 9 q) (hr : meth.sig.returnType = (some .int)) {len span wires chg rsp rwi val ends : Nat} {text : Nat → Nat} {h was rd eyes fw bars ways : Nat → Int32} (hs : 8 ≤ span) (hs2 : span ≤ 40) (hw : wires ≤ 8) {i a : Nat} (hi : i < wires) (K : AW p l e { frames := 3, cells := 0, slots := 0, locals := 75 } s m args below meth c D 9 q 6 Q (mdC cy q len span wires chg rsp rwi val ends text h was rd eyes fw bars ways) [(0, .ref (q 0)), (1, .int (nI 7)), (2, .int (nI (a + cntB ((pr7 h span) i) wires))), (3, .int (nI i)), (4, .int (nI wires))] 111 []) : ∀ (d : Nat) (k : Nat), wires - k < d → (k ≤ wires) → AW p l e { frames := 3, cells := 0, slots := 0, locals := 75 } s m args below meth c D 9 q 6 Q (mdC cy q len span wires chg rsp rwi val ends text h was rd eyes fw bars ways) [(0, .ref (q 0)), (1, .int (nI 7)), (2, .int (nI (a + cntB ((pr7 h span) i) k))), (3, .int (nI i)), (4, .int (nI (k)))] 15 [] := by
  intro d
  induction d with
  | zero => intro k hd; exact absurd hd (Nat.not_lt_zero _)
  | succ d ih =>
    intro k hd iv0
    refine aw_iload C dX9_pairsThat_15 rfl ?_
    refine aw_aload_n C dX9_pairsThat_17 (i := 0) rfl rfl ?_
    refine aw_get (k := 0) C dX9_pairsThat_18 fl_X9_38 (by decide) rfl rfl ?_
    refine aw_icmp_ge_n (tgt := 111) C dX9_pairsThat_21 (by decide) (by omega) (by omega) (fun h21 => ?_) (fun h21 => ?_)
    · obtain rfl : k = wires := by omega
      exact K
    · have hcb := cntB_le ((pr7 h span) i) k
      have hnc : nrC h span i k ≤ span + 1 := cntB_le _ _
      refine aw_iload_n C dX9_pairsThat_24 (i := 3) rfl rfl ?_
      refine aw_iload C dX9_pairsThat_25 rfl ?_
      refine aw_icmp_eq_n (tgt := 105) C dX9_pairsThat_27 (by decide) (by omega) (by omega) (fun h27 => ?_) (fun h27 => ?_)
      · refine aw_iinc_n (lv' := [(0, _), (1, _), (2, _), (3, _), (4, _)]) C dX9_pairsThat_105 rfl ki_1 (Nat.le_of_ble_eq_true rfl) rfl ?_
        refine aw_goto (tgt := 15) C dX9_pairsThat_108 (by decide) ?_
        have e9 := cntB_n (n := k) (p := pr7 h span i) (by unfold pr7; simp [h27])
        have k9 := ih (k + 1) (by omega) (by omega)
        rw [e9] at k9
        exact k9
      · refine aw_iload_n C dX9_pairsThat_30 (i := 1) rfl rfl ?_
        refine aw_bipush C dX9_pairsThat_31 kb_8 ?_
        refine aw_icmp_eq_n (tgt := 42) C dX9_pairsThat_33 (by decide) (by omega) (by omega) (fun h33 => absurd h33 (by decide)) (fun h33 => ?_)
        refine aw_iload_n C dX9_pairsThat_36 (i := 3) rfl rfl ?_
        refine aw_iload C dX9_pairsThat_37 rfl ?_
        refine aw_icmp_ge_n (tgt := 105) C dX9_pairsThat_39 (by decide) (by omega) (by omega) (fun h39 => ?_) (fun h39 => ?_)
        · refine aw_iinc_n (lv' := [(0, _), (1, _), (2, _), (3, _), (4, _)]) C dX9_pairsThat_105 rfl ki_1 (Nat.le_of_ble_eq_true rfl) rfl ?_
          refine aw_goto (tgt := 15) C dX9_pairsThat_108 (by decide) ?_
          have e9 := cntB_n (n := k) (p := pr7 h span i) (by unfold pr7; simp [Nat.not_lt.mpr h39])
          have k9 := ih (k + 1) (by omega) (by omega)
          rw [e9] at k9
          exact k9
        · refine aw_iload_n C dX9_pairsThat_42 (i := 1) rfl rfl ?_
          refine aw_bipush C dX9_pairsThat_43 kb_6 ?_
          refine aw_icmp_ne_n (tgt := 67) C dX9_pairsThat_45 (by decide) (by omega) (by omega) (fun h45 => ?_) (fun h45 => absurd h45 (by decide))
          refine aw_iload_n C dX9_pairsThat_67 (i := 1) rfl rfl ?_
          refine aw_bipush C dX9_pairsThat_68 kb_7 ?_
          refine aw_icmp_ne_n (tgt := 83) C dX9_pairsThat_70 (by decide) (by omega) (by omega) (fun h70 => absurd rfl h70) (fun h70 => ?_)
          refine aw_aload_n C dX9_pairsThat_73 (i := 0) rfl rfl ?_
          refine aw_iload_n C dX9_pairsThat_74 (i := 3) rfl rfl ?_
          refine aw_iload C dX9_pairsThat_75 rfl ?_
          refine aw_V2i (k := 0) C dX9_pairsThat_77 cv_X9_127 (by decide) rfl rfl rfl (cm_cross hI (by omega) (by omega) hs hs2) ⟨Nat.le_of_ble_eq_true rfl, Nat.le_of_ble_eq_true rfl⟩ (Nat.le_of_ble_eq_true rfl) ?_
          refine aw_goto (tgt := 90) C dX9_pairsThat_80 (by decide) ?_
          refine aw_istore (lv' := [(0, _), (1, _), (2, _), (3, _), (4, _), (5, _)]) C dX9_pairsThat_90 (Nat.le_of_ble_eq_true rfl) rfl ?_
          refine aw_iload_n C dX9_pairsThat_92 (i := 2) rfl rfl ?_
          refine aw_iload C dX9_pairsThat_93 rfl ?_
          refine aw_if_eq_b (tgt := 102) C dX9_pairsThat_95 (by decide) (fun h95 => ?_) (fun h95 => ?_)
          · refine aw_iconst C dX9_pairsThat_102 ki_0 ?_
            refine aw_iadd_n C dX9_pairsThat_103 ?_
            refine aw_istore_n (lv' := [(0, _), (1, _), (2, _), (3, _), (4, _), (5, _)]) C dX9_pairsThat_104 (i := 2) rfl (Nat.le_of_ble_eq_true rfl) rfl ?_
            refine aw_iinc_n (lv' := [(0, _), (1, _), (2, _), (3, _), (4, _), (5, _)]) C dX9_pairsThat_105 rfl ki_1 (Nat.le_of_ble_eq_true rfl) rfl ?_
            refine aw_goto (tgt := 15) C dX9_pairsThat_108 (by decide) ?_
            refine aw_take 5 (lv' := [(0, _), (1, _), (2, _), (3, _), (4, _)]) rfl ?_
            have e9 := cntB_n (n := k) (p := pr7 h span i) (by unfold pr7; simp [h39, h95])
            have k9 := ih (k + 1) (by omega) (by omega)
            rw [e9] at k9
            exact k9
          · refine aw_iconst C dX9_pairsThat_98 ki_1 ?_
            refine aw_goto (tgt := 103) C dX9_pairsThat_99 (by decide) ?_
            refine aw_iadd_n C dX9_pairsThat_103 ?_
            refine aw_istore_n (lv' := [(0, _), (1, _), (2, _), (3, _), (4, _), (5, _)]) C dX9_pairsThat_104 (i := 2) rfl (Nat.le_of_ble_eq_true rfl) rfl ?_
            refine aw_iinc_n (lv' := [(0, _), (1, _), (2, _), (3, _), (4, _), (5, _)]) C dX9_pairsThat_105 rfl ki_1 (Nat.le_of_ble_eq_true rfl) rfl ?_
            refine aw_goto (tgt := 15) C dX9_pairsThat_108 (by decide) ?_
            refine aw_take 5 (lv' := [(0, _), (1, _), (2, _), (3, _), (4, _)]) rfl ?_
            have e9 := cntB_t (n := k) (p := pr7 h span i) (by unfold pr7; simp [h39, h95])
            have k9 := ih (k + 1) (by omega) (by omega)
            rw [e9] at k9
            exact k9
set_option maxRecDepth 20000 in
/-- pairsThat, its loop -/
theorem cm_pairs7_o {l : Launch} {D : va_G} {cy : Nat → ClassId} {z : Nat → Nat} {q : Nat → Nat} {p : Program} {e : Env} {s : State} {m : MethodId} {args : Array Value} {below : List Frame} {meth : Method} {c : Code} (hI : wI 9 q) (C : Cx p s m args meth c cX9_pairsThat 6 RX9 D cy z 9 q) (hr : meth.sig.returnType = (some .int)) {len span wires chg rsp rwi val ends : Nat} {text : Nat → Nat} {h was rd eyes fw bars ways : Nat → Int32} (hs : 8 ≤ span) (hs2 : span ≤ 40) (hw : wires ≤ 8) : ∀ (d : Nat) (i : Nat), wires - i < d → (i ≤ wires) → AW p l e { frames := 3, cells := 0, slots := 0, locals := 75 } s m args below meth c D 9 q 6 (MQ below (Qg D 9 q (PI (nI (prS (pr7 h span) wires wires)) (mdC cy q len span wires chg rsp rwi val ends text h was rd eyes fw bars ways)) (wA 9 q s.heap.size)) args s 0 0 (wA 9 q s.heap.size)) (mdC cy q len span wires chg rsp rwi val ends text h was rd eyes fw bars ways) [(0, .ref (q 0)), (1, .int (nI 7)), (2, .int (nI (prS (pr7 h span) wires i))), (3, .int (nI i))] 4 [] := by
  intro d
  induction d with
  | zero => intro i hd; exact absurd hd (Nat.not_lt_zero _)
  | succ d ih =>
    intro i hd iv0
    refine aw_iload_n C dX9_pairsThat_4 (i := 3) rfl rfl ?_
    refine aw_aload_n C dX9_pairsThat_5 (i := 0) rfl rfl ?_
    refine aw_get (k := 0) C dX9_pairsThat_6 fl_X9_38 (by decide) rfl rfl ?_
    refine aw_icmp_ge_n (tgt := 117) C dX9_pairsThat_9 (by decide) (by omega) (by omega) (fun h9 => ?_) (fun h9 => ?_)
    · refine aw_iload_n C dX9_pairsThat_117 (i := 2) rfl rfl ?_
      refine aw_iret C hr dX9_pairsThat_118 ?_
      exact PI.mk (by rw [show i = wires by omega]) rfl
    · refine aw_iconst C dX9_pairsThat_12 ki_0 ?_
      refine aw_istore (lv' := [(0, _), (1, _), (2, _), (3, _), (4, _)]) C dX9_pairsThat_13 (Nat.le_of_ble_eq_true rfl) rfl ?_
      refine cm_pairs7_i hI C hr hs hs2 hw (by omega) ?_ (wires + 1) 0 (by omega) (by omega)
      refine aw_iinc_n (lv' := [(0, _), (1, _), (2, _), (3, _), (4, _)]) C dX9_pairsThat_111 rfl ki_1 (Nat.le_of_ble_eq_true rfl) rfl ?_
      refine aw_goto (tgt := 4) C dX9_pairsThat_114 (by decide) ?_
      refine aw_take 4 (lv' := [(0, _), (1, _), (2, _), (3, _)]) rfl ?_
      exact ih (i + 1) (by omega) (by omega)
set_option maxRecDepth 20000 in
/-- pairsThat -/
theorem cm_pairs7 {l : Launch} {D : va_G} {cy : Nat → ClassId} {z : Nat → Nat} {q : Nat → Nat} (hI : wI 9 q) {len span wires chg rsp rwi val ends : Nat} {text : Nat → Nat} {h was rd eyes fw bars ways : Nat → Int32} (hs : 8 ≤ span) (hs2 : span ≤ 40) (hw : wires ≤ 8) : Ct l yX9_pairsThat cX9_pairsThat 6 (some .int) 3 75 D cy z 9 q [.ref (q 0), .int (nI 7)] (mdC cy q len span wires chg rsp rwi val ends text h was rd eyes fw bars ways) (PI (nI (prS (pr7 h span) wires wires)) (mdC cy q len span wires chg rsp rwi val ends text h was rd eyes fw bars ways)) := by
  refine Ct.of (own := RX9) (by decide) rfl hI (Nat.le_of_ble_eq_true rfl) ?_
  intro p e s m args below meth c C hr
  refine aw_lv (lv' := [(0, .ref (q 0)), (1, .int (nI 7))]) (fun x hx => hx) ?_
  refine aw_iconst C dX9_pairsThat_0 ki_0 ?_
  refine aw_istore_n (lv' := [(0, _), (1, _), (2, _)]) C dX9_pairsThat_1 (i := 2) rfl (Nat.le_of_ble_eq_true rfl) rfl ?_
  refine aw_iconst C dX9_pairsThat_2 ki_0 ?_
  refine aw_istore_n (lv' := [(0, _), (1, _), (2, _), (3, _)]) C dX9_pairsThat_3 (i := 3) rfl (Nat.le_of_ble_eq_true rfl) rfl ?_
  exact cm_pairs7_o hI C hr hs hs2 hw (wires + 1) 0 (by omega) (by omega)
set_option maxRecDepth 20000 in
/-- pairsThat, its loop -/
theorem cm_pairs8_i {l : Launch} {D : va_G} {cy : Nat → ClassId} {z : Nat → Nat} {q : Nat → Nat} {p : Program} {e : Env} {s : State} {m : MethodId} {args : Array Value} {below : List Frame} {meth : Method} {c : Code} {Q : State → Prop} (hI : wI 9 q) (C : Cx p s m args meth c cX9_pairsThat 6 RX9 D cy z 9 q) (hr : meth.sig.returnType = (some .int)) {len span wires chg rsp rwi val ends : Nat} {text : Nat → Nat} {h was rd eyes fw bars ways : Nat → Int32} (hs : 8 ≤ span) (hs2 : span ≤ 40) (hw : wires ≤ 8) {i a : Nat} (hi : i < wires) (K : AW p l e { frames := 3, cells := 0, slots := 0, locals := 75 } s m args below meth c D 9 q 6 Q (mdC cy q len span wires chg rsp rwi val ends text h was rd eyes fw bars ways) [(0, .ref (q 0)), (1, .int (nI 8)), (2, .int (nI (a + cntB ((pr8 h span) i) wires))), (3, .int (nI i)), (4, .int (nI wires))] 111 []) : ∀ (d : Nat) (k : Nat), wires - k < d → (k ≤ wires) → AW p l e { frames := 3, cells := 0, slots := 0, locals := 75 } s m args below meth c D 9 q 6 Q (mdC cy q len span wires chg rsp rwi val ends text h was rd eyes fw bars ways) [(0, .ref (q 0)), (1, .int (nI 8)), (2, .int (nI (a + cntB ((pr8 h span) i) k))), (3, .int (nI i)), (4, .int (nI (k)))] 15 [] := by
  intro d
  induction d with
  | zero => intro k hd; exact absurd hd (Nat.not_lt_zero _)
  | succ d ih =>
    intro k hd iv0
    refine aw_iload C dX9_pairsThat_15 rfl ?_
    refine aw_aload_n C dX9_pairsThat_17 (i := 0) rfl rfl ?_
    refine aw_get (k := 0) C dX9_pairsThat_18 fl_X9_38 (by decide) rfl rfl ?_
    refine aw_icmp_ge_n (tgt := 111) C dX9_pairsThat_21 (by decide) (by omega) (by omega) (fun h21 => ?_) (fun h21 => ?_)
    · obtain rfl : k = wires := by omega
      exact K
    · have hcb := cntB_le ((pr8 h span) i) k
      have hnc : nrC h span i k ≤ span + 1 := cntB_le _ _
      refine aw_iload_n C dX9_pairsThat_24 (i := 3) rfl rfl ?_
      refine aw_iload C dX9_pairsThat_25 rfl ?_
      refine aw_icmp_eq_n (tgt := 105) C dX9_pairsThat_27 (by decide) (by omega) (by omega) (fun h27 => ?_) (fun h27 => ?_)
      · refine aw_iinc_n (lv' := [(0, _), (1, _), (2, _), (3, _), (4, _)]) C dX9_pairsThat_105 rfl ki_1 (Nat.le_of_ble_eq_true rfl) rfl ?_
        refine aw_goto (tgt := 15) C dX9_pairsThat_108 (by decide) ?_
        have e9 := cntB_n (n := k) (p := pr8 h span i) (by unfold pr8; simp [h27])
        have k9 := ih (k + 1) (by omega) (by omega)
        rw [e9] at k9
        exact k9
      · refine aw_iload_n C dX9_pairsThat_30 (i := 1) rfl rfl ?_
        refine aw_bipush C dX9_pairsThat_31 kb_8 ?_
        refine aw_icmp_eq_n (tgt := 42) C dX9_pairsThat_33 (by decide) (by omega) (by omega) (fun h33 => ?_) (fun h33 => absurd rfl h33)
        refine aw_iload_n C dX9_pairsThat_42 (i := 1) rfl rfl ?_
        refine aw_bipush C dX9_pairsThat_43 kb_6 ?_
        refine aw_icmp_ne_n (tgt := 67) C dX9_pairsThat_45 (by decide) (by omega) (by omega) (fun h45 => ?_) (fun h45 => absurd h45 (by decide))
        refine aw_iload_n C dX9_pairsThat_67 (i := 1) rfl rfl ?_
        refine aw_bipush C dX9_pairsThat_68 kb_7 ?_
        refine aw_icmp_ne_n (tgt := 83) C dX9_pairsThat_70 (by decide) (by omega) (by omega) (fun h70 => ?_) (fun h70 => absurd h70 (by decide))
        refine aw_aload_n C dX9_pairsThat_83 (i := 0) rfl rfl ?_
        refine aw_iload_n C dX9_pairsThat_84 (i := 3) rfl rfl ?_
        refine aw_iload C dX9_pairsThat_85 rfl ?_
        refine aw_V2i (k := 0) C dX9_pairsThat_87 cv_X9_130 (by decide) rfl rfl rfl (cm_inWay hI (by omega) (by omega) hs hs2) ⟨Nat.le_of_ble_eq_true rfl, Nat.le_of_ble_eq_true rfl⟩ (Nat.le_of_ble_eq_true rfl) ?_
        refine aw_istore (lv' := [(0, _), (1, _), (2, _), (3, _), (4, _), (5, _)]) C dX9_pairsThat_90 (Nat.le_of_ble_eq_true rfl) rfl ?_
        refine aw_iload_n C dX9_pairsThat_92 (i := 2) rfl rfl ?_
        refine aw_iload C dX9_pairsThat_93 rfl ?_
        refine aw_if_eq_b (tgt := 102) C dX9_pairsThat_95 (by decide) (fun h95 => ?_) (fun h95 => ?_)
        · refine aw_iconst C dX9_pairsThat_102 ki_0 ?_
          refine aw_iadd_n C dX9_pairsThat_103 ?_
          refine aw_istore_n (lv' := [(0, _), (1, _), (2, _), (3, _), (4, _), (5, _)]) C dX9_pairsThat_104 (i := 2) rfl (Nat.le_of_ble_eq_true rfl) rfl ?_
          refine aw_iinc_n (lv' := [(0, _), (1, _), (2, _), (3, _), (4, _), (5, _)]) C dX9_pairsThat_105 rfl ki_1 (Nat.le_of_ble_eq_true rfl) rfl ?_
          refine aw_goto (tgt := 15) C dX9_pairsThat_108 (by decide) ?_
          refine aw_take 5 (lv' := [(0, _), (1, _), (2, _), (3, _), (4, _)]) rfl ?_
          have e9 := cntB_n (n := k) (p := pr8 h span i) (by unfold pr8; simp [h27, h95])
          have k9 := ih (k + 1) (by omega) (by omega)
          rw [e9] at k9
          exact k9
        · refine aw_iconst C dX9_pairsThat_98 ki_1 ?_
          refine aw_goto (tgt := 103) C dX9_pairsThat_99 (by decide) ?_
          refine aw_iadd_n C dX9_pairsThat_103 ?_
          refine aw_istore_n (lv' := [(0, _), (1, _), (2, _), (3, _), (4, _), (5, _)]) C dX9_pairsThat_104 (i := 2) rfl (Nat.le_of_ble_eq_true rfl) rfl ?_
          refine aw_iinc_n (lv' := [(0, _), (1, _), (2, _), (3, _), (4, _), (5, _)]) C dX9_pairsThat_105 rfl ki_1 (Nat.le_of_ble_eq_true rfl) rfl ?_
          refine aw_goto (tgt := 15) C dX9_pairsThat_108 (by decide) ?_
          refine aw_take 5 (lv' := [(0, _), (1, _), (2, _), (3, _), (4, _)]) rfl ?_
          have e9 := cntB_t (n := k) (p := pr8 h span i) (by unfold pr8; simp [h27, h95])
          have k9 := ih (k + 1) (by omega) (by omega)
          rw [e9] at k9
          exact k9
set_option maxRecDepth 20000 in
/-- pairsThat, its loop -/
theorem cm_pairs8_o {l : Launch} {D : va_G} {cy : Nat → ClassId} {z : Nat → Nat} {q : Nat → Nat} {p : Program} {e : Env} {s : State} {m : MethodId} {args : Array Value} {below : List Frame} {meth : Method} {c : Code} (hI : wI 9 q) (C : Cx p s m args meth c cX9_pairsThat 6 RX9 D cy z 9 q) (hr : meth.sig.returnType = (some .int)) {len span wires chg rsp rwi val ends : Nat} {text : Nat → Nat} {h was rd eyes fw bars ways : Nat → Int32} (hs : 8 ≤ span) (hs2 : span ≤ 40) (hw : wires ≤ 8) : ∀ (d : Nat) (i : Nat), wires - i < d → (i ≤ wires) → AW p l e { frames := 3, cells := 0, slots := 0, locals := 75 } s m args below meth c D 9 q 6 (MQ below (Qg D 9 q (PI (nI (prS (pr8 h span) wires wires)) (mdC cy q len span wires chg rsp rwi val ends text h was rd eyes fw bars ways)) (wA 9 q s.heap.size)) args s 0 0 (wA 9 q s.heap.size)) (mdC cy q len span wires chg rsp rwi val ends text h was rd eyes fw bars ways) [(0, .ref (q 0)), (1, .int (nI 8)), (2, .int (nI (prS (pr8 h span) wires i))), (3, .int (nI i))] 4 [] := by
  intro d
  induction d with
  | zero => intro i hd; exact absurd hd (Nat.not_lt_zero _)
  | succ d ih =>
    intro i hd iv0
    refine aw_iload_n C dX9_pairsThat_4 (i := 3) rfl rfl ?_
    refine aw_aload_n C dX9_pairsThat_5 (i := 0) rfl rfl ?_
    refine aw_get (k := 0) C dX9_pairsThat_6 fl_X9_38 (by decide) rfl rfl ?_
    refine aw_icmp_ge_n (tgt := 117) C dX9_pairsThat_9 (by decide) (by omega) (by omega) (fun h9 => ?_) (fun h9 => ?_)
    · refine aw_iload_n C dX9_pairsThat_117 (i := 2) rfl rfl ?_
      refine aw_iret C hr dX9_pairsThat_118 ?_
      exact PI.mk (by rw [show i = wires by omega]) rfl
    · refine aw_iconst C dX9_pairsThat_12 ki_0 ?_
      refine aw_istore (lv' := [(0, _), (1, _), (2, _), (3, _), (4, _)]) C dX9_pairsThat_13 (Nat.le_of_ble_eq_true rfl) rfl ?_
      refine cm_pairs8_i hI C hr hs hs2 hw (by omega) ?_ (wires + 1) 0 (by omega) (by omega)
      refine aw_iinc_n (lv' := [(0, _), (1, _), (2, _), (3, _), (4, _)]) C dX9_pairsThat_111 rfl ki_1 (Nat.le_of_ble_eq_true rfl) rfl ?_
      refine aw_goto (tgt := 4) C dX9_pairsThat_114 (by decide) ?_
      refine aw_take 4 (lv' := [(0, _), (1, _), (2, _), (3, _)]) rfl ?_
      exact ih (i + 1) (by omega) (by omega)
set_option maxRecDepth 20000 in
/-- pairsThat -/
theorem cm_pairs8 {l : Launch} {D : va_G} {cy : Nat → ClassId} {z : Nat → Nat} {q : Nat → Nat} (hI : wI 9 q) {len span wires chg rsp rwi val ends : Nat} {text : Nat → Nat} {h was rd eyes fw bars ways : Nat → Int32} (hs : 8 ≤ span) (hs2 : span ≤ 40) (hw : wires ≤ 8) : Ct l yX9_pairsThat cX9_pairsThat 6 (some .int) 3 75 D cy z 9 q [.ref (q 0), .int (nI 8)] (mdC cy q len span wires chg rsp rwi val ends text h was rd eyes fw bars ways) (PI (nI (prS (pr8 h span) wires wires)) (mdC cy q len span wires chg rsp rwi val ends text h was rd eyes fw bars ways)) := by
  refine Ct.of (own := RX9) (by decide) rfl hI (Nat.le_of_ble_eq_true rfl) ?_
  intro p e s m args below meth c C hr
  refine aw_lv (lv' := [(0, .ref (q 0)), (1, .int (nI 8))]) (fun x hx => hx) ?_
  refine aw_iconst C dX9_pairsThat_0 ki_0 ?_
  refine aw_istore_n (lv' := [(0, _), (1, _), (2, _)]) C dX9_pairsThat_1 (i := 2) rfl (Nat.le_of_ble_eq_true rfl) rfl ?_
  refine aw_iconst C dX9_pairsThat_2 ki_0 ?_
  refine aw_istore_n (lv' := [(0, _), (1, _), (2, _), (3, _)]) C dX9_pairsThat_3 (i := 3) rfl (Nat.le_of_ble_eq_true rfl) rfl ?_
  exact cm_pairs8_o hI C hr hs hs2 hw (wires + 1) 0 (by omega) (by omega)
set_option maxRecDepth 20000 in
/-- count, its loop -/
theorem cm_count_l {l : Launch} {D : va_G} {cy : Nat → ClassId} {z : Nat → Nat} {q : Nat → Nat} {p : Program} {e : Env} {s : State} {m : MethodId} {args : Array Value} {below : List Frame} {meth : Method} {c : Code} (hI : wI 9 q) (C : Cx p s m args meth c cX9_count 4 RX9 D cy z 9 q) (hr : meth.sig.returnType = (some .int)) {len span wires chg rsp rwi val ends : Nat} {text : Nat → Nat} {h was rd eyes fw bars ways : Nat → Int32} (hs : 8 ≤ span) (hs2 : span ≤ 40) (hw : wires ≤ 8) : ∀ (d : Nat) (k : Nat), wires - k < d → (k ≤ wires) → AW p l e { frames := 4, cells := 0, slots := 0, locals := 100 } s m args below meth c D 9 q 4 (MQ below (Qg D 9 q (PI (accI (nI 0) (lng h span) wires) (mdC cy q len span wires chg rsp rwi val ends text h was rd eyes fw bars ways)) (wA 9 q s.heap.size)) args s 0 0 (wA 9 q s.heap.size)) (mdC cy q len span wires chg rsp rwi val ends text h was rd eyes fw bars ways) [(0, .ref (q 0)), (1, .int (nI 12)), (2, .int (accI (nI 0) (lng h span) k)), (3, .int (nI k))] 130 [] := by
  intro d
  induction d with
  | zero => intro k hd; exact absurd hd (Nat.not_lt_zero _)
  | succ d ih =>
    intro k hd iv0
    refine aw_iload_n C dX9_count_130 (i := 3) rfl rfl ?_
    refine aw_aload_n C dX9_count_131 (i := 0) rfl rfl ?_
    refine aw_get (k := 0) C dX9_count_132 fl_X9_38 (by decide) rfl rfl ?_
    refine aw_icmp_ge_n (tgt := 152) C dX9_count_135 (by decide) (by omega) (by omega) (fun h135 => ?_) (fun h135 => ?_)
    · refine aw_iload_n C dX9_count_152 (i := 2) rfl rfl ?_
      refine aw_iret C hr dX9_count_153 ?_
      exact PI.mk (by rw [show k = wires by omega]) rfl
    · refine aw_iload_n C dX9_count_138 (i := 2) rfl rfl ?_
      refine aw_aload_n C dX9_count_139 (i := 0) rfl rfl ?_
      refine aw_iload_n C dX9_count_140 (i := 3) rfl rfl ?_
      refine aw_V1i (k := 0) C dX9_count_141 cv_X9_111 (by decide) rfl rfl rfl (cm_longOf hI (by omega) hs hs2) ⟨Nat.le_of_ble_eq_true rfl, Nat.le_of_ble_eq_true rfl⟩ (Nat.le_of_ble_eq_true rfl) ?_
      refine aw_iadd C dX9_count_144 ?_
      refine aw_istore_n (lv' := [(0, _), (1, _), (2, _), (3, _)]) C dX9_count_145 (i := 2) rfl (Nat.le_of_ble_eq_true rfl) rfl ?_
      refine aw_iinc_n (lv' := [(0, _), (1, _), (2, _), (3, _)]) C dX9_count_146 rfl ki_1 (Nat.le_of_ble_eq_true rfl) rfl ?_
      refine aw_goto (tgt := 130) C dX9_count_149 (by decide) ?_
      exact ih (k + 1) (by omega) (by omega)
set_option maxRecDepth 20000 in
/-- count -/
theorem cm_count {l : Launch} {D : va_G} {cy : Nat → ClassId} {z : Nat → Nat} {q : Nat → Nat} (hI : wI 9 q) {len span wires chg rsp rwi val ends : Nat} {text : Nat → Nat} {h was rd eyes fw bars ways : Nat → Int32} {what : Int32} (hs : 8 ≤ span) (hs2 : span ≤ 40) (hw : wires ≤ 8) : Ct l yX9_count cX9_count 4 (some .int) 4 100 D cy z 9 q [.ref (q 0), .int what] (mdC cy q len span wires chg rsp rwi val ends text h was rd eyes fw bars ways) (PI (opCount len span wires chg h what) (mdC cy q len span wires chg rsp rwi val ends text h was rd eyes fw bars ways)) := by
  refine Ct.of (own := RX9) (by decide) rfl hI (Nat.le_of_ble_eq_true rfl) ?_
  intro p e s m args below meth c C hr
  refine aw_lv (lv' := [(0, .ref (q 0)), (1, .int what)]) (fun x hx => hx) ?_
  refine aw_iload_n C dX9_count_0 (i := 1) rfl rfl ?_
  by_cases hsw : 0 ≤ what.toInt ∧ what.toInt ≤ 12
  · rcases (show what.toInt = 0 ∨ what.toInt = 1 ∨ what.toInt = 2 ∨ what.toInt = 3 ∨ what.toInt = 4 ∨ what.toInt = 5 ∨ what.toInt = 6 ∨ what.toInt = 7 ∨ what.toInt = 8 ∨ what.toInt = 9 ∨ what.toInt = 10 ∨ what.toInt = 11 ∨ what.toInt = 12 by omega) with hsw | hsw | hsw | hsw | hsw | hsw | hsw | hsw | hsw | hsw | hsw | hsw | hsw
    · obtain rfl : what = nI 0 := Int32.toInt_inj.mp (by rw [hsw]; rfl)
      refine aw_tin (tgt := 68) (off := 67) (v := 0) C dX9_count_1 hsw (by decide) (by decide) rfl (by decide) ?_
      refine aw_aload_n C dX9_count_68 (i := 0) rfl rfl ?_
      refine aw_get (k := 0) C dX9_count_69 fl_X9_38 (by decide) rfl rfl ?_
      refine aw_iret C hr dX9_count_72 ?_
      refine PI.mk ?_ rfl
      unfold opCount
      rw [if_pos rfl]
    · obtain rfl : what = nI 1 := Int32.toInt_inj.mp (by rw [hsw]; rfl)
      refine aw_tin (tgt := 73) (off := 72) (v := 1) C dX9_count_1 hsw (by decide) (by decide) rfl (by decide) ?_
      refine aw_aload_n C dX9_count_73 (i := 0) rfl rfl ?_
      refine aw_get (k := 0) C dX9_count_74 fl_X9_34 (by decide) rfl rfl ?_
      refine aw_iret C hr dX9_count_77 ?_
      refine PI.mk ?_ rfl
      unfold opCount
      rw [if_neg (by decide), if_pos rfl]
    · obtain rfl : what = nI 2 := Int32.toInt_inj.mp (by rw [hsw]; rfl)
      refine aw_tin (tgt := 78) (off := 77) (v := 2) C dX9_count_1 hsw (by decide) (by decide) rfl (by decide) ?_
      refine aw_aload_n C dX9_count_78 (i := 0) rfl rfl ?_
      refine aw_get (k := 0) C dX9_count_79 fl_X9_13 (by decide) rfl rfl ?_
      refine aw_bipush C dX9_count_82 kb_38 ?_
      refine aw_iload_n C dX9_count_84 (i := 1) rfl rfl ?_
      refine aw_iadd_n C dX9_count_85 ?_
      refine aw_iald (k := 2) C dX9_count_86 (by decide) (rfl) (rfl) (by omega) (by decide) (rfl) ?_
      refine aw_iret C hr dX9_count_87 ?_
      refine PI.mk ?_ rfl
      unfold opCount
      rw [if_neg (by decide), if_neg (by decide), if_pos rfl]
    · obtain rfl : what = nI 3 := Int32.toInt_inj.mp (by rw [hsw]; rfl)
      refine aw_tin (tgt := 78) (off := 77) (v := 3) C dX9_count_1 hsw (by decide) (by decide) rfl (by decide) ?_
      refine aw_aload_n C dX9_count_78 (i := 0) rfl rfl ?_
      refine aw_get (k := 0) C dX9_count_79 fl_X9_13 (by decide) rfl rfl ?_
      refine aw_bipush C dX9_count_82 kb_38 ?_
      refine aw_iload_n C dX9_count_84 (i := 1) rfl rfl ?_
      refine aw_iadd_n C dX9_count_85 ?_
      refine aw_iald (k := 2) C dX9_count_86 (by decide) (rfl) (rfl) (by omega) (by decide) (rfl) ?_
      refine aw_iret C hr dX9_count_87 ?_
      refine PI.mk ?_ rfl
      unfold opCount
      rw [if_neg (by decide), if_neg (by decide), if_neg (by decide), if_pos rfl]
    · obtain rfl : what = nI 4 := Int32.toInt_inj.mp (by rw [hsw]; rfl)
      refine aw_tin (tgt := 78) (off := 77) (v := 4) C dX9_count_1 hsw (by decide) (by decide) rfl (by decide) ?_
      refine aw_aload_n C dX9_count_78 (i := 0) rfl rfl ?_
      refine aw_get (k := 0) C dX9_count_79 fl_X9_13 (by decide) rfl rfl ?_
      refine aw_bipush C dX9_count_82 kb_38 ?_
      refine aw_iload_n C dX9_count_84 (i := 1) rfl rfl ?_
      refine aw_iadd_n C dX9_count_85 ?_
      refine aw_iald (k := 2) C dX9_count_86 (by decide) (rfl) (rfl) (by omega) (by decide) (rfl) ?_
      refine aw_iret C hr dX9_count_87 ?_
      refine PI.mk ?_ rfl
      unfold opCount
      rw [if_neg (by decide), if_neg (by decide), if_neg (by decide), if_neg (by decide), if_pos rfl]
    · obtain rfl : what = nI 5 := Int32.toInt_inj.mp (by rw [hsw]; rfl)
      refine aw_tin (tgt := 88) (off := 87) (v := 5) C dX9_count_1 hsw (by decide) (by decide) rfl (by decide) ?_
      refine aw_aload_n C dX9_count_88 (i := 0) rfl rfl ?_
      refine aw_get (k := 0) C dX9_count_89 fl_X9_13 (by decide) rfl rfl ?_
      refine aw_bipush C dX9_count_92 kb_44 ?_
      refine aw_iald (k := 2) C dX9_count_94 (by decide) (rfl) (rfl) (by omega) (by decide) (rfl) ?_
      refine aw_S1i C dX9_count_95 cs_X9_136 (cm_bits hI) ⟨Nat.le_of_ble_eq_true rfl, Nat.le_of_ble_eq_true rfl⟩ (Nat.le_of_ble_eq_true rfl) ?_
      refine aw_iret C hr dX9_count_98 ?_
      refine PI.mk ?_ rfl
      unfold opCount
      rw [if_neg (by decide), if_neg (by decide), if_neg (by decide), if_neg (by decide), if_neg (by decide), if_pos rfl]
    · obtain rfl : what = nI 6 := Int32.toInt_inj.mp (by rw [hsw]; rfl)
      refine aw_tin (tgt := 99) (off := 98) (v := 6) C dX9_count_1 hsw (by decide) (by decide) rfl (by decide) ?_
      refine aw_aload_n C dX9_count_99 (i := 0) rfl rfl ?_
      refine aw_iload_n C dX9_count_100 (i := 1) rfl rfl ?_
      refine aw_V1i (k := 0) C dX9_count_101 cv_X9_164 (by decide) rfl rfl rfl (cm_pairs6 hI hs hs2 hw) ⟨Nat.le_of_ble_eq_true rfl, Nat.le_of_ble_eq_true rfl⟩ (Nat.le_of_ble_eq_true rfl) ?_
      refine aw_iret C hr dX9_count_104 ?_
      refine PI.mk ?_ rfl
      unfold opCount
      rw [if_neg (by decide), if_neg (by decide), if_neg (by decide), if_neg (by decide), if_neg (by decide), if_neg (by decide), if_pos rfl]
    · obtain rfl : what = nI 7 := Int32.toInt_inj.mp (by rw [hsw]; rfl)
      refine aw_tin (tgt := 99) (off := 98) (v := 7) C dX9_count_1 hsw (by decide) (by decide) rfl (by decide) ?_
      refine aw_aload_n C dX9_count_99 (i := 0) rfl rfl ?_
      refine aw_iload_n C dX9_count_100 (i := 1) rfl rfl ?_
      refine aw_V1i (k := 0) C dX9_count_101 cv_X9_164 (by decide) rfl rfl rfl (cm_pairs7 hI hs hs2 hw) ⟨Nat.le_of_ble_eq_true rfl, Nat.le_of_ble_eq_true rfl⟩ (Nat.le_of_ble_eq_true rfl) ?_
      refine aw_iret C hr dX9_count_104 ?_
      refine PI.mk ?_ rfl
      unfold opCount
      rw [if_neg (by decide), if_neg (by decide), if_neg (by decide), if_neg (by decide), if_neg (by decide), if_neg (by decide), if_neg (by decide), if_pos rfl]
    · obtain rfl : what = nI 8 := Int32.toInt_inj.mp (by rw [hsw]; rfl)
      refine aw_tin (tgt := 99) (off := 98) (v := 8) C dX9_count_1 hsw (by decide) (by decide) rfl (by decide) ?_
      refine aw_aload_n C dX9_count_99 (i := 0) rfl rfl ?_
      refine aw_iload_n C dX9_count_100 (i := 1) rfl rfl ?_
      refine aw_V1i (k := 0) C dX9_count_101 cv_X9_164 (by decide) rfl rfl rfl (cm_pairs8 hI hs hs2 hw) ⟨Nat.le_of_ble_eq_true rfl, Nat.le_of_ble_eq_true rfl⟩ (Nat.le_of_ble_eq_true rfl) ?_
      refine aw_iret C hr dX9_count_104 ?_
      refine PI.mk ?_ rfl
      unfold opCount
      rw [if_neg (by decide), if_neg (by decide), if_neg (by decide), if_neg (by decide), if_neg (by decide), if_neg (by decide), if_neg (by decide), if_neg (by decide), if_pos rfl]
    · obtain rfl : what = nI 9 := Int32.toInt_inj.mp (by rw [hsw]; rfl)
      refine aw_tin (tgt := 105) (off := 104) (v := 9) C dX9_count_1 hsw (by decide) (by decide) rfl (by decide) ?_
      refine aw_aload_n C dX9_count_105 (i := 0) rfl rfl ?_
      refine aw_get (k := 0) C dX9_count_106 fl_X9_88 (by decide) rfl rfl ?_
      refine aw_iret C hr dX9_count_109 ?_
      refine PI.mk ?_ rfl
      unfold opCount
      rw [if_neg (by decide), if_neg (by decide), if_neg (by decide), if_neg (by decide), if_neg (by decide), if_neg (by decide), if_neg (by decide), if_neg (by decide), if_neg (by decide), if_pos rfl]
    · obtain rfl : what = nI 10 := Int32.toInt_inj.mp (by rw [hsw]; rfl)
      refine aw_tin (tgt := 110) (off := 109) (v := 10) C dX9_count_1 hsw (by decide) (by decide) rfl (by decide) ?_
      refine aw_aload_n C dX9_count_110 (i := 0) rfl rfl ?_
      refine aw_get (k := 0) C dX9_count_111 fl_X9_41 (by decide) rfl rfl ?_
      refine aw_iret C hr dX9_count_114 ?_
      refine PI.mk ?_ rfl
      unfold opCount
      rw [if_neg (by decide), if_neg (by decide), if_neg (by decide), if_neg (by decide), if_neg (by decide), if_neg (by decide), if_neg (by decide), if_neg (by decide), if_neg (by decide), if_neg (by decide), if_pos rfl]
    · obtain rfl : what = nI 11 := Int32.toInt_inj.mp (by rw [hsw]; rfl)
      refine aw_tin (tgt := 115) (off := 114) (v := 11) C dX9_count_1 hsw (by decide) (by decide) rfl (by decide) ?_
      refine aw_aload_n C dX9_count_115 (i := 0) rfl rfl ?_
      refine aw_get (k := 0) C dX9_count_116 fl_X9_13 (by decide) rfl rfl ?_
      refine aw_bipush C dX9_count_119 kb_43 ?_
      refine aw_iald (k := 2) C dX9_count_121 (by decide) (rfl) (rfl) (by omega) (by decide) (rfl) ?_
      refine aw_ldc C dX9_count_122 kc_X9_101 ?_
      refine aw_iadd C dX9_count_124 ?_
      refine aw_iret C hr dX9_count_125 ?_
      refine PI.mk ?_ rfl
      unfold opCount
      rw [if_neg (by decide), if_neg (by decide), if_neg (by decide), if_neg (by decide), if_neg (by decide), if_neg (by decide), if_neg (by decide), if_neg (by decide), if_neg (by decide), if_neg (by decide), if_neg (by decide), if_pos rfl]
    · obtain rfl : what = nI 12 := Int32.toInt_inj.mp (by rw [hsw]; rfl)
      refine aw_tin (tgt := 126) (off := 125) (v := 12) C dX9_count_1 hsw (by decide) (by decide) rfl (by decide) ?_
      refine aw_iconst C dX9_count_126 ki_0 ?_
      refine aw_istore_n (lv' := [(0, _), (1, _), (2, _)]) C dX9_count_127 (i := 2) rfl (Nat.le_of_ble_eq_true rfl) rfl ?_
      refine aw_iconst C dX9_count_128 ki_0 ?_
      refine aw_istore_n (lv' := [(0, _), (1, _), (2, _), (3, _)]) C dX9_count_129 (i := 3) rfl (Nat.le_of_ble_eq_true rfl) rfl ?_
      refine aw_post ?_ (cm_count_l hI C hr hs hs2 hw (wires + 1) 0 (by omega) (by omega))
      intro r g hp
      obtain ⟨rfl, rfl⟩ := hp
      refine PI.mk ?_ rfl
      unfold opCount
      rw [if_neg (by decide), if_neg (by decide), if_neg (by decide), if_neg (by decide), if_neg (by decide), if_neg (by decide), if_neg (by decide), if_neg (by decide), if_neg (by decide), if_neg (by decide), if_neg (by decide), if_neg (by decide), if_pos rfl]
  · refine aw_tout (tgt := 154) C dX9_count_1 (by omega) (by decide) ?_
    refine aw_iconst C dX9_count_154 ki_m1 ?_
    refine aw_iret C hr dX9_count_155 ?_
    refine PI.mk ?_ rfl
    unfold opCount
    rw [if_neg (fun e9 => hsw (by rw [e9]; decide)), if_neg (fun e9 => hsw (by rw [e9]; decide)), if_neg (fun e9 => hsw (by rw [e9]; decide)), if_neg (fun e9 => hsw (by rw [e9]; decide)), if_neg (fun e9 => hsw (by rw [e9]; decide)), if_neg (fun e9 => hsw (by rw [e9]; decide)), if_neg (fun e9 => hsw (by rw [e9]; decide)), if_neg (fun e9 => hsw (by rw [e9]; decide)), if_neg (fun e9 => hsw (by rw [e9]; decide)), if_neg (fun e9 => hsw (by rw [e9]; decide)), if_neg (fun e9 => hsw (by rw [e9]; decide)), if_neg (fun e9 => hsw (by rw [e9]; decide)), if_neg (fun e9 => hsw (by rw [e9]; decide))]
set_option maxRecDepth 20000 in
/-- lays, its loop -/
theorem cm_lays_i {l : Launch} {D : va_G} {cy : Nat → ClassId} {z : Nat → Nat} {q : Nat → Nat} {p : Program} {e : Env} {s : State} {m : MethodId} {args : Array Value} {below : List Frame} {meth : Method} {c : Code} {Q : State → Prop} (hI : wI 9 q) (C : Cx p s m args meth c cX9_lays 3 RX9 D cy z 9 q) (hr : meth.sig.returnType = none) {len span wires chg rsp rwi val ends : Nat} {text : Nat → Nat} {h was rd eyes fw bars ways : Nat → Int32} (hs : 8 ≤ span) (hs2 : span ≤ 40) (hw : wires ≤ 8) {k : Nat} (hk : k < wires) (K : AW p l e { frames := 3, cells := 0, slots := 0, locals := 75 } s m args below meth c D 9 q 3 Q (mdC cy q len span wires chg rsp rwi val ends text h was rd eyes fw (upd (cpG (brs h span wires) bars k) k (brA h span k wires)) ways) [(0, .ref (q 0)), (1, .int (nI k)), (2, .int (nI wires))] 63 []) : ∀ (d : Nat) (i : Nat), wires - i < d → (i ≤ wires) → AW p l e { frames := 3, cells := 0, slots := 0, locals := 75 } s m args below meth c D 9 q 3 Q (mdC cy q len span wires chg rsp rwi val ends text h was rd eyes fw (upd (cpG (brs h span wires) bars k) k (brA h span k i)) ways) [(0, .ref (q 0)), (1, .int (nI k)), (2, .int (nI i))] 19 [] := by
  intro d
  induction d with
  | zero => intro i hd; exact absurd hd (Nat.not_lt_zero _)
  | succ d ih =>
    intro i hd iv0
    refine aw_iload_n C dX9_lays_19 (i := 2) rfl rfl ?_
    refine aw_aload_n C dX9_lays_20 (i := 0) rfl rfl ?_
    refine aw_get (k := 0) C dX9_lays_21 fl_X9_38 (by decide) rfl rfl ?_
    refine aw_icmp_ge_n (tgt := 63) C dX9_lays_24 (by decide) (by omega) (by omega) (fun h24 => ?_) (fun h24 => ?_)
    · obtain rfl : i = wires := by omega
      exact K
    · refine aw_aload_n C dX9_lays_27 (i := 0) rfl rfl ?_
      refine aw_get (k := 0) C dX9_lays_28 fl_X9_28 (by decide) rfl rfl ?_
      refine aw_iload_n C dX9_lays_31 (i := 1) rfl rfl ?_
      refine aw_dup2 C dX9_lays_32 rfl rfl ?_
      refine aw_iald (k := 7) C dX9_lays_33 (by decide) (rfl) (rfl) (by omega) (by decide) (upd_us) ?_
      refine aw_iload_n C dX9_lays_34 (i := 2) rfl rfl ?_
      refine aw_iload_n C dX9_lays_35 (i := 1) rfl rfl ?_
      refine aw_icmp_eq_n (tgt := 54) C dX9_lays_36 (by decide) (by omega) (by omega) (fun h36 => ?_) (fun h36 => ?_)
      · refine aw_iconst C dX9_lays_54 ki_0 ?_
        refine aw_ior C dX9_lays_55 ?_
        refine aw_iast (k := 7) C dX9_lays_56 (by decide) (rfl) (rfl) (by omega) (by decide) (md_a_bars) ?_
        refine aw_iinc_n (lv' := [(0, _), (1, _), (2, _)]) C dX9_lays_57 rfl ki_1 (Nat.le_of_ble_eq_true rfl) rfl ?_
        refine aw_goto (tgt := 19) C dX9_lays_60 (by decide) ?_
        rw [upd_uu]
        have k9 := ih (i + 1) (by omega) (by omega)
        unfold brA at k9
        rw [if_pos h36] at k9
        exact k9
      · refine aw_aload_n C dX9_lays_39 (i := 0) rfl rfl ?_
        refine aw_iload_n C dX9_lays_40 (i := 2) rfl rfl ?_
        refine aw_iload_n C dX9_lays_41 (i := 1) rfl rfl ?_
        refine aw_V2i (k := 0) C dX9_lays_42 cv_X9_130 (by decide) rfl rfl rfl (cm_inWay hI (by omega) (by omega) hs hs2) ⟨Nat.le_of_ble_eq_true rfl, Nat.le_of_ble_eq_true rfl⟩ (Nat.le_of_ble_eq_true rfl) ?_
        refine aw_if_eq_b (tgt := 54) C dX9_lays_45 (by decide) (fun h45 => ?_) (fun h45 => ?_)
        · refine aw_iconst C dX9_lays_54 ki_0 ?_
          refine aw_ior C dX9_lays_55 ?_
          refine aw_iast (k := 7) C dX9_lays_56 (by decide) (rfl) (rfl) (by omega) (by decide) (md_a_bars) ?_
          refine aw_iinc_n (lv' := [(0, _), (1, _), (2, _)]) C dX9_lays_57 rfl ki_1 (Nat.le_of_ble_eq_true rfl) rfl ?_
          refine aw_goto (tgt := 19) C dX9_lays_60 (by decide) ?_
          rw [upd_uu]
          have k9 := ih (i + 1) (by omega) (by omega)
          unfold brA at k9
          rw [if_neg h36, if_neg (by rw [h45]; decide)] at k9
          exact k9
        · refine aw_iconst C dX9_lays_48 ki_1 ?_
          refine aw_iload_n C dX9_lays_49 (i := 2) rfl rfl ?_
          refine aw_ishl C dX9_lays_50 ?_
          refine aw_goto (tgt := 55) C dX9_lays_51 (by decide) ?_
          refine aw_ior C dX9_lays_55 ?_
          refine aw_iast (k := 7) C dX9_lays_56 (by decide) (rfl) (rfl) (by omega) (by decide) (md_a_bars) ?_
          refine aw_iinc_n (lv' := [(0, _), (1, _), (2, _)]) C dX9_lays_57 rfl ki_1 (Nat.le_of_ble_eq_true rfl) rfl ?_
          refine aw_goto (tgt := 19) C dX9_lays_60 (by decide) ?_
          rw [upd_uu]
          have k9 := ih (i + 1) (by omega) (by omega)
          unfold brA at k9
          rw [if_neg h36, if_pos h45] at k9
          exact k9
set_option maxRecDepth 20000 in
/-- lays, its loop -/
theorem cm_lays_o {l : Launch} {D : va_G} {cy : Nat → ClassId} {z : Nat → Nat} {q : Nat → Nat} {p : Program} {e : Env} {s : State} {m : MethodId} {args : Array Value} {below : List Frame} {meth : Method} {c : Code} (hI : wI 9 q) (C : Cx p s m args meth c cX9_lays 3 RX9 D cy z 9 q) (hr : meth.sig.returnType = none) {len span wires chg rsp rwi val ends : Nat} {text : Nat → Nat} {h was rd eyes fw bars ways : Nat → Int32} (hs : 8 ≤ span) (hs2 : span ≤ 40) (hw : wires ≤ 8) : ∀ (d : Nat) (k : Nat), wires - k < d → (k ≤ wires) → AW p l e { frames := 3, cells := 0, slots := 0, locals := 75 } s m args below meth c D 9 q 3 (MQ below (Qg D 9 q (PV (mdC cy q len span wires chg rsp rwi val ends text h was rd eyes fw (cpG (brs h span wires) bars wires) ways)) (wA 9 q s.heap.size)) args s 0 0 (wA 9 q s.heap.size)) (mdC cy q len span wires chg rsp rwi val ends text h was rd eyes fw (cpG (brs h span wires) bars k) ways) [(0, .ref (q 0)), (1, .int (nI k))] 2 [] := by
  intro d
  induction d with
  | zero => intro k hd; exact absurd hd (Nat.not_lt_zero _)
  | succ d ih =>
    intro k hd iv0
    refine aw_iload_n C dX9_lays_2 (i := 1) rfl rfl ?_
    refine aw_aload_n C dX9_lays_3 (i := 0) rfl rfl ?_
    refine aw_get (k := 0) C dX9_lays_4 fl_X9_38 (by decide) rfl rfl ?_
    refine aw_icmp_ge_n (tgt := 69) C dX9_lays_7 (by decide) (by omega) (by omega) (fun h7 => ?_) (fun h7 => ?_)
    · refine aw_vret C hr dX9_lays_69 ?_
      obtain rfl : k = wires := by omega
      exact ⟨rfl, rfl⟩
    · refine aw_aload_n C dX9_lays_10 (i := 0) rfl rfl ?_
      refine aw_get (k := 0) C dX9_lays_11 fl_X9_28 (by decide) rfl rfl ?_
      refine aw_iload_n C dX9_lays_14 (i := 1) rfl rfl ?_
      refine aw_iconst C dX9_lays_15 ki_0 ?_
      refine aw_iast (k := 7) C dX9_lays_16 (by decide) (rfl) (rfl) (by omega) (by decide) (md_a_bars) ?_
      refine aw_iconst C dX9_lays_17 ki_0 ?_
      refine aw_istore_n (lv' := [(0, _), (1, _), (2, _)]) C dX9_lays_18 (i := 2) rfl (Nat.le_of_ble_eq_true rfl) rfl ?_
      refine cm_lays_i hI C hr hs hs2 hw (by omega) ?_ (wires + 1) 0 (by omega) (by omega)
      refine aw_iinc_n (lv' := [(0, _), (1, _), (2, _)]) C dX9_lays_63 rfl ki_1 (Nat.le_of_ble_eq_true rfl) rfl ?_
      refine aw_goto (tgt := 2) C dX9_lays_66 (by decide) ?_
      refine aw_take 2 (lv' := [(0, _), (1, _)]) rfl ?_
      have e9 := cpG_s (brs h span wires) bars k
      have k9 := ih (k + 1) (by omega) (by omega)
      rw [← e9] at k9
      exact k9
set_option maxRecDepth 20000 in
/-- lays -/
theorem cm_lays {l : Launch} {D : va_G} {cy : Nat → ClassId} {z : Nat → Nat} {q : Nat → Nat} (hI : wI 9 q) {len span wires chg rsp rwi val ends : Nat} {text : Nat → Nat} {h was rd eyes fw bars ways : Nat → Int32} (hs : 8 ≤ span) (hs2 : span ≤ 40) (hw : wires ≤ 8) : Ct l yX9_lays cX9_lays 3 none 3 75 D cy z 9 q [.ref (q 0)] (mdC cy q len span wires chg rsp rwi val ends text h was rd eyes fw bars ways) (PV (mdC cy q len span wires chg rsp rwi val ends text h was rd eyes fw (cpG (brs h span wires) bars wires) ways)) := by
  refine Ct.of (own := RX9) (by decide) rfl hI (Nat.le_of_ble_eq_true rfl) ?_
  intro p e s m args below meth c C hr
  refine aw_lv (lv' := [(0, .ref (q 0))]) (fun x hx => hx) ?_
  refine aw_iconst C dX9_lays_0 ki_0 ?_
  refine aw_istore_n (lv' := [(0, _), (1, _)]) C dX9_lays_1 (i := 1) rfl (Nat.le_of_ble_eq_true rfl) rfl ?_
  refine aw_fq (f' := (mdC cy q len span wires chg rsp rwi val ends text h was rd eyes fw (cpG (brs h span wires) bars 0) ways)) (by rw [cpG_0]) ?_
  exact cm_lays_o hI C hr hs hs2 hw (wires + 1) 0 (by omega) (by omega)
set_option maxRecDepth 20000 in
/-- firstOf, its loop -/
theorem cm_firstOf_l {l : Launch} {D : va_G} {cy : Nat → ClassId} {z : Nat → Nat} {q : Nat → Nat} {p : Program} {e : Env} {s : State} {m : MethodId} {args : Array Value} {below : List Frame} {meth : Method} {c : Code} (hI : wI 9 q) (C : Cx p s m args meth c cX9_firstOf 3 RX9 D cy z 9 q) (hr : meth.sig.returnType = (some .int)) {len span wires chg rsp rwi val ends : Nat} {text : Nat → Nat} {h was rd eyes fw bars ways : Nat → Int32} {x : Int32} (hw : wires ≤ 8) : ∀ (d : Nat) (k : Nat), wires - k < d → (k ≤ wires) → (∀ j, j < k → foP bars x j = false) → AW p l e { frames := 0, cells := 0, slots := 0, locals := 0 } s m args below meth c D 9 q 3 (MQ below (Qg D 9 q (PI (foI bars wires x) (mdC cy q len span wires chg rsp rwi val ends text h was rd eyes fw bars ways)) (wA 9 q s.heap.size)) args s 0 0 (wA 9 q s.heap.size)) (mdC cy q len span wires chg rsp rwi val ends text h was rd eyes fw bars ways) [(0, .ref (q 0)), (1, .int x), (2, .int (nI k))] 2 [] := by
  intro d
  induction d with
  | zero => intro k hd; exact absurd hd (Nat.not_lt_zero _)
  | succ d ih =>
    intro k hd iv0 iv1
    refine aw_iload_n C dX9_firstOf_2 (i := 2) rfl rfl ?_
    refine aw_aload_n C dX9_firstOf_3 (i := 0) rfl rfl ?_
    refine aw_get (k := 0) C dX9_firstOf_4 fl_X9_38 (by decide) rfl rfl ?_
    refine aw_icmp_ge_n (tgt := 38) C dX9_firstOf_7 (by decide) (by omega) (by omega) (fun h7 => ?_) (fun h7 => ?_)
    · refine aw_bipush C dX9_firstOf_38 kb_m4 ?_
      refine aw_iret C hr dX9_firstOf_40 ?_
      exact PI.mk (by unfold foI; rw [fstB_none (fun j hj => iv1 j (by omega))]) rfl
    · refine aw_iload_n C dX9_firstOf_10 (i := 1) rfl rfl ?_
      refine aw_iload_n C dX9_firstOf_11 (i := 2) rfl rfl ?_
      refine aw_ishr C dX9_firstOf_12 ?_
      refine aw_iconst C dX9_firstOf_13 ki_1 ?_
      refine aw_iand C dX9_firstOf_14 ?_
      refine aw_iconst C dX9_firstOf_15 ki_1 ?_
      refine aw_icmp_ne (tgt := 32) C dX9_firstOf_16 (by decide) (fun h16 => ?_) (fun h16 => ?_)
      · refine aw_iinc_n (lv' := [(0, _), (1, _), (2, _)]) C dX9_firstOf_32 rfl ki_1 (Nat.le_of_ble_eq_true rfl) rfl ?_
        refine aw_goto (tgt := 2) C dX9_firstOf_35 (by decide) ?_
        exact ih (k + 1) (by omega) (by omega) (fun j hj => by rcases Nat.lt_or_ge j k with g | g; exact iv1 j g; rw [show j = k by omega]; unfold foP bt; simp [h16])
      · refine aw_aload_n C dX9_firstOf_19 (i := 0) rfl rfl ?_
        refine aw_get (k := 0) C dX9_firstOf_20 fl_X9_28 (by decide) rfl rfl ?_
        refine aw_iload_n C dX9_firstOf_23 (i := 2) rfl rfl ?_
        refine aw_iald (k := 7) C dX9_firstOf_24 (by decide) (rfl) (rfl) (by omega) (by decide) (rfl) ?_
        refine aw_iload_n C dX9_firstOf_25 (i := 1) rfl rfl ?_
        refine aw_iand C dX9_firstOf_26 ?_
        refine aw_if_ne (tgt := 32) C dX9_firstOf_27 (by decide) (fun h27 => ?_) (fun h27 => ?_)
        · refine aw_iinc_n (lv' := [(0, _), (1, _), (2, _)]) C dX9_firstOf_32 rfl ki_1 (Nat.le_of_ble_eq_true rfl) rfl ?_
          refine aw_goto (tgt := 2) C dX9_firstOf_35 (by decide) ?_
          exact ih (k + 1) (by omega) (by omega) (fun j hj => by rcases Nat.lt_or_ge j k with g | g; exact iv1 j g; rw [show j = k by omega]; unfold foP bt; simp [h16, h27])
        · refine aw_iload_n C dX9_firstOf_30 (i := 2) rfl rfl ?_
          refine aw_iret C hr dX9_firstOf_31 ?_
          exact PI.mk (by unfold foI; rw [fstB_at (k := k) (by omega) iv1 (by unfold foP bt; simp [h16, h27])]) rfl
set_option maxRecDepth 20000 in
/-- firstOf -/
theorem cm_firstOf {l : Launch} {D : va_G} {cy : Nat → ClassId} {z : Nat → Nat} {q : Nat → Nat} (hI : wI 9 q) {len span wires chg rsp rwi val ends : Nat} {text : Nat → Nat} {h was rd eyes fw bars ways : Nat → Int32} {x : Int32} (hw : wires ≤ 8) : Ct l yX9_firstOf cX9_firstOf 3 (some .int) 0 0 D cy z 9 q [.ref (q 0), .int x] (mdC cy q len span wires chg rsp rwi val ends text h was rd eyes fw bars ways) (PI (foI bars wires x) (mdC cy q len span wires chg rsp rwi val ends text h was rd eyes fw bars ways)) := by
  refine Ct.of (own := RX9) (by decide) rfl hI (Nat.le_of_ble_eq_true rfl) ?_
  intro p e s m args below meth c C hr
  refine aw_lv (lv' := [(0, .ref (q 0)), (1, .int x)]) (fun x hx => hx) ?_
  refine aw_iconst C dX9_firstOf_0 ki_0 ?_
  refine aw_istore_n (lv' := [(0, _), (1, _), (2, _)]) C dX9_firstOf_1 (i := 2) rfl (Nat.le_of_ble_eq_true rfl) rfl ?_
  exact cm_firstOf_l hI C hr hw (wires + 1) 0 (by omega) (by omega) (fun j hj => absurd hj (Nat.not_lt_zero j))
set_option maxRecDepth 20000 in
/-- left, its loop -/
theorem cm_left_l {l : Launch} {D : va_G} {cy : Nat → ClassId} {z : Nat → Nat} {q : Nat → Nat} {p : Program} {e : Env} {s : State} {m : MethodId} {args : Array Value} {below : List Frame} {meth : Method} {c : Code} (hI : wI 9 q) (C : Cx p s m args meth c cX9_left 5 RX9 D cy z 9 q) (hr : meth.sig.returnType = (some .int)) {len span wires chg rsp rwi val ends : Nat} {text : Nat → Nat} {h was rd eyes fw bars ways : Nat → Int32} {stp : Nat} (hw : wires ≤ 8) (hst : stp ≤ 8) : ∀ (d : Nat) (j : Nat), stp - j < d → (j ≤ stp) → AW p l e { frames := 1, cells := 0, slots := 0, locals := 22 } s m args below meth c D 9 q 5 (MQ below (Qg D 9 q (PI (lfI bars wires stp) (mdC cy q len span wires chg rsp rwi val ends text h was rd eyes fw bars ways)) (wA 9 q s.heap.size)) args s 0 0 (wA 9 q s.heap.size)) (mdC cy q len span wires chg rsp rwi val ends text h was rd eyes fw bars ways) [(0, .ref (q 0)), (1, .int (nI stp)), (2, .int (lfI bars wires j)), (3, .int (nI j))] 11 [] := by
  intro d
  induction d with
  | zero => intro j hd; exact absurd hd (Nat.not_lt_zero _)
  | succ d ih =>
    intro j hd iv0
    refine aw_iload_n C dX9_left_11 (i := 3) rfl rfl ?_
    refine aw_iload_n C dX9_left_12 (i := 1) rfl rfl ?_
    refine aw_icmp_ge_n (tgt := 45) C dX9_left_13 (by decide) (by omega) (by omega) (fun h13 => ?_) (fun h13 => ?_)
    · refine aw_iload_n C dX9_left_45 (i := 2) rfl rfl ?_
      refine aw_iret C hr dX9_left_46 ?_
      exact PI.mk (by rw [show j = stp by omega]) rfl
    · refine aw_aload_n C dX9_left_16 (i := 0) rfl rfl ?_
      refine aw_iload_n C dX9_left_17 (i := 2) rfl rfl ?_
      refine aw_V1i (k := 0) C dX9_left_18 cv_X9_139 (by decide) rfl rfl rfl (cm_firstOf hI hw) ⟨Nat.le_of_ble_eq_true rfl, Nat.le_of_ble_eq_true rfl⟩ (Nat.le_of_ble_eq_true rfl) ?_
      refine aw_istore (lv' := [(0, _), (1, _), (2, _), (3, _), (4, _)]) C dX9_left_21 (Nat.le_of_ble_eq_true rfl) rfl ?_
      refine aw_iload_n C dX9_left_23 (i := 2) rfl rfl ?_
      refine aw_iload C dX9_left_24 rfl ?_
      refine aw_if_ge (tgt := 33) C dX9_left_26 (by decide) (fun h26 => ?_) (fun h26 => ?_)
      · refine aw_iconst C dX9_left_33 ki_1 ?_
        refine aw_iload C dX9_left_34 rfl ?_
        refine aw_ishl C dX9_left_36 ?_
        refine aw_isub C dX9_left_37 ?_
        refine aw_istore_n (lv' := [(0, _), (1, _), (2, _), (3, _), (4, _)]) C dX9_left_38 (i := 2) rfl (Nat.le_of_ble_eq_true rfl) rfl ?_
        refine aw_iinc_n (lv' := [(0, _), (1, _), (2, _), (3, _), (4, _)]) C dX9_left_39 rfl ki_1 (Nat.le_of_ble_eq_true rfl) rfl ?_
        refine aw_goto (tgt := 11) C dX9_left_42 (by decide) ?_
        refine aw_take 4 (lv' := [(0, _), (1, _), (2, _), (3, _)]) rfl ?_
        have k9 := ih (j + 1) (by omega) (by omega)
        rw [lfI_s, if_pos h26] at k9
        exact k9
      · refine aw_iconst C dX9_left_29 ki_0 ?_
        refine aw_goto (tgt := 37) C dX9_left_30 (by decide) ?_
        refine aw_isub C dX9_left_37 ?_
        refine aw_istore_n (lv' := [(0, _), (1, _), (2, _), (3, _), (4, _)]) C dX9_left_38 (i := 2) rfl (Nat.le_of_ble_eq_true rfl) rfl ?_
        refine aw_iinc_n (lv' := [(0, _), (1, _), (2, _), (3, _), (4, _)]) C dX9_left_39 rfl ki_1 (Nat.le_of_ble_eq_true rfl) rfl ?_
        refine aw_goto (tgt := 11) C dX9_left_42 (by decide) ?_
        refine aw_take 4 (lv' := [(0, _), (1, _), (2, _), (3, _)]) rfl ?_
        have k9 := ih (j + 1) (by omega) (by omega)
        rw [lfI_s, if_neg h26] at k9
        exact k9
set_option maxRecDepth 20000 in
/-- left -/
theorem cm_left {l : Launch} {D : va_G} {cy : Nat → ClassId} {z : Nat → Nat} {q : Nat → Nat} (hI : wI 9 q) {len span wires chg rsp rwi val ends : Nat} {text : Nat → Nat} {h was rd eyes fw bars ways : Nat → Int32} {stp : Nat} (hw : wires ≤ 8) (hst : stp ≤ 8) : Ct l yX9_left cX9_left 5 (some .int) 1 22 D cy z 9 q [.ref (q 0), .int (nI stp)] (mdC cy q len span wires chg rsp rwi val ends text h was rd eyes fw bars ways) (PI (lfI bars wires stp) (mdC cy q len span wires chg rsp rwi val ends text h was rd eyes fw bars ways)) := by
  refine Ct.of (own := RX9) (by decide) rfl hI (Nat.le_of_ble_eq_true rfl) ?_
  intro p e s m args below meth c C hr
  refine aw_lv (lv' := [(0, .ref (q 0)), (1, .int (nI stp))]) (fun x hx => hx) ?_
  refine aw_iconst C dX9_left_0 ki_1 ?_
  refine aw_aload_n C dX9_left_1 (i := 0) rfl rfl ?_
  refine aw_get (k := 0) C dX9_left_2 fl_X9_38 (by decide) rfl rfl ?_
  refine aw_ishl C dX9_left_5 ?_
  refine aw_iconst C dX9_left_6 ki_1 ?_
  refine aw_isub C dX9_left_7 ?_
  refine aw_istore_n (lv' := [(0, _), (1, _), (2, _)]) C dX9_left_8 (i := 2) rfl (Nat.le_of_ble_eq_true rfl) rfl ?_
  refine aw_iconst C dX9_left_9 ki_0 ?_
  refine aw_istore_n (lv' := [(0, _), (1, _), (2, _), (3, _)]) C dX9_left_10 (i := 3) rfl (Nat.le_of_ble_eq_true rfl) rfl ?_
  exact cm_left_l hI C hr hw hst (stp + 1) 0 (by omega) (by omega)
set_option maxRecDepth 20000 in
/-- stuck -/
theorem cm_stuck {l : Launch} {D : va_G} {cy : Nat → ClassId} {z : Nat → Nat} {q : Nat → Nat} (hI : wI 9 q) {len span wires chg rsp rwi val ends : Nat} {text : Nat → Nat} {h was rd eyes fw bars ways : Nat → Int32} (hs : 8 ≤ span) (hs2 : span ≤ 40) (hw : wires ≤ 8) : Ct l yX9_stuck cX9_stuck 1 (some .int) 4 97 D cy z 9 q [.ref (q 0)] (mdC cy q len span wires chg rsp rwi val ends text h was rd eyes fw bars ways) (PI (opStuck span wires h) (mdC cy q len span wires chg rsp rwi val ends text h was rd eyes fw (cpG (brs h span wires) bars wires) ways)) := by
  refine Ct.of (own := RX9) (by decide) rfl hI (Nat.le_of_ble_eq_true rfl) ?_
  intro p e s m args below meth c C hr
  refine aw_lv (lv' := [(0, .ref (q 0))]) (fun x hx => hx) ?_
  refine aw_aload_n C dX9_stuck_0 (i := 0) rfl rfl ?_
  refine aw_V0v (k := 0) C dX9_stuck_1 cv_X9_142 (by decide) rfl rfl rfl (cm_lays hI hs hs2 hw) ⟨Nat.le_of_ble_eq_true rfl, Nat.le_of_ble_eq_true rfl⟩ (Nat.le_of_ble_eq_true rfl) ?_
  refine aw_aload_n C dX9_stuck_4 (i := 0) rfl rfl ?_
  refine aw_aload_n C dX9_stuck_5 (i := 0) rfl rfl ?_
  refine aw_get (k := 0) C dX9_stuck_6 fl_X9_38 (by decide) rfl rfl ?_
  refine aw_V1i (k := 0) C dX9_stuck_9 cv_X9_145 (by decide) rfl rfl rfl (cm_left hI hw (by omega)) ⟨Nat.le_of_ble_eq_true rfl, Nat.le_of_ble_eq_true rfl⟩ (Nat.le_of_ble_eq_true rfl) ?_
  refine aw_iret C hr dX9_stuck_12 ?_
  exact PI.mk (lfI_cg (fun k hk => cpG_lt hk) _) rfl
set_option maxRecDepth 20000 in
/-- order -/
theorem cm_order {l : Launch} {D : va_G} {cy : Nat → ClassId} {z : Nat → Nat} {q : Nat → Nat} (hI : wI 9 q) {len span wires chg rsp rwi val ends : Nat} {text : Nat → Nat} {h was rd eyes fw bars ways : Nat → Int32} {k : Int32} (hs : 8 ≤ span) (hs2 : span ≤ 40) (hw : wires ≤ 8) : Ct l yX9_order cX9_order 2 (some .int) 5 117 D cy z 9 q [.ref (q 0), .int k] (mdC cy q len span wires chg rsp rwi val ends text h was rd eyes fw bars ways) (PO cy q (opOrder span wires h k, (len, span, wires, chg, text, h, was, eyes))) := by
  refine Ct.of (own := RX9) (by decide) rfl hI (Nat.le_of_ble_eq_true rfl) ?_
  intro p e s m args below meth c C hr
  refine aw_lv (lv' := [(0, .ref (q 0)), (1, .int k)]) (fun x hx => hx) ?_
  refine aw_iload_n C dX9_order_0 (i := 1) rfl rfl ?_
  refine aw_iconst C dX9_order_1 ki_0 ?_
  refine aw_bipush C dX9_order_2 kb_7 ?_
  refine aw_S3i C dX9_order_4 cs_X9_54 (cm_isIn hI) ⟨Nat.le_of_ble_eq_true rfl, Nat.le_of_ble_eq_true rfl⟩ (Nat.le_of_ble_eq_true rfl) ?_
  refine aw_if_ne_b (tgt := 12) C dX9_order_7 (by decide) (fun h7 => ?_) (fun h7 => ?_)
  · obtain ⟨b, hb, rfl⟩ := in_of (by decide) h7
    have ec : (nI b).toNatClampNeg = b := nI_clamp (by omega)
    refine aw_aload_n C dX9_order_12 (i := 0) rfl rfl ?_
    refine aw_V0i (k := 0) C dX9_order_13 cv_X9_148 (by decide) rfl rfl rfl (cm_stuck hI hs hs2 hw) ⟨Nat.le_of_ble_eq_true rfl, Nat.le_of_ble_eq_true rfl⟩ (Nat.le_of_ble_eq_true rfl) ?_
    refine aw_if_eq (tgt := 22) C dX9_order_16 (by decide) (fun h16 => ?_) (fun h16 => ?_)
    · refine aw_iload_n C dX9_order_22 (i := 1) rfl rfl ?_
      refine aw_aload_n C dX9_order_23 (i := 0) rfl rfl ?_
      refine aw_get (k := 0) C dX9_order_24 fl_X9_38 (by decide) rfl rfl ?_
      refine aw_icmp_ge_n (tgt := 42) C dX9_order_27 (by decide) (by omega) (by omega) (fun h27 => ?_) (fun h27 => ?_)
      · refine aw_bipush C dX9_order_42 kb_m4 ?_
        refine aw_iret C hr dX9_order_44 ?_
        exact PO.mk (by unfold opOrder; rw [if_pos h7, if_pos h16, if_neg (nI_nlt h27 (by omega))])
      · refine aw_aload_n C dX9_order_30 (i := 0) rfl rfl ?_
        refine aw_aload_n C dX9_order_31 (i := 0) rfl rfl ?_
        refine aw_iload_n C dX9_order_32 (i := 1) rfl rfl ?_
        refine aw_V1i (k := 0) C dX9_order_33 cv_X9_145 (by decide) rfl rfl rfl (cm_left hI hw (by omega)) ⟨Nat.le_of_ble_eq_true rfl, Nat.le_of_ble_eq_true rfl⟩ (Nat.le_of_ble_eq_true rfl) ?_
        refine aw_V1i (k := 0) C dX9_order_36 cv_X9_139 (by decide) rfl rfl rfl (cm_firstOf hI hw) ⟨Nat.le_of_ble_eq_true rfl, Nat.le_of_ble_eq_true rfl⟩ (Nat.le_of_ble_eq_true rfl) ?_
        refine aw_goto (tgt := 44) C dX9_order_39 (by decide) ?_
        refine aw_iret C hr dX9_order_44 ?_
        exact PO.mk (by unfold opOrder; rw [if_pos h7, if_pos h16, if_pos (nI_lt h27 (by omega)), ec, lfI_cg (b := cpG (brs h span wires) bars wires) (c := brs h span wires) (fun k hk => cpG_lt hk) b, foI_cg (b := cpG (brs h span wires) bars wires) (c := brs h span wires) (fun k hk => cpG_lt hk)])
    · refine aw_bipush C dX9_order_19 kb_m2 ?_
      refine aw_iret C hr dX9_order_21 ?_
      exact PO.mk (by unfold opOrder; rw [if_pos h7, if_neg h16])
  · refine aw_iconst C dX9_order_10 ki_m1 ?_
    refine aw_iret C hr dX9_order_11 ?_
    exact PO.mk (by unfold opOrder; rw [if_neg (by rw [h7]; decide)])
set_option maxRecDepth 20000 in
/-- orders, its loop -/
theorem cm_orders_0 {l : Launch} {D : va_G} {cy : Nat → ClassId} {z : Nat → Nat} {q : Nat → Nat} {p : Program} {e : Env} {s : State} {m : MethodId} {args : Array Value} {below : List Frame} {meth : Method} {c : Code} {Q : State → Prop} (hI : wI 9 q) (C : Cx p s m args meth c cX9_orders 4 RX9 D cy z 9 q) (hr : meth.sig.returnType = (some .int)) {len span wires chg rsp rwi val ends : Nat} {text : Nat → Nat} {h was rd eyes fw bars ways : Nat → Int32} (hw : wires ≤ 8) (K : AW p l e { frames := 4, cells := 0, slots := 0, locals := 97 } s m args below meth c D 9 q 4 Q (mdC cy q len span wires chg rsp rwi val ends text h was rd eyes fw bars (w0 ways (2 ^ wires))) [(0, .ref (q 0)), (1, .int (nI (2 ^ wires - 1))), (2, .int (nI (2 ^ wires)))] 41 []) : ∀ (d : Nat) (k : Nat), 2 ^ wires - k < d → (k ≤ 2 ^ wires) → AW p l e { frames := 4, cells := 0, slots := 0, locals := 97 } s m args below meth c D 9 q 4 Q (mdC cy q len span wires chg rsp rwi val ends text h was rd eyes fw bars (w0 ways k)) [(0, .ref (q 0)), (1, .int (nI (2 ^ wires - 1))), (2, .int (nI k))] 15 [] := by
  intro d
  induction d with
  | zero => intro k hd; exact absurd hd (Nat.not_lt_zero _)
  | succ d ih =>
    intro k hd iv0
    have hpw := pw8 hw
    refine aw_iload_n C dX9_orders_15 (i := 2) rfl rfl ?_
    refine aw_iload_n C dX9_orders_16 (i := 1) rfl rfl ?_
    refine aw_icmp_gt_n (tgt := 41) C dX9_orders_17 (by decide) (by omega) (by omega) (fun h17 => ?_) (fun h17 => ?_)
    · obtain rfl : k = 2 ^ wires := by omega
      exact K
    · refine aw_aload_n C dX9_orders_20 (i := 0) rfl rfl ?_
      refine aw_get (k := 0) C dX9_orders_21 fl_X9_31 (by decide) rfl rfl ?_
      refine aw_iload_n C dX9_orders_24 (i := 2) rfl rfl ?_
      refine aw_iload_n C dX9_orders_25 (i := 2) rfl rfl ?_
      refine aw_if_ne_n (tgt := 33) C dX9_orders_26 (by decide) (by omega) (fun h26 => ?_) (fun h26 => ?_)
      · refine aw_iconst C dX9_orders_33 ki_0 ?_
        refine aw_iast (k := 8) C dX9_orders_34 (by decide) (rfl) (rfl) (by omega) (by decide) (md_a_ways) ?_
        refine aw_iinc_n (lv' := [(0, _), (1, _), (2, _)]) C dX9_orders_35 rfl ki_1 (Nat.le_of_ble_eq_true rfl) rfl ?_
        refine aw_goto (tgt := 15) C dX9_orders_38 (by decide) ?_
        have e9 := cpG_s (fun j => if j = 0 then nI 1 else nI 0) ways k
        have k9 := ih (k + 1) (by omega) (by omega)
        unfold w0 at k9 ⊢
        rw [← e9] at k9
        rw [if_neg (Nat.ne_of_gt h26)] at k9
        exact k9
      · refine aw_iconst C dX9_orders_29 ki_1 ?_
        refine aw_goto (tgt := 34) C dX9_orders_30 (by decide) ?_
        refine aw_iast (k := 8) C dX9_orders_34 (by decide) (rfl) (rfl) (by omega) (by decide) (md_a_ways) ?_
        refine aw_iinc_n (lv' := [(0, _), (1, _), (2, _)]) C dX9_orders_35 rfl ki_1 (Nat.le_of_ble_eq_true rfl) rfl ?_
        refine aw_goto (tgt := 15) C dX9_orders_38 (by decide) ?_
        have e9 := cpG_s (fun j => if j = 0 then nI 1 else nI 0) ways k
        have k9 := ih (k + 1) (by omega) (by omega)
        unfold w0 at k9 ⊢
        rw [← e9] at k9
        rw [if_pos h26] at k9
        exact k9
set_option maxRecDepth 20000 in
/-- orders, its loop -/
theorem cm_orders_i {l : Launch} {D : va_G} {cy : Nat → ClassId} {z : Nat → Nat} {q : Nat → Nat} {p : Program} {e : Env} {s : State} {m : MethodId} {args : Array Value} {below : List Frame} {meth : Method} {c : Code} {Q : State → Prop} (hI : wI 9 q) (C : Cx p s m args meth c cX9_orders 4 RX9 D cy z 9 q) (hr : meth.sig.returnType = (some .int)) {len span wires chg rsp rwi val ends : Nat} {text : Nat → Nat} {h was rd eyes fw bars ways : Nat → Int32} (hw : wires ≤ 8) {s0 : Nat} (hs0 : s0 < 2 ^ wires - 1) (K : AW p l e { frames := 4, cells := 0, slots := 0, locals := 97 } s m args below meth c D 9 q 4 Q (mdC cy q len span wires chg rsp rwi val ends text h was rd eyes fw bars (psK bars wires s0 ways wires)) [(0, .ref (q 0)), (1, .int (nI (2 ^ wires - 1))), (2, .int (nI s0)), (3, .int (nI wires))] 104 []) : ∀ (d : Nat) (k : Nat), wires - k < d → (k ≤ wires) → AW p l e { frames := 4, cells := 0, slots := 0, locals := 97 } s m args below meth c D 9 q 4 Q (mdC cy q len span wires chg rsp rwi val ends text h was rd eyes fw bars (psK bars wires s0 ways k)) [(0, .ref (q 0)), (1, .int (nI (2 ^ wires - 1))), (2, .int (nI s0)), (3, .int (nI k))] 50 [] := by
  intro d
  induction d with
  | zero => intro k hd; exact absurd hd (Nat.not_lt_zero _)
  | succ d ih =>
    intro k hd iv0
    have hpw := pw8 hw
    refine aw_iload_n C dX9_orders_50 (i := 3) rfl rfl ?_
    refine aw_aload_n C dX9_orders_51 (i := 0) rfl rfl ?_
    refine aw_get (k := 0) C dX9_orders_52 fl_X9_38 (by decide) rfl rfl ?_
    refine aw_icmp_ge_n (tgt := 104) C dX9_orders_55 (by decide) (by omega) (by omega) (fun h55 => ?_) (fun h55 => ?_)
    · obtain rfl : k = wires := by omega
      exact K
    · refine aw_iload_n C dX9_orders_58 (i := 2) rfl rfl ?_
      refine aw_iload_n C dX9_orders_59 (i := 3) rfl rfl ?_
      refine aw_ishr C dX9_orders_60 ?_
      refine aw_iconst C dX9_orders_61 ki_1 ?_
      refine aw_iand C dX9_orders_62 ?_
      refine aw_if_ne (tgt := 98) C dX9_orders_63 (by decide) (fun h63 => ?_) (fun h63 => ?_)
      · refine aw_iinc_n (lv' := [(0, _), (1, _), (2, _), (3, _)]) C dX9_orders_98 rfl ki_1 (Nat.le_of_ble_eq_true rfl) rfl ?_
        refine aw_goto (tgt := 50) C dX9_orders_101 (by decide) ?_
        have k9 := ih (k + 1) (by omega) (by omega)
        rw [psK_s, if_neg (show ¬ bt (nI s0) k = 0 from h63)] at k9
        exact k9
      · refine aw_aload_n C dX9_orders_66 (i := 0) rfl rfl ?_
        refine aw_get (k := 0) C dX9_orders_67 fl_X9_28 (by decide) rfl rfl ?_
        refine aw_iload_n C dX9_orders_70 (i := 3) rfl rfl ?_
        refine aw_iald (k := 7) C dX9_orders_71 (by decide) (rfl) (rfl) (by omega) (by decide) (rfl) ?_
        refine aw_iload_n C dX9_orders_72 (i := 1) rfl rfl ?_
        refine aw_iload_n C dX9_orders_73 (i := 2) rfl rfl ?_
        refine aw_isub C dX9_orders_74 ?_
        refine aw_iand C dX9_orders_75 ?_
        refine aw_if_ne (tgt := 98) C dX9_orders_76 (by decide) (fun h76 => ?_) (fun h76 => ?_)
        · refine aw_iinc_n (lv' := [(0, _), (1, _), (2, _), (3, _)]) C dX9_orders_98 rfl ki_1 (Nat.le_of_ble_eq_true rfl) rfl ?_
          refine aw_goto (tgt := 50) C dX9_orders_101 (by decide) ?_
          have k9 := ih (k + 1) (by omega) (by omega)
          rw [psK_s, if_pos (show bt (nI s0) k = 0 from h63), if_neg h76] at k9
          exact k9
        · have hor : s0 ||| 2 ^ k < 2 ^ wires := or_lt8 (by omega) (by omega)
          refine aw_aload_n C dX9_orders_79 (i := 0) rfl rfl ?_
          refine aw_get (k := 0) C dX9_orders_80 fl_X9_31 (by decide) rfl rfl ?_
          refine aw_iload_n C dX9_orders_83 (i := 2) rfl rfl ?_
          refine aw_iconst C dX9_orders_84 ki_1 ?_
          refine aw_iload_n C dX9_orders_85 (i := 3) rfl rfl ?_
          refine aw_ishl C dX9_orders_86 ?_
          refine aw_ior C dX9_orders_87 ?_
          refine aw_dup2 C dX9_orders_88 rfl rfl ?_
          refine aw_iald (k := 8) C dX9_orders_89 (by decide) (rfl) (by rw [shl1 k (by omega), or_nI]) (by omega) (by decide) (rfl) ?_
          refine aw_aload_n C dX9_orders_90 (i := 0) rfl rfl ?_
          refine aw_get (k := 0) C dX9_orders_91 fl_X9_31 (by decide) rfl rfl ?_
          refine aw_iload_n C dX9_orders_94 (i := 2) rfl rfl ?_
          refine aw_iald (k := 8) C dX9_orders_95 (by decide) (rfl) (rfl) (by omega) (by decide) (rfl) ?_
          refine aw_iadd C dX9_orders_96 ?_
          refine aw_iast (k := 8) C dX9_orders_97 (by decide) (rfl) (by rw [shl1 k (by omega), or_nI]) (by omega) (by decide) (md_a_ways) ?_
          refine aw_iinc_n (lv' := [(0, _), (1, _), (2, _), (3, _)]) C dX9_orders_98 rfl ki_1 (Nat.le_of_ble_eq_true rfl) rfl ?_
          refine aw_goto (tgt := 50) C dX9_orders_101 (by decide) ?_
          have k9 := ih (k + 1) (by omega) (by omega)
          rw [psK_s, if_pos (show bt (nI s0) k = 0 from h63), if_pos h76] at k9
          exact k9
set_option maxRecDepth 20000 in
/-- orders, its loop -/
theorem cm_orders_o {l : Launch} {D : va_G} {cy : Nat → ClassId} {z : Nat → Nat} {q : Nat → Nat} {p : Program} {e : Env} {s : State} {m : MethodId} {args : Array Value} {below : List Frame} {meth : Method} {c : Code} (hI : wI 9 q) (C : Cx p s m args meth c cX9_orders 4 RX9 D cy z 9 q) (hr : meth.sig.returnType = (some .int)) {len span wires chg rsp rwi val ends : Nat} {text : Nat → Nat} {h was rd eyes fw bars ways : Nat → Int32} (hw : wires ≤ 8) : ∀ (d : Nat) (s0 : Nat), 2 ^ wires - 1 - s0 < d → (s0 ≤ 2 ^ wires - 1) → AW p l e { frames := 4, cells := 0, slots := 0, locals := 97 } s m args below meth c D 9 q 4 (MQ below (Qg D 9 q (PI (psS bars wires ways (2 ^ wires - 1) (2 ^ wires - 1)) (mdC cy q len span wires chg rsp rwi val ends text h was rd eyes fw bars (psS bars wires ways (2 ^ wires - 1)))) (wA 9 q s.heap.size)) args s 0 0 (wA 9 q s.heap.size)) (mdC cy q len span wires chg rsp rwi val ends text h was rd eyes fw bars (psS bars wires ways s0)) [(0, .ref (q 0)), (1, .int (nI (2 ^ wires - 1))), (2, .int (nI s0))] 43 [] := by
  intro d
  induction d with
  | zero => intro s0 hd; exact absurd hd (Nat.not_lt_zero _)
  | succ d ih =>
    intro s0 hd iv0
    have hpw := pw8 hw
    refine aw_iload_n C dX9_orders_43 (i := 2) rfl rfl ?_
    refine aw_iload_n C dX9_orders_44 (i := 1) rfl rfl ?_
    refine aw_icmp_ge_n (tgt := 110) C dX9_orders_45 (by decide) (by omega) (by omega) (fun h45 => ?_) (fun h45 => ?_)
    · refine aw_aload_n C dX9_orders_110 (i := 0) rfl rfl ?_
      refine aw_get (k := 0) C dX9_orders_111 fl_X9_31 (by decide) rfl rfl ?_
      refine aw_iload_n C dX9_orders_114 (i := 1) rfl rfl ?_
      refine aw_iald (k := 8) C dX9_orders_115 (by decide) (rfl) (rfl) (by omega) (by decide) (rfl) ?_
      refine aw_iret C hr dX9_orders_116 ?_
      obtain rfl : s0 = 2 ^ wires - 1 := by omega
      exact PI.mk rfl rfl
    · refine aw_iconst C dX9_orders_48 ki_0 ?_
      refine aw_istore_n (lv' := [(0, _), (1, _), (2, _), (3, _)]) C dX9_orders_49 (i := 3) rfl (Nat.le_of_ble_eq_true rfl) rfl ?_
      refine cm_orders_i hI C hr hw (by omega) ?_ (wires + 1) 0 (by omega) (by omega)
      refine aw_iinc_n (lv' := [(0, _), (1, _), (2, _), (3, _)]) C dX9_orders_104 rfl ki_1 (Nat.le_of_ble_eq_true rfl) rfl ?_
      refine aw_goto (tgt := 43) C dX9_orders_107 (by decide) ?_
      refine aw_take 3 (lv' := [(0, _), (1, _), (2, _)]) rfl ?_
      exact ih (s0 + 1) (by omega) (by omega)
set_option maxRecDepth 20000 in
/-- orders -/
theorem cm_orders {l : Launch} {D : va_G} {cy : Nat → ClassId} {z : Nat → Nat} {q : Nat → Nat} (hI : wI 9 q) {len span wires chg rsp rwi val ends : Nat} {text : Nat → Nat} {h was rd eyes fw bars ways : Nat → Int32} (hs : 8 ≤ span) (hs2 : span ≤ 40) (hw : wires ≤ 8) : Ct l yX9_orders cX9_orders 4 (some .int) 4 97 D cy z 9 q [.ref (q 0)] (mdC cy q len span wires chg rsp rwi val ends text h was rd eyes fw bars ways) (PO cy q (opOrders span wires h ways, (len, span, wires, chg, text, h, was, eyes))) := by
  refine Ct.of (own := RX9) (by decide) rfl hI (Nat.le_of_ble_eq_true rfl) ?_
  intro p e s m args below meth c C hr
  refine aw_lv (lv' := [(0, .ref (q 0))]) (fun x hx => hx) ?_
  refine aw_aload_n C dX9_orders_0 (i := 0) rfl rfl ?_
  refine aw_V0v (k := 0) C dX9_orders_1 cv_X9_142 (by decide) rfl rfl rfl (cm_lays hI hs hs2 hw) ⟨Nat.le_of_ble_eq_true rfl, Nat.le_of_ble_eq_true rfl⟩ (Nat.le_of_ble_eq_true rfl) ?_
  refine aw_iconst C dX9_orders_4 ki_1 ?_
  refine aw_aload_n C dX9_orders_5 (i := 0) rfl rfl ?_
  refine aw_get (k := 0) C dX9_orders_6 fl_X9_38 (by decide) rfl rfl ?_
  refine aw_ishl C dX9_orders_9 ?_
  refine aw_iconst C dX9_orders_10 ki_1 ?_
  refine aw_isub C dX9_orders_11 ?_
  rw [all_eq hw]
  refine aw_istore_n (lv' := [(0, _), (1, _)]) C dX9_orders_12 (i := 1) rfl (Nat.le_of_ble_eq_true rfl) rfl ?_
  refine aw_iconst C dX9_orders_13 ki_0 ?_
  refine aw_istore_n (lv' := [(0, _), (1, _), (2, _)]) C dX9_orders_14 (i := 2) rfl (Nat.le_of_ble_eq_true rfl) rfl ?_
  have hpw := pw8 hw
  refine aw_fq (f' := (mdC cy q len span wires chg rsp rwi val ends text h was rd eyes fw (cpG (brs h span wires) bars wires) (w0 ways 0))) (by unfold w0; rw [cpG_0]) ?_
  refine cm_orders_0 hI C hr hw ?_ (2 ^ wires + 1) 0 (by omega) (by omega)
  refine aw_iconst C dX9_orders_41 ki_0 ?_
  refine aw_istore_n (lv' := [(0, _), (1, _), (2, _)]) C dX9_orders_42 (i := 2) rfl (Nat.le_of_ble_eq_true rfl) rfl ?_
  refine aw_post ?_ (cm_orders_o (bars := cpG (brs h span wires) bars wires) (ways := w0 ways (2 ^ wires)) hI C hr hw (2 ^ wires) 0 (by omega) (by omega))
  intro r g hp
  obtain ⟨rfl, rfl⟩ := hp
  exact PO.mk (by unfold opOrders; rw [psS_cg (b := cpG (brs h span wires) bars wires) (c := brs h span wires) (fun k hk => cpG_lt hk)])
